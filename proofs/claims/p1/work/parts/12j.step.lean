set_option maxHeartbeats 4000000 in
set_option maxRecDepth 100000 in
/-- J0_coder_7d493 -/
theorem c_J0_coder_7d493 (l : Launch) (D : va_G) (y : Nat → ClassId) (base : Nat) (S : zS)   : zMi l yJ0_coder_7d493 wsJ0_coder_7d493 ({ frames := 0, cells := 0, slots := 0, locals := 0 }) [.ref (y 90)] D y base S (fun (r : Int32) (S1 : zS) => r = 0 ∧ S1 = S) 0 0 := by
  refine zMet_of (cc := cJ0_coder_7d493) (maxL := 1) (ret := (some .byte)) (own := RJ0) (by decide +kernel) rfl rfl (Nat.le_of_ble_eq_true rfl) ?_
  intro p e s m args below meth c ls C hr hlocks hnm hw hl
  have hx := C.1
  have hb := C.2.1
  have hown := C.2.2.2.1
  have hts := C.2.2.2.2
  have hl : lv_has ls 1 [(0, .ref (y 90))] := hl
  refine zgetC C hw (by decide +kernel) dJ0_coder_7d493_0 ?_
  refine lv_if_eq (tgt := 13) hx hb dJ0_coder_7d493_3 (by decide) (fun c3 => absurd c3 (by decide)) (fun _ => ?_)
  refine lv_aload_n hx hb dJ0_coder_7d493_6 rfl (lv_at hl 0 rfl) ?_
  refine zgetSc C hw (by decide +kernel) dJ0_coder_7d493_7 ?_
  refine lv_goto (tgt := 14) hx hb dJ0_coder_7d493_10 (by decide) ?_
  exact zri C hw hr hlocks (by decide) ⟨rfl, rfl⟩ ⟨Nat.le_of_ble_eq_true rfl, Nat.le_of_ble_eq_true rfl⟩ dJ0_coder_7d493_14

set_option maxHeartbeats 4000000 in
set_option maxRecDepth 100000 in
/-- J0_isLatin1_aae02 -/
theorem c_J0_isLatin1_aae02 (l : Launch) (D : va_G) (y : Nat → ClassId) (base : Nat) (S : zS)   : zMi l yJ0_isLatin1_aae02 wsJ0_isLatin1_aae02 ({ frames := 0, cells := 0, slots := 0, locals := 0 }) [.ref (y 90)] D y base S (fun (r : Int32) (S1 : zS) => r = 1 ∧ S1 = S) 0 0 := by
  refine zMet_of (cc := cJ0_isLatin1_aae02) (maxL := 1) (ret := (some .boolean)) (own := RJ0) (by decide +kernel) rfl rfl (Nat.le_of_ble_eq_true rfl) ?_
  intro p e s m args below meth c ls C hr hlocks hnm hw hl
  have hx := C.1
  have hb := C.2.1
  have hown := C.2.2.2.1
  have hts := C.2.2.2.2
  have hl : lv_has ls 1 [(0, .ref (y 90))] := hl
  refine zgetC C hw (by decide +kernel) dJ0_isLatin1_aae02_0 ?_
  refine lv_if_eq (tgt := 17) hx hb dJ0_isLatin1_aae02_3 (by decide) (fun c3 => absurd c3 (by decide)) (fun _ => ?_)
  refine lv_aload_n hx hb dJ0_isLatin1_aae02_6 rfl (lv_at hl 0 rfl) ?_
  refine zgetSc C hw (by decide +kernel) dJ0_isLatin1_aae02_7 ?_
  refine lv_if_ne (tgt := 17) hx hb dJ0_isLatin1_aae02_10 (by decide) (fun c10 => absurd c10 (by decide)) (fun _ => ?_)
  refine lv_iconst (v := 1) hx hb dJ0_isLatin1_aae02_13 (by decide) ?_
  refine lv_goto (tgt := 18) hx hb dJ0_isLatin1_aae02_14 (by decide) ?_
  exact zri C hw hr hlocks (by decide) ⟨rfl, rfl⟩ ⟨Nat.le_of_ble_eq_true rfl, Nat.le_of_ble_eq_true rfl⟩ dJ0_isLatin1_aae02_18

set_option maxHeartbeats 4000000 in
set_option maxRecDepth 100000 in
/-- J0_length_8abf5 -/
theorem c_J0_length_8abf5 (l : Launch) (D : va_G) (y : Nat → ClassId) (base : Nat) (S : zS)   : zMi l yJ0_length_8abf5 wsJ0_length_8abf5 ({ frames := 1, cells := 0, slots := 0, locals := 20 }) [.ref (y 90)] D y base S (fun (r : Int32) (S1 : zS) => r = 5 ∧ S1 = S) 0 0 := by
  refine zMet_of (cc := cJ0_length_8abf5) (maxL := 1) (ret := (some .int)) (own := RJ0) (by decide +kernel) rfl rfl (Nat.le_of_ble_eq_true rfl) ?_
  intro p e s m args below meth c ls C hr hlocks hnm hw hl
  have hx := C.1
  have hb := C.2.1
  have hown := C.2.2.2.1
  have hts := C.2.2.2.2
  have hl : lv_has ls 1 [(0, .ref (y 90))] := hl
  refine lv_aload_n hx hb dJ0_length_8abf5_0 rfl (lv_at hl 0 rfl) ?_
  refine zgetSv C hw (by decide +kernel) dJ0_length_8abf5_1 ?_
  refine zSlen C hw dJ0_length_8abf5_4 ?_
  refine lv_aload_n hx hb dJ0_length_8abf5_5 rfl (lv_at hl 0 rfl) ?_
  refine zcVS_i (As := []) (rest := [.int 5]) (n9 := 0) C hw (c_J0_coder_7d493 l D y base S  ) gJ0_length_8abf5_J0_coder_7d493 rfl (by decide +kernel) ⟨⟨rfl, rfl⟩, Nat.le_of_ble_eq_true rfl, Nat.le_of_ble_eq_true rfl⟩ rfl hl.1 rfl (Nat.le_of_ble_eq_true rfl) ⟨Nat.le_of_ble_eq_true rfl, Nat.le_of_ble_eq_true rfl⟩ dJ0_length_8abf5_6 (fun r6 S6 H locs hp6 hw => ?_)
  obtain ⟨rfl, hS9⟩ := hp6
  have hS9 := hS9.symm
  subst hS9
  refine lv_ishr hx hb dJ0_length_8abf5_9 ?_
  refine zrd (x := 5) (by decide) ?_
  exact zri C hw hr hlocks rfl ⟨rfl, rfl⟩ ⟨Nat.le_of_ble_eq_true rfl, Nat.le_of_ble_eq_true rfl⟩ dJ0_length_8abf5_10

set_option maxHeartbeats 4000000 in
set_option maxRecDepth 100000 in
/-- J1_canEncode_9a6ad -/
theorem c_J1_canEncode_9a6ad (l : Launch) (D : va_G) (y : Nat → ClassId) (base : Nat) (S : zS) (p0 : Int32)  : zMi l yJ1_canEncode_9a6ad wsJ1_canEncode_9a6ad ({ frames := 0, cells := 0, slots := 0, locals := 0 }) [.int p0] D y base S (fun (r : Int32) (S1 : zS) => r = zb (0 ≤ p0 ∧ p0 ≤ 255) ∧ S1 = S) 0 0 := by
  refine zMet_of (cc := cJ1_canEncode_9a6ad) (maxL := 1) (ret := (some .boolean)) (own := RJ1) (by decide +kernel) rfl rfl (Nat.le_of_ble_eq_true rfl) ?_
  intro p e s m args below meth c ls C hr hlocks hnm hw hl
  have hx := C.1
  have hb := C.2.1
  have hown := C.2.2.2.1
  have hts := C.2.2.2.2
  have hl : lv_has ls 1 [(0, .int p0)] := hl
  refine lv_iload_n hx hb dJ1_canEncode_9a6ad_0 rfl (lv_at hl 0 rfl) ?_
  refine lv_if_lt (tgt := 15) hx hb dJ1_canEncode_9a6ad_1 (by decide) (fun c1 => ?_) (fun c1 => ?_)
  · refine lv_iconst (v := 0) hx hb dJ1_canEncode_9a6ad_15 (by decide) ?_
    exact zri C hw hr hlocks (by decide) ⟨zb_f (by grind), rfl⟩ ⟨Nat.le_of_ble_eq_true rfl, Nat.le_of_ble_eq_true rfl⟩ dJ1_canEncode_9a6ad_16
  · refine lv_iload_n hx hb dJ1_canEncode_9a6ad_4 rfl (lv_at hl 0 rfl) ?_
    refine lv_sipush (v := 255) hx hb dJ1_canEncode_9a6ad_5 (by decide) ?_
    refine lv_icmp_gt (tgt := 15) hx hb dJ1_canEncode_9a6ad_8 (by decide) (fun c8 => ?_) (fun c8 => ?_)
    · refine lv_iconst (v := 0) hx hb dJ1_canEncode_9a6ad_15 (by decide) ?_
      exact zri C hw hr hlocks (by decide) ⟨zb_f (by grind), rfl⟩ ⟨Nat.le_of_ble_eq_true rfl, Nat.le_of_ble_eq_true rfl⟩ dJ1_canEncode_9a6ad_16
    · refine lv_iconst (v := 1) hx hb dJ1_canEncode_9a6ad_11 (by decide) ?_
      refine lv_goto (tgt := 16) hx hb dJ1_canEncode_9a6ad_12 (by decide) ?_
      exact zri C hw hr hlocks (by decide) ⟨zb_t (by grind), rfl⟩ ⟨Nat.le_of_ble_eq_true rfl, Nat.le_of_ble_eq_true rfl⟩ dJ1_canEncode_9a6ad_16

set_option maxHeartbeats 4000000 in
set_option maxRecDepth 100000 in
/-- J1_indexOfChar_4cfef -/
theorem c_J1_indexOfChar_4cfef (l : Launch) (D : va_G) (y : Nat → ClassId) (base : Nat) (S : zS) (p0 : Int32) (hp : 0 ≤ p0 ∧ p0 ≤ 255) : zMi l yJ1_indexOfChar_4cfef wsJ1_indexOfChar_4cfef ({ frames := 0, cells := 0, slots := 0, locals := 0 }) [.ref (y 91), .int p0, .int 0, .int 5] D y base S (fun (r : Int32) (S1 : zS) => (0 ≤ r ↔ (p0 = 114 ∨ p0 = 102 ∨ p0 = 104 ∨ p0 = 108 ∨ p0 = 116)) ∧ S1 = S) 0 0 := by
  refine zMet_of (cc := cJ1_indexOfChar_4cfef) (maxL := 6) (ret := (some .int)) (own := RJ1) (by decide +kernel) rfl rfl (Nat.le_of_ble_eq_true rfl) ?_
  intro p e s m args below meth c ls C hr hlocks hnm hw hl
  have hx := C.1
  have hb := C.2.1
  have hown := C.2.2.2.1
  have hts := C.2.2.2.2
  have hl : lv_has ls 6 [(0, .ref (y 91)), (1, .int p0), (2, .int 0), (3, .int 5)] := hl
  refine lv_iload_n hx hb dJ1_indexOfChar_4cfef_0 rfl (lv_at hl 1 rfl) ?_
  refine lv_i2b (v := p0.toInt8.toInt32) hx hb dJ1_indexOfChar_4cfef_1 rfl ?_
  refine zrd (x := (zi8 p0)) rfl ?_
  refine lv_istore (lv' := [(4, .int (zi8 p0)), (0, .ref (y 91)), (1, .int p0), (2, .int 0), (3, .int 5)]) hx hb dJ1_indexOfChar_4cfef_2 hl (by decide) rfl (fun ls hl => ?_)
  refine lv_iload_n hx hb dJ1_indexOfChar_4cfef_4 rfl (lv_at hl 3 rfl) ?_
  refine lv_istore (lv' := [(5, .int 0), (4, .int (zi8 p0)), (0, .ref (y 91)), (1, .int p0), (2, .int 0), (3, .int 5)]) hx hb dJ1_indexOfChar_4cfef_5 hl (by decide) rfl (fun ls hl => ?_)
  refine lv_iload hx hb dJ1_indexOfChar_4cfef_7 (lv_at hl 0 rfl) ?_
  refine lv_iload_n hx hb dJ1_indexOfChar_4cfef_9 rfl (lv_at hl 5 rfl) ?_
  refine lv_icmp_ge (tgt := 31) hx hb dJ1_indexOfChar_4cfef_10 (by decide) (fun c10 => absurd c10 (by decide)) (fun _ => ?_)
  refine lv_aload_n hx hb dJ1_indexOfChar_4cfef_13 rfl (lv_at hl 2 rfl) ?_
  refine lv_iload hx hb dJ1_indexOfChar_4cfef_14 (lv_at hl 0 rfl) ?_
  refine zSald (v := 114) C hw (zin_of (N := 5) (by decide) (by decide) (by decide)) rfl dJ1_indexOfChar_4cfef_16 ?_
  refine lv_iload hx hb dJ1_indexOfChar_4cfef_17 (lv_at hl 1 rfl) ?_
  refine lv_icmp_ne (tgt := 25) hx hb dJ1_indexOfChar_4cfef_19 (by decide) (fun c19 => ?_) (fun c19 => ?_)
  · refine lv_iinc (v := 1) (lv' := [(5, .int 1), (4, .int (zi8 p0)), (0, .ref (y 91)), (1, .int p0), (2, .int 0), (3, .int 5)]) hx hb dJ1_indexOfChar_4cfef_25 hl (k := 0) rfl (by decide) (by decide) rfl (fun ls hl => ?_)
    refine lv_goto (tgt := 7) hx hb dJ1_indexOfChar_4cfef_28 (by decide) ?_
    refine lv_iload hx hb dJ1_indexOfChar_4cfef_7 (lv_at hl 0 rfl) ?_
    refine lv_iload_n hx hb dJ1_indexOfChar_4cfef_9 rfl (lv_at hl 5 rfl) ?_
    refine lv_icmp_ge (tgt := 31) hx hb dJ1_indexOfChar_4cfef_10 (by decide) (fun c10 => absurd c10 (by decide)) (fun _ => ?_)
    refine lv_aload_n hx hb dJ1_indexOfChar_4cfef_13 rfl (lv_at hl 2 rfl) ?_
    refine lv_iload hx hb dJ1_indexOfChar_4cfef_14 (lv_at hl 0 rfl) ?_
    refine zSald (v := 102) C hw (zin_of (N := 5) (by decide) (by decide) (by decide)) rfl dJ1_indexOfChar_4cfef_16 ?_
    refine lv_iload hx hb dJ1_indexOfChar_4cfef_17 (lv_at hl 1 rfl) ?_
    refine lv_icmp_ne (tgt := 25) hx hb dJ1_indexOfChar_4cfef_19 (by decide) (fun c19 => ?_) (fun c19 => ?_)
    · refine lv_iinc (v := 2) (lv' := [(5, .int 2), (4, .int (zi8 p0)), (0, .ref (y 91)), (1, .int p0), (2, .int 0), (3, .int 5)]) hx hb dJ1_indexOfChar_4cfef_25 hl (k := 0) rfl (by decide) (by decide) rfl (fun ls hl => ?_)
      refine lv_goto (tgt := 7) hx hb dJ1_indexOfChar_4cfef_28 (by decide) ?_
      refine lv_iload hx hb dJ1_indexOfChar_4cfef_7 (lv_at hl 0 rfl) ?_
      refine lv_iload_n hx hb dJ1_indexOfChar_4cfef_9 rfl (lv_at hl 5 rfl) ?_
      refine lv_icmp_ge (tgt := 31) hx hb dJ1_indexOfChar_4cfef_10 (by decide) (fun c10 => absurd c10 (by decide)) (fun _ => ?_)
      refine lv_aload_n hx hb dJ1_indexOfChar_4cfef_13 rfl (lv_at hl 2 rfl) ?_
      refine lv_iload hx hb dJ1_indexOfChar_4cfef_14 (lv_at hl 0 rfl) ?_
      refine zSald (v := 104) C hw (zin_of (N := 5) (by decide) (by decide) (by decide)) rfl dJ1_indexOfChar_4cfef_16 ?_
      refine lv_iload hx hb dJ1_indexOfChar_4cfef_17 (lv_at hl 1 rfl) ?_
      refine lv_icmp_ne (tgt := 25) hx hb dJ1_indexOfChar_4cfef_19 (by decide) (fun c19 => ?_) (fun c19 => ?_)
      · refine lv_iinc (v := 3) (lv' := [(5, .int 3), (4, .int (zi8 p0)), (0, .ref (y 91)), (1, .int p0), (2, .int 0), (3, .int 5)]) hx hb dJ1_indexOfChar_4cfef_25 hl (k := 0) rfl (by decide) (by decide) rfl (fun ls hl => ?_)
        refine lv_goto (tgt := 7) hx hb dJ1_indexOfChar_4cfef_28 (by decide) ?_
        refine lv_iload hx hb dJ1_indexOfChar_4cfef_7 (lv_at hl 0 rfl) ?_
        refine lv_iload_n hx hb dJ1_indexOfChar_4cfef_9 rfl (lv_at hl 5 rfl) ?_
        refine lv_icmp_ge (tgt := 31) hx hb dJ1_indexOfChar_4cfef_10 (by decide) (fun c10 => absurd c10 (by decide)) (fun _ => ?_)
        refine lv_aload_n hx hb dJ1_indexOfChar_4cfef_13 rfl (lv_at hl 2 rfl) ?_
        refine lv_iload hx hb dJ1_indexOfChar_4cfef_14 (lv_at hl 0 rfl) ?_
        refine zSald (v := 108) C hw (zin_of (N := 5) (by decide) (by decide) (by decide)) rfl dJ1_indexOfChar_4cfef_16 ?_
        refine lv_iload hx hb dJ1_indexOfChar_4cfef_17 (lv_at hl 1 rfl) ?_
        refine lv_icmp_ne (tgt := 25) hx hb dJ1_indexOfChar_4cfef_19 (by decide) (fun c19 => ?_) (fun c19 => ?_)
        · refine lv_iinc (v := 4) (lv' := [(5, .int 4), (4, .int (zi8 p0)), (0, .ref (y 91)), (1, .int p0), (2, .int 0), (3, .int 5)]) hx hb dJ1_indexOfChar_4cfef_25 hl (k := 0) rfl (by decide) (by decide) rfl (fun ls hl => ?_)
          refine lv_goto (tgt := 7) hx hb dJ1_indexOfChar_4cfef_28 (by decide) ?_
          refine lv_iload hx hb dJ1_indexOfChar_4cfef_7 (lv_at hl 0 rfl) ?_
          refine lv_iload_n hx hb dJ1_indexOfChar_4cfef_9 rfl (lv_at hl 5 rfl) ?_
          refine lv_icmp_ge (tgt := 31) hx hb dJ1_indexOfChar_4cfef_10 (by decide) (fun c10 => absurd c10 (by decide)) (fun _ => ?_)
          refine lv_aload_n hx hb dJ1_indexOfChar_4cfef_13 rfl (lv_at hl 2 rfl) ?_
          refine lv_iload hx hb dJ1_indexOfChar_4cfef_14 (lv_at hl 0 rfl) ?_
          refine zSald (v := 116) C hw (zin_of (N := 5) (by decide) (by decide) (by decide)) rfl dJ1_indexOfChar_4cfef_16 ?_
          refine lv_iload hx hb dJ1_indexOfChar_4cfef_17 (lv_at hl 1 rfl) ?_
          refine lv_icmp_ne (tgt := 25) hx hb dJ1_indexOfChar_4cfef_19 (by decide) (fun c19 => ?_) (fun c19 => ?_)
          · refine lv_iinc (v := 5) (lv' := [(5, .int 5), (4, .int (zi8 p0)), (0, .ref (y 91)), (1, .int p0), (2, .int 0), (3, .int 5)]) hx hb dJ1_indexOfChar_4cfef_25 hl (k := 0) rfl (by decide) (by decide) rfl (fun ls hl => ?_)
            refine lv_goto (tgt := 7) hx hb dJ1_indexOfChar_4cfef_28 (by decide) ?_
            refine lv_iload hx hb dJ1_indexOfChar_4cfef_7 (lv_at hl 0 rfl) ?_
            refine lv_iload_n hx hb dJ1_indexOfChar_4cfef_9 rfl (lv_at hl 5 rfl) ?_
            refine lv_icmp_ge (tgt := 31) hx hb dJ1_indexOfChar_4cfef_10 (by decide) (fun _ => ?_) (fun c10 => absurd c10 (by decide))
            refine lv_iconst (v := (-1)) hx hb dJ1_indexOfChar_4cfef_31 (by decide) ?_
            exact zri C hw hr hlocks rfl ⟨by have h1 := zi8_i hp; exact ⟨fun q => absurd q (by decide), fun _ => by grind⟩, rfl⟩ ⟨Nat.le_of_ble_eq_true rfl, Nat.le_of_ble_eq_true rfl⟩ dJ1_indexOfChar_4cfef_32
          · refine lv_iload hx hb dJ1_indexOfChar_4cfef_22 (lv_at hl 0 rfl) ?_
            exact zri C hw hr hlocks rfl ⟨by have h1 := zi8_i hp; exact ⟨fun _ => by grind, fun _ => by decide⟩, rfl⟩ ⟨Nat.le_of_ble_eq_true rfl, Nat.le_of_ble_eq_true rfl⟩ dJ1_indexOfChar_4cfef_24
        · refine lv_iload hx hb dJ1_indexOfChar_4cfef_22 (lv_at hl 0 rfl) ?_
          exact zri C hw hr hlocks rfl ⟨by have h1 := zi8_i hp; exact ⟨fun _ => by grind, fun _ => by decide⟩, rfl⟩ ⟨Nat.le_of_ble_eq_true rfl, Nat.le_of_ble_eq_true rfl⟩ dJ1_indexOfChar_4cfef_24
      · refine lv_iload hx hb dJ1_indexOfChar_4cfef_22 (lv_at hl 0 rfl) ?_
        exact zri C hw hr hlocks rfl ⟨by have h1 := zi8_i hp; exact ⟨fun _ => by grind, fun _ => by decide⟩, rfl⟩ ⟨Nat.le_of_ble_eq_true rfl, Nat.le_of_ble_eq_true rfl⟩ dJ1_indexOfChar_4cfef_24
    · refine lv_iload hx hb dJ1_indexOfChar_4cfef_22 (lv_at hl 0 rfl) ?_
      exact zri C hw hr hlocks rfl ⟨by have h1 := zi8_i hp; exact ⟨fun _ => by grind, fun _ => by decide⟩, rfl⟩ ⟨Nat.le_of_ble_eq_true rfl, Nat.le_of_ble_eq_true rfl⟩ dJ1_indexOfChar_4cfef_24
  · refine lv_iload hx hb dJ1_indexOfChar_4cfef_22 (lv_at hl 0 rfl) ?_
    exact zri C hw hr hlocks rfl ⟨by have h1 := zi8_i hp; exact ⟨fun _ => by grind, fun _ => by decide⟩, rfl⟩ ⟨Nat.le_of_ble_eq_true rfl, Nat.le_of_ble_eq_true rfl⟩ dJ1_indexOfChar_4cfef_24

set_option maxHeartbeats 4000000 in
set_option maxRecDepth 100000 in
/-- J1_indexOf_4cfef -/
theorem c_J1_indexOf_4cfef (l : Launch) (D : va_G) (y : Nat → ClassId) (base : Nat) (S : zS) (p0 : Int32)  : zMi l yJ1_indexOf_4cfef wsJ1_indexOf_4cfef ({ frames := 1, cells := 0, slots := 0, locals := 25 }) [.ref (y 91), .int p0, .int 0, .int 5] D y base S (fun (r : Int32) (S1 : zS) => (0 ≤ r ↔ (p0 = 114 ∨ p0 = 102 ∨ p0 = 104 ∨ p0 = 108 ∨ p0 = 116)) ∧ S1 = S) 0 0 := by
  refine zMet_of (cc := cJ1_indexOf_4cfef) (maxL := 4) (ret := (some .int)) (own := RJ1) (by decide +kernel) rfl rfl (Nat.le_of_ble_eq_true rfl) ?_
  intro p e s m args below meth c ls C hr hlocks hnm hw hl
  have hx := C.1
  have hb := C.2.1
  have hown := C.2.2.2.1
  have hts := C.2.2.2.2
  have hl : lv_has ls 4 [(0, .ref (y 91)), (1, .int p0), (2, .int 0), (3, .int 5)] := hl
  refine lv_iload_n hx hb dJ1_indexOf_4cfef_0 rfl (lv_at hl 1 rfl) ?_
  refine zcS_i (As := [.int p0]) (rest := []) (n9 := 1) C hw (c_J1_canEncode_9a6ad l D y base S p0 ) gJ1_indexOf_4cfef_J1_canEncode_9a6ad rfl (by decide +kernel) ⟨⟨rfl, rfl⟩, Nat.le_of_ble_eq_true rfl, Nat.le_of_ble_eq_true rfl⟩ rfl hl.1 rfl (Nat.le_of_ble_eq_true rfl) ⟨Nat.le_of_ble_eq_true rfl, Nat.le_of_ble_eq_true rfl⟩ dJ1_indexOf_4cfef_1 (fun r1 S1 H locs hp1 hw => ?_)
  obtain ⟨rfl, hS9⟩ := hp1
  have hS9 := hS9.symm
  subst hS9
  refine lv_if_ne (tgt := 9) hx hb dJ1_indexOf_4cfef_4 (by decide) (fun c4 => ?_) (fun c4 => ?_)
  · replace c4 := zb1.mp c4
    refine lv_iload_n hx hb dJ1_indexOf_4cfef_9 rfl (lv_at hl 2 rfl) ?_
    refine lv_iconst (v := 0) hx hb dJ1_indexOf_4cfef_10 (by decide) ?_
    refine va_mmax hx hb (C.2.2.1.trans hl.1.symm) hown (hts (.methodLink RJ1 92 Lib.Math.max.name) (by decide +kernel)) (hts (.static Lib.Math.max.name) (by decide +kernel)) (hts (.initialized "java/lang/Math") (by decide +kernel)) (hts (.code Lib.Math.max.name Lib.Math.max.code 2 (some .int)) (by decide +kernel)) (Nat.le_of_ble_eq_true rfl) (Nat.le_of_ble_eq_true rfl) (Nat.le_of_ble_eq_true rfl) (Nat.le_of_ble_eq_true rfl) dJ1_indexOf_4cfef_11 ?_
    refine zrd (x := 0) (by decide) ?_
    refine lv_istore_n (lv' := [(2, .int 0), (0, .ref (y 91)), (1, .int p0), (3, .int 5)]) hx hb dJ1_indexOf_4cfef_14 rfl hl (by decide) rfl (fun ls hl => ?_)
    refine lv_iload_n hx hb dJ1_indexOf_4cfef_15 rfl (lv_at hl 3 rfl) ?_
    refine lv_aload_n hx hb dJ1_indexOf_4cfef_16 rfl (lv_at hl 1 rfl) ?_
    refine zSlen C hw dJ1_indexOf_4cfef_17 ?_
    refine va_mmin hx hb (C.2.2.1.trans hl.1.symm) hown (hts (.methodLink RJ1 38 Lib.Math.min.name) (by decide +kernel)) (hts (.static Lib.Math.min.name) (by decide +kernel)) (hts (.initialized "java/lang/Math") (by decide +kernel)) (hts (.code Lib.Math.min.name Lib.Math.min.code 2 (some .int)) (by decide +kernel)) (Nat.le_of_ble_eq_true rfl) (Nat.le_of_ble_eq_true rfl) (Nat.le_of_ble_eq_true rfl) (Nat.le_of_ble_eq_true rfl) dJ1_indexOf_4cfef_18 ?_
    refine zrd (x := 5) (by decide) ?_
    refine lv_istore_n (lv' := [(3, .int 5), (2, .int 0), (0, .ref (y 91)), (1, .int p0)]) hx hb dJ1_indexOf_4cfef_21 rfl hl (by decide) rfl (fun ls hl => ?_)
    refine lv_iload_n hx hb dJ1_indexOf_4cfef_22 rfl (lv_at hl 1 rfl) ?_
    refine lv_iload_n hx hb dJ1_indexOf_4cfef_23 rfl (lv_at hl 0 rfl) ?_
    refine lv_icmp_lt (tgt := 29) hx hb dJ1_indexOf_4cfef_24 (by decide) (fun _ => ?_) (fun c24 => absurd c24 (by decide))
    refine lv_aload_n hx hb dJ1_indexOf_4cfef_29 rfl (lv_at hl 2 rfl) ?_
    refine lv_iload_n hx hb dJ1_indexOf_4cfef_30 rfl (lv_at hl 3 rfl) ?_
    refine lv_iload_n hx hb dJ1_indexOf_4cfef_31 rfl (lv_at hl 1 rfl) ?_
    refine lv_iload_n hx hb dJ1_indexOf_4cfef_32 rfl (lv_at hl 0 rfl) ?_
    refine zcS_i (As := [.ref (y 91), .int p0, .int 0, .int 5]) (rest := []) (n9 := 4) C hw (c_J1_indexOfChar_4cfef l D y base S p0 (by first | assumption | decide | grind)) gJ1_indexOf_4cfef_J1_indexOfChar_4cfef rfl (by decide +kernel) ⟨⟨rfl, rfl⟩, Nat.le_of_ble_eq_true rfl, Nat.le_of_ble_eq_true rfl⟩ rfl hl.1 rfl (Nat.le_of_ble_eq_true rfl) ⟨Nat.le_of_ble_eq_true rfl, Nat.le_of_ble_eq_true rfl⟩ dJ1_indexOf_4cfef_33 (fun r33 S33 H locs hp33 hw => ?_)
    obtain ⟨hp33, hS9⟩ := hp33
    have hS9 := hS9.symm
    subst hS9
    exact zri C hw hr hlocks rfl ⟨hp33, rfl⟩ ⟨Nat.le_of_ble_eq_true rfl, Nat.le_of_ble_eq_true rfl⟩ dJ1_indexOf_4cfef_36
  · replace c4 := zb0.mp c4
    refine lv_iconst (v := (-1)) hx hb dJ1_indexOf_4cfef_7 (by decide) ?_
    exact zri C hw hr hlocks rfl ⟨⟨fun q => absurd q (by decide), fun _ => by grind⟩, rfl⟩ ⟨Nat.le_of_ble_eq_true rfl, Nat.le_of_ble_eq_true rfl⟩ dJ1_indexOf_4cfef_8

set_option maxHeartbeats 4000000 in
set_option maxRecDepth 100000 in
/-- J0_indexOf_7cf53 -/
theorem c_J0_indexOf_7cf53 (l : Launch) (D : va_G) (y : Nat → ClassId) (base : Nat) (S : zS) (p0 : Int32)  : zMi l yJ0_indexOf_7cf53 wsJ0_indexOf_7cf53 ({ frames := 2, cells := 0, slots := 0, locals := 48 }) [.ref (y 90), .int p0, .int 0] D y base S (fun (r : Int32) (S1 : zS) => (0 ≤ r ↔ (p0 = 114 ∨ p0 = 102 ∨ p0 = 104 ∨ p0 = 108 ∨ p0 = 116)) ∧ S1 = S) 0 0 := by
  refine zMet_of (cc := cJ0_indexOf_7cf53) (maxL := 3) (ret := (some .int)) (own := RJ0) (by decide +kernel) rfl rfl (Nat.le_of_ble_eq_true rfl) ?_
  intro p e s m args below meth c ls C hr hlocks hnm hw hl
  have hx := C.1
  have hb := C.2.1
  have hown := C.2.2.2.1
  have hts := C.2.2.2.2
  have hl : lv_has ls 3 [(0, .ref (y 90)), (1, .int p0), (2, .int 0)] := hl
  refine lv_aload_n hx hb dJ0_indexOf_7cf53_0 rfl (lv_at hl 0 rfl) ?_
  refine zcVS_i (As := []) (rest := []) (n9 := 0) C hw (c_J0_isLatin1_aae02 l D y base S  ) gJ0_indexOf_7cf53_J0_isLatin1_aae02 rfl (by decide +kernel) ⟨⟨rfl, rfl⟩, Nat.le_of_ble_eq_true rfl, Nat.le_of_ble_eq_true rfl⟩ rfl hl.1 rfl (Nat.le_of_ble_eq_true rfl) ⟨Nat.le_of_ble_eq_true rfl, Nat.le_of_ble_eq_true rfl⟩ dJ0_indexOf_7cf53_1 (fun r1 S1 H locs hp1 hw => ?_)
  obtain ⟨rfl, hS9⟩ := hp1
  have hS9 := hS9.symm
  subst hS9
  refine lv_if_eq (tgt := 23) hx hb dJ0_indexOf_7cf53_4 (by decide) (fun c4 => absurd c4 (by decide)) (fun _ => ?_)
  refine lv_aload_n hx hb dJ0_indexOf_7cf53_7 rfl (lv_at hl 0 rfl) ?_
  refine zgetSv C hw (by decide +kernel) dJ0_indexOf_7cf53_8 ?_
  refine lv_iload_n hx hb dJ0_indexOf_7cf53_11 rfl (lv_at hl 1 rfl) ?_
  refine lv_iload_n hx hb dJ0_indexOf_7cf53_12 rfl (lv_at hl 2 rfl) ?_
  refine lv_aload_n hx hb dJ0_indexOf_7cf53_13 rfl (lv_at hl 0 rfl) ?_
  refine zcVS_i (As := []) (rest := [.int 0, .int p0, .ref (y 91)]) (n9 := 0) C hw (c_J0_length_8abf5 l D y base S  ) gJ0_indexOf_7cf53_J0_length_8abf5 rfl (by decide +kernel) ⟨⟨rfl, rfl⟩, Nat.le_of_ble_eq_true rfl, Nat.le_of_ble_eq_true rfl⟩ rfl hl.1 rfl (Nat.le_of_ble_eq_true rfl) ⟨Nat.le_of_ble_eq_true rfl, Nat.le_of_ble_eq_true rfl⟩ dJ0_indexOf_7cf53_14 (fun r14 S14 H locs hp14 hw => ?_)
  obtain ⟨rfl, hS9⟩ := hp14
  have hS9 := hS9.symm
  subst hS9
  refine zcS_i (As := [.ref (y 91), .int p0, .int 0, .int 5]) (rest := []) (n9 := 4) C hw (c_J1_indexOf_4cfef l D y base S p0 ) gJ0_indexOf_7cf53_J1_indexOf_4cfef rfl (by decide +kernel) ⟨⟨rfl, rfl⟩, Nat.le_of_ble_eq_true rfl, Nat.le_of_ble_eq_true rfl⟩ rfl hl.1 rfl (Nat.le_of_ble_eq_true rfl) ⟨Nat.le_of_ble_eq_true rfl, Nat.le_of_ble_eq_true rfl⟩ dJ0_indexOf_7cf53_17 (fun r17 S17 H locs hp17 hw => ?_)
  obtain ⟨hp17, hS9⟩ := hp17
  have hS9 := hS9.symm
  subst hS9
  refine lv_goto (tgt := 36) hx hb dJ0_indexOf_7cf53_20 (by decide) ?_
  exact zri C hw hr hlocks rfl ⟨hp17, rfl⟩ ⟨Nat.le_of_ble_eq_true rfl, Nat.le_of_ble_eq_true rfl⟩ dJ0_indexOf_7cf53_36

set_option maxHeartbeats 4000000 in
set_option maxRecDepth 100000 in
/-- J0_indexOf_0f7a4 -/
theorem c_J0_indexOf_0f7a4 (l : Launch) (D : va_G) (y : Nat → ClassId) (base : Nat) (S : zS) (p0 : Int32)  : zMi l yJ0_indexOf_0f7a4 wsJ0_indexOf_0f7a4 ({ frames := 3, cells := 0, slots := 0, locals := 70 }) [.ref (y 90), .int p0] D y base S (fun (r : Int32) (S1 : zS) => (0 ≤ r ↔ (p0 = 114 ∨ p0 = 102 ∨ p0 = 104 ∨ p0 = 108 ∨ p0 = 116)) ∧ S1 = S) 0 0 := by
  refine zMet_of (cc := cJ0_indexOf_0f7a4) (maxL := 2) (ret := (some .int)) (own := RJ0) (by decide +kernel) rfl rfl (Nat.le_of_ble_eq_true rfl) ?_
  intro p e s m args below meth c ls C hr hlocks hnm hw hl
  have hx := C.1
  have hb := C.2.1
  have hown := C.2.2.2.1
  have hts := C.2.2.2.2
  have hl : lv_has ls 2 [(0, .ref (y 90)), (1, .int p0)] := hl
  refine lv_aload_n hx hb dJ0_indexOf_0f7a4_0 rfl (lv_at hl 0 rfl) ?_
  refine lv_iload_n hx hb dJ0_indexOf_0f7a4_1 rfl (lv_at hl 1 rfl) ?_
  refine lv_iconst (v := 0) hx hb dJ0_indexOf_0f7a4_2 (by decide) ?_
  refine zcVS_i (As := [.int p0, .int 0]) (rest := []) (n9 := 2) C hw (c_J0_indexOf_7cf53 l D y base S p0 ) gJ0_indexOf_0f7a4_J0_indexOf_7cf53 rfl (by decide +kernel) ⟨⟨rfl, rfl⟩, Nat.le_of_ble_eq_true rfl, Nat.le_of_ble_eq_true rfl⟩ rfl hl.1 rfl (Nat.le_of_ble_eq_true rfl) ⟨Nat.le_of_ble_eq_true rfl, Nat.le_of_ble_eq_true rfl⟩ dJ0_indexOf_0f7a4_3 (fun r3 S3 H locs hp3 hw => ?_)
  obtain ⟨hp3, hS9⟩ := hp3
  have hS9 := hS9.symm
  subst hS9
  exact zri C hw hr hlocks rfl ⟨hp3, rfl⟩ ⟨Nat.le_of_ble_eq_true rfl, Nat.le_of_ble_eq_true rfl⟩ dJ0_indexOf_0f7a4_6

set_option maxHeartbeats 4000000 in
set_option maxRecDepth 100000 in
/-- X11_highShare -/
theorem c_X11_highShare (l : Launch) (D : va_G) (y : Nat → ClassId) (base : Nat) (S : zS) (b : Nat → Nat) (p0 : Int32) (p1 : Int32) (hM : zMd S b) : zMfl l yX11_highShare wsX11_highShare ({ frames := 4, cells := 0, slots := 0, locals := 89 }) [.ref (b 0), .int p0, .int p1] D y base S (fun (r : UInt32) (S1 : zS) => zK S1 (b 0) = 15 ∧ zI S1 240 (b 0) = kd_run p0 p1) 0 0 := by
  refine zMet_of (cc := cX11_highShare) (maxL := 5) (ret := (some .float)) (own := RX11) (by decide +kernel) rfl rfl (Nat.le_of_ble_eq_true rfl) ?_
  intro p e s m args below meth c ls C hr hlocks hnm hw hl
  have hx := C.1
  have hb := C.2.1
  have hown := C.2.2.2.1
  have hts := C.2.2.2.2
  have hl : lv_has ls 5 [(0, .ref (b 0)), (1, .int p0), (2, .int p1)] := hl
  refine lv_aload_n hx hb dX11_highShare_0 rfl (lv_at hl 0 rfl) ?_
  refine lv_iload_n hx hb dX11_highShare_1 rfl (lv_at hl 1 rfl) ?_
  refine lv_iload_n hx hb dX11_highShare_2 rfl (lv_at hl 2 rfl) ?_
  refine zcV_i (As := [.int p0, .int p1]) (rest := []) (n9 := 2) (b := (b 0)) C hw (c_X11_noSamples l D y base S b p0 p1 hM) gX11_highShare_X11_noSamples rfl (by decide +kernel) ⟨⟨rfl, rfl⟩, Nat.le_of_ble_eq_true rfl, Nat.le_of_ble_eq_true rfl⟩ hM.1 ⟨by decide, by decide⟩ rfl rfl hl.1 rfl (Nat.le_of_ble_eq_true rfl) ⟨Nat.le_of_ble_eq_true rfl, Nat.le_of_ble_eq_true rfl⟩ dX11_highShare_3 (fun r3 S3 H locs hp3 hw => ?_)
  obtain ⟨n9a, n9b, rfl⟩ := hp3
  refine lv_if_eq (tgt := 11) hx hb dX11_highShare_6 (by decide) (fun c6 => absurd c6 (by decide)) (fun _ => ?_)
  refine lv_fconst0 hx hb dX11_highShare_9 ?_
  exact zrfl C hw hr hlocks ⟨n9a, n9b⟩ ⟨Nat.le_of_ble_eq_true rfl, Nat.le_of_ble_eq_true rfl⟩ dX11_highShare_10

set_option maxHeartbeats 4000000 in
set_option maxRecDepth 100000 in
/-- X11_meanRun -/
theorem c_X11_meanRun (l : Launch) (D : va_G) (y : Nat → ClassId) (base : Nat) (S : zS) (b : Nat → Nat) (p0 : Int32) (p1 : Int32) (hM : zMd S b) : zMdb l yX11_meanRun wsX11_meanRun ({ frames := 4, cells := 0, slots := 0, locals := 89 }) [.ref (b 0), .int p0, .int p1] D y base S (fun (r : UInt64) (S1 : zS) => zK S1 (b 0) = 15 ∧ zI S1 240 (b 0) = kd_run p0 p1) 0 0 := by
  refine zMet_of (cc := cX11_meanRun) (maxL := 3) (ret := (some .double)) (own := RX11) (by decide +kernel) rfl rfl (Nat.le_of_ble_eq_true rfl) ?_
  intro p e s m args below meth c ls C hr hlocks hnm hw hl
  have hx := C.1
  have hb := C.2.1
  have hown := C.2.2.2.1
  have hts := C.2.2.2.2
  have hl : lv_has ls 3 [(0, .ref (b 0)), (1, .int p0), (2, .int p1)] := hl
  refine lv_aload_n hx hb dX11_meanRun_0 rfl (lv_at hl 0 rfl) ?_
  refine lv_iload_n hx hb dX11_meanRun_1 rfl (lv_at hl 1 rfl) ?_
  refine lv_iload_n hx hb dX11_meanRun_2 rfl (lv_at hl 2 rfl) ?_
  refine zcV_i (As := [.int p0, .int p1]) (rest := []) (n9 := 2) (b := (b 0)) C hw (c_X11_noSamples l D y base S b p0 p1 hM) gX11_meanRun_X11_noSamples rfl (by decide +kernel) ⟨⟨rfl, rfl⟩, Nat.le_of_ble_eq_true rfl, Nat.le_of_ble_eq_true rfl⟩ hM.1 ⟨by decide, by decide⟩ rfl rfl hl.1 rfl (Nat.le_of_ble_eq_true rfl) ⟨Nat.le_of_ble_eq_true rfl, Nat.le_of_ble_eq_true rfl⟩ dX11_meanRun_3 (fun r3 S3 H locs hp3 hw => ?_)
  obtain ⟨n9a, n9b, rfl⟩ := hp3
  refine lv_if_eq (tgt := 13) hx hb dX11_meanRun_6 (by decide) (fun c6 => absurd c6 (by decide)) (fun _ => ?_)
  refine lv_dconst0 hx hb dX11_meanRun_9 ?_
  refine lv_goto (tgt := 32) hx hb dX11_meanRun_10 (by decide) ?_
  exact zrdb C hw hr hlocks ⟨n9a, n9b⟩ ⟨Nat.le_of_ble_eq_true rfl, Nat.le_of_ble_eq_true rfl⟩ dX11_meanRun_32

set_option maxHeartbeats 4000000 in
set_option maxRecDepth 100000 in
/-- Jx4a65c_grow_92f84 -/
theorem c_Jx4a65c_grow_92f84 (l : Launch) (D : va_G) (y : Nat → ClassId) (base : Nat) (S : zS) (x0 : Nat) (hk : zK S x0 = 3) (h50 : zI S 50 x0 = 0) (h49 : zQ S 49 x0 = some (y 92)) : zMr l yJx4a65c_grow_92f84 wsJx4a65c_grow_92f84 ({ frames := 1, cells := 1, slots := 10, locals := 21 }) [.ref x0, .int 1] D y base S (fun (r : Nat) (S1 : zS) => zK S r = 0 ∧ S1 = zsQ (znP S r 33 10 (fun _ => none)) 49 x0 (some r)) 1 10 := by
  refine zMet_of (cc := cJx4a65c_grow_92f84) (maxL := 4) (ret := (some (.array (.object "java/lang/Object")))) (own := RJx4a65c) (by decide +kernel) rfl rfl (Nat.le_of_ble_eq_true rfl) ?_
  intro p e s m args below meth c ls C hr hlocks hnm hw hl
  have hx := C.1
  have hb := C.2.1
  have hown := C.2.2.2.1
  have hts := C.2.2.2.2
  have hl : lv_has ls 4 [(0, .ref x0), (1, .int 1)] := hl
  have in_Jx4a65c : ∀ w ∈ wsJx4a65c0, w ∈ wsJx4a65c_grow_92f84 := by decide +kernel
  refine lv_aload_n hx hb dJx4a65c_grow_92f84_0 rfl (lv_at hl 0 rfl) ?_
  refine g_AList_elementData (a := x0) (v := (y 92)) C hw hk in_Jx4a65c (by decide +kernel) h49 dJx4a65c_grow_92f84_1 ?_
  refine zElen C hw dJx4a65c_grow_92f84_4 ?_
  refine lv_istore_n (lv' := [(2, .int 0), (0, .ref x0), (1, .int 1)]) hx hb dJx4a65c_grow_92f84_5 rfl hl (by decide) rfl (fun ls hl => ?_)
  refine lv_iload_n hx hb dJx4a65c_grow_92f84_6 rfl (lv_at hl 0 rfl) ?_
  refine lv_if_gt (tgt := 20) hx hb dJx4a65c_grow_92f84_7 (by decide) (fun c7 => absurd c7 (by decide)) (fun _ => ?_)
  refine lv_aload_n hx hb dJx4a65c_grow_92f84_10 rfl (lv_at hl 1 rfl) ?_
  refine g_AList_elementData (a := x0) (v := (y 92)) C hw hk in_Jx4a65c (by decide +kernel) h49 dJx4a65c_grow_92f84_11 ?_
  refine zgetE C hw (by decide +kernel) dJx4a65c_grow_92f84_14 ?_
  refine zacmp (tgt := 45) C dJx4a65c_grow_92f84_17 (by decide) ?_
  refine lv_aload_n hx hb dJx4a65c_grow_92f84_45 rfl (lv_at hl 1 rfl) ?_
  refine lv_bipush (v := 10) hx hb dJx4a65c_grow_92f84_46 (by decide) ?_
  refine lv_iload_n hx hb dJx4a65c_grow_92f84_48 rfl (lv_at hl 2 rfl) ?_
  refine va_mmax hx hb (C.2.2.1.trans hl.1.symm) hown (hts (.methodLink RJx4a65c 79 Lib.Math.max.name) (by decide +kernel)) (hts (.static Lib.Math.max.name) (by decide +kernel)) (hts (.initialized "java/lang/Math") (by decide +kernel)) (hts (.code Lib.Math.max.name Lib.Math.max.code 2 (some .int)) (by decide +kernel)) (Nat.le_of_ble_eq_true rfl) (Nat.le_of_ble_eq_true rfl) (Nat.le_of_ble_eq_true rfl) (Nat.le_of_ble_eq_true rfl) dJx4a65c_grow_92f84_49 ?_
  refine zrd (x := 10) (by decide) ?_
  refine znewP (k := 33) (t0 := 6) (Cn := "java/lang/Object") (N := 10) C hw (by decide) rfl (by decide +kernel) (by decide +kernel) (by decide) (by decide) (Nat.le_of_ble_eq_true rfl) (Nat.le_of_ble_eq_true rfl) (Nat.le_of_ble_eq_true rfl) dJx4a65c_grow_92f84_52 (fun q52 H kq52 hw => ?_)
  refine lv_dup_x1 hx hb dJx4a65c_grow_92f84_55 rfl rfl ?_
  refine p_AList_elementData (a := x0) (v := q52) C hw (zK_nP (k := 33) (n := 10) (f := fun _ => none) (zne kq52 (fun e9 => absurd (Eq.trans (Eq.symm hk) e9) (by decide))) hk) in_Jx4a65c (by decide +kernel) dJx4a65c_grow_92f84_56 (fun H locs hw => ?_)
  exact zrr C hw hr (Or.inr ⟨_, rfl⟩) hlocks ⟨kq52, rfl⟩ ⟨Nat.le_of_ble_eq_true rfl, Nat.le_of_ble_eq_true rfl⟩ dJx4a65c_grow_92f84_59

set_option maxHeartbeats 4000000 in
set_option maxRecDepth 100000 in
/-- Jx4a65c_grow_d5877 -/
theorem c_Jx4a65c_grow_d5877 (l : Launch) (D : va_G) (y : Nat → ClassId) (base : Nat) (S : zS) (x0 : Nat) (hk : zK S x0 = 3) (h50 : zI S 50 x0 = 0) (h49 : zQ S 49 x0 = some (y 92)) : zMr l yJx4a65c_grow_d5877 wsJx4a65c_grow_d5877 ({ frames := 2, cells := 1, slots := 10, locals := 44 }) [.ref x0] D y base S (fun (r : Nat) (S1 : zS) => zK S r = 0 ∧ S1 = zsQ (znP S r 33 10 (fun _ => none)) 49 x0 (some r)) 1 10 := by
  refine zMet_of (cc := cJx4a65c_grow_d5877) (maxL := 1) (ret := (some (.array (.object "java/lang/Object")))) (own := RJx4a65c) (by decide +kernel) rfl rfl (Nat.le_of_ble_eq_true rfl) ?_
  intro p e s m args below meth c ls C hr hlocks hnm hw hl
  have hx := C.1
  have hb := C.2.1
  have hown := C.2.2.2.1
  have hts := C.2.2.2.2
  have hl : lv_has ls 1 [(0, .ref x0)] := hl
  have in_Jx4a65c : ∀ w ∈ wsJx4a65c0, w ∈ wsJx4a65c_grow_d5877 := by decide +kernel
  refine lv_aload_n hx hb dJx4a65c_grow_d5877_0 rfl (lv_at hl 0 rfl) ?_
  refine lv_aload_n hx hb dJx4a65c_grow_d5877_1 rfl (lv_at hl 0 rfl) ?_
  refine g_AList_size (a := x0) (v := 0) C hw hk in_Jx4a65c (by decide +kernel) h50 dJx4a65c_grow_d5877_2 ?_
  refine lv_iconst (v := 1) hx hb dJx4a65c_grow_d5877_5 (by decide) ?_
  refine lv_iadd hx hb dJx4a65c_grow_d5877_6 ?_
  refine zrd (x := 1) (by decide) ?_
  refine zrd (x := 1) (by decide) ?_
  refine zcV_r (As := [.int 1]) (rest := []) (n9 := 1) (b := x0) C hw (c_Jx4a65c_grow_92f84 l D y base S x0 hk h50 h49) gJx4a65c_grow_d5877_Jx4a65c_grow_92f84 rfl (by decide +kernel) ⟨⟨rfl, rfl⟩, Nat.le_of_ble_eq_true rfl, Nat.le_of_ble_eq_true rfl⟩ hk ⟨by decide, by decide⟩ rfl rfl hl.1 rfl (Nat.le_of_ble_eq_true rfl) ⟨Nat.le_of_ble_eq_true rfl, Nat.le_of_ble_eq_true rfl⟩ dJx4a65c_grow_d5877_7 (fun r7 S7 H locs hp7 hw => ?_)
  obtain ⟨kr7, rfl⟩ := hp7
  exact zrr C hw hr (Or.inr ⟨_, rfl⟩) hlocks ⟨kr7, rfl⟩ ⟨Nat.le_of_ble_eq_true rfl, Nat.le_of_ble_eq_true rfl⟩ dJx4a65c_grow_d5877_10

set_option maxHeartbeats 4000000 in
set_option maxRecDepth 100000 in
/-- Jx4a65c_add_72be8 -/
theorem c_Jx4a65c_add_72be8 (l : Launch) (D : va_G) (y : Nat → ClassId) (base : Nat) (S : zS) (x0 : Nat) (v0 : Nat) (hk : zK S x0 = 3) (h50 : zI S 50 x0 = 0) (h49 : zQ S 49 x0 = some (y 92)) (hv : zK S v0 = 14) : zMv l yJx4a65c_add_72be8 wsJx4a65c_add_72be8 ({ frames := 3, cells := 1, slots := 10, locals := 64 }) [.ref x0, .ref v0, .ref (y 92), .int 0] D y base S (fun (S1 : zS) => zGv S S1 x0 ∧ zK S1 x0 = 3 ∧ zI S1 50 x0 = 1) 1 10 := by
  refine zMet_of (cc := cJx4a65c_add_72be8) (maxL := 4) (ret := none) (own := RJx4a65c) (by decide +kernel) rfl rfl (Nat.le_of_ble_eq_true rfl) ?_
  intro p e s m args below meth c ls C hr hlocks hnm hw hl
  have hx := C.1
  have hb := C.2.1
  have hown := C.2.2.2.1
  have hts := C.2.2.2.2
  have hl : lv_has ls 4 [(0, .ref x0), (1, .ref v0), (2, .ref (y 92)), (3, .int 0)] := hl
  have in_Jx4a65c : ∀ w ∈ wsJx4a65c0, w ∈ wsJx4a65c_add_72be8 := by decide +kernel
  refine lv_iload_n hx hb dJx4a65c_add_72be8_0 rfl (lv_at hl 3 rfl) ?_
  refine lv_aload_n hx hb dJx4a65c_add_72be8_1 rfl (lv_at hl 2 rfl) ?_
  refine zElen C hw dJx4a65c_add_72be8_2 ?_
  refine lv_icmp_ne (tgt := 11) hx hb dJx4a65c_add_72be8_3 (by decide) (fun c3 => absurd c3 (by decide)) (fun _ => ?_)
  refine lv_aload_n hx hb dJx4a65c_add_72be8_6 rfl (lv_at hl 0 rfl) ?_
  refine zcV_r (As := []) (rest := []) (n9 := 0) (b := x0) C hw (c_Jx4a65c_grow_d5877 l D y base S x0 hk h50 h49) gJx4a65c_add_72be8_Jx4a65c_grow_d5877 rfl (by decide +kernel) ⟨⟨rfl, rfl⟩, Nat.le_of_ble_eq_true rfl, Nat.le_of_ble_eq_true rfl⟩ hk ⟨by decide, by decide⟩ rfl rfl hl.1 rfl (Nat.le_of_ble_eq_true rfl) ⟨Nat.le_of_ble_eq_true rfl, Nat.le_of_ble_eq_true rfl⟩ dJx4a65c_add_72be8_7 (fun r7 S7 H locs hp7 hw => ?_)
  obtain ⟨kr7, rfl⟩ := hp7
  refine lv_astore_n (lv' := [(2, .ref r7), (0, .ref x0), (1, .ref v0), (3, .int 0)]) hx hb dJx4a65c_add_72be8_10 rfl hl (by decide) rfl (fun ls hl => ?_)
  refine lv_aload_n hx hb dJx4a65c_add_72be8_11 rfl (lv_at hl 0 rfl) ?_
  refine lv_iload_n hx hb dJx4a65c_add_72be8_12 rfl (lv_at hl 3 rfl) ?_
  refine lv_aload_n hx hb dJx4a65c_add_72be8_13 rfl (lv_at hl 2 rfl) ?_
  refine zastO (a := r7) (v := v0) (n := 10) C hw (zK_nPs S r7 33 10 (fun _ => none)) (zK_nP (k := 33) (n := 10) (f := fun _ => none) (zne kr7 (fun e9 => absurd (Eq.trans (Eq.symm hv) e9) (by decide))) hv) (zN_nPs S r7 33 10 (fun _ => none)) (zin_of (N := 10) (by decide) (by decide) (by decide)) dJx4a65c_add_72be8_14 (fun H locs hw => ?_)
  refine lv_aload_n hx hb dJx4a65c_add_72be8_15 rfl (lv_at hl 1 rfl) ?_
  refine lv_iload_n hx hb dJx4a65c_add_72be8_16 rfl (lv_at hl 3 rfl) ?_
  refine lv_iconst (v := 1) hx hb dJx4a65c_add_72be8_17 (by decide) ?_
  refine lv_iadd hx hb dJx4a65c_add_72be8_18 ?_
  refine zrd (x := 1) (by decide) ?_
  refine zrd (x := 1) (by decide) ?_
  refine p_AList_size (a := x0) (v := 1) C hw (zK_nP (k := 33) (n := 10) (f := fun _ => none) (zne kr7 (fun e9 => absurd (Eq.trans (Eq.symm hk) e9) (by decide))) hk) in_Jx4a65c (by decide +kernel) dJx4a65c_add_72be8_19 (fun H locs hw => ?_)
  exact zrv C hw hr hlocks ⟨((((zGv.nP kr7).tr zGv.Q).tn zGv.P kr7).tr zGv.I), (zK_nP (k := 33) (n := 10) (f := fun _ => none) (zne kr7 (fun e9 => absurd (Eq.trans (Eq.symm hk) e9) (by decide))) hk), (zI_s (zsP (zsQ (znP S r7 33 10 (fun _ => none)) 49 x0 (some r7)) r7 (va_up (zP (zsQ (znP S r7 33 10 (fun _ => none)) 49 x0 (some r7)) r7) (0 : Int32).toNatClampNeg (some v0))) 50 x0 1)⟩ ⟨Nat.le_of_ble_eq_true rfl, Nat.le_of_ble_eq_true rfl⟩ dJx4a65c_add_72be8_22

set_option maxHeartbeats 4000000 in
set_option maxRecDepth 100000 in
/-- Jx4a65c_add_9ea2d -/
theorem c_Jx4a65c_add_9ea2d (l : Launch) (D : va_G) (y : Nat → ClassId) (base : Nat) (S : zS) (x0 : Nat) (v0 : Nat) (hk : zK S x0 = 3) (h50 : zI S 50 x0 = 0) (h49 : zQ S 49 x0 = some (y 92)) (hv : zK S v0 = 14) : zMi l yJx4a65c_add_9ea2d wsJx4a65c_add_9ea2d ({ frames := 4, cells := 1, slots := 10, locals := 87 }) [.ref x0, .ref v0] D y base S (fun (r : Int32) (S1 : zS) => r = 1 ∧ zGv S S1 x0 ∧ zK S1 x0 = 3 ∧ zI S1 50 x0 = 1) 1 10 := by
  refine zMet_of (cc := cJx4a65c_add_9ea2d) (maxL := 2) (ret := (some .boolean)) (own := RJx4a65c) (by decide +kernel) rfl rfl (Nat.le_of_ble_eq_true rfl) ?_
  intro p e s m args below meth c ls C hr hlocks hnm hw hl
  have hx := C.1
  have hb := C.2.1
  have hown := C.2.2.2.1
  have hts := C.2.2.2.2
  have hl : lv_has ls 2 [(0, .ref x0), (1, .ref v0)] := hl
  have in_Jx4a65c : ∀ w ∈ wsJx4a65c0, w ∈ wsJx4a65c_add_9ea2d := by decide +kernel
  refine lv_aload_n hx hb dJx4a65c_add_9ea2d_0 rfl (lv_at hl 0 rfl) ?_
  refine lv_dup hx hb dJx4a65c_add_9ea2d_1 rfl ?_
  refine g_AList_modCount (a := x0) (v := (zI S 48 x0)) C hw hk in_Jx4a65c (ref := "java/util/ArrayList") (by decide +kernel) (u_same (hts (.sameField "java/util/ArrayList" "java/util/AbstractList" "modCount" "I") (by decide +kernel))) rfl dJx4a65c_add_9ea2d_2 ?_
  refine lv_iconst (v := 1) hx hb dJx4a65c_add_9ea2d_5 (by decide) ?_
  refine lv_iadd hx hb dJx4a65c_add_9ea2d_6 ?_
  refine lv_topi (fun x7 ex7 => ?_)
  refine p_AList_modCount (a := x0) (v := x7) C hw hk in_Jx4a65c (ref := "java/util/ArrayList") (by decide +kernel) (u_same (hts (.sameField "java/util/ArrayList" "java/util/AbstractList" "modCount" "I") (by decide +kernel))) dJx4a65c_add_9ea2d_7 (fun H locs hw => ?_)
  refine lv_aload_n hx hb dJx4a65c_add_9ea2d_10 rfl (lv_at hl 0 rfl) ?_
  refine lv_aload_n hx hb dJx4a65c_add_9ea2d_11 rfl (lv_at hl 1 rfl) ?_
  refine lv_aload_n hx hb dJx4a65c_add_9ea2d_12 rfl (lv_at hl 0 rfl) ?_
  refine g_AList_elementData (a := x0) (v := (y 92)) C hw hk in_Jx4a65c (by decide +kernel) h49 dJx4a65c_add_9ea2d_13 ?_
  refine lv_aload_n hx hb dJx4a65c_add_9ea2d_16 rfl (lv_at hl 0 rfl) ?_
  refine g_AList_size (a := x0) (v := 0) C hw hk in_Jx4a65c (by decide +kernel) (zI_t (S := S) (t := 48) (a := x0) (v := x7) (t' := 50) (a' := x0) (u := 0) (by decide) h50) dJx4a65c_add_9ea2d_17 ?_
  refine zcV_v (As := [.ref v0, .ref (y 92), .int 0]) (rest := []) (n9 := 3) (b := x0) C hw (c_Jx4a65c_add_72be8 l D y base (zsI S 48 x0 x7) x0 v0 hk (zI_t (S := S) (t := 48) (a := x0) (v := x7) (t' := 50) (a' := x0) (u := 0) (by decide) h50) h49 hv) gJx4a65c_add_9ea2d_Jx4a65c_add_72be8 rfl (by decide +kernel) ⟨⟨rfl, rfl⟩, Nat.le_of_ble_eq_true rfl, Nat.le_of_ble_eq_true rfl⟩ hk ⟨by decide, by decide⟩ rfl rfl hl.1 rfl (Nat.le_of_ble_eq_true rfl) ⟨Nat.le_of_ble_eq_true rfl, Nat.le_of_ble_eq_true rfl⟩ dJx4a65c_add_9ea2d_20 (fun S20 H locs hp20 hw => ?_)
  have ga_1 := zGv.at hp20.1 hv (by decide) (by rw [show zK (zsI S 48 x0 x7) x0 = 3 from hk]; decide)
  refine lv_iconst (v := 1) hx hb dJx4a65c_add_9ea2d_23 (by decide) ?_
  exact zri C hw hr hlocks (by decide) ⟨rfl, zGv.I.tr hp20.1, hp20.2.1, hp20.2.2⟩ ⟨Nat.le_of_ble_eq_true rfl, Nat.le_of_ble_eq_true rfl⟩ dJx4a65c_add_9ea2d_24

set_option maxHeartbeats 4000000 in
set_option maxRecDepth 100000 in
/-- Jx4a65c_size_8abf5 -/
theorem c_Jx4a65c_size_v (l : Launch) (D : va_G) (y : Nat → ClassId) (base : Nat) (S : zS) (x0 : Nat) (v : Int32) (hk : zK S x0 = 3) (h50 : zI S 50 x0 = v) : zMi l yJx4a65c_size_8abf5 wsJx4a65c_size_8abf5 ({ frames := 0, cells := 0, slots := 0, locals := 0 }) [.ref x0] D y base S (fun (r : Int32) (S1 : zS) => r = v ∧ S1 = S) 0 0 := by
  refine zMet_of (cc := cJx4a65c_size_8abf5) (maxL := 1) (ret := (some .int)) (own := RJx4a65c) (by decide +kernel) rfl rfl (Nat.le_of_ble_eq_true rfl) ?_
  intro p e s m args below meth c ls C hr hlocks hnm hw hl
  have hx := C.1
  have hb := C.2.1
  have hown := C.2.2.2.1
  have hts := C.2.2.2.2
  have hl : lv_has ls 1 [(0, .ref x0)] := hl
  have in_Jx4a65c : ∀ w ∈ wsJx4a65c0, w ∈ wsJx4a65c_size_8abf5 := by decide +kernel
  refine lv_aload_n hx hb dJx4a65c_size_8abf5_0 rfl (lv_at hl 0 rfl) ?_
  refine g_AList_size (a := x0) (v := v) C hw hk in_Jx4a65c (by decide +kernel) h50 dJx4a65c_size_8abf5_1 ?_
  exact zri C hw hr hlocks rfl ⟨rfl, rfl⟩ ⟨Nat.le_of_ble_eq_true rfl, Nat.le_of_ble_eq_true rfl⟩ dJx4a65c_size_8abf5_4

set_option maxHeartbeats 4000000 in
set_option maxRecDepth 100000 in
/-- X10_init -/
theorem c_X10_init (l : Launch) (D : va_G) (y : Nat → ClassId) (base : Nat) (S : zS) (q : Nat) (p0 : Int32) (p1 : Int32) (p2 : Int32) (hk : zK S q = 14) (hc : 0 ≤ p0 ∧ p0 ≤ 255) : zMv l yX10_init wsX10_init ({ frames := 1, cells := 0, slots := 0, locals := 12 }) [.ref q, .int p0, .int p1, .int p2] D y base S (fun (S1 : zS) => zGv S S1 q ∧ zK S1 q = 14) 0 0 := by
  refine zMet_of (cc := cX10_init) (maxL := 4) (ret := none) (own := RX10) (by decide +kernel) rfl rfl (Nat.le_of_ble_eq_true rfl) ?_
  intro p e s m args below meth c ls C hr hlocks hnm hw hl
  have hx := C.1
  have hb := C.2.1
  have hown := C.2.2.2.1
  have hts := C.2.2.2.2
  have hl : lv_has ls 4 [(0, .ref q), (1, .int p0), (2, .int p1), (3, .int p2)] := hl
  have in_X10 : ∀ w ∈ wsX100, w ∈ wsX10_init := by decide +kernel
  refine lv_aload_n hx hb dX10_init_0 rfl (lv_at hl 0 rfl) ?_
  refine W.objInit hx hb hown (hts (.methodLink RX10 1 objectInit) (by decide +kernel)) (hts (.instanceMethod objectInit) (by decide +kernel)) (hts (.code objectInit ⟨#[0xb1]⟩ 1 none) (by decide +kernel)) rfl (by rw [C.2.2.1]; exact hl.1) rfl dX10_init_1 (Nat.le_of_ble_eq_true rfl) (Nat.le_of_ble_eq_true rfl) ?_
  refine W.eq (g2 := F0 m 4 ls []) rfl ?_
  refine lv_aload_n hx hb dX10_init_4 rfl (lv_at hl 0 rfl) ?_
  refine lv_iload_n hx hb dX10_init_5 rfl (lv_at hl 1 rfl) ?_
  refine p_Step_kind (a := q) (v := p0) C hw hk in_X10 (by decide +kernel) hnm rfl (zch_nf hc) dX10_init_6 (fun H locs hw => ?_)
  refine lv_aload_n hx hb dX10_init_9 rfl (lv_at hl 0 rfl) ?_
  refine lv_iload_n hx hb dX10_init_10 rfl (lv_at hl 2 rfl) ?_
  refine p_Step_wire (a := q) (v := p1) C hw hk in_X10 (by decide +kernel) hnm rfl dX10_init_11 (fun H locs hw => ?_)
  refine lv_aload_n hx hb dX10_init_14 rfl (lv_at hl 0 rfl) ?_
  refine lv_iload_n hx hb dX10_init_15 rfl (lv_at hl 3 rfl) ?_
  refine p_Step_number (a := q) (v := p2) C hw hk in_X10 (by decide +kernel) hnm rfl dX10_init_16 (fun H locs hw => ?_)
  exact zrv C hw hr hlocks ⟨(zGv.I.tr (zGv.I.tr zGv.I)), hk⟩ ⟨Nat.le_of_ble_eq_true rfl, Nat.le_of_ble_eq_true rfl⟩ dX10_init_19

set_option maxHeartbeats 4000000 in
set_option maxRecDepth 100000 in
/-- X11_step -/
theorem c_X11_step (l : Launch) (D : va_G) (y : Nat → ClassId) (base : Nat) (S : zS) (b : Nat → Nat) (p0 : Int32) (p1 : Int32) (p2 : Int32) (hM : zMd S b) (hM0 : zMd0 S b) (hF : zQ S 49 (b 4) = some (y 92)) : zMi l yX11_step wsX11_step ({ frames := 5, cells := 2, slots := 13, locals := 108 }) [.ref (b 0), .int p0, .int p1, .int p2] D y base S (fun (r : Int32) (S1 : zS) => zK S1 (b 0) = 15 ∧ zI S1 240 (b 0) = kd_step p0 p1 p2 ∧ (kd_step p0 p1 p2 = 0 → r = 1)) 2 13 := by
  refine zMet_of (cc := cX11_step) (maxL := 6) (ret := (some .int)) (own := RX11) (by decide +kernel) rfl rfl (Nat.le_of_ble_eq_true rfl) ?_
  intro p e s m args below meth c ls C hr hlocks hnm hw hl
  have hx := C.1
  have hb := C.2.1
  have hown := C.2.2.2.1
  have hts := C.2.2.2.2
  have hl : lv_has ls 6 [(0, .ref (b 0)), (1, .int p0), (2, .int p1), (3, .int p2)] := hl
  have in_X10 : ∀ w ∈ wsX100, w ∈ wsX11_step := by decide +kernel
  have in_X11 : ∀ w ∈ wsX110, w ∈ wsX11_step := by decide +kernel
  refine lv_iload_n hx hb dX11_step_0 rfl (lv_at hl 1 rfl) ?_
  refine lv_bipush (v := 112) hx hb dX11_step_1 (by decide) ?_
  refine lv_icmp_eq (tgt := 12) hx hb dX11_step_3 (by decide) (fun c3 => ?_) (fun c3 => ?_)
  · refine lv_iconst (v := 1) hx hb dX11_step_12 (by decide) ?_
    refine lv_goto (tgt := 17) hx hb dX11_step_13 (by decide) ?_
    refine lv_istore (lv' := [(4, .int 1), (0, .ref (b 0)), (1, .int p0), (2, .int p1), (3, .int p2)]) hx hb dX11_step_17 hl (by decide) rfl (fun ls hl => ?_)
    refine lv_aload_n hx hb dX11_step_19 rfl (lv_at hl 1 rfl) ?_
    refine lv_iload hx hb dX11_step_20 (lv_at hl 0 rfl) ?_
    refine lv_if_ne (tgt := 32) hx hb dX11_step_22 (by decide) (fun _ => ?_) (fun c22 => absurd c22 (by decide))
    refine lv_iconst (v := 0) hx hb dX11_step_32 (by decide) ?_
    refine lv_goto (tgt := 37) hx hb dX11_step_33 (by decide) ?_
    refine p_Mod_thrown (a := (b 0)) (v := 0) C hw hM.1 in_X11 (by decide +kernel) dX11_step_37 (fun H locs hw => ?_)
    refine lv_aload_n hx hb dX11_step_40 rfl (lv_at hl 1 rfl) ?_
    refine g_Mod_thrown (a := (b 0)) (v := 0) C hw hM.1 in_X11 (by decide +kernel) (zI_s S 240 (b 0) 0) dX11_step_41 ?_
    refine lv_if_le (tgt := 49) hx hb dX11_step_44 (by decide) (fun _ => ?_) (fun c44 => absurd c44 (by decide))
    refine zldcS C hw rfl dX11_step_49 ?_
    refine lv_iload_n hx hb dX11_step_51 rfl (lv_at hl 2 rfl) ?_
    refine zcVS_i (As := [.int p0]) (rest := []) (n9 := 1) C hw (c_J0_indexOf_0f7a4 l D y base (zsI S 240 (b 0) 0) p0 ) gX11_step_J0_indexOf_0f7a4 rfl (by decide +kernel) ⟨⟨rfl, rfl⟩, Nat.le_of_ble_eq_true rfl, Nat.le_of_ble_eq_true rfl⟩ rfl hl.1 rfl (Nat.le_of_ble_eq_true rfl) ⟨Nat.le_of_ble_eq_true rfl, Nat.le_of_ble_eq_true rfl⟩ dX11_step_52 (fun r52 S52 H locs hp52 hw => ?_)
    obtain ⟨hp52, hS9⟩ := hp52
    have hS9 := hS9.symm
    subst hS9
    refine lv_if_lt (tgt := 70) hx hb dX11_step_55 (by decide) (fun c55 => ?_) (fun c55 => ?_)
    · refine lv_iload_n hx hb dX11_step_70 rfl (lv_at hl 2 rfl) ?_
      refine lv_bipush (v := 112) hx hb dX11_step_71 (by decide) ?_
      refine lv_icmp_ne (tgt := 92) hx hb dX11_step_73 (by decide) (fun c73 => ?_) (fun c73 => ?_)
      · refine lv_iconst (v := 0) hx hb dX11_step_92 (by decide) ?_
        refine lv_istore (lv' := [(5, .int 0), (4, .int 1), (0, .ref (b 0)), (1, .int p0), (2, .int p1), (3, .int p2)]) hx hb dX11_step_93 hl (by decide) rfl (fun ls hl => ?_)
        refine lv_aload_n hx hb dX11_step_95 rfl (lv_at hl 2 rfl) ?_
        refine lv_iload hx hb dX11_step_96 (lv_at hl 0 rfl) ?_
        refine lv_if_ne (tgt := 105) hx hb dX11_step_98 (by decide) (fun c98 => absurd c98 (by decide)) (fun _ => ?_)
        refine lv_iconst (v := 2) hx hb dX11_step_101 (by decide) ?_
        refine lv_goto (tgt := 122) hx hb dX11_step_102 (by decide) ?_
        refine p_Mod_thrown (a := (b 0)) (v := 2) C hw hM.1 in_X11 (by decide +kernel) dX11_step_122 (fun H locs hw => ?_)
        refine lv_aload_n hx hb dX11_step_125 rfl (lv_at hl 2 rfl) ?_
        refine g_Mod_thrown (a := (b 0)) (v := 2) C hw hM.1 in_X11 (by decide +kernel) (zI_s (zsI S 240 (b 0) 0) 240 (b 0) 2) dX11_step_126 ?_
        refine lv_if_le (tgt := 134) hx hb dX11_step_129 (by decide) (fun c129 => absurd c129 (by decide)) (fun _ => ?_)
        refine lv_iconst (v := 0) hx hb dX11_step_132 (by decide) ?_
        exact zri C hw hr hlocks rfl ⟨hM.1, ((zI_s (zsI S 240 (b 0) 0) 240 (b 0) 2)).trans (by unfold kd_step; (try unfold zb); grind), (fun h9 => by first | rfl | (revert h9; unfold kd_step; (try unfold zb); grind))⟩ ⟨Nat.le_of_ble_eq_true rfl, Nat.le_of_ble_eq_true rfl⟩ dX11_step_133
      · refine lv_iload_n hx hb dX11_step_76 rfl (lv_at hl 4 rfl) ?_
        refine lv_i2l (v := p2.toInt64) hx hb dX11_step_77 rfl ?_
        refine lv_lconst (v := ((0 : Int32).toInt64)) hx hb dX11_step_78 (by decide) ?_
        refine lv_ldc2 (own := RX11) (v := ((15 : Int32).toInt64)) hx hb hown (hts (.constantLong RX11 126 (15)) (by decide +kernel)) dX11_step_79 ?_
        refine zcS_i (As := [.long (p2.toInt64), .long ((0 : Int32).toInt64), .long ((15 : Int32).toInt64)]) (rest := []) (n9 := 3) C hw (c_X11_in l D y base (zsI S 240 (b 0) 0) p2 (0 : Int32) (15 : Int32) ) gX11_step_X11_in rfl (by decide +kernel) ⟨⟨rfl, rfl⟩, Nat.le_of_ble_eq_true rfl, Nat.le_of_ble_eq_true rfl⟩ rfl hl.1 rfl (Nat.le_of_ble_eq_true rfl) ⟨Nat.le_of_ble_eq_true rfl, Nat.le_of_ble_eq_true rfl⟩ dX11_step_82 (fun r82 S82 H locs hp82 hw => ?_)
        obtain ⟨rfl, hS9⟩ := hp82
        have hS9 := hS9.symm
        subst hS9
        refine lv_if_eq (tgt := 92) hx hb dX11_step_85 (by decide) (fun c85 => ?_) (fun c85 => ?_)
        · replace c85 := zb0.mp c85
          refine lv_iconst (v := 0) hx hb dX11_step_92 (by decide) ?_
          refine lv_istore (lv' := [(5, .int 0), (4, .int 1), (0, .ref (b 0)), (1, .int p0), (2, .int p1), (3, .int p2)]) hx hb dX11_step_93 hl (by decide) rfl (fun ls hl => ?_)
          refine lv_aload_n hx hb dX11_step_95 rfl (lv_at hl 2 rfl) ?_
          refine lv_iload hx hb dX11_step_96 (lv_at hl 0 rfl) ?_
          refine lv_if_ne (tgt := 105) hx hb dX11_step_98 (by decide) (fun c98 => absurd c98 (by decide)) (fun _ => ?_)
          refine lv_iconst (v := 2) hx hb dX11_step_101 (by decide) ?_
          refine lv_goto (tgt := 122) hx hb dX11_step_102 (by decide) ?_
          refine p_Mod_thrown (a := (b 0)) (v := 2) C hw hM.1 in_X11 (by decide +kernel) dX11_step_122 (fun H locs hw => ?_)
          refine lv_aload_n hx hb dX11_step_125 rfl (lv_at hl 2 rfl) ?_
          refine g_Mod_thrown (a := (b 0)) (v := 2) C hw hM.1 in_X11 (by decide +kernel) (zI_s (zsI S 240 (b 0) 0) 240 (b 0) 2) dX11_step_126 ?_
          refine lv_if_le (tgt := 134) hx hb dX11_step_129 (by decide) (fun c129 => absurd c129 (by decide)) (fun _ => ?_)
          refine lv_iconst (v := 0) hx hb dX11_step_132 (by decide) ?_
          exact zri C hw hr hlocks rfl ⟨hM.1, ((zI_s (zsI S 240 (b 0) 0) 240 (b 0) 2)).trans (by unfold kd_step; (try unfold zb); grind), (fun h9 => by first | rfl | (revert h9; unfold kd_step; (try unfold zb); grind))⟩ ⟨Nat.le_of_ble_eq_true rfl, Nat.le_of_ble_eq_true rfl⟩ dX11_step_133
        · replace c85 := zb1.mp c85
          refine lv_iconst (v := 1) hx hb dX11_step_88 (by decide) ?_
          refine lv_goto (tgt := 93) hx hb dX11_step_89 (by decide) ?_
          refine lv_istore (lv' := [(5, .int 1), (4, .int 1), (0, .ref (b 0)), (1, .int p0), (2, .int p1), (3, .int p2)]) hx hb dX11_step_93 hl (by decide) rfl (fun ls hl => ?_)
          refine lv_aload_n hx hb dX11_step_95 rfl (lv_at hl 2 rfl) ?_
          refine lv_iload hx hb dX11_step_96 (lv_at hl 0 rfl) ?_
          refine lv_if_ne (tgt := 105) hx hb dX11_step_98 (by decide) (fun _ => ?_) (fun c98 => absurd c98 (by decide))
          refine lv_aload_n hx hb dX11_step_105 rfl (lv_at hl 2 rfl) ?_
          refine g_Mod_steps (a := (b 0)) (v := (b 4)) C hw hM.1 in_X11 (by decide +kernel) hM.2.2.2.2.1 dX11_step_106 ?_
          refine zcV_i (As := []) (rest := [.ref (b 0)]) (n9 := 0) (b := (b 4)) C hw (c_Jx4a65c_size_8abf5 l D y base (zsI S 240 (b 0) 0) (b 4) hM.2.2.2.2.2.2.2.2.2.2.2.2.2.1 (zI_t (S := S) (t := 240) (a := (b 0)) (v := 0) (t' := 50) (a' := (b 4)) (u := 0) (by decide) hM0.2.2.2.1)) gX11_step_Jx4a65c_size_8abf5 rfl (by decide +kernel) ⟨⟨rfl, rfl⟩, Nat.le_of_ble_eq_true rfl, Nat.le_of_ble_eq_true rfl⟩ hM.2.2.2.2.2.2.2.2.2.2.2.2.2.1 ⟨by decide, by decide⟩ rfl rfl hl.1 rfl (Nat.le_of_ble_eq_true rfl) ⟨Nat.le_of_ble_eq_true rfl, Nat.le_of_ble_eq_true rfl⟩ dX11_step_109 (fun r109 S109 H locs hp109 hw => ?_)
          obtain ⟨rfl, hS9⟩ := hp109
          have hS9 := hS9.symm
          subst hS9
          refine lv_bipush (v := 6) hx hb dX11_step_112 (by decide) ?_
          refine lv_icmp_ne (tgt := 121) hx hb dX11_step_114 (by decide) (fun _ => ?_) (fun c114 => absurd c114 (by decide))
          refine lv_iconst (v := 0) hx hb dX11_step_121 (by decide) ?_
          refine p_Mod_thrown (a := (b 0)) (v := 0) C hw hM.1 in_X11 (by decide +kernel) dX11_step_122 (fun H locs hw => ?_)
          refine lv_aload_n hx hb dX11_step_125 rfl (lv_at hl 2 rfl) ?_
          refine g_Mod_thrown (a := (b 0)) (v := 0) C hw hM.1 in_X11 (by decide +kernel) (zI_s (zsI S 240 (b 0) 0) 240 (b 0) 0) dX11_step_126 ?_
          refine lv_if_le (tgt := 134) hx hb dX11_step_129 (by decide) (fun _ => ?_) (fun c129 => absurd c129 (by decide))
          refine lv_aload_n hx hb dX11_step_134 rfl (lv_at hl 2 rfl) ?_
          refine g_Mod_steps (a := (b 0)) (v := (b 4)) C hw hM.1 in_X11 (by decide +kernel) hM.2.2.2.2.1 dX11_step_135 ?_
          refine znew (k := 14) (Cn := RX10) (T := TX10) (N := 3) C hw (by decide) (by decide) rfl in_X10 tyX10 tyX10_ok (by decide +kernel) (by decide +kernel) (by decide +kernel) (zdfX10) (Nat.le_of_ble_eq_true rfl) (Nat.le_of_ble_eq_true rfl) dX11_step_138 (fun q138 H kq138 hw => ?_)
          refine lv_dup hx hb dX11_step_141 rfl ?_
          refine lv_iload_n hx hb dX11_step_142 rfl (lv_at hl 3 rfl) ?_
          refine lv_iload_n hx hb dX11_step_143 rfl (lv_at hl 4 rfl) ?_
          refine lv_iload_n hx hb dX11_step_144 rfl (lv_at hl 5 rfl) ?_
          refine zcI_v (As := [.int p0, .int p1, .int p2]) (rest := [.ref q138, .ref (b 4)]) (n9 := 3) (b := q138) C hw (c_X10_init l D y base (znO (zsI (zsI S 240 (b 0) 0) 240 (b 0) 0) q138 14) q138 p0 p1 p2 (zK_nOs _ _ _) (by grind)) gX11_step_X10_init rfl (by decide +kernel) (by decide +kernel) (by decide +kernel) rfl (by decide +kernel) ⟨⟨rfl, rfl⟩, Nat.le_of_ble_eq_true rfl, Nat.le_of_ble_eq_true rfl⟩ rfl hl.1 rfl (Nat.le_of_ble_eq_true rfl) ⟨Nat.le_of_ble_eq_true rfl, Nat.le_of_ble_eq_true rfl⟩ dX11_step_145 (fun S145 H locs hp145 hw => ?_)
          have ga_1 := zGv.at hp145.1 (zK_nO (k := 14) (zne kq138 (fun e9 => absurd (Eq.trans (Eq.symm hM.1) e9) (by decide))) hM.1) (by decide) (by rw [show zK (znO (zsI (zsI S 240 (b 0) 0) 240 (b 0) 0) q138 14) q138 = 14 from (zK_nOs (zsI (zsI S 240 (b 0) 0) 240 (b 0) 0) q138 14)]; decide)
          have ga_2 := zGv.at hp145.1 (zK_nO (k := 14) (zne kq138 (fun e9 => absurd (Eq.trans (Eq.symm hM.2.2.2.2.2.2.2.1) e9) (by decide))) hM.2.2.2.2.2.2.2.1) (by decide) (by rw [show zK (znO (zsI (zsI S 240 (b 0) 0) 240 (b 0) 0) q138 14) q138 = 14 from (zK_nOs (zsI (zsI S 240 (b 0) 0) 240 (b 0) 0) q138 14)]; decide)
          have ga_3 := zGv.at hp145.1 (zK_nO (k := 14) (zne kq138 (fun e9 => absurd (Eq.trans (Eq.symm hM.2.2.2.2.2.2.2.2.2.1) e9) (by decide))) hM.2.2.2.2.2.2.2.2.2.1) (by decide) (by rw [show zK (znO (zsI (zsI S 240 (b 0) 0) 240 (b 0) 0) q138 14) q138 = 14 from (zK_nOs (zsI (zsI S 240 (b 0) 0) 240 (b 0) 0) q138 14)]; decide)
          have ga_4 := zGv.at hp145.1 (zK_nO (k := 14) (zne kq138 (fun e9 => absurd (Eq.trans (Eq.symm hM.2.2.2.2.2.2.2.2.2.2.2.1) e9) (by decide))) hM.2.2.2.2.2.2.2.2.2.2.2.1) (by decide) (by rw [show zK (znO (zsI (zsI S 240 (b 0) 0) 240 (b 0) 0) q138 14) q138 = 14 from (zK_nOs (zsI (zsI S 240 (b 0) 0) 240 (b 0) 0) q138 14)]; decide)
          have ga_5 := zGv.at hp145.1 (zK_nO (k := 14) (zne kq138 (fun e9 => absurd (Eq.trans (Eq.symm hM.2.2.2.2.2.2.2.2.2.2.2.2.2.1) e9) (by decide))) hM.2.2.2.2.2.2.2.2.2.2.2.2.2.1) (by decide) (by rw [show zK (znO (zsI (zsI S 240 (b 0) 0) 240 (b 0) 0) q138 14) q138 = 14 from (zK_nOs (zsI (zsI S 240 (b 0) 0) 240 (b 0) 0) q138 14)]; decide)
          have ga_6 := zGv.at hp145.1 (zK_nO (k := 14) (zne kq138 (fun e9 => absurd (Eq.trans (Eq.symm hM.2.2.2.2.2.2.2.2.2.2.2.2.2.2.1) e9) (by decide))) hM.2.2.2.2.2.2.2.2.2.2.2.2.2.2.1) (by decide) (by rw [show zK (znO (zsI (zsI S 240 (b 0) 0) 240 (b 0) 0) q138 14) q138 = 14 from (zK_nOs (zsI (zsI S 240 (b 0) 0) 240 (b 0) 0) q138 14)]; decide)
          have ga_7 := zGv.at hp145.1 (zK_nO (k := 14) (zne kq138 (fun e9 => absurd (Eq.trans (Eq.symm hM.2.2.2.2.2.2.2.2.2.2.2.2.2.2.2.1) e9) (by decide))) hM.2.2.2.2.2.2.2.2.2.2.2.2.2.2.2.1) (by decide) (by rw [show zK (znO (zsI (zsI S 240 (b 0) 0) 240 (b 0) 0) q138 14) q138 = 14 from (zK_nOs (zsI (zsI S 240 (b 0) 0) 240 (b 0) 0) q138 14)]; decide)
          refine zcV_i (As := [.ref q138]) (rest := []) (n9 := 1) (b := (b 4)) C hw (c_Jx4a65c_add_9ea2d l D y base S145 (b 4) q138 ga_5.1 ((ga_5.2.1 50).1.trans (zI_nO (k := 14) (zne kq138 (fun e9 => absurd (Eq.trans (Eq.symm hM.2.2.2.2.2.2.2.2.2.2.2.2.2.1) e9) (by decide))) (zI_t (S := (zsI S 240 (b 0) 0)) (t := 240) (a := (b 0)) (v := 0) (t' := 50) (a' := (b 4)) (u := 0) (by decide) (zI_t (S := S) (t := 240) (a := (b 0)) (v := 0) (t' := 50) (a' := (b 4)) (u := 0) (by decide) hM0.2.2.2.1)))) ((ga_5.2.1 49).2.trans (zQ_nO (k := 14) (zne kq138 (fun e9 => absurd (Eq.trans (Eq.symm hM.2.2.2.2.2.2.2.2.2.2.2.2.2.1) e9) (by decide))) hF)) hp145.2) gX11_step_Jx4a65c_add_9ea2d rfl (by decide +kernel) ⟨⟨rfl, rfl⟩, Nat.le_of_ble_eq_true rfl, Nat.le_of_ble_eq_true rfl⟩ ga_5.1 ⟨by decide, by decide⟩ rfl rfl hl.1 rfl (Nat.le_of_ble_eq_true rfl) ⟨Nat.le_of_ble_eq_true rfl, Nat.le_of_ble_eq_true rfl⟩ dX11_step_148 (fun r148 S148 H locs hp148 hw => ?_)
          obtain ⟨rfl, a9x⟩ := hp148
          have ga_8 := zGv.at a9x.1 ga_1.1 (by decide) (by rw [show zK S145 (b 4) = 3 from ga_5.1]; decide)
          have ga_9 := zGv.at a9x.1 ga_2.1 (by decide) (by rw [show zK S145 (b 4) = 3 from ga_5.1]; decide)
          have ga_10 := zGv.at a9x.1 ga_3.1 (by decide) (by rw [show zK S145 (b 4) = 3 from ga_5.1]; decide)
          have ga_11 := zGv.at a9x.1 ga_4.1 (by decide) (by rw [show zK S145 (b 4) = 3 from ga_5.1]; decide)
          have ga_12 := zGv.at a9x.1 ga_7.1 (by decide) (by rw [show zK S145 (b 4) = 3 from ga_5.1]; decide)
          have ga_13 := zGv.at a9x.1 hp145.2 (by decide) (by rw [show zK S145 (b 4) = 3 from ga_5.1]; decide)
          refine lv_pop hx hb dX11_step_151 rfl ?_
          refine lv_aload_n hx hb dX11_step_152 rfl (lv_at hl 2 rfl) ?_
          refine g_Mod_steps (a := (b 0)) (v := (b 4)) C hw ga_8.1 in_X11 (by decide +kernel) ((ga_8.2.1 247).2.trans ((ga_1.2.1 247).2.trans (zQ_nO (k := 14) (zne kq138 (fun e9 => absurd (Eq.trans (Eq.symm hM.1) e9) (by decide))) hM.2.2.2.2.1))) dX11_step_153 ?_
          refine zcV_i (As := []) (rest := []) (n9 := 0) (b := (b 4)) C hw (c_Jx4a65c_size_v l D y base S148 (b 4) 1 a9x.2.1 a9x.2.2) gX11_step_Jx4a65c_size_8abf5 rfl (by decide +kernel) ⟨⟨rfl, rfl⟩, Nat.le_of_ble_eq_true rfl, Nat.le_of_ble_eq_true rfl⟩ a9x.2.1 ⟨by decide, by decide⟩ rfl rfl hl.1 rfl (Nat.le_of_ble_eq_true rfl) ⟨Nat.le_of_ble_eq_true rfl, Nat.le_of_ble_eq_true rfl⟩ dX11_step_156 (fun r156 S156 H locs hp156 hw => ?_)
          obtain ⟨rfl, hS9⟩ := hp156
          have hS9 := hS9.symm
          subst hS9
          exact zri C hw hr hlocks rfl ⟨ga_8.1, (((ga_8.2.1 240).1.trans ((ga_1.2.1 240).1.trans (zI_nO (k := 14) (zne kq138 (fun e9 => absurd (Eq.trans (Eq.symm hM.1) e9) (by decide))) (zI_s (zsI S 240 (b 0) 0) 240 (b 0) 0))))).trans (by unfold kd_step; (try unfold zb); grind), (fun h9 => by first | rfl | (revert h9; unfold kd_step; (try unfold zb); grind))⟩ ⟨Nat.le_of_ble_eq_true rfl, Nat.le_of_ble_eq_true rfl⟩ dX11_step_159
    · refine lv_iload_n hx hb dX11_step_58 rfl (lv_at hl 4 rfl) ?_
      refine lv_i2l (v := p2.toInt64) hx hb dX11_step_59 rfl ?_
      refine lv_lconst (v := ((1 : Int32).toInt64)) hx hb dX11_step_60 (by decide) ?_
      refine lv_ldc2 (own := RX11) (v := ((400 : Int32).toInt64)) hx hb hown (hts (.constantLong RX11 131 (400)) (by decide +kernel)) dX11_step_61 ?_
      refine zcS_i (As := [.long (p2.toInt64), .long ((1 : Int32).toInt64), .long ((400 : Int32).toInt64)]) (rest := []) (n9 := 3) C hw (c_X11_in l D y base (zsI S 240 (b 0) 0) p2 (1 : Int32) (400 : Int32) ) gX11_step_X11_in rfl (by decide +kernel) ⟨⟨rfl, rfl⟩, Nat.le_of_ble_eq_true rfl, Nat.le_of_ble_eq_true rfl⟩ rfl hl.1 rfl (Nat.le_of_ble_eq_true rfl) ⟨Nat.le_of_ble_eq_true rfl, Nat.le_of_ble_eq_true rfl⟩ dX11_step_64 (fun r64 S64 H locs hp64 hw => ?_)
      obtain ⟨rfl, hS9⟩ := hp64
      have hS9 := hS9.symm
      subst hS9
      refine lv_if_ne (tgt := 88) hx hb dX11_step_67 (by decide) (fun c67 => ?_) (fun c67 => ?_)
      · replace c67 := zb1.mp c67
        refine lv_iconst (v := 1) hx hb dX11_step_88 (by decide) ?_
        refine lv_goto (tgt := 93) hx hb dX11_step_89 (by decide) ?_
        refine lv_istore (lv' := [(5, .int 1), (4, .int 1), (0, .ref (b 0)), (1, .int p0), (2, .int p1), (3, .int p2)]) hx hb dX11_step_93 hl (by decide) rfl (fun ls hl => ?_)
        refine lv_aload_n hx hb dX11_step_95 rfl (lv_at hl 2 rfl) ?_
        refine lv_iload hx hb dX11_step_96 (lv_at hl 0 rfl) ?_
        refine lv_if_ne (tgt := 105) hx hb dX11_step_98 (by decide) (fun _ => ?_) (fun c98 => absurd c98 (by decide))
        refine lv_aload_n hx hb dX11_step_105 rfl (lv_at hl 2 rfl) ?_
        refine g_Mod_steps (a := (b 0)) (v := (b 4)) C hw hM.1 in_X11 (by decide +kernel) hM.2.2.2.2.1 dX11_step_106 ?_
        refine zcV_i (As := []) (rest := [.ref (b 0)]) (n9 := 0) (b := (b 4)) C hw (c_Jx4a65c_size_8abf5 l D y base (zsI S 240 (b 0) 0) (b 4) hM.2.2.2.2.2.2.2.2.2.2.2.2.2.1 (zI_t (S := S) (t := 240) (a := (b 0)) (v := 0) (t' := 50) (a' := (b 4)) (u := 0) (by decide) hM0.2.2.2.1)) gX11_step_Jx4a65c_size_8abf5 rfl (by decide +kernel) ⟨⟨rfl, rfl⟩, Nat.le_of_ble_eq_true rfl, Nat.le_of_ble_eq_true rfl⟩ hM.2.2.2.2.2.2.2.2.2.2.2.2.2.1 ⟨by decide, by decide⟩ rfl rfl hl.1 rfl (Nat.le_of_ble_eq_true rfl) ⟨Nat.le_of_ble_eq_true rfl, Nat.le_of_ble_eq_true rfl⟩ dX11_step_109 (fun r109 S109 H locs hp109 hw => ?_)
        obtain ⟨rfl, hS9⟩ := hp109
        have hS9 := hS9.symm
        subst hS9
        refine lv_bipush (v := 6) hx hb dX11_step_112 (by decide) ?_
        refine lv_icmp_ne (tgt := 121) hx hb dX11_step_114 (by decide) (fun _ => ?_) (fun c114 => absurd c114 (by decide))
        refine lv_iconst (v := 0) hx hb dX11_step_121 (by decide) ?_
        refine p_Mod_thrown (a := (b 0)) (v := 0) C hw hM.1 in_X11 (by decide +kernel) dX11_step_122 (fun H locs hw => ?_)
        refine lv_aload_n hx hb dX11_step_125 rfl (lv_at hl 2 rfl) ?_
        refine g_Mod_thrown (a := (b 0)) (v := 0) C hw hM.1 in_X11 (by decide +kernel) (zI_s (zsI S 240 (b 0) 0) 240 (b 0) 0) dX11_step_126 ?_
        refine lv_if_le (tgt := 134) hx hb dX11_step_129 (by decide) (fun _ => ?_) (fun c129 => absurd c129 (by decide))
        refine lv_aload_n hx hb dX11_step_134 rfl (lv_at hl 2 rfl) ?_
        refine g_Mod_steps (a := (b 0)) (v := (b 4)) C hw hM.1 in_X11 (by decide +kernel) hM.2.2.2.2.1 dX11_step_135 ?_
        refine znew (k := 14) (Cn := RX10) (T := TX10) (N := 3) C hw (by decide) (by decide) rfl in_X10 tyX10 tyX10_ok (by decide +kernel) (by decide +kernel) (by decide +kernel) (zdfX10) (Nat.le_of_ble_eq_true rfl) (Nat.le_of_ble_eq_true rfl) dX11_step_138 (fun q138 H kq138 hw => ?_)
        refine lv_dup hx hb dX11_step_141 rfl ?_
        refine lv_iload_n hx hb dX11_step_142 rfl (lv_at hl 3 rfl) ?_
        refine lv_iload_n hx hb dX11_step_143 rfl (lv_at hl 4 rfl) ?_
        refine lv_iload_n hx hb dX11_step_144 rfl (lv_at hl 5 rfl) ?_
        refine zcI_v (As := [.int p0, .int p1, .int p2]) (rest := [.ref q138, .ref (b 4)]) (n9 := 3) (b := q138) C hw (c_X10_init l D y base (znO (zsI (zsI S 240 (b 0) 0) 240 (b 0) 0) q138 14) q138 p0 p1 p2 (zK_nOs _ _ _) (by grind)) gX11_step_X10_init rfl (by decide +kernel) (by decide +kernel) (by decide +kernel) rfl (by decide +kernel) ⟨⟨rfl, rfl⟩, Nat.le_of_ble_eq_true rfl, Nat.le_of_ble_eq_true rfl⟩ rfl hl.1 rfl (Nat.le_of_ble_eq_true rfl) ⟨Nat.le_of_ble_eq_true rfl, Nat.le_of_ble_eq_true rfl⟩ dX11_step_145 (fun S145 H locs hp145 hw => ?_)
        have ga_14 := zGv.at hp145.1 (zK_nO (k := 14) (zne kq138 (fun e9 => absurd (Eq.trans (Eq.symm hM.1) e9) (by decide))) hM.1) (by decide) (by rw [show zK (znO (zsI (zsI S 240 (b 0) 0) 240 (b 0) 0) q138 14) q138 = 14 from (zK_nOs (zsI (zsI S 240 (b 0) 0) 240 (b 0) 0) q138 14)]; decide)
        have ga_15 := zGv.at hp145.1 (zK_nO (k := 14) (zne kq138 (fun e9 => absurd (Eq.trans (Eq.symm hM.2.2.2.2.2.2.2.1) e9) (by decide))) hM.2.2.2.2.2.2.2.1) (by decide) (by rw [show zK (znO (zsI (zsI S 240 (b 0) 0) 240 (b 0) 0) q138 14) q138 = 14 from (zK_nOs (zsI (zsI S 240 (b 0) 0) 240 (b 0) 0) q138 14)]; decide)
        have ga_16 := zGv.at hp145.1 (zK_nO (k := 14) (zne kq138 (fun e9 => absurd (Eq.trans (Eq.symm hM.2.2.2.2.2.2.2.2.2.1) e9) (by decide))) hM.2.2.2.2.2.2.2.2.2.1) (by decide) (by rw [show zK (znO (zsI (zsI S 240 (b 0) 0) 240 (b 0) 0) q138 14) q138 = 14 from (zK_nOs (zsI (zsI S 240 (b 0) 0) 240 (b 0) 0) q138 14)]; decide)
        have ga_17 := zGv.at hp145.1 (zK_nO (k := 14) (zne kq138 (fun e9 => absurd (Eq.trans (Eq.symm hM.2.2.2.2.2.2.2.2.2.2.2.1) e9) (by decide))) hM.2.2.2.2.2.2.2.2.2.2.2.1) (by decide) (by rw [show zK (znO (zsI (zsI S 240 (b 0) 0) 240 (b 0) 0) q138 14) q138 = 14 from (zK_nOs (zsI (zsI S 240 (b 0) 0) 240 (b 0) 0) q138 14)]; decide)
        have ga_18 := zGv.at hp145.1 (zK_nO (k := 14) (zne kq138 (fun e9 => absurd (Eq.trans (Eq.symm hM.2.2.2.2.2.2.2.2.2.2.2.2.2.1) e9) (by decide))) hM.2.2.2.2.2.2.2.2.2.2.2.2.2.1) (by decide) (by rw [show zK (znO (zsI (zsI S 240 (b 0) 0) 240 (b 0) 0) q138 14) q138 = 14 from (zK_nOs (zsI (zsI S 240 (b 0) 0) 240 (b 0) 0) q138 14)]; decide)
        have ga_19 := zGv.at hp145.1 (zK_nO (k := 14) (zne kq138 (fun e9 => absurd (Eq.trans (Eq.symm hM.2.2.2.2.2.2.2.2.2.2.2.2.2.2.1) e9) (by decide))) hM.2.2.2.2.2.2.2.2.2.2.2.2.2.2.1) (by decide) (by rw [show zK (znO (zsI (zsI S 240 (b 0) 0) 240 (b 0) 0) q138 14) q138 = 14 from (zK_nOs (zsI (zsI S 240 (b 0) 0) 240 (b 0) 0) q138 14)]; decide)
        have ga_20 := zGv.at hp145.1 (zK_nO (k := 14) (zne kq138 (fun e9 => absurd (Eq.trans (Eq.symm hM.2.2.2.2.2.2.2.2.2.2.2.2.2.2.2.1) e9) (by decide))) hM.2.2.2.2.2.2.2.2.2.2.2.2.2.2.2.1) (by decide) (by rw [show zK (znO (zsI (zsI S 240 (b 0) 0) 240 (b 0) 0) q138 14) q138 = 14 from (zK_nOs (zsI (zsI S 240 (b 0) 0) 240 (b 0) 0) q138 14)]; decide)
        refine zcV_i (As := [.ref q138]) (rest := []) (n9 := 1) (b := (b 4)) C hw (c_Jx4a65c_add_9ea2d l D y base S145 (b 4) q138 ga_18.1 ((ga_18.2.1 50).1.trans (zI_nO (k := 14) (zne kq138 (fun e9 => absurd (Eq.trans (Eq.symm hM.2.2.2.2.2.2.2.2.2.2.2.2.2.1) e9) (by decide))) (zI_t (S := (zsI S 240 (b 0) 0)) (t := 240) (a := (b 0)) (v := 0) (t' := 50) (a' := (b 4)) (u := 0) (by decide) (zI_t (S := S) (t := 240) (a := (b 0)) (v := 0) (t' := 50) (a' := (b 4)) (u := 0) (by decide) hM0.2.2.2.1)))) ((ga_18.2.1 49).2.trans (zQ_nO (k := 14) (zne kq138 (fun e9 => absurd (Eq.trans (Eq.symm hM.2.2.2.2.2.2.2.2.2.2.2.2.2.1) e9) (by decide))) hF)) hp145.2) gX11_step_Jx4a65c_add_9ea2d rfl (by decide +kernel) ⟨⟨rfl, rfl⟩, Nat.le_of_ble_eq_true rfl, Nat.le_of_ble_eq_true rfl⟩ ga_18.1 ⟨by decide, by decide⟩ rfl rfl hl.1 rfl (Nat.le_of_ble_eq_true rfl) ⟨Nat.le_of_ble_eq_true rfl, Nat.le_of_ble_eq_true rfl⟩ dX11_step_148 (fun r148 S148 H locs hp148 hw => ?_)
        obtain ⟨rfl, a9x⟩ := hp148
        have ga_21 := zGv.at a9x.1 ga_14.1 (by decide) (by rw [show zK S145 (b 4) = 3 from ga_18.1]; decide)
        have ga_22 := zGv.at a9x.1 ga_15.1 (by decide) (by rw [show zK S145 (b 4) = 3 from ga_18.1]; decide)
        have ga_23 := zGv.at a9x.1 ga_16.1 (by decide) (by rw [show zK S145 (b 4) = 3 from ga_18.1]; decide)
        have ga_24 := zGv.at a9x.1 ga_17.1 (by decide) (by rw [show zK S145 (b 4) = 3 from ga_18.1]; decide)
        have ga_25 := zGv.at a9x.1 ga_20.1 (by decide) (by rw [show zK S145 (b 4) = 3 from ga_18.1]; decide)
        have ga_26 := zGv.at a9x.1 hp145.2 (by decide) (by rw [show zK S145 (b 4) = 3 from ga_18.1]; decide)
        refine lv_pop hx hb dX11_step_151 rfl ?_
        refine lv_aload_n hx hb dX11_step_152 rfl (lv_at hl 2 rfl) ?_
        refine g_Mod_steps (a := (b 0)) (v := (b 4)) C hw ga_21.1 in_X11 (by decide +kernel) ((ga_21.2.1 247).2.trans ((ga_14.2.1 247).2.trans (zQ_nO (k := 14) (zne kq138 (fun e9 => absurd (Eq.trans (Eq.symm hM.1) e9) (by decide))) hM.2.2.2.2.1))) dX11_step_153 ?_
        refine zcV_i (As := []) (rest := []) (n9 := 0) (b := (b 4)) C hw (c_Jx4a65c_size_v l D y base S148 (b 4) 1 a9x.2.1 a9x.2.2) gX11_step_Jx4a65c_size_8abf5 rfl (by decide +kernel) ⟨⟨rfl, rfl⟩, Nat.le_of_ble_eq_true rfl, Nat.le_of_ble_eq_true rfl⟩ a9x.2.1 ⟨by decide, by decide⟩ rfl rfl hl.1 rfl (Nat.le_of_ble_eq_true rfl) ⟨Nat.le_of_ble_eq_true rfl, Nat.le_of_ble_eq_true rfl⟩ dX11_step_156 (fun r156 S156 H locs hp156 hw => ?_)
        obtain ⟨rfl, hS9⟩ := hp156
        have hS9 := hS9.symm
        subst hS9
        exact zri C hw hr hlocks rfl ⟨ga_21.1, (((ga_21.2.1 240).1.trans ((ga_14.2.1 240).1.trans (zI_nO (k := 14) (zne kq138 (fun e9 => absurd (Eq.trans (Eq.symm hM.1) e9) (by decide))) (zI_s (zsI S 240 (b 0) 0) 240 (b 0) 0))))).trans (by unfold kd_step; (try unfold zb); grind), (fun h9 => by first | rfl | (revert h9; unfold kd_step; (try unfold zb); grind))⟩ ⟨Nat.le_of_ble_eq_true rfl, Nat.le_of_ble_eq_true rfl⟩ dX11_step_159
      · replace c67 := zb0.mp c67
        refine lv_iload_n hx hb dX11_step_70 rfl (lv_at hl 2 rfl) ?_
        refine lv_bipush (v := 112) hx hb dX11_step_71 (by decide) ?_
        refine lv_icmp_ne (tgt := 92) hx hb dX11_step_73 (by decide) (fun c73 => ?_) (fun c73 => ?_)
        · refine lv_iconst (v := 0) hx hb dX11_step_92 (by decide) ?_
          refine lv_istore (lv' := [(5, .int 0), (4, .int 1), (0, .ref (b 0)), (1, .int p0), (2, .int p1), (3, .int p2)]) hx hb dX11_step_93 hl (by decide) rfl (fun ls hl => ?_)
          refine lv_aload_n hx hb dX11_step_95 rfl (lv_at hl 2 rfl) ?_
          refine lv_iload hx hb dX11_step_96 (lv_at hl 0 rfl) ?_
          refine lv_if_ne (tgt := 105) hx hb dX11_step_98 (by decide) (fun c98 => absurd c98 (by decide)) (fun _ => ?_)
          refine lv_iconst (v := 2) hx hb dX11_step_101 (by decide) ?_
          refine lv_goto (tgt := 122) hx hb dX11_step_102 (by decide) ?_
          refine p_Mod_thrown (a := (b 0)) (v := 2) C hw hM.1 in_X11 (by decide +kernel) dX11_step_122 (fun H locs hw => ?_)
          refine lv_aload_n hx hb dX11_step_125 rfl (lv_at hl 2 rfl) ?_
          refine g_Mod_thrown (a := (b 0)) (v := 2) C hw hM.1 in_X11 (by decide +kernel) (zI_s (zsI S 240 (b 0) 0) 240 (b 0) 2) dX11_step_126 ?_
          refine lv_if_le (tgt := 134) hx hb dX11_step_129 (by decide) (fun c129 => absurd c129 (by decide)) (fun _ => ?_)
          refine lv_iconst (v := 0) hx hb dX11_step_132 (by decide) ?_
          exact zri C hw hr hlocks rfl ⟨hM.1, ((zI_s (zsI S 240 (b 0) 0) 240 (b 0) 2)).trans (by unfold kd_step; (try unfold zb); grind), (fun h9 => by first | rfl | (revert h9; unfold kd_step; (try unfold zb); grind))⟩ ⟨Nat.le_of_ble_eq_true rfl, Nat.le_of_ble_eq_true rfl⟩ dX11_step_133
        · refine lv_iload_n hx hb dX11_step_76 rfl (lv_at hl 4 rfl) ?_
          refine lv_i2l (v := p2.toInt64) hx hb dX11_step_77 rfl ?_
          refine lv_lconst (v := ((0 : Int32).toInt64)) hx hb dX11_step_78 (by decide) ?_
          refine lv_ldc2 (own := RX11) (v := ((15 : Int32).toInt64)) hx hb hown (hts (.constantLong RX11 126 (15)) (by decide +kernel)) dX11_step_79 ?_
          refine zcS_i (As := [.long (p2.toInt64), .long ((0 : Int32).toInt64), .long ((15 : Int32).toInt64)]) (rest := []) (n9 := 3) C hw (c_X11_in l D y base (zsI S 240 (b 0) 0) p2 (0 : Int32) (15 : Int32) ) gX11_step_X11_in rfl (by decide +kernel) ⟨⟨rfl, rfl⟩, Nat.le_of_ble_eq_true rfl, Nat.le_of_ble_eq_true rfl⟩ rfl hl.1 rfl (Nat.le_of_ble_eq_true rfl) ⟨Nat.le_of_ble_eq_true rfl, Nat.le_of_ble_eq_true rfl⟩ dX11_step_82 (fun r82 S82 H locs hp82 hw => ?_)
          obtain ⟨rfl, hS9⟩ := hp82
          have hS9 := hS9.symm
          subst hS9
          refine lv_if_eq (tgt := 92) hx hb dX11_step_85 (by decide) (fun c85 => ?_) (fun c85 => ?_)
          · replace c85 := zb0.mp c85
            refine lv_iconst (v := 0) hx hb dX11_step_92 (by decide) ?_
            refine lv_istore (lv' := [(5, .int 0), (4, .int 1), (0, .ref (b 0)), (1, .int p0), (2, .int p1), (3, .int p2)]) hx hb dX11_step_93 hl (by decide) rfl (fun ls hl => ?_)
            refine lv_aload_n hx hb dX11_step_95 rfl (lv_at hl 2 rfl) ?_
            refine lv_iload hx hb dX11_step_96 (lv_at hl 0 rfl) ?_
            refine lv_if_ne (tgt := 105) hx hb dX11_step_98 (by decide) (fun c98 => absurd c98 (by decide)) (fun _ => ?_)
            refine lv_iconst (v := 2) hx hb dX11_step_101 (by decide) ?_
            refine lv_goto (tgt := 122) hx hb dX11_step_102 (by decide) ?_
            refine p_Mod_thrown (a := (b 0)) (v := 2) C hw hM.1 in_X11 (by decide +kernel) dX11_step_122 (fun H locs hw => ?_)
            refine lv_aload_n hx hb dX11_step_125 rfl (lv_at hl 2 rfl) ?_
            refine g_Mod_thrown (a := (b 0)) (v := 2) C hw hM.1 in_X11 (by decide +kernel) (zI_s (zsI S 240 (b 0) 0) 240 (b 0) 2) dX11_step_126 ?_
            refine lv_if_le (tgt := 134) hx hb dX11_step_129 (by decide) (fun c129 => absurd c129 (by decide)) (fun _ => ?_)
            refine lv_iconst (v := 0) hx hb dX11_step_132 (by decide) ?_
            exact zri C hw hr hlocks rfl ⟨hM.1, ((zI_s (zsI S 240 (b 0) 0) 240 (b 0) 2)).trans (by unfold kd_step; (try unfold zb); grind), (fun h9 => by first | rfl | (revert h9; unfold kd_step; (try unfold zb); grind))⟩ ⟨Nat.le_of_ble_eq_true rfl, Nat.le_of_ble_eq_true rfl⟩ dX11_step_133
          · replace c85 := zb1.mp c85
            refine lv_iconst (v := 1) hx hb dX11_step_88 (by decide) ?_
            refine lv_goto (tgt := 93) hx hb dX11_step_89 (by decide) ?_
            refine lv_istore (lv' := [(5, .int 1), (4, .int 1), (0, .ref (b 0)), (1, .int p0), (2, .int p1), (3, .int p2)]) hx hb dX11_step_93 hl (by decide) rfl (fun ls hl => ?_)
            refine lv_aload_n hx hb dX11_step_95 rfl (lv_at hl 2 rfl) ?_
            refine lv_iload hx hb dX11_step_96 (lv_at hl 0 rfl) ?_
            refine lv_if_ne (tgt := 105) hx hb dX11_step_98 (by decide) (fun _ => ?_) (fun c98 => absurd c98 (by decide))
            refine lv_aload_n hx hb dX11_step_105 rfl (lv_at hl 2 rfl) ?_
            refine g_Mod_steps (a := (b 0)) (v := (b 4)) C hw hM.1 in_X11 (by decide +kernel) hM.2.2.2.2.1 dX11_step_106 ?_
            refine zcV_i (As := []) (rest := [.ref (b 0)]) (n9 := 0) (b := (b 4)) C hw (c_Jx4a65c_size_8abf5 l D y base (zsI S 240 (b 0) 0) (b 4) hM.2.2.2.2.2.2.2.2.2.2.2.2.2.1 (zI_t (S := S) (t := 240) (a := (b 0)) (v := 0) (t' := 50) (a' := (b 4)) (u := 0) (by decide) hM0.2.2.2.1)) gX11_step_Jx4a65c_size_8abf5 rfl (by decide +kernel) ⟨⟨rfl, rfl⟩, Nat.le_of_ble_eq_true rfl, Nat.le_of_ble_eq_true rfl⟩ hM.2.2.2.2.2.2.2.2.2.2.2.2.2.1 ⟨by decide, by decide⟩ rfl rfl hl.1 rfl (Nat.le_of_ble_eq_true rfl) ⟨Nat.le_of_ble_eq_true rfl, Nat.le_of_ble_eq_true rfl⟩ dX11_step_109 (fun r109 S109 H locs hp109 hw => ?_)
            obtain ⟨rfl, hS9⟩ := hp109
            have hS9 := hS9.symm
            subst hS9
            refine lv_bipush (v := 6) hx hb dX11_step_112 (by decide) ?_
            refine lv_icmp_ne (tgt := 121) hx hb dX11_step_114 (by decide) (fun _ => ?_) (fun c114 => absurd c114 (by decide))
            refine lv_iconst (v := 0) hx hb dX11_step_121 (by decide) ?_
            refine p_Mod_thrown (a := (b 0)) (v := 0) C hw hM.1 in_X11 (by decide +kernel) dX11_step_122 (fun H locs hw => ?_)
            refine lv_aload_n hx hb dX11_step_125 rfl (lv_at hl 2 rfl) ?_
            refine g_Mod_thrown (a := (b 0)) (v := 0) C hw hM.1 in_X11 (by decide +kernel) (zI_s (zsI S 240 (b 0) 0) 240 (b 0) 0) dX11_step_126 ?_
            refine lv_if_le (tgt := 134) hx hb dX11_step_129 (by decide) (fun _ => ?_) (fun c129 => absurd c129 (by decide))
            refine lv_aload_n hx hb dX11_step_134 rfl (lv_at hl 2 rfl) ?_
            refine g_Mod_steps (a := (b 0)) (v := (b 4)) C hw hM.1 in_X11 (by decide +kernel) hM.2.2.2.2.1 dX11_step_135 ?_
            refine znew (k := 14) (Cn := RX10) (T := TX10) (N := 3) C hw (by decide) (by decide) rfl in_X10 tyX10 tyX10_ok (by decide +kernel) (by decide +kernel) (by decide +kernel) (zdfX10) (Nat.le_of_ble_eq_true rfl) (Nat.le_of_ble_eq_true rfl) dX11_step_138 (fun q138 H kq138 hw => ?_)
            refine lv_dup hx hb dX11_step_141 rfl ?_
            refine lv_iload_n hx hb dX11_step_142 rfl (lv_at hl 3 rfl) ?_
            refine lv_iload_n hx hb dX11_step_143 rfl (lv_at hl 4 rfl) ?_
            refine lv_iload_n hx hb dX11_step_144 rfl (lv_at hl 5 rfl) ?_
            refine zcI_v (As := [.int p0, .int p1, .int p2]) (rest := [.ref q138, .ref (b 4)]) (n9 := 3) (b := q138) C hw (c_X10_init l D y base (znO (zsI (zsI S 240 (b 0) 0) 240 (b 0) 0) q138 14) q138 p0 p1 p2 (zK_nOs _ _ _) (by grind)) gX11_step_X10_init rfl (by decide +kernel) (by decide +kernel) (by decide +kernel) rfl (by decide +kernel) ⟨⟨rfl, rfl⟩, Nat.le_of_ble_eq_true rfl, Nat.le_of_ble_eq_true rfl⟩ rfl hl.1 rfl (Nat.le_of_ble_eq_true rfl) ⟨Nat.le_of_ble_eq_true rfl, Nat.le_of_ble_eq_true rfl⟩ dX11_step_145 (fun S145 H locs hp145 hw => ?_)
            have ga_27 := zGv.at hp145.1 (zK_nO (k := 14) (zne kq138 (fun e9 => absurd (Eq.trans (Eq.symm hM.1) e9) (by decide))) hM.1) (by decide) (by rw [show zK (znO (zsI (zsI S 240 (b 0) 0) 240 (b 0) 0) q138 14) q138 = 14 from (zK_nOs (zsI (zsI S 240 (b 0) 0) 240 (b 0) 0) q138 14)]; decide)
            have ga_28 := zGv.at hp145.1 (zK_nO (k := 14) (zne kq138 (fun e9 => absurd (Eq.trans (Eq.symm hM.2.2.2.2.2.2.2.1) e9) (by decide))) hM.2.2.2.2.2.2.2.1) (by decide) (by rw [show zK (znO (zsI (zsI S 240 (b 0) 0) 240 (b 0) 0) q138 14) q138 = 14 from (zK_nOs (zsI (zsI S 240 (b 0) 0) 240 (b 0) 0) q138 14)]; decide)
            have ga_29 := zGv.at hp145.1 (zK_nO (k := 14) (zne kq138 (fun e9 => absurd (Eq.trans (Eq.symm hM.2.2.2.2.2.2.2.2.2.1) e9) (by decide))) hM.2.2.2.2.2.2.2.2.2.1) (by decide) (by rw [show zK (znO (zsI (zsI S 240 (b 0) 0) 240 (b 0) 0) q138 14) q138 = 14 from (zK_nOs (zsI (zsI S 240 (b 0) 0) 240 (b 0) 0) q138 14)]; decide)
            have ga_30 := zGv.at hp145.1 (zK_nO (k := 14) (zne kq138 (fun e9 => absurd (Eq.trans (Eq.symm hM.2.2.2.2.2.2.2.2.2.2.2.1) e9) (by decide))) hM.2.2.2.2.2.2.2.2.2.2.2.1) (by decide) (by rw [show zK (znO (zsI (zsI S 240 (b 0) 0) 240 (b 0) 0) q138 14) q138 = 14 from (zK_nOs (zsI (zsI S 240 (b 0) 0) 240 (b 0) 0) q138 14)]; decide)
            have ga_31 := zGv.at hp145.1 (zK_nO (k := 14) (zne kq138 (fun e9 => absurd (Eq.trans (Eq.symm hM.2.2.2.2.2.2.2.2.2.2.2.2.2.1) e9) (by decide))) hM.2.2.2.2.2.2.2.2.2.2.2.2.2.1) (by decide) (by rw [show zK (znO (zsI (zsI S 240 (b 0) 0) 240 (b 0) 0) q138 14) q138 = 14 from (zK_nOs (zsI (zsI S 240 (b 0) 0) 240 (b 0) 0) q138 14)]; decide)
            have ga_32 := zGv.at hp145.1 (zK_nO (k := 14) (zne kq138 (fun e9 => absurd (Eq.trans (Eq.symm hM.2.2.2.2.2.2.2.2.2.2.2.2.2.2.1) e9) (by decide))) hM.2.2.2.2.2.2.2.2.2.2.2.2.2.2.1) (by decide) (by rw [show zK (znO (zsI (zsI S 240 (b 0) 0) 240 (b 0) 0) q138 14) q138 = 14 from (zK_nOs (zsI (zsI S 240 (b 0) 0) 240 (b 0) 0) q138 14)]; decide)
            have ga_33 := zGv.at hp145.1 (zK_nO (k := 14) (zne kq138 (fun e9 => absurd (Eq.trans (Eq.symm hM.2.2.2.2.2.2.2.2.2.2.2.2.2.2.2.1) e9) (by decide))) hM.2.2.2.2.2.2.2.2.2.2.2.2.2.2.2.1) (by decide) (by rw [show zK (znO (zsI (zsI S 240 (b 0) 0) 240 (b 0) 0) q138 14) q138 = 14 from (zK_nOs (zsI (zsI S 240 (b 0) 0) 240 (b 0) 0) q138 14)]; decide)
            refine zcV_i (As := [.ref q138]) (rest := []) (n9 := 1) (b := (b 4)) C hw (c_Jx4a65c_add_9ea2d l D y base S145 (b 4) q138 ga_31.1 ((ga_31.2.1 50).1.trans (zI_nO (k := 14) (zne kq138 (fun e9 => absurd (Eq.trans (Eq.symm hM.2.2.2.2.2.2.2.2.2.2.2.2.2.1) e9) (by decide))) (zI_t (S := (zsI S 240 (b 0) 0)) (t := 240) (a := (b 0)) (v := 0) (t' := 50) (a' := (b 4)) (u := 0) (by decide) (zI_t (S := S) (t := 240) (a := (b 0)) (v := 0) (t' := 50) (a' := (b 4)) (u := 0) (by decide) hM0.2.2.2.1)))) ((ga_31.2.1 49).2.trans (zQ_nO (k := 14) (zne kq138 (fun e9 => absurd (Eq.trans (Eq.symm hM.2.2.2.2.2.2.2.2.2.2.2.2.2.1) e9) (by decide))) hF)) hp145.2) gX11_step_Jx4a65c_add_9ea2d rfl (by decide +kernel) ⟨⟨rfl, rfl⟩, Nat.le_of_ble_eq_true rfl, Nat.le_of_ble_eq_true rfl⟩ ga_31.1 ⟨by decide, by decide⟩ rfl rfl hl.1 rfl (Nat.le_of_ble_eq_true rfl) ⟨Nat.le_of_ble_eq_true rfl, Nat.le_of_ble_eq_true rfl⟩ dX11_step_148 (fun r148 S148 H locs hp148 hw => ?_)
            obtain ⟨rfl, a9x⟩ := hp148
            have ga_34 := zGv.at a9x.1 ga_27.1 (by decide) (by rw [show zK S145 (b 4) = 3 from ga_31.1]; decide)
            have ga_35 := zGv.at a9x.1 ga_28.1 (by decide) (by rw [show zK S145 (b 4) = 3 from ga_31.1]; decide)
            have ga_36 := zGv.at a9x.1 ga_29.1 (by decide) (by rw [show zK S145 (b 4) = 3 from ga_31.1]; decide)
            have ga_37 := zGv.at a9x.1 ga_30.1 (by decide) (by rw [show zK S145 (b 4) = 3 from ga_31.1]; decide)
            have ga_38 := zGv.at a9x.1 ga_33.1 (by decide) (by rw [show zK S145 (b 4) = 3 from ga_31.1]; decide)
            have ga_39 := zGv.at a9x.1 hp145.2 (by decide) (by rw [show zK S145 (b 4) = 3 from ga_31.1]; decide)
            refine lv_pop hx hb dX11_step_151 rfl ?_
            refine lv_aload_n hx hb dX11_step_152 rfl (lv_at hl 2 rfl) ?_
            refine g_Mod_steps (a := (b 0)) (v := (b 4)) C hw ga_34.1 in_X11 (by decide +kernel) ((ga_34.2.1 247).2.trans ((ga_27.2.1 247).2.trans (zQ_nO (k := 14) (zne kq138 (fun e9 => absurd (Eq.trans (Eq.symm hM.1) e9) (by decide))) hM.2.2.2.2.1))) dX11_step_153 ?_
            refine zcV_i (As := []) (rest := []) (n9 := 0) (b := (b 4)) C hw (c_Jx4a65c_size_v l D y base S148 (b 4) 1 a9x.2.1 a9x.2.2) gX11_step_Jx4a65c_size_8abf5 rfl (by decide +kernel) ⟨⟨rfl, rfl⟩, Nat.le_of_ble_eq_true rfl, Nat.le_of_ble_eq_true rfl⟩ a9x.2.1 ⟨by decide, by decide⟩ rfl rfl hl.1 rfl (Nat.le_of_ble_eq_true rfl) ⟨Nat.le_of_ble_eq_true rfl, Nat.le_of_ble_eq_true rfl⟩ dX11_step_156 (fun r156 S156 H locs hp156 hw => ?_)
            obtain ⟨rfl, hS9⟩ := hp156
            have hS9 := hS9.symm
            subst hS9
            exact zri C hw hr hlocks rfl ⟨ga_34.1, (((ga_34.2.1 240).1.trans ((ga_27.2.1 240).1.trans (zI_nO (k := 14) (zne kq138 (fun e9 => absurd (Eq.trans (Eq.symm hM.1) e9) (by decide))) (zI_s (zsI S 240 (b 0) 0) 240 (b 0) 0))))).trans (by unfold kd_step; (try unfold zb); grind), (fun h9 => by first | rfl | (revert h9; unfold kd_step; (try unfold zb); grind))⟩ ⟨Nat.le_of_ble_eq_true rfl, Nat.le_of_ble_eq_true rfl⟩ dX11_step_159
  · refine lv_iload_n hx hb dX11_step_6 rfl (lv_at hl 1 rfl) ?_
    refine lv_bipush (v := 116) hx hb dX11_step_7 (by decide) ?_
    refine lv_icmp_ne (tgt := 16) hx hb dX11_step_9 (by decide) (fun c9 => ?_) (fun c9 => ?_)
    · refine lv_iconst (v := 0) hx hb dX11_step_16 (by decide) ?_
      refine lv_istore (lv' := [(4, .int 0), (0, .ref (b 0)), (1, .int p0), (2, .int p1), (3, .int p2)]) hx hb dX11_step_17 hl (by decide) rfl (fun ls hl => ?_)
      refine lv_aload_n hx hb dX11_step_19 rfl (lv_at hl 1 rfl) ?_
      refine lv_iload hx hb dX11_step_20 (lv_at hl 0 rfl) ?_
      refine lv_if_ne (tgt := 32) hx hb dX11_step_22 (by decide) (fun c22 => absurd c22 (by decide)) (fun _ => ?_)
      refine lv_iload_n hx hb dX11_step_25 rfl (lv_at hl 3 rfl) ?_
      refine zcS_i (As := [.int p1]) (rest := [.ref (b 0)]) (n9 := 1) C hw (c_X11_isWire l D y base S p1 ) gX11_step_X11_isWire rfl (by decide +kernel) ⟨⟨rfl, rfl⟩, Nat.le_of_ble_eq_true rfl, Nat.le_of_ble_eq_true rfl⟩ rfl hl.1 rfl (Nat.le_of_ble_eq_true rfl) ⟨Nat.le_of_ble_eq_true rfl, Nat.le_of_ble_eq_true rfl⟩ dX11_step_26 (fun r26 S26 H locs hp26 hw => ?_)
      obtain ⟨rfl, hS9⟩ := hp26
      have hS9 := hS9.symm
      subst hS9
      refine lv_if_eq (tgt := 36) hx hb dX11_step_29 (by decide) (fun c29 => ?_) (fun c29 => ?_)
      · replace c29 := zb0.mp c29
        refine lv_iconst (v := 1) hx hb dX11_step_36 (by decide) ?_
        refine p_Mod_thrown (a := (b 0)) (v := 1) C hw hM.1 in_X11 (by decide +kernel) dX11_step_37 (fun H locs hw => ?_)
        refine lv_aload_n hx hb dX11_step_40 rfl (lv_at hl 1 rfl) ?_
        refine g_Mod_thrown (a := (b 0)) (v := 1) C hw hM.1 in_X11 (by decide +kernel) (zI_s S 240 (b 0) 1) dX11_step_41 ?_
        refine lv_if_le (tgt := 49) hx hb dX11_step_44 (by decide) (fun c44 => absurd c44 (by decide)) (fun _ => ?_)
        refine lv_iconst (v := 0) hx hb dX11_step_47 (by decide) ?_
        exact zri C hw hr hlocks rfl ⟨hM.1, ((zI_s S 240 (b 0) 1)).trans (by unfold kd_step; (try unfold zb); grind), (fun h9 => by first | rfl | (revert h9; unfold kd_step; (try unfold zb); grind))⟩ ⟨Nat.le_of_ble_eq_true rfl, Nat.le_of_ble_eq_true rfl⟩ dX11_step_48
      · replace c29 := zb1.mp c29
        refine lv_iconst (v := 0) hx hb dX11_step_32 (by decide) ?_
        refine lv_goto (tgt := 37) hx hb dX11_step_33 (by decide) ?_
        refine p_Mod_thrown (a := (b 0)) (v := 0) C hw hM.1 in_X11 (by decide +kernel) dX11_step_37 (fun H locs hw => ?_)
        refine lv_aload_n hx hb dX11_step_40 rfl (lv_at hl 1 rfl) ?_
        refine g_Mod_thrown (a := (b 0)) (v := 0) C hw hM.1 in_X11 (by decide +kernel) (zI_s S 240 (b 0) 0) dX11_step_41 ?_
        refine lv_if_le (tgt := 49) hx hb dX11_step_44 (by decide) (fun _ => ?_) (fun c44 => absurd c44 (by decide))
        refine zldcS C hw rfl dX11_step_49 ?_
        refine lv_iload_n hx hb dX11_step_51 rfl (lv_at hl 2 rfl) ?_
        refine zcVS_i (As := [.int p0]) (rest := []) (n9 := 1) C hw (c_J0_indexOf_0f7a4 l D y base (zsI S 240 (b 0) 0) p0 ) gX11_step_J0_indexOf_0f7a4 rfl (by decide +kernel) ⟨⟨rfl, rfl⟩, Nat.le_of_ble_eq_true rfl, Nat.le_of_ble_eq_true rfl⟩ rfl hl.1 rfl (Nat.le_of_ble_eq_true rfl) ⟨Nat.le_of_ble_eq_true rfl, Nat.le_of_ble_eq_true rfl⟩ dX11_step_52 (fun r52 S52 H locs hp52 hw => ?_)
        obtain ⟨hp52, hS9⟩ := hp52
        have hS9 := hS9.symm
        subst hS9
        refine lv_if_lt (tgt := 70) hx hb dX11_step_55 (by decide) (fun c55 => ?_) (fun c55 => ?_)
        · refine lv_iload_n hx hb dX11_step_70 rfl (lv_at hl 2 rfl) ?_
          refine lv_bipush (v := 112) hx hb dX11_step_71 (by decide) ?_
          refine lv_icmp_ne (tgt := 92) hx hb dX11_step_73 (by decide) (fun c73 => ?_) (fun c73 => ?_)
          · refine lv_iconst (v := 0) hx hb dX11_step_92 (by decide) ?_
            refine lv_istore (lv' := [(5, .int 0), (4, .int 0), (0, .ref (b 0)), (1, .int p0), (2, .int p1), (3, .int p2)]) hx hb dX11_step_93 hl (by decide) rfl (fun ls hl => ?_)
            refine lv_aload_n hx hb dX11_step_95 rfl (lv_at hl 2 rfl) ?_
            refine lv_iload hx hb dX11_step_96 (lv_at hl 0 rfl) ?_
            refine lv_if_ne (tgt := 105) hx hb dX11_step_98 (by decide) (fun c98 => absurd c98 (by decide)) (fun _ => ?_)
            refine lv_iconst (v := 2) hx hb dX11_step_101 (by decide) ?_
            refine lv_goto (tgt := 122) hx hb dX11_step_102 (by decide) ?_
            refine p_Mod_thrown (a := (b 0)) (v := 2) C hw hM.1 in_X11 (by decide +kernel) dX11_step_122 (fun H locs hw => ?_)
            refine lv_aload_n hx hb dX11_step_125 rfl (lv_at hl 2 rfl) ?_
            refine g_Mod_thrown (a := (b 0)) (v := 2) C hw hM.1 in_X11 (by decide +kernel) (zI_s (zsI S 240 (b 0) 0) 240 (b 0) 2) dX11_step_126 ?_
            refine lv_if_le (tgt := 134) hx hb dX11_step_129 (by decide) (fun c129 => absurd c129 (by decide)) (fun _ => ?_)
            refine lv_iconst (v := 0) hx hb dX11_step_132 (by decide) ?_
            exact zri C hw hr hlocks rfl ⟨hM.1, ((zI_s (zsI S 240 (b 0) 0) 240 (b 0) 2)).trans (by unfold kd_step; (try unfold zb); grind), (fun h9 => by first | rfl | (revert h9; unfold kd_step; (try unfold zb); grind))⟩ ⟨Nat.le_of_ble_eq_true rfl, Nat.le_of_ble_eq_true rfl⟩ dX11_step_133
          · refine lv_iload_n hx hb dX11_step_76 rfl (lv_at hl 4 rfl) ?_
            refine lv_i2l (v := p2.toInt64) hx hb dX11_step_77 rfl ?_
            refine lv_lconst (v := ((0 : Int32).toInt64)) hx hb dX11_step_78 (by decide) ?_
            refine lv_ldc2 (own := RX11) (v := ((15 : Int32).toInt64)) hx hb hown (hts (.constantLong RX11 126 (15)) (by decide +kernel)) dX11_step_79 ?_
            refine zcS_i (As := [.long (p2.toInt64), .long ((0 : Int32).toInt64), .long ((15 : Int32).toInt64)]) (rest := []) (n9 := 3) C hw (c_X11_in l D y base (zsI S 240 (b 0) 0) p2 (0 : Int32) (15 : Int32) ) gX11_step_X11_in rfl (by decide +kernel) ⟨⟨rfl, rfl⟩, Nat.le_of_ble_eq_true rfl, Nat.le_of_ble_eq_true rfl⟩ rfl hl.1 rfl (Nat.le_of_ble_eq_true rfl) ⟨Nat.le_of_ble_eq_true rfl, Nat.le_of_ble_eq_true rfl⟩ dX11_step_82 (fun r82 S82 H locs hp82 hw => ?_)
            obtain ⟨rfl, hS9⟩ := hp82
            have hS9 := hS9.symm
            subst hS9
            refine lv_if_eq (tgt := 92) hx hb dX11_step_85 (by decide) (fun c85 => ?_) (fun c85 => ?_)
            · replace c85 := zb0.mp c85
              refine lv_iconst (v := 0) hx hb dX11_step_92 (by decide) ?_
              refine lv_istore (lv' := [(5, .int 0), (4, .int 0), (0, .ref (b 0)), (1, .int p0), (2, .int p1), (3, .int p2)]) hx hb dX11_step_93 hl (by decide) rfl (fun ls hl => ?_)
              refine lv_aload_n hx hb dX11_step_95 rfl (lv_at hl 2 rfl) ?_
              refine lv_iload hx hb dX11_step_96 (lv_at hl 0 rfl) ?_
              refine lv_if_ne (tgt := 105) hx hb dX11_step_98 (by decide) (fun c98 => absurd c98 (by decide)) (fun _ => ?_)
              refine lv_iconst (v := 2) hx hb dX11_step_101 (by decide) ?_
              refine lv_goto (tgt := 122) hx hb dX11_step_102 (by decide) ?_
              refine p_Mod_thrown (a := (b 0)) (v := 2) C hw hM.1 in_X11 (by decide +kernel) dX11_step_122 (fun H locs hw => ?_)
              refine lv_aload_n hx hb dX11_step_125 rfl (lv_at hl 2 rfl) ?_
              refine g_Mod_thrown (a := (b 0)) (v := 2) C hw hM.1 in_X11 (by decide +kernel) (zI_s (zsI S 240 (b 0) 0) 240 (b 0) 2) dX11_step_126 ?_
              refine lv_if_le (tgt := 134) hx hb dX11_step_129 (by decide) (fun c129 => absurd c129 (by decide)) (fun _ => ?_)
              refine lv_iconst (v := 0) hx hb dX11_step_132 (by decide) ?_
              exact zri C hw hr hlocks rfl ⟨hM.1, ((zI_s (zsI S 240 (b 0) 0) 240 (b 0) 2)).trans (by unfold kd_step; (try unfold zb); grind), (fun h9 => by first | rfl | (revert h9; unfold kd_step; (try unfold zb); grind))⟩ ⟨Nat.le_of_ble_eq_true rfl, Nat.le_of_ble_eq_true rfl⟩ dX11_step_133
            · replace c85 := zb1.mp c85
              refine lv_iconst (v := 1) hx hb dX11_step_88 (by decide) ?_
              refine lv_goto (tgt := 93) hx hb dX11_step_89 (by decide) ?_
              refine lv_istore (lv' := [(5, .int 1), (4, .int 0), (0, .ref (b 0)), (1, .int p0), (2, .int p1), (3, .int p2)]) hx hb dX11_step_93 hl (by decide) rfl (fun ls hl => ?_)
              refine lv_aload_n hx hb dX11_step_95 rfl (lv_at hl 2 rfl) ?_
              refine lv_iload hx hb dX11_step_96 (lv_at hl 0 rfl) ?_
              refine lv_if_ne (tgt := 105) hx hb dX11_step_98 (by decide) (fun _ => ?_) (fun c98 => absurd c98 (by decide))
              refine lv_aload_n hx hb dX11_step_105 rfl (lv_at hl 2 rfl) ?_
              refine g_Mod_steps (a := (b 0)) (v := (b 4)) C hw hM.1 in_X11 (by decide +kernel) hM.2.2.2.2.1 dX11_step_106 ?_
              refine zcV_i (As := []) (rest := [.ref (b 0)]) (n9 := 0) (b := (b 4)) C hw (c_Jx4a65c_size_8abf5 l D y base (zsI S 240 (b 0) 0) (b 4) hM.2.2.2.2.2.2.2.2.2.2.2.2.2.1 (zI_t (S := S) (t := 240) (a := (b 0)) (v := 0) (t' := 50) (a' := (b 4)) (u := 0) (by decide) hM0.2.2.2.1)) gX11_step_Jx4a65c_size_8abf5 rfl (by decide +kernel) ⟨⟨rfl, rfl⟩, Nat.le_of_ble_eq_true rfl, Nat.le_of_ble_eq_true rfl⟩ hM.2.2.2.2.2.2.2.2.2.2.2.2.2.1 ⟨by decide, by decide⟩ rfl rfl hl.1 rfl (Nat.le_of_ble_eq_true rfl) ⟨Nat.le_of_ble_eq_true rfl, Nat.le_of_ble_eq_true rfl⟩ dX11_step_109 (fun r109 S109 H locs hp109 hw => ?_)
              obtain ⟨rfl, hS9⟩ := hp109
              have hS9 := hS9.symm
              subst hS9
              refine lv_bipush (v := 6) hx hb dX11_step_112 (by decide) ?_
              refine lv_icmp_ne (tgt := 121) hx hb dX11_step_114 (by decide) (fun _ => ?_) (fun c114 => absurd c114 (by decide))
              refine lv_iconst (v := 0) hx hb dX11_step_121 (by decide) ?_
              refine p_Mod_thrown (a := (b 0)) (v := 0) C hw hM.1 in_X11 (by decide +kernel) dX11_step_122 (fun H locs hw => ?_)
              refine lv_aload_n hx hb dX11_step_125 rfl (lv_at hl 2 rfl) ?_
              refine g_Mod_thrown (a := (b 0)) (v := 0) C hw hM.1 in_X11 (by decide +kernel) (zI_s (zsI S 240 (b 0) 0) 240 (b 0) 0) dX11_step_126 ?_
              refine lv_if_le (tgt := 134) hx hb dX11_step_129 (by decide) (fun _ => ?_) (fun c129 => absurd c129 (by decide))
              refine lv_aload_n hx hb dX11_step_134 rfl (lv_at hl 2 rfl) ?_
              refine g_Mod_steps (a := (b 0)) (v := (b 4)) C hw hM.1 in_X11 (by decide +kernel) hM.2.2.2.2.1 dX11_step_135 ?_
              refine znew (k := 14) (Cn := RX10) (T := TX10) (N := 3) C hw (by decide) (by decide) rfl in_X10 tyX10 tyX10_ok (by decide +kernel) (by decide +kernel) (by decide +kernel) (zdfX10) (Nat.le_of_ble_eq_true rfl) (Nat.le_of_ble_eq_true rfl) dX11_step_138 (fun q138 H kq138 hw => ?_)
              refine lv_dup hx hb dX11_step_141 rfl ?_
              refine lv_iload_n hx hb dX11_step_142 rfl (lv_at hl 3 rfl) ?_
              refine lv_iload_n hx hb dX11_step_143 rfl (lv_at hl 4 rfl) ?_
              refine lv_iload_n hx hb dX11_step_144 rfl (lv_at hl 5 rfl) ?_
              refine zcI_v (As := [.int p0, .int p1, .int p2]) (rest := [.ref q138, .ref (b 4)]) (n9 := 3) (b := q138) C hw (c_X10_init l D y base (znO (zsI (zsI S 240 (b 0) 0) 240 (b 0) 0) q138 14) q138 p0 p1 p2 (zK_nOs _ _ _) (by grind)) gX11_step_X10_init rfl (by decide +kernel) (by decide +kernel) (by decide +kernel) rfl (by decide +kernel) ⟨⟨rfl, rfl⟩, Nat.le_of_ble_eq_true rfl, Nat.le_of_ble_eq_true rfl⟩ rfl hl.1 rfl (Nat.le_of_ble_eq_true rfl) ⟨Nat.le_of_ble_eq_true rfl, Nat.le_of_ble_eq_true rfl⟩ dX11_step_145 (fun S145 H locs hp145 hw => ?_)
              have ga_40 := zGv.at hp145.1 (zK_nO (k := 14) (zne kq138 (fun e9 => absurd (Eq.trans (Eq.symm hM.1) e9) (by decide))) hM.1) (by decide) (by rw [show zK (znO (zsI (zsI S 240 (b 0) 0) 240 (b 0) 0) q138 14) q138 = 14 from (zK_nOs (zsI (zsI S 240 (b 0) 0) 240 (b 0) 0) q138 14)]; decide)
              have ga_41 := zGv.at hp145.1 (zK_nO (k := 14) (zne kq138 (fun e9 => absurd (Eq.trans (Eq.symm hM.2.2.2.2.2.2.2.1) e9) (by decide))) hM.2.2.2.2.2.2.2.1) (by decide) (by rw [show zK (znO (zsI (zsI S 240 (b 0) 0) 240 (b 0) 0) q138 14) q138 = 14 from (zK_nOs (zsI (zsI S 240 (b 0) 0) 240 (b 0) 0) q138 14)]; decide)
              have ga_42 := zGv.at hp145.1 (zK_nO (k := 14) (zne kq138 (fun e9 => absurd (Eq.trans (Eq.symm hM.2.2.2.2.2.2.2.2.2.1) e9) (by decide))) hM.2.2.2.2.2.2.2.2.2.1) (by decide) (by rw [show zK (znO (zsI (zsI S 240 (b 0) 0) 240 (b 0) 0) q138 14) q138 = 14 from (zK_nOs (zsI (zsI S 240 (b 0) 0) 240 (b 0) 0) q138 14)]; decide)
              have ga_43 := zGv.at hp145.1 (zK_nO (k := 14) (zne kq138 (fun e9 => absurd (Eq.trans (Eq.symm hM.2.2.2.2.2.2.2.2.2.2.2.1) e9) (by decide))) hM.2.2.2.2.2.2.2.2.2.2.2.1) (by decide) (by rw [show zK (znO (zsI (zsI S 240 (b 0) 0) 240 (b 0) 0) q138 14) q138 = 14 from (zK_nOs (zsI (zsI S 240 (b 0) 0) 240 (b 0) 0) q138 14)]; decide)
              have ga_44 := zGv.at hp145.1 (zK_nO (k := 14) (zne kq138 (fun e9 => absurd (Eq.trans (Eq.symm hM.2.2.2.2.2.2.2.2.2.2.2.2.2.1) e9) (by decide))) hM.2.2.2.2.2.2.2.2.2.2.2.2.2.1) (by decide) (by rw [show zK (znO (zsI (zsI S 240 (b 0) 0) 240 (b 0) 0) q138 14) q138 = 14 from (zK_nOs (zsI (zsI S 240 (b 0) 0) 240 (b 0) 0) q138 14)]; decide)
              have ga_45 := zGv.at hp145.1 (zK_nO (k := 14) (zne kq138 (fun e9 => absurd (Eq.trans (Eq.symm hM.2.2.2.2.2.2.2.2.2.2.2.2.2.2.1) e9) (by decide))) hM.2.2.2.2.2.2.2.2.2.2.2.2.2.2.1) (by decide) (by rw [show zK (znO (zsI (zsI S 240 (b 0) 0) 240 (b 0) 0) q138 14) q138 = 14 from (zK_nOs (zsI (zsI S 240 (b 0) 0) 240 (b 0) 0) q138 14)]; decide)
              have ga_46 := zGv.at hp145.1 (zK_nO (k := 14) (zne kq138 (fun e9 => absurd (Eq.trans (Eq.symm hM.2.2.2.2.2.2.2.2.2.2.2.2.2.2.2.1) e9) (by decide))) hM.2.2.2.2.2.2.2.2.2.2.2.2.2.2.2.1) (by decide) (by rw [show zK (znO (zsI (zsI S 240 (b 0) 0) 240 (b 0) 0) q138 14) q138 = 14 from (zK_nOs (zsI (zsI S 240 (b 0) 0) 240 (b 0) 0) q138 14)]; decide)
              refine zcV_i (As := [.ref q138]) (rest := []) (n9 := 1) (b := (b 4)) C hw (c_Jx4a65c_add_9ea2d l D y base S145 (b 4) q138 ga_44.1 ((ga_44.2.1 50).1.trans (zI_nO (k := 14) (zne kq138 (fun e9 => absurd (Eq.trans (Eq.symm hM.2.2.2.2.2.2.2.2.2.2.2.2.2.1) e9) (by decide))) (zI_t (S := (zsI S 240 (b 0) 0)) (t := 240) (a := (b 0)) (v := 0) (t' := 50) (a' := (b 4)) (u := 0) (by decide) (zI_t (S := S) (t := 240) (a := (b 0)) (v := 0) (t' := 50) (a' := (b 4)) (u := 0) (by decide) hM0.2.2.2.1)))) ((ga_44.2.1 49).2.trans (zQ_nO (k := 14) (zne kq138 (fun e9 => absurd (Eq.trans (Eq.symm hM.2.2.2.2.2.2.2.2.2.2.2.2.2.1) e9) (by decide))) hF)) hp145.2) gX11_step_Jx4a65c_add_9ea2d rfl (by decide +kernel) ⟨⟨rfl, rfl⟩, Nat.le_of_ble_eq_true rfl, Nat.le_of_ble_eq_true rfl⟩ ga_44.1 ⟨by decide, by decide⟩ rfl rfl hl.1 rfl (Nat.le_of_ble_eq_true rfl) ⟨Nat.le_of_ble_eq_true rfl, Nat.le_of_ble_eq_true rfl⟩ dX11_step_148 (fun r148 S148 H locs hp148 hw => ?_)
              obtain ⟨rfl, a9x⟩ := hp148
              have ga_47 := zGv.at a9x.1 ga_40.1 (by decide) (by rw [show zK S145 (b 4) = 3 from ga_44.1]; decide)
              have ga_48 := zGv.at a9x.1 ga_41.1 (by decide) (by rw [show zK S145 (b 4) = 3 from ga_44.1]; decide)
              have ga_49 := zGv.at a9x.1 ga_42.1 (by decide) (by rw [show zK S145 (b 4) = 3 from ga_44.1]; decide)
              have ga_50 := zGv.at a9x.1 ga_43.1 (by decide) (by rw [show zK S145 (b 4) = 3 from ga_44.1]; decide)
              have ga_51 := zGv.at a9x.1 ga_46.1 (by decide) (by rw [show zK S145 (b 4) = 3 from ga_44.1]; decide)
              have ga_52 := zGv.at a9x.1 hp145.2 (by decide) (by rw [show zK S145 (b 4) = 3 from ga_44.1]; decide)
              refine lv_pop hx hb dX11_step_151 rfl ?_
              refine lv_aload_n hx hb dX11_step_152 rfl (lv_at hl 2 rfl) ?_
              refine g_Mod_steps (a := (b 0)) (v := (b 4)) C hw ga_47.1 in_X11 (by decide +kernel) ((ga_47.2.1 247).2.trans ((ga_40.2.1 247).2.trans (zQ_nO (k := 14) (zne kq138 (fun e9 => absurd (Eq.trans (Eq.symm hM.1) e9) (by decide))) hM.2.2.2.2.1))) dX11_step_153 ?_
              refine zcV_i (As := []) (rest := []) (n9 := 0) (b := (b 4)) C hw (c_Jx4a65c_size_v l D y base S148 (b 4) 1 a9x.2.1 a9x.2.2) gX11_step_Jx4a65c_size_8abf5 rfl (by decide +kernel) ⟨⟨rfl, rfl⟩, Nat.le_of_ble_eq_true rfl, Nat.le_of_ble_eq_true rfl⟩ a9x.2.1 ⟨by decide, by decide⟩ rfl rfl hl.1 rfl (Nat.le_of_ble_eq_true rfl) ⟨Nat.le_of_ble_eq_true rfl, Nat.le_of_ble_eq_true rfl⟩ dX11_step_156 (fun r156 S156 H locs hp156 hw => ?_)
              obtain ⟨rfl, hS9⟩ := hp156
              have hS9 := hS9.symm
              subst hS9
              exact zri C hw hr hlocks rfl ⟨ga_47.1, (((ga_47.2.1 240).1.trans ((ga_40.2.1 240).1.trans (zI_nO (k := 14) (zne kq138 (fun e9 => absurd (Eq.trans (Eq.symm hM.1) e9) (by decide))) (zI_s (zsI S 240 (b 0) 0) 240 (b 0) 0))))).trans (by unfold kd_step; (try unfold zb); grind), (fun h9 => by first | rfl | (revert h9; unfold kd_step; (try unfold zb); grind))⟩ ⟨Nat.le_of_ble_eq_true rfl, Nat.le_of_ble_eq_true rfl⟩ dX11_step_159
        · refine lv_iload_n hx hb dX11_step_58 rfl (lv_at hl 4 rfl) ?_
          refine lv_i2l (v := p2.toInt64) hx hb dX11_step_59 rfl ?_
          refine lv_lconst (v := ((1 : Int32).toInt64)) hx hb dX11_step_60 (by decide) ?_
          refine lv_ldc2 (own := RX11) (v := ((400 : Int32).toInt64)) hx hb hown (hts (.constantLong RX11 131 (400)) (by decide +kernel)) dX11_step_61 ?_
          refine zcS_i (As := [.long (p2.toInt64), .long ((1 : Int32).toInt64), .long ((400 : Int32).toInt64)]) (rest := []) (n9 := 3) C hw (c_X11_in l D y base (zsI S 240 (b 0) 0) p2 (1 : Int32) (400 : Int32) ) gX11_step_X11_in rfl (by decide +kernel) ⟨⟨rfl, rfl⟩, Nat.le_of_ble_eq_true rfl, Nat.le_of_ble_eq_true rfl⟩ rfl hl.1 rfl (Nat.le_of_ble_eq_true rfl) ⟨Nat.le_of_ble_eq_true rfl, Nat.le_of_ble_eq_true rfl⟩ dX11_step_64 (fun r64 S64 H locs hp64 hw => ?_)
          obtain ⟨rfl, hS9⟩ := hp64
          have hS9 := hS9.symm
          subst hS9
          refine lv_if_ne (tgt := 88) hx hb dX11_step_67 (by decide) (fun c67 => ?_) (fun c67 => ?_)
          · replace c67 := zb1.mp c67
            refine lv_iconst (v := 1) hx hb dX11_step_88 (by decide) ?_
            refine lv_goto (tgt := 93) hx hb dX11_step_89 (by decide) ?_
            refine lv_istore (lv' := [(5, .int 1), (4, .int 0), (0, .ref (b 0)), (1, .int p0), (2, .int p1), (3, .int p2)]) hx hb dX11_step_93 hl (by decide) rfl (fun ls hl => ?_)
            refine lv_aload_n hx hb dX11_step_95 rfl (lv_at hl 2 rfl) ?_
            refine lv_iload hx hb dX11_step_96 (lv_at hl 0 rfl) ?_
            refine lv_if_ne (tgt := 105) hx hb dX11_step_98 (by decide) (fun _ => ?_) (fun c98 => absurd c98 (by decide))
            refine lv_aload_n hx hb dX11_step_105 rfl (lv_at hl 2 rfl) ?_
            refine g_Mod_steps (a := (b 0)) (v := (b 4)) C hw hM.1 in_X11 (by decide +kernel) hM.2.2.2.2.1 dX11_step_106 ?_
            refine zcV_i (As := []) (rest := [.ref (b 0)]) (n9 := 0) (b := (b 4)) C hw (c_Jx4a65c_size_8abf5 l D y base (zsI S 240 (b 0) 0) (b 4) hM.2.2.2.2.2.2.2.2.2.2.2.2.2.1 (zI_t (S := S) (t := 240) (a := (b 0)) (v := 0) (t' := 50) (a' := (b 4)) (u := 0) (by decide) hM0.2.2.2.1)) gX11_step_Jx4a65c_size_8abf5 rfl (by decide +kernel) ⟨⟨rfl, rfl⟩, Nat.le_of_ble_eq_true rfl, Nat.le_of_ble_eq_true rfl⟩ hM.2.2.2.2.2.2.2.2.2.2.2.2.2.1 ⟨by decide, by decide⟩ rfl rfl hl.1 rfl (Nat.le_of_ble_eq_true rfl) ⟨Nat.le_of_ble_eq_true rfl, Nat.le_of_ble_eq_true rfl⟩ dX11_step_109 (fun r109 S109 H locs hp109 hw => ?_)
            obtain ⟨rfl, hS9⟩ := hp109
            have hS9 := hS9.symm
            subst hS9
            refine lv_bipush (v := 6) hx hb dX11_step_112 (by decide) ?_
            refine lv_icmp_ne (tgt := 121) hx hb dX11_step_114 (by decide) (fun _ => ?_) (fun c114 => absurd c114 (by decide))
            refine lv_iconst (v := 0) hx hb dX11_step_121 (by decide) ?_
            refine p_Mod_thrown (a := (b 0)) (v := 0) C hw hM.1 in_X11 (by decide +kernel) dX11_step_122 (fun H locs hw => ?_)
            refine lv_aload_n hx hb dX11_step_125 rfl (lv_at hl 2 rfl) ?_
            refine g_Mod_thrown (a := (b 0)) (v := 0) C hw hM.1 in_X11 (by decide +kernel) (zI_s (zsI S 240 (b 0) 0) 240 (b 0) 0) dX11_step_126 ?_
            refine lv_if_le (tgt := 134) hx hb dX11_step_129 (by decide) (fun _ => ?_) (fun c129 => absurd c129 (by decide))
            refine lv_aload_n hx hb dX11_step_134 rfl (lv_at hl 2 rfl) ?_
            refine g_Mod_steps (a := (b 0)) (v := (b 4)) C hw hM.1 in_X11 (by decide +kernel) hM.2.2.2.2.1 dX11_step_135 ?_
            refine znew (k := 14) (Cn := RX10) (T := TX10) (N := 3) C hw (by decide) (by decide) rfl in_X10 tyX10 tyX10_ok (by decide +kernel) (by decide +kernel) (by decide +kernel) (zdfX10) (Nat.le_of_ble_eq_true rfl) (Nat.le_of_ble_eq_true rfl) dX11_step_138 (fun q138 H kq138 hw => ?_)
            refine lv_dup hx hb dX11_step_141 rfl ?_
            refine lv_iload_n hx hb dX11_step_142 rfl (lv_at hl 3 rfl) ?_
            refine lv_iload_n hx hb dX11_step_143 rfl (lv_at hl 4 rfl) ?_
            refine lv_iload_n hx hb dX11_step_144 rfl (lv_at hl 5 rfl) ?_
            refine zcI_v (As := [.int p0, .int p1, .int p2]) (rest := [.ref q138, .ref (b 4)]) (n9 := 3) (b := q138) C hw (c_X10_init l D y base (znO (zsI (zsI S 240 (b 0) 0) 240 (b 0) 0) q138 14) q138 p0 p1 p2 (zK_nOs _ _ _) (by grind)) gX11_step_X10_init rfl (by decide +kernel) (by decide +kernel) (by decide +kernel) rfl (by decide +kernel) ⟨⟨rfl, rfl⟩, Nat.le_of_ble_eq_true rfl, Nat.le_of_ble_eq_true rfl⟩ rfl hl.1 rfl (Nat.le_of_ble_eq_true rfl) ⟨Nat.le_of_ble_eq_true rfl, Nat.le_of_ble_eq_true rfl⟩ dX11_step_145 (fun S145 H locs hp145 hw => ?_)
            have ga_53 := zGv.at hp145.1 (zK_nO (k := 14) (zne kq138 (fun e9 => absurd (Eq.trans (Eq.symm hM.1) e9) (by decide))) hM.1) (by decide) (by rw [show zK (znO (zsI (zsI S 240 (b 0) 0) 240 (b 0) 0) q138 14) q138 = 14 from (zK_nOs (zsI (zsI S 240 (b 0) 0) 240 (b 0) 0) q138 14)]; decide)
            have ga_54 := zGv.at hp145.1 (zK_nO (k := 14) (zne kq138 (fun e9 => absurd (Eq.trans (Eq.symm hM.2.2.2.2.2.2.2.1) e9) (by decide))) hM.2.2.2.2.2.2.2.1) (by decide) (by rw [show zK (znO (zsI (zsI S 240 (b 0) 0) 240 (b 0) 0) q138 14) q138 = 14 from (zK_nOs (zsI (zsI S 240 (b 0) 0) 240 (b 0) 0) q138 14)]; decide)
            have ga_55 := zGv.at hp145.1 (zK_nO (k := 14) (zne kq138 (fun e9 => absurd (Eq.trans (Eq.symm hM.2.2.2.2.2.2.2.2.2.1) e9) (by decide))) hM.2.2.2.2.2.2.2.2.2.1) (by decide) (by rw [show zK (znO (zsI (zsI S 240 (b 0) 0) 240 (b 0) 0) q138 14) q138 = 14 from (zK_nOs (zsI (zsI S 240 (b 0) 0) 240 (b 0) 0) q138 14)]; decide)
            have ga_56 := zGv.at hp145.1 (zK_nO (k := 14) (zne kq138 (fun e9 => absurd (Eq.trans (Eq.symm hM.2.2.2.2.2.2.2.2.2.2.2.1) e9) (by decide))) hM.2.2.2.2.2.2.2.2.2.2.2.1) (by decide) (by rw [show zK (znO (zsI (zsI S 240 (b 0) 0) 240 (b 0) 0) q138 14) q138 = 14 from (zK_nOs (zsI (zsI S 240 (b 0) 0) 240 (b 0) 0) q138 14)]; decide)
            have ga_57 := zGv.at hp145.1 (zK_nO (k := 14) (zne kq138 (fun e9 => absurd (Eq.trans (Eq.symm hM.2.2.2.2.2.2.2.2.2.2.2.2.2.1) e9) (by decide))) hM.2.2.2.2.2.2.2.2.2.2.2.2.2.1) (by decide) (by rw [show zK (znO (zsI (zsI S 240 (b 0) 0) 240 (b 0) 0) q138 14) q138 = 14 from (zK_nOs (zsI (zsI S 240 (b 0) 0) 240 (b 0) 0) q138 14)]; decide)
            have ga_58 := zGv.at hp145.1 (zK_nO (k := 14) (zne kq138 (fun e9 => absurd (Eq.trans (Eq.symm hM.2.2.2.2.2.2.2.2.2.2.2.2.2.2.1) e9) (by decide))) hM.2.2.2.2.2.2.2.2.2.2.2.2.2.2.1) (by decide) (by rw [show zK (znO (zsI (zsI S 240 (b 0) 0) 240 (b 0) 0) q138 14) q138 = 14 from (zK_nOs (zsI (zsI S 240 (b 0) 0) 240 (b 0) 0) q138 14)]; decide)
            have ga_59 := zGv.at hp145.1 (zK_nO (k := 14) (zne kq138 (fun e9 => absurd (Eq.trans (Eq.symm hM.2.2.2.2.2.2.2.2.2.2.2.2.2.2.2.1) e9) (by decide))) hM.2.2.2.2.2.2.2.2.2.2.2.2.2.2.2.1) (by decide) (by rw [show zK (znO (zsI (zsI S 240 (b 0) 0) 240 (b 0) 0) q138 14) q138 = 14 from (zK_nOs (zsI (zsI S 240 (b 0) 0) 240 (b 0) 0) q138 14)]; decide)
            refine zcV_i (As := [.ref q138]) (rest := []) (n9 := 1) (b := (b 4)) C hw (c_Jx4a65c_add_9ea2d l D y base S145 (b 4) q138 ga_57.1 ((ga_57.2.1 50).1.trans (zI_nO (k := 14) (zne kq138 (fun e9 => absurd (Eq.trans (Eq.symm hM.2.2.2.2.2.2.2.2.2.2.2.2.2.1) e9) (by decide))) (zI_t (S := (zsI S 240 (b 0) 0)) (t := 240) (a := (b 0)) (v := 0) (t' := 50) (a' := (b 4)) (u := 0) (by decide) (zI_t (S := S) (t := 240) (a := (b 0)) (v := 0) (t' := 50) (a' := (b 4)) (u := 0) (by decide) hM0.2.2.2.1)))) ((ga_57.2.1 49).2.trans (zQ_nO (k := 14) (zne kq138 (fun e9 => absurd (Eq.trans (Eq.symm hM.2.2.2.2.2.2.2.2.2.2.2.2.2.1) e9) (by decide))) hF)) hp145.2) gX11_step_Jx4a65c_add_9ea2d rfl (by decide +kernel) ⟨⟨rfl, rfl⟩, Nat.le_of_ble_eq_true rfl, Nat.le_of_ble_eq_true rfl⟩ ga_57.1 ⟨by decide, by decide⟩ rfl rfl hl.1 rfl (Nat.le_of_ble_eq_true rfl) ⟨Nat.le_of_ble_eq_true rfl, Nat.le_of_ble_eq_true rfl⟩ dX11_step_148 (fun r148 S148 H locs hp148 hw => ?_)
            obtain ⟨rfl, a9x⟩ := hp148
            have ga_60 := zGv.at a9x.1 ga_53.1 (by decide) (by rw [show zK S145 (b 4) = 3 from ga_57.1]; decide)
            have ga_61 := zGv.at a9x.1 ga_54.1 (by decide) (by rw [show zK S145 (b 4) = 3 from ga_57.1]; decide)
            have ga_62 := zGv.at a9x.1 ga_55.1 (by decide) (by rw [show zK S145 (b 4) = 3 from ga_57.1]; decide)
            have ga_63 := zGv.at a9x.1 ga_56.1 (by decide) (by rw [show zK S145 (b 4) = 3 from ga_57.1]; decide)
            have ga_64 := zGv.at a9x.1 ga_59.1 (by decide) (by rw [show zK S145 (b 4) = 3 from ga_57.1]; decide)
            have ga_65 := zGv.at a9x.1 hp145.2 (by decide) (by rw [show zK S145 (b 4) = 3 from ga_57.1]; decide)
            refine lv_pop hx hb dX11_step_151 rfl ?_
            refine lv_aload_n hx hb dX11_step_152 rfl (lv_at hl 2 rfl) ?_
            refine g_Mod_steps (a := (b 0)) (v := (b 4)) C hw ga_60.1 in_X11 (by decide +kernel) ((ga_60.2.1 247).2.trans ((ga_53.2.1 247).2.trans (zQ_nO (k := 14) (zne kq138 (fun e9 => absurd (Eq.trans (Eq.symm hM.1) e9) (by decide))) hM.2.2.2.2.1))) dX11_step_153 ?_
            refine zcV_i (As := []) (rest := []) (n9 := 0) (b := (b 4)) C hw (c_Jx4a65c_size_v l D y base S148 (b 4) 1 a9x.2.1 a9x.2.2) gX11_step_Jx4a65c_size_8abf5 rfl (by decide +kernel) ⟨⟨rfl, rfl⟩, Nat.le_of_ble_eq_true rfl, Nat.le_of_ble_eq_true rfl⟩ a9x.2.1 ⟨by decide, by decide⟩ rfl rfl hl.1 rfl (Nat.le_of_ble_eq_true rfl) ⟨Nat.le_of_ble_eq_true rfl, Nat.le_of_ble_eq_true rfl⟩ dX11_step_156 (fun r156 S156 H locs hp156 hw => ?_)
            obtain ⟨rfl, hS9⟩ := hp156
            have hS9 := hS9.symm
            subst hS9
            exact zri C hw hr hlocks rfl ⟨ga_60.1, (((ga_60.2.1 240).1.trans ((ga_53.2.1 240).1.trans (zI_nO (k := 14) (zne kq138 (fun e9 => absurd (Eq.trans (Eq.symm hM.1) e9) (by decide))) (zI_s (zsI S 240 (b 0) 0) 240 (b 0) 0))))).trans (by unfold kd_step; (try unfold zb); grind), (fun h9 => by first | rfl | (revert h9; unfold kd_step; (try unfold zb); grind))⟩ ⟨Nat.le_of_ble_eq_true rfl, Nat.le_of_ble_eq_true rfl⟩ dX11_step_159
          · replace c67 := zb0.mp c67
            refine lv_iload_n hx hb dX11_step_70 rfl (lv_at hl 2 rfl) ?_
            refine lv_bipush (v := 112) hx hb dX11_step_71 (by decide) ?_
            refine lv_icmp_ne (tgt := 92) hx hb dX11_step_73 (by decide) (fun c73 => ?_) (fun c73 => ?_)
            · refine lv_iconst (v := 0) hx hb dX11_step_92 (by decide) ?_
              refine lv_istore (lv' := [(5, .int 0), (4, .int 0), (0, .ref (b 0)), (1, .int p0), (2, .int p1), (3, .int p2)]) hx hb dX11_step_93 hl (by decide) rfl (fun ls hl => ?_)
              refine lv_aload_n hx hb dX11_step_95 rfl (lv_at hl 2 rfl) ?_
              refine lv_iload hx hb dX11_step_96 (lv_at hl 0 rfl) ?_
              refine lv_if_ne (tgt := 105) hx hb dX11_step_98 (by decide) (fun c98 => absurd c98 (by decide)) (fun _ => ?_)
              refine lv_iconst (v := 2) hx hb dX11_step_101 (by decide) ?_
              refine lv_goto (tgt := 122) hx hb dX11_step_102 (by decide) ?_
              refine p_Mod_thrown (a := (b 0)) (v := 2) C hw hM.1 in_X11 (by decide +kernel) dX11_step_122 (fun H locs hw => ?_)
              refine lv_aload_n hx hb dX11_step_125 rfl (lv_at hl 2 rfl) ?_
              refine g_Mod_thrown (a := (b 0)) (v := 2) C hw hM.1 in_X11 (by decide +kernel) (zI_s (zsI S 240 (b 0) 0) 240 (b 0) 2) dX11_step_126 ?_
              refine lv_if_le (tgt := 134) hx hb dX11_step_129 (by decide) (fun c129 => absurd c129 (by decide)) (fun _ => ?_)
              refine lv_iconst (v := 0) hx hb dX11_step_132 (by decide) ?_
              exact zri C hw hr hlocks rfl ⟨hM.1, ((zI_s (zsI S 240 (b 0) 0) 240 (b 0) 2)).trans (by unfold kd_step; (try unfold zb); grind), (fun h9 => by first | rfl | (revert h9; unfold kd_step; (try unfold zb); grind))⟩ ⟨Nat.le_of_ble_eq_true rfl, Nat.le_of_ble_eq_true rfl⟩ dX11_step_133
            · refine lv_iload_n hx hb dX11_step_76 rfl (lv_at hl 4 rfl) ?_
              refine lv_i2l (v := p2.toInt64) hx hb dX11_step_77 rfl ?_
              refine lv_lconst (v := ((0 : Int32).toInt64)) hx hb dX11_step_78 (by decide) ?_
              refine lv_ldc2 (own := RX11) (v := ((15 : Int32).toInt64)) hx hb hown (hts (.constantLong RX11 126 (15)) (by decide +kernel)) dX11_step_79 ?_
              refine zcS_i (As := [.long (p2.toInt64), .long ((0 : Int32).toInt64), .long ((15 : Int32).toInt64)]) (rest := []) (n9 := 3) C hw (c_X11_in l D y base (zsI S 240 (b 0) 0) p2 (0 : Int32) (15 : Int32) ) gX11_step_X11_in rfl (by decide +kernel) ⟨⟨rfl, rfl⟩, Nat.le_of_ble_eq_true rfl, Nat.le_of_ble_eq_true rfl⟩ rfl hl.1 rfl (Nat.le_of_ble_eq_true rfl) ⟨Nat.le_of_ble_eq_true rfl, Nat.le_of_ble_eq_true rfl⟩ dX11_step_82 (fun r82 S82 H locs hp82 hw => ?_)
              obtain ⟨rfl, hS9⟩ := hp82
              have hS9 := hS9.symm
              subst hS9
              refine lv_if_eq (tgt := 92) hx hb dX11_step_85 (by decide) (fun c85 => ?_) (fun c85 => ?_)
              · replace c85 := zb0.mp c85
                refine lv_iconst (v := 0) hx hb dX11_step_92 (by decide) ?_
                refine lv_istore (lv' := [(5, .int 0), (4, .int 0), (0, .ref (b 0)), (1, .int p0), (2, .int p1), (3, .int p2)]) hx hb dX11_step_93 hl (by decide) rfl (fun ls hl => ?_)
                refine lv_aload_n hx hb dX11_step_95 rfl (lv_at hl 2 rfl) ?_
                refine lv_iload hx hb dX11_step_96 (lv_at hl 0 rfl) ?_
                refine lv_if_ne (tgt := 105) hx hb dX11_step_98 (by decide) (fun c98 => absurd c98 (by decide)) (fun _ => ?_)
                refine lv_iconst (v := 2) hx hb dX11_step_101 (by decide) ?_
                refine lv_goto (tgt := 122) hx hb dX11_step_102 (by decide) ?_
                refine p_Mod_thrown (a := (b 0)) (v := 2) C hw hM.1 in_X11 (by decide +kernel) dX11_step_122 (fun H locs hw => ?_)
                refine lv_aload_n hx hb dX11_step_125 rfl (lv_at hl 2 rfl) ?_
                refine g_Mod_thrown (a := (b 0)) (v := 2) C hw hM.1 in_X11 (by decide +kernel) (zI_s (zsI S 240 (b 0) 0) 240 (b 0) 2) dX11_step_126 ?_
                refine lv_if_le (tgt := 134) hx hb dX11_step_129 (by decide) (fun c129 => absurd c129 (by decide)) (fun _ => ?_)
                refine lv_iconst (v := 0) hx hb dX11_step_132 (by decide) ?_
                exact zri C hw hr hlocks rfl ⟨hM.1, ((zI_s (zsI S 240 (b 0) 0) 240 (b 0) 2)).trans (by unfold kd_step; (try unfold zb); grind), (fun h9 => by first | rfl | (revert h9; unfold kd_step; (try unfold zb); grind))⟩ ⟨Nat.le_of_ble_eq_true rfl, Nat.le_of_ble_eq_true rfl⟩ dX11_step_133
              · replace c85 := zb1.mp c85
                refine lv_iconst (v := 1) hx hb dX11_step_88 (by decide) ?_
                refine lv_goto (tgt := 93) hx hb dX11_step_89 (by decide) ?_
                refine lv_istore (lv' := [(5, .int 1), (4, .int 0), (0, .ref (b 0)), (1, .int p0), (2, .int p1), (3, .int p2)]) hx hb dX11_step_93 hl (by decide) rfl (fun ls hl => ?_)
                refine lv_aload_n hx hb dX11_step_95 rfl (lv_at hl 2 rfl) ?_
                refine lv_iload hx hb dX11_step_96 (lv_at hl 0 rfl) ?_
                refine lv_if_ne (tgt := 105) hx hb dX11_step_98 (by decide) (fun _ => ?_) (fun c98 => absurd c98 (by decide))
                refine lv_aload_n hx hb dX11_step_105 rfl (lv_at hl 2 rfl) ?_
                refine g_Mod_steps (a := (b 0)) (v := (b 4)) C hw hM.1 in_X11 (by decide +kernel) hM.2.2.2.2.1 dX11_step_106 ?_
                refine zcV_i (As := []) (rest := [.ref (b 0)]) (n9 := 0) (b := (b 4)) C hw (c_Jx4a65c_size_8abf5 l D y base (zsI S 240 (b 0) 0) (b 4) hM.2.2.2.2.2.2.2.2.2.2.2.2.2.1 (zI_t (S := S) (t := 240) (a := (b 0)) (v := 0) (t' := 50) (a' := (b 4)) (u := 0) (by decide) hM0.2.2.2.1)) gX11_step_Jx4a65c_size_8abf5 rfl (by decide +kernel) ⟨⟨rfl, rfl⟩, Nat.le_of_ble_eq_true rfl, Nat.le_of_ble_eq_true rfl⟩ hM.2.2.2.2.2.2.2.2.2.2.2.2.2.1 ⟨by decide, by decide⟩ rfl rfl hl.1 rfl (Nat.le_of_ble_eq_true rfl) ⟨Nat.le_of_ble_eq_true rfl, Nat.le_of_ble_eq_true rfl⟩ dX11_step_109 (fun r109 S109 H locs hp109 hw => ?_)
                obtain ⟨rfl, hS9⟩ := hp109
                have hS9 := hS9.symm
                subst hS9
                refine lv_bipush (v := 6) hx hb dX11_step_112 (by decide) ?_
                refine lv_icmp_ne (tgt := 121) hx hb dX11_step_114 (by decide) (fun _ => ?_) (fun c114 => absurd c114 (by decide))
                refine lv_iconst (v := 0) hx hb dX11_step_121 (by decide) ?_
                refine p_Mod_thrown (a := (b 0)) (v := 0) C hw hM.1 in_X11 (by decide +kernel) dX11_step_122 (fun H locs hw => ?_)
                refine lv_aload_n hx hb dX11_step_125 rfl (lv_at hl 2 rfl) ?_
                refine g_Mod_thrown (a := (b 0)) (v := 0) C hw hM.1 in_X11 (by decide +kernel) (zI_s (zsI S 240 (b 0) 0) 240 (b 0) 0) dX11_step_126 ?_
                refine lv_if_le (tgt := 134) hx hb dX11_step_129 (by decide) (fun _ => ?_) (fun c129 => absurd c129 (by decide))
                refine lv_aload_n hx hb dX11_step_134 rfl (lv_at hl 2 rfl) ?_
                refine g_Mod_steps (a := (b 0)) (v := (b 4)) C hw hM.1 in_X11 (by decide +kernel) hM.2.2.2.2.1 dX11_step_135 ?_
                refine znew (k := 14) (Cn := RX10) (T := TX10) (N := 3) C hw (by decide) (by decide) rfl in_X10 tyX10 tyX10_ok (by decide +kernel) (by decide +kernel) (by decide +kernel) (zdfX10) (Nat.le_of_ble_eq_true rfl) (Nat.le_of_ble_eq_true rfl) dX11_step_138 (fun q138 H kq138 hw => ?_)
                refine lv_dup hx hb dX11_step_141 rfl ?_
                refine lv_iload_n hx hb dX11_step_142 rfl (lv_at hl 3 rfl) ?_
                refine lv_iload_n hx hb dX11_step_143 rfl (lv_at hl 4 rfl) ?_
                refine lv_iload_n hx hb dX11_step_144 rfl (lv_at hl 5 rfl) ?_
                refine zcI_v (As := [.int p0, .int p1, .int p2]) (rest := [.ref q138, .ref (b 4)]) (n9 := 3) (b := q138) C hw (c_X10_init l D y base (znO (zsI (zsI S 240 (b 0) 0) 240 (b 0) 0) q138 14) q138 p0 p1 p2 (zK_nOs _ _ _) (by grind)) gX11_step_X10_init rfl (by decide +kernel) (by decide +kernel) (by decide +kernel) rfl (by decide +kernel) ⟨⟨rfl, rfl⟩, Nat.le_of_ble_eq_true rfl, Nat.le_of_ble_eq_true rfl⟩ rfl hl.1 rfl (Nat.le_of_ble_eq_true rfl) ⟨Nat.le_of_ble_eq_true rfl, Nat.le_of_ble_eq_true rfl⟩ dX11_step_145 (fun S145 H locs hp145 hw => ?_)
                have ga_66 := zGv.at hp145.1 (zK_nO (k := 14) (zne kq138 (fun e9 => absurd (Eq.trans (Eq.symm hM.1) e9) (by decide))) hM.1) (by decide) (by rw [show zK (znO (zsI (zsI S 240 (b 0) 0) 240 (b 0) 0) q138 14) q138 = 14 from (zK_nOs (zsI (zsI S 240 (b 0) 0) 240 (b 0) 0) q138 14)]; decide)
                have ga_67 := zGv.at hp145.1 (zK_nO (k := 14) (zne kq138 (fun e9 => absurd (Eq.trans (Eq.symm hM.2.2.2.2.2.2.2.1) e9) (by decide))) hM.2.2.2.2.2.2.2.1) (by decide) (by rw [show zK (znO (zsI (zsI S 240 (b 0) 0) 240 (b 0) 0) q138 14) q138 = 14 from (zK_nOs (zsI (zsI S 240 (b 0) 0) 240 (b 0) 0) q138 14)]; decide)
                have ga_68 := zGv.at hp145.1 (zK_nO (k := 14) (zne kq138 (fun e9 => absurd (Eq.trans (Eq.symm hM.2.2.2.2.2.2.2.2.2.1) e9) (by decide))) hM.2.2.2.2.2.2.2.2.2.1) (by decide) (by rw [show zK (znO (zsI (zsI S 240 (b 0) 0) 240 (b 0) 0) q138 14) q138 = 14 from (zK_nOs (zsI (zsI S 240 (b 0) 0) 240 (b 0) 0) q138 14)]; decide)
                have ga_69 := zGv.at hp145.1 (zK_nO (k := 14) (zne kq138 (fun e9 => absurd (Eq.trans (Eq.symm hM.2.2.2.2.2.2.2.2.2.2.2.1) e9) (by decide))) hM.2.2.2.2.2.2.2.2.2.2.2.1) (by decide) (by rw [show zK (znO (zsI (zsI S 240 (b 0) 0) 240 (b 0) 0) q138 14) q138 = 14 from (zK_nOs (zsI (zsI S 240 (b 0) 0) 240 (b 0) 0) q138 14)]; decide)
                have ga_70 := zGv.at hp145.1 (zK_nO (k := 14) (zne kq138 (fun e9 => absurd (Eq.trans (Eq.symm hM.2.2.2.2.2.2.2.2.2.2.2.2.2.1) e9) (by decide))) hM.2.2.2.2.2.2.2.2.2.2.2.2.2.1) (by decide) (by rw [show zK (znO (zsI (zsI S 240 (b 0) 0) 240 (b 0) 0) q138 14) q138 = 14 from (zK_nOs (zsI (zsI S 240 (b 0) 0) 240 (b 0) 0) q138 14)]; decide)
                have ga_71 := zGv.at hp145.1 (zK_nO (k := 14) (zne kq138 (fun e9 => absurd (Eq.trans (Eq.symm hM.2.2.2.2.2.2.2.2.2.2.2.2.2.2.1) e9) (by decide))) hM.2.2.2.2.2.2.2.2.2.2.2.2.2.2.1) (by decide) (by rw [show zK (znO (zsI (zsI S 240 (b 0) 0) 240 (b 0) 0) q138 14) q138 = 14 from (zK_nOs (zsI (zsI S 240 (b 0) 0) 240 (b 0) 0) q138 14)]; decide)
                have ga_72 := zGv.at hp145.1 (zK_nO (k := 14) (zne kq138 (fun e9 => absurd (Eq.trans (Eq.symm hM.2.2.2.2.2.2.2.2.2.2.2.2.2.2.2.1) e9) (by decide))) hM.2.2.2.2.2.2.2.2.2.2.2.2.2.2.2.1) (by decide) (by rw [show zK (znO (zsI (zsI S 240 (b 0) 0) 240 (b 0) 0) q138 14) q138 = 14 from (zK_nOs (zsI (zsI S 240 (b 0) 0) 240 (b 0) 0) q138 14)]; decide)
                refine zcV_i (As := [.ref q138]) (rest := []) (n9 := 1) (b := (b 4)) C hw (c_Jx4a65c_add_9ea2d l D y base S145 (b 4) q138 ga_70.1 ((ga_70.2.1 50).1.trans (zI_nO (k := 14) (zne kq138 (fun e9 => absurd (Eq.trans (Eq.symm hM.2.2.2.2.2.2.2.2.2.2.2.2.2.1) e9) (by decide))) (zI_t (S := (zsI S 240 (b 0) 0)) (t := 240) (a := (b 0)) (v := 0) (t' := 50) (a' := (b 4)) (u := 0) (by decide) (zI_t (S := S) (t := 240) (a := (b 0)) (v := 0) (t' := 50) (a' := (b 4)) (u := 0) (by decide) hM0.2.2.2.1)))) ((ga_70.2.1 49).2.trans (zQ_nO (k := 14) (zne kq138 (fun e9 => absurd (Eq.trans (Eq.symm hM.2.2.2.2.2.2.2.2.2.2.2.2.2.1) e9) (by decide))) hF)) hp145.2) gX11_step_Jx4a65c_add_9ea2d rfl (by decide +kernel) ⟨⟨rfl, rfl⟩, Nat.le_of_ble_eq_true rfl, Nat.le_of_ble_eq_true rfl⟩ ga_70.1 ⟨by decide, by decide⟩ rfl rfl hl.1 rfl (Nat.le_of_ble_eq_true rfl) ⟨Nat.le_of_ble_eq_true rfl, Nat.le_of_ble_eq_true rfl⟩ dX11_step_148 (fun r148 S148 H locs hp148 hw => ?_)
                obtain ⟨rfl, a9x⟩ := hp148
                have ga_73 := zGv.at a9x.1 ga_66.1 (by decide) (by rw [show zK S145 (b 4) = 3 from ga_70.1]; decide)
                have ga_74 := zGv.at a9x.1 ga_67.1 (by decide) (by rw [show zK S145 (b 4) = 3 from ga_70.1]; decide)
                have ga_75 := zGv.at a9x.1 ga_68.1 (by decide) (by rw [show zK S145 (b 4) = 3 from ga_70.1]; decide)
                have ga_76 := zGv.at a9x.1 ga_69.1 (by decide) (by rw [show zK S145 (b 4) = 3 from ga_70.1]; decide)
                have ga_77 := zGv.at a9x.1 ga_72.1 (by decide) (by rw [show zK S145 (b 4) = 3 from ga_70.1]; decide)
                have ga_78 := zGv.at a9x.1 hp145.2 (by decide) (by rw [show zK S145 (b 4) = 3 from ga_70.1]; decide)
                refine lv_pop hx hb dX11_step_151 rfl ?_
                refine lv_aload_n hx hb dX11_step_152 rfl (lv_at hl 2 rfl) ?_
                refine g_Mod_steps (a := (b 0)) (v := (b 4)) C hw ga_73.1 in_X11 (by decide +kernel) ((ga_73.2.1 247).2.trans ((ga_66.2.1 247).2.trans (zQ_nO (k := 14) (zne kq138 (fun e9 => absurd (Eq.trans (Eq.symm hM.1) e9) (by decide))) hM.2.2.2.2.1))) dX11_step_153 ?_
                refine zcV_i (As := []) (rest := []) (n9 := 0) (b := (b 4)) C hw (c_Jx4a65c_size_v l D y base S148 (b 4) 1 a9x.2.1 a9x.2.2) gX11_step_Jx4a65c_size_8abf5 rfl (by decide +kernel) ⟨⟨rfl, rfl⟩, Nat.le_of_ble_eq_true rfl, Nat.le_of_ble_eq_true rfl⟩ a9x.2.1 ⟨by decide, by decide⟩ rfl rfl hl.1 rfl (Nat.le_of_ble_eq_true rfl) ⟨Nat.le_of_ble_eq_true rfl, Nat.le_of_ble_eq_true rfl⟩ dX11_step_156 (fun r156 S156 H locs hp156 hw => ?_)
                obtain ⟨rfl, hS9⟩ := hp156
                have hS9 := hS9.symm
                subst hS9
                exact zri C hw hr hlocks rfl ⟨ga_73.1, (((ga_73.2.1 240).1.trans ((ga_66.2.1 240).1.trans (zI_nO (k := 14) (zne kq138 (fun e9 => absurd (Eq.trans (Eq.symm hM.1) e9) (by decide))) (zI_s (zsI S 240 (b 0) 0) 240 (b 0) 0))))).trans (by unfold kd_step; (try unfold zb); grind), (fun h9 => by first | rfl | (revert h9; unfold kd_step; (try unfold zb); grind))⟩ ⟨Nat.le_of_ble_eq_true rfl, Nat.le_of_ble_eq_true rfl⟩ dX11_step_159
    · refine lv_iconst (v := 1) hx hb dX11_step_12 (by decide) ?_
      refine lv_goto (tgt := 17) hx hb dX11_step_13 (by decide) ?_
      refine lv_istore (lv' := [(4, .int 1), (0, .ref (b 0)), (1, .int p0), (2, .int p1), (3, .int p2)]) hx hb dX11_step_17 hl (by decide) rfl (fun ls hl => ?_)
      refine lv_aload_n hx hb dX11_step_19 rfl (lv_at hl 1 rfl) ?_
      refine lv_iload hx hb dX11_step_20 (lv_at hl 0 rfl) ?_
      refine lv_if_ne (tgt := 32) hx hb dX11_step_22 (by decide) (fun _ => ?_) (fun c22 => absurd c22 (by decide))
      refine lv_iconst (v := 0) hx hb dX11_step_32 (by decide) ?_
      refine lv_goto (tgt := 37) hx hb dX11_step_33 (by decide) ?_
      refine p_Mod_thrown (a := (b 0)) (v := 0) C hw hM.1 in_X11 (by decide +kernel) dX11_step_37 (fun H locs hw => ?_)
      refine lv_aload_n hx hb dX11_step_40 rfl (lv_at hl 1 rfl) ?_
      refine g_Mod_thrown (a := (b 0)) (v := 0) C hw hM.1 in_X11 (by decide +kernel) (zI_s S 240 (b 0) 0) dX11_step_41 ?_
      refine lv_if_le (tgt := 49) hx hb dX11_step_44 (by decide) (fun _ => ?_) (fun c44 => absurd c44 (by decide))
      refine zldcS C hw rfl dX11_step_49 ?_
      refine lv_iload_n hx hb dX11_step_51 rfl (lv_at hl 2 rfl) ?_
      refine zcVS_i (As := [.int p0]) (rest := []) (n9 := 1) C hw (c_J0_indexOf_0f7a4 l D y base (zsI S 240 (b 0) 0) p0 ) gX11_step_J0_indexOf_0f7a4 rfl (by decide +kernel) ⟨⟨rfl, rfl⟩, Nat.le_of_ble_eq_true rfl, Nat.le_of_ble_eq_true rfl⟩ rfl hl.1 rfl (Nat.le_of_ble_eq_true rfl) ⟨Nat.le_of_ble_eq_true rfl, Nat.le_of_ble_eq_true rfl⟩ dX11_step_52 (fun r52 S52 H locs hp52 hw => ?_)
      obtain ⟨hp52, hS9⟩ := hp52
      have hS9 := hS9.symm
      subst hS9
      refine lv_if_lt (tgt := 70) hx hb dX11_step_55 (by decide) (fun c55 => ?_) (fun c55 => ?_)
      · refine lv_iload_n hx hb dX11_step_70 rfl (lv_at hl 2 rfl) ?_
        refine lv_bipush (v := 112) hx hb dX11_step_71 (by decide) ?_
        refine lv_icmp_ne (tgt := 92) hx hb dX11_step_73 (by decide) (fun c73 => ?_) (fun c73 => ?_)
        · refine lv_iconst (v := 0) hx hb dX11_step_92 (by decide) ?_
          refine lv_istore (lv' := [(5, .int 0), (4, .int 1), (0, .ref (b 0)), (1, .int p0), (2, .int p1), (3, .int p2)]) hx hb dX11_step_93 hl (by decide) rfl (fun ls hl => ?_)
          refine lv_aload_n hx hb dX11_step_95 rfl (lv_at hl 2 rfl) ?_
          refine lv_iload hx hb dX11_step_96 (lv_at hl 0 rfl) ?_
          refine lv_if_ne (tgt := 105) hx hb dX11_step_98 (by decide) (fun c98 => absurd c98 (by decide)) (fun _ => ?_)
          refine lv_iconst (v := 2) hx hb dX11_step_101 (by decide) ?_
          refine lv_goto (tgt := 122) hx hb dX11_step_102 (by decide) ?_
          refine p_Mod_thrown (a := (b 0)) (v := 2) C hw hM.1 in_X11 (by decide +kernel) dX11_step_122 (fun H locs hw => ?_)
          refine lv_aload_n hx hb dX11_step_125 rfl (lv_at hl 2 rfl) ?_
          refine g_Mod_thrown (a := (b 0)) (v := 2) C hw hM.1 in_X11 (by decide +kernel) (zI_s (zsI S 240 (b 0) 0) 240 (b 0) 2) dX11_step_126 ?_
          refine lv_if_le (tgt := 134) hx hb dX11_step_129 (by decide) (fun c129 => absurd c129 (by decide)) (fun _ => ?_)
          refine lv_iconst (v := 0) hx hb dX11_step_132 (by decide) ?_
          exact zri C hw hr hlocks rfl ⟨hM.1, ((zI_s (zsI S 240 (b 0) 0) 240 (b 0) 2)).trans (by unfold kd_step; (try unfold zb); grind), (fun h9 => by first | rfl | (revert h9; unfold kd_step; (try unfold zb); grind))⟩ ⟨Nat.le_of_ble_eq_true rfl, Nat.le_of_ble_eq_true rfl⟩ dX11_step_133
        · refine lv_iload_n hx hb dX11_step_76 rfl (lv_at hl 4 rfl) ?_
          refine lv_i2l (v := p2.toInt64) hx hb dX11_step_77 rfl ?_
          refine lv_lconst (v := ((0 : Int32).toInt64)) hx hb dX11_step_78 (by decide) ?_
          refine lv_ldc2 (own := RX11) (v := ((15 : Int32).toInt64)) hx hb hown (hts (.constantLong RX11 126 (15)) (by decide +kernel)) dX11_step_79 ?_
          refine zcS_i (As := [.long (p2.toInt64), .long ((0 : Int32).toInt64), .long ((15 : Int32).toInt64)]) (rest := []) (n9 := 3) C hw (c_X11_in l D y base (zsI S 240 (b 0) 0) p2 (0 : Int32) (15 : Int32) ) gX11_step_X11_in rfl (by decide +kernel) ⟨⟨rfl, rfl⟩, Nat.le_of_ble_eq_true rfl, Nat.le_of_ble_eq_true rfl⟩ rfl hl.1 rfl (Nat.le_of_ble_eq_true rfl) ⟨Nat.le_of_ble_eq_true rfl, Nat.le_of_ble_eq_true rfl⟩ dX11_step_82 (fun r82 S82 H locs hp82 hw => ?_)
          obtain ⟨rfl, hS9⟩ := hp82
          have hS9 := hS9.symm
          subst hS9
          refine lv_if_eq (tgt := 92) hx hb dX11_step_85 (by decide) (fun c85 => ?_) (fun c85 => ?_)
          · replace c85 := zb0.mp c85
            refine lv_iconst (v := 0) hx hb dX11_step_92 (by decide) ?_
            refine lv_istore (lv' := [(5, .int 0), (4, .int 1), (0, .ref (b 0)), (1, .int p0), (2, .int p1), (3, .int p2)]) hx hb dX11_step_93 hl (by decide) rfl (fun ls hl => ?_)
            refine lv_aload_n hx hb dX11_step_95 rfl (lv_at hl 2 rfl) ?_
            refine lv_iload hx hb dX11_step_96 (lv_at hl 0 rfl) ?_
            refine lv_if_ne (tgt := 105) hx hb dX11_step_98 (by decide) (fun c98 => absurd c98 (by decide)) (fun _ => ?_)
            refine lv_iconst (v := 2) hx hb dX11_step_101 (by decide) ?_
            refine lv_goto (tgt := 122) hx hb dX11_step_102 (by decide) ?_
            refine p_Mod_thrown (a := (b 0)) (v := 2) C hw hM.1 in_X11 (by decide +kernel) dX11_step_122 (fun H locs hw => ?_)
            refine lv_aload_n hx hb dX11_step_125 rfl (lv_at hl 2 rfl) ?_
            refine g_Mod_thrown (a := (b 0)) (v := 2) C hw hM.1 in_X11 (by decide +kernel) (zI_s (zsI S 240 (b 0) 0) 240 (b 0) 2) dX11_step_126 ?_
            refine lv_if_le (tgt := 134) hx hb dX11_step_129 (by decide) (fun c129 => absurd c129 (by decide)) (fun _ => ?_)
            refine lv_iconst (v := 0) hx hb dX11_step_132 (by decide) ?_
            exact zri C hw hr hlocks rfl ⟨hM.1, ((zI_s (zsI S 240 (b 0) 0) 240 (b 0) 2)).trans (by unfold kd_step; (try unfold zb); grind), (fun h9 => by first | rfl | (revert h9; unfold kd_step; (try unfold zb); grind))⟩ ⟨Nat.le_of_ble_eq_true rfl, Nat.le_of_ble_eq_true rfl⟩ dX11_step_133
          · replace c85 := zb1.mp c85
            refine lv_iconst (v := 1) hx hb dX11_step_88 (by decide) ?_
            refine lv_goto (tgt := 93) hx hb dX11_step_89 (by decide) ?_
            refine lv_istore (lv' := [(5, .int 1), (4, .int 1), (0, .ref (b 0)), (1, .int p0), (2, .int p1), (3, .int p2)]) hx hb dX11_step_93 hl (by decide) rfl (fun ls hl => ?_)
            refine lv_aload_n hx hb dX11_step_95 rfl (lv_at hl 2 rfl) ?_
            refine lv_iload hx hb dX11_step_96 (lv_at hl 0 rfl) ?_
            refine lv_if_ne (tgt := 105) hx hb dX11_step_98 (by decide) (fun _ => ?_) (fun c98 => absurd c98 (by decide))
            refine lv_aload_n hx hb dX11_step_105 rfl (lv_at hl 2 rfl) ?_
            refine g_Mod_steps (a := (b 0)) (v := (b 4)) C hw hM.1 in_X11 (by decide +kernel) hM.2.2.2.2.1 dX11_step_106 ?_
            refine zcV_i (As := []) (rest := [.ref (b 0)]) (n9 := 0) (b := (b 4)) C hw (c_Jx4a65c_size_8abf5 l D y base (zsI S 240 (b 0) 0) (b 4) hM.2.2.2.2.2.2.2.2.2.2.2.2.2.1 (zI_t (S := S) (t := 240) (a := (b 0)) (v := 0) (t' := 50) (a' := (b 4)) (u := 0) (by decide) hM0.2.2.2.1)) gX11_step_Jx4a65c_size_8abf5 rfl (by decide +kernel) ⟨⟨rfl, rfl⟩, Nat.le_of_ble_eq_true rfl, Nat.le_of_ble_eq_true rfl⟩ hM.2.2.2.2.2.2.2.2.2.2.2.2.2.1 ⟨by decide, by decide⟩ rfl rfl hl.1 rfl (Nat.le_of_ble_eq_true rfl) ⟨Nat.le_of_ble_eq_true rfl, Nat.le_of_ble_eq_true rfl⟩ dX11_step_109 (fun r109 S109 H locs hp109 hw => ?_)
            obtain ⟨rfl, hS9⟩ := hp109
            have hS9 := hS9.symm
            subst hS9
            refine lv_bipush (v := 6) hx hb dX11_step_112 (by decide) ?_
            refine lv_icmp_ne (tgt := 121) hx hb dX11_step_114 (by decide) (fun _ => ?_) (fun c114 => absurd c114 (by decide))
            refine lv_iconst (v := 0) hx hb dX11_step_121 (by decide) ?_
            refine p_Mod_thrown (a := (b 0)) (v := 0) C hw hM.1 in_X11 (by decide +kernel) dX11_step_122 (fun H locs hw => ?_)
            refine lv_aload_n hx hb dX11_step_125 rfl (lv_at hl 2 rfl) ?_
            refine g_Mod_thrown (a := (b 0)) (v := 0) C hw hM.1 in_X11 (by decide +kernel) (zI_s (zsI S 240 (b 0) 0) 240 (b 0) 0) dX11_step_126 ?_
            refine lv_if_le (tgt := 134) hx hb dX11_step_129 (by decide) (fun _ => ?_) (fun c129 => absurd c129 (by decide))
            refine lv_aload_n hx hb dX11_step_134 rfl (lv_at hl 2 rfl) ?_
            refine g_Mod_steps (a := (b 0)) (v := (b 4)) C hw hM.1 in_X11 (by decide +kernel) hM.2.2.2.2.1 dX11_step_135 ?_
            refine znew (k := 14) (Cn := RX10) (T := TX10) (N := 3) C hw (by decide) (by decide) rfl in_X10 tyX10 tyX10_ok (by decide +kernel) (by decide +kernel) (by decide +kernel) (zdfX10) (Nat.le_of_ble_eq_true rfl) (Nat.le_of_ble_eq_true rfl) dX11_step_138 (fun q138 H kq138 hw => ?_)
            refine lv_dup hx hb dX11_step_141 rfl ?_
            refine lv_iload_n hx hb dX11_step_142 rfl (lv_at hl 3 rfl) ?_
            refine lv_iload_n hx hb dX11_step_143 rfl (lv_at hl 4 rfl) ?_
            refine lv_iload_n hx hb dX11_step_144 rfl (lv_at hl 5 rfl) ?_
            refine zcI_v (As := [.int p0, .int p1, .int p2]) (rest := [.ref q138, .ref (b 4)]) (n9 := 3) (b := q138) C hw (c_X10_init l D y base (znO (zsI (zsI S 240 (b 0) 0) 240 (b 0) 0) q138 14) q138 p0 p1 p2 (zK_nOs _ _ _) (by grind)) gX11_step_X10_init rfl (by decide +kernel) (by decide +kernel) (by decide +kernel) rfl (by decide +kernel) ⟨⟨rfl, rfl⟩, Nat.le_of_ble_eq_true rfl, Nat.le_of_ble_eq_true rfl⟩ rfl hl.1 rfl (Nat.le_of_ble_eq_true rfl) ⟨Nat.le_of_ble_eq_true rfl, Nat.le_of_ble_eq_true rfl⟩ dX11_step_145 (fun S145 H locs hp145 hw => ?_)
            have ga_79 := zGv.at hp145.1 (zK_nO (k := 14) (zne kq138 (fun e9 => absurd (Eq.trans (Eq.symm hM.1) e9) (by decide))) hM.1) (by decide) (by rw [show zK (znO (zsI (zsI S 240 (b 0) 0) 240 (b 0) 0) q138 14) q138 = 14 from (zK_nOs (zsI (zsI S 240 (b 0) 0) 240 (b 0) 0) q138 14)]; decide)
            have ga_80 := zGv.at hp145.1 (zK_nO (k := 14) (zne kq138 (fun e9 => absurd (Eq.trans (Eq.symm hM.2.2.2.2.2.2.2.1) e9) (by decide))) hM.2.2.2.2.2.2.2.1) (by decide) (by rw [show zK (znO (zsI (zsI S 240 (b 0) 0) 240 (b 0) 0) q138 14) q138 = 14 from (zK_nOs (zsI (zsI S 240 (b 0) 0) 240 (b 0) 0) q138 14)]; decide)
            have ga_81 := zGv.at hp145.1 (zK_nO (k := 14) (zne kq138 (fun e9 => absurd (Eq.trans (Eq.symm hM.2.2.2.2.2.2.2.2.2.1) e9) (by decide))) hM.2.2.2.2.2.2.2.2.2.1) (by decide) (by rw [show zK (znO (zsI (zsI S 240 (b 0) 0) 240 (b 0) 0) q138 14) q138 = 14 from (zK_nOs (zsI (zsI S 240 (b 0) 0) 240 (b 0) 0) q138 14)]; decide)
            have ga_82 := zGv.at hp145.1 (zK_nO (k := 14) (zne kq138 (fun e9 => absurd (Eq.trans (Eq.symm hM.2.2.2.2.2.2.2.2.2.2.2.1) e9) (by decide))) hM.2.2.2.2.2.2.2.2.2.2.2.1) (by decide) (by rw [show zK (znO (zsI (zsI S 240 (b 0) 0) 240 (b 0) 0) q138 14) q138 = 14 from (zK_nOs (zsI (zsI S 240 (b 0) 0) 240 (b 0) 0) q138 14)]; decide)
            have ga_83 := zGv.at hp145.1 (zK_nO (k := 14) (zne kq138 (fun e9 => absurd (Eq.trans (Eq.symm hM.2.2.2.2.2.2.2.2.2.2.2.2.2.1) e9) (by decide))) hM.2.2.2.2.2.2.2.2.2.2.2.2.2.1) (by decide) (by rw [show zK (znO (zsI (zsI S 240 (b 0) 0) 240 (b 0) 0) q138 14) q138 = 14 from (zK_nOs (zsI (zsI S 240 (b 0) 0) 240 (b 0) 0) q138 14)]; decide)
            have ga_84 := zGv.at hp145.1 (zK_nO (k := 14) (zne kq138 (fun e9 => absurd (Eq.trans (Eq.symm hM.2.2.2.2.2.2.2.2.2.2.2.2.2.2.1) e9) (by decide))) hM.2.2.2.2.2.2.2.2.2.2.2.2.2.2.1) (by decide) (by rw [show zK (znO (zsI (zsI S 240 (b 0) 0) 240 (b 0) 0) q138 14) q138 = 14 from (zK_nOs (zsI (zsI S 240 (b 0) 0) 240 (b 0) 0) q138 14)]; decide)
            have ga_85 := zGv.at hp145.1 (zK_nO (k := 14) (zne kq138 (fun e9 => absurd (Eq.trans (Eq.symm hM.2.2.2.2.2.2.2.2.2.2.2.2.2.2.2.1) e9) (by decide))) hM.2.2.2.2.2.2.2.2.2.2.2.2.2.2.2.1) (by decide) (by rw [show zK (znO (zsI (zsI S 240 (b 0) 0) 240 (b 0) 0) q138 14) q138 = 14 from (zK_nOs (zsI (zsI S 240 (b 0) 0) 240 (b 0) 0) q138 14)]; decide)
            refine zcV_i (As := [.ref q138]) (rest := []) (n9 := 1) (b := (b 4)) C hw (c_Jx4a65c_add_9ea2d l D y base S145 (b 4) q138 ga_83.1 ((ga_83.2.1 50).1.trans (zI_nO (k := 14) (zne kq138 (fun e9 => absurd (Eq.trans (Eq.symm hM.2.2.2.2.2.2.2.2.2.2.2.2.2.1) e9) (by decide))) (zI_t (S := (zsI S 240 (b 0) 0)) (t := 240) (a := (b 0)) (v := 0) (t' := 50) (a' := (b 4)) (u := 0) (by decide) (zI_t (S := S) (t := 240) (a := (b 0)) (v := 0) (t' := 50) (a' := (b 4)) (u := 0) (by decide) hM0.2.2.2.1)))) ((ga_83.2.1 49).2.trans (zQ_nO (k := 14) (zne kq138 (fun e9 => absurd (Eq.trans (Eq.symm hM.2.2.2.2.2.2.2.2.2.2.2.2.2.1) e9) (by decide))) hF)) hp145.2) gX11_step_Jx4a65c_add_9ea2d rfl (by decide +kernel) ⟨⟨rfl, rfl⟩, Nat.le_of_ble_eq_true rfl, Nat.le_of_ble_eq_true rfl⟩ ga_83.1 ⟨by decide, by decide⟩ rfl rfl hl.1 rfl (Nat.le_of_ble_eq_true rfl) ⟨Nat.le_of_ble_eq_true rfl, Nat.le_of_ble_eq_true rfl⟩ dX11_step_148 (fun r148 S148 H locs hp148 hw => ?_)
            obtain ⟨rfl, a9x⟩ := hp148
            have ga_86 := zGv.at a9x.1 ga_79.1 (by decide) (by rw [show zK S145 (b 4) = 3 from ga_83.1]; decide)
            have ga_87 := zGv.at a9x.1 ga_80.1 (by decide) (by rw [show zK S145 (b 4) = 3 from ga_83.1]; decide)
            have ga_88 := zGv.at a9x.1 ga_81.1 (by decide) (by rw [show zK S145 (b 4) = 3 from ga_83.1]; decide)
            have ga_89 := zGv.at a9x.1 ga_82.1 (by decide) (by rw [show zK S145 (b 4) = 3 from ga_83.1]; decide)
            have ga_90 := zGv.at a9x.1 ga_85.1 (by decide) (by rw [show zK S145 (b 4) = 3 from ga_83.1]; decide)
            have ga_91 := zGv.at a9x.1 hp145.2 (by decide) (by rw [show zK S145 (b 4) = 3 from ga_83.1]; decide)
            refine lv_pop hx hb dX11_step_151 rfl ?_
            refine lv_aload_n hx hb dX11_step_152 rfl (lv_at hl 2 rfl) ?_
            refine g_Mod_steps (a := (b 0)) (v := (b 4)) C hw ga_86.1 in_X11 (by decide +kernel) ((ga_86.2.1 247).2.trans ((ga_79.2.1 247).2.trans (zQ_nO (k := 14) (zne kq138 (fun e9 => absurd (Eq.trans (Eq.symm hM.1) e9) (by decide))) hM.2.2.2.2.1))) dX11_step_153 ?_
            refine zcV_i (As := []) (rest := []) (n9 := 0) (b := (b 4)) C hw (c_Jx4a65c_size_v l D y base S148 (b 4) 1 a9x.2.1 a9x.2.2) gX11_step_Jx4a65c_size_8abf5 rfl (by decide +kernel) ⟨⟨rfl, rfl⟩, Nat.le_of_ble_eq_true rfl, Nat.le_of_ble_eq_true rfl⟩ a9x.2.1 ⟨by decide, by decide⟩ rfl rfl hl.1 rfl (Nat.le_of_ble_eq_true rfl) ⟨Nat.le_of_ble_eq_true rfl, Nat.le_of_ble_eq_true rfl⟩ dX11_step_156 (fun r156 S156 H locs hp156 hw => ?_)
            obtain ⟨rfl, hS9⟩ := hp156
            have hS9 := hS9.symm
            subst hS9
            exact zri C hw hr hlocks rfl ⟨ga_86.1, (((ga_86.2.1 240).1.trans ((ga_79.2.1 240).1.trans (zI_nO (k := 14) (zne kq138 (fun e9 => absurd (Eq.trans (Eq.symm hM.1) e9) (by decide))) (zI_s (zsI S 240 (b 0) 0) 240 (b 0) 0))))).trans (by unfold kd_step; (try unfold zb); grind), (fun h9 => by first | rfl | (revert h9; unfold kd_step; (try unfold zb); grind))⟩ ⟨Nat.le_of_ble_eq_true rfl, Nat.le_of_ble_eq_true rfl⟩ dX11_step_159
      · refine lv_iload_n hx hb dX11_step_58 rfl (lv_at hl 4 rfl) ?_
        refine lv_i2l (v := p2.toInt64) hx hb dX11_step_59 rfl ?_
        refine lv_lconst (v := ((1 : Int32).toInt64)) hx hb dX11_step_60 (by decide) ?_
        refine lv_ldc2 (own := RX11) (v := ((400 : Int32).toInt64)) hx hb hown (hts (.constantLong RX11 131 (400)) (by decide +kernel)) dX11_step_61 ?_
        refine zcS_i (As := [.long (p2.toInt64), .long ((1 : Int32).toInt64), .long ((400 : Int32).toInt64)]) (rest := []) (n9 := 3) C hw (c_X11_in l D y base (zsI S 240 (b 0) 0) p2 (1 : Int32) (400 : Int32) ) gX11_step_X11_in rfl (by decide +kernel) ⟨⟨rfl, rfl⟩, Nat.le_of_ble_eq_true rfl, Nat.le_of_ble_eq_true rfl⟩ rfl hl.1 rfl (Nat.le_of_ble_eq_true rfl) ⟨Nat.le_of_ble_eq_true rfl, Nat.le_of_ble_eq_true rfl⟩ dX11_step_64 (fun r64 S64 H locs hp64 hw => ?_)
        obtain ⟨rfl, hS9⟩ := hp64
        have hS9 := hS9.symm
        subst hS9
        refine lv_if_ne (tgt := 88) hx hb dX11_step_67 (by decide) (fun c67 => ?_) (fun c67 => ?_)
        · replace c67 := zb1.mp c67
          refine lv_iconst (v := 1) hx hb dX11_step_88 (by decide) ?_
          refine lv_goto (tgt := 93) hx hb dX11_step_89 (by decide) ?_
          refine lv_istore (lv' := [(5, .int 1), (4, .int 1), (0, .ref (b 0)), (1, .int p0), (2, .int p1), (3, .int p2)]) hx hb dX11_step_93 hl (by decide) rfl (fun ls hl => ?_)
          refine lv_aload_n hx hb dX11_step_95 rfl (lv_at hl 2 rfl) ?_
          refine lv_iload hx hb dX11_step_96 (lv_at hl 0 rfl) ?_
          refine lv_if_ne (tgt := 105) hx hb dX11_step_98 (by decide) (fun _ => ?_) (fun c98 => absurd c98 (by decide))
          refine lv_aload_n hx hb dX11_step_105 rfl (lv_at hl 2 rfl) ?_
          refine g_Mod_steps (a := (b 0)) (v := (b 4)) C hw hM.1 in_X11 (by decide +kernel) hM.2.2.2.2.1 dX11_step_106 ?_
          refine zcV_i (As := []) (rest := [.ref (b 0)]) (n9 := 0) (b := (b 4)) C hw (c_Jx4a65c_size_8abf5 l D y base (zsI S 240 (b 0) 0) (b 4) hM.2.2.2.2.2.2.2.2.2.2.2.2.2.1 (zI_t (S := S) (t := 240) (a := (b 0)) (v := 0) (t' := 50) (a' := (b 4)) (u := 0) (by decide) hM0.2.2.2.1)) gX11_step_Jx4a65c_size_8abf5 rfl (by decide +kernel) ⟨⟨rfl, rfl⟩, Nat.le_of_ble_eq_true rfl, Nat.le_of_ble_eq_true rfl⟩ hM.2.2.2.2.2.2.2.2.2.2.2.2.2.1 ⟨by decide, by decide⟩ rfl rfl hl.1 rfl (Nat.le_of_ble_eq_true rfl) ⟨Nat.le_of_ble_eq_true rfl, Nat.le_of_ble_eq_true rfl⟩ dX11_step_109 (fun r109 S109 H locs hp109 hw => ?_)
          obtain ⟨rfl, hS9⟩ := hp109
          have hS9 := hS9.symm
          subst hS9
          refine lv_bipush (v := 6) hx hb dX11_step_112 (by decide) ?_
          refine lv_icmp_ne (tgt := 121) hx hb dX11_step_114 (by decide) (fun _ => ?_) (fun c114 => absurd c114 (by decide))
          refine lv_iconst (v := 0) hx hb dX11_step_121 (by decide) ?_
          refine p_Mod_thrown (a := (b 0)) (v := 0) C hw hM.1 in_X11 (by decide +kernel) dX11_step_122 (fun H locs hw => ?_)
          refine lv_aload_n hx hb dX11_step_125 rfl (lv_at hl 2 rfl) ?_
          refine g_Mod_thrown (a := (b 0)) (v := 0) C hw hM.1 in_X11 (by decide +kernel) (zI_s (zsI S 240 (b 0) 0) 240 (b 0) 0) dX11_step_126 ?_
          refine lv_if_le (tgt := 134) hx hb dX11_step_129 (by decide) (fun _ => ?_) (fun c129 => absurd c129 (by decide))
          refine lv_aload_n hx hb dX11_step_134 rfl (lv_at hl 2 rfl) ?_
          refine g_Mod_steps (a := (b 0)) (v := (b 4)) C hw hM.1 in_X11 (by decide +kernel) hM.2.2.2.2.1 dX11_step_135 ?_
          refine znew (k := 14) (Cn := RX10) (T := TX10) (N := 3) C hw (by decide) (by decide) rfl in_X10 tyX10 tyX10_ok (by decide +kernel) (by decide +kernel) (by decide +kernel) (zdfX10) (Nat.le_of_ble_eq_true rfl) (Nat.le_of_ble_eq_true rfl) dX11_step_138 (fun q138 H kq138 hw => ?_)
          refine lv_dup hx hb dX11_step_141 rfl ?_
          refine lv_iload_n hx hb dX11_step_142 rfl (lv_at hl 3 rfl) ?_
          refine lv_iload_n hx hb dX11_step_143 rfl (lv_at hl 4 rfl) ?_
          refine lv_iload_n hx hb dX11_step_144 rfl (lv_at hl 5 rfl) ?_
          refine zcI_v (As := [.int p0, .int p1, .int p2]) (rest := [.ref q138, .ref (b 4)]) (n9 := 3) (b := q138) C hw (c_X10_init l D y base (znO (zsI (zsI S 240 (b 0) 0) 240 (b 0) 0) q138 14) q138 p0 p1 p2 (zK_nOs _ _ _) (by grind)) gX11_step_X10_init rfl (by decide +kernel) (by decide +kernel) (by decide +kernel) rfl (by decide +kernel) ⟨⟨rfl, rfl⟩, Nat.le_of_ble_eq_true rfl, Nat.le_of_ble_eq_true rfl⟩ rfl hl.1 rfl (Nat.le_of_ble_eq_true rfl) ⟨Nat.le_of_ble_eq_true rfl, Nat.le_of_ble_eq_true rfl⟩ dX11_step_145 (fun S145 H locs hp145 hw => ?_)
          have ga_92 := zGv.at hp145.1 (zK_nO (k := 14) (zne kq138 (fun e9 => absurd (Eq.trans (Eq.symm hM.1) e9) (by decide))) hM.1) (by decide) (by rw [show zK (znO (zsI (zsI S 240 (b 0) 0) 240 (b 0) 0) q138 14) q138 = 14 from (zK_nOs (zsI (zsI S 240 (b 0) 0) 240 (b 0) 0) q138 14)]; decide)
          have ga_93 := zGv.at hp145.1 (zK_nO (k := 14) (zne kq138 (fun e9 => absurd (Eq.trans (Eq.symm hM.2.2.2.2.2.2.2.1) e9) (by decide))) hM.2.2.2.2.2.2.2.1) (by decide) (by rw [show zK (znO (zsI (zsI S 240 (b 0) 0) 240 (b 0) 0) q138 14) q138 = 14 from (zK_nOs (zsI (zsI S 240 (b 0) 0) 240 (b 0) 0) q138 14)]; decide)
          have ga_94 := zGv.at hp145.1 (zK_nO (k := 14) (zne kq138 (fun e9 => absurd (Eq.trans (Eq.symm hM.2.2.2.2.2.2.2.2.2.1) e9) (by decide))) hM.2.2.2.2.2.2.2.2.2.1) (by decide) (by rw [show zK (znO (zsI (zsI S 240 (b 0) 0) 240 (b 0) 0) q138 14) q138 = 14 from (zK_nOs (zsI (zsI S 240 (b 0) 0) 240 (b 0) 0) q138 14)]; decide)
          have ga_95 := zGv.at hp145.1 (zK_nO (k := 14) (zne kq138 (fun e9 => absurd (Eq.trans (Eq.symm hM.2.2.2.2.2.2.2.2.2.2.2.1) e9) (by decide))) hM.2.2.2.2.2.2.2.2.2.2.2.1) (by decide) (by rw [show zK (znO (zsI (zsI S 240 (b 0) 0) 240 (b 0) 0) q138 14) q138 = 14 from (zK_nOs (zsI (zsI S 240 (b 0) 0) 240 (b 0) 0) q138 14)]; decide)
          have ga_96 := zGv.at hp145.1 (zK_nO (k := 14) (zne kq138 (fun e9 => absurd (Eq.trans (Eq.symm hM.2.2.2.2.2.2.2.2.2.2.2.2.2.1) e9) (by decide))) hM.2.2.2.2.2.2.2.2.2.2.2.2.2.1) (by decide) (by rw [show zK (znO (zsI (zsI S 240 (b 0) 0) 240 (b 0) 0) q138 14) q138 = 14 from (zK_nOs (zsI (zsI S 240 (b 0) 0) 240 (b 0) 0) q138 14)]; decide)
          have ga_97 := zGv.at hp145.1 (zK_nO (k := 14) (zne kq138 (fun e9 => absurd (Eq.trans (Eq.symm hM.2.2.2.2.2.2.2.2.2.2.2.2.2.2.1) e9) (by decide))) hM.2.2.2.2.2.2.2.2.2.2.2.2.2.2.1) (by decide) (by rw [show zK (znO (zsI (zsI S 240 (b 0) 0) 240 (b 0) 0) q138 14) q138 = 14 from (zK_nOs (zsI (zsI S 240 (b 0) 0) 240 (b 0) 0) q138 14)]; decide)
          have ga_98 := zGv.at hp145.1 (zK_nO (k := 14) (zne kq138 (fun e9 => absurd (Eq.trans (Eq.symm hM.2.2.2.2.2.2.2.2.2.2.2.2.2.2.2.1) e9) (by decide))) hM.2.2.2.2.2.2.2.2.2.2.2.2.2.2.2.1) (by decide) (by rw [show zK (znO (zsI (zsI S 240 (b 0) 0) 240 (b 0) 0) q138 14) q138 = 14 from (zK_nOs (zsI (zsI S 240 (b 0) 0) 240 (b 0) 0) q138 14)]; decide)
          refine zcV_i (As := [.ref q138]) (rest := []) (n9 := 1) (b := (b 4)) C hw (c_Jx4a65c_add_9ea2d l D y base S145 (b 4) q138 ga_96.1 ((ga_96.2.1 50).1.trans (zI_nO (k := 14) (zne kq138 (fun e9 => absurd (Eq.trans (Eq.symm hM.2.2.2.2.2.2.2.2.2.2.2.2.2.1) e9) (by decide))) (zI_t (S := (zsI S 240 (b 0) 0)) (t := 240) (a := (b 0)) (v := 0) (t' := 50) (a' := (b 4)) (u := 0) (by decide) (zI_t (S := S) (t := 240) (a := (b 0)) (v := 0) (t' := 50) (a' := (b 4)) (u := 0) (by decide) hM0.2.2.2.1)))) ((ga_96.2.1 49).2.trans (zQ_nO (k := 14) (zne kq138 (fun e9 => absurd (Eq.trans (Eq.symm hM.2.2.2.2.2.2.2.2.2.2.2.2.2.1) e9) (by decide))) hF)) hp145.2) gX11_step_Jx4a65c_add_9ea2d rfl (by decide +kernel) ⟨⟨rfl, rfl⟩, Nat.le_of_ble_eq_true rfl, Nat.le_of_ble_eq_true rfl⟩ ga_96.1 ⟨by decide, by decide⟩ rfl rfl hl.1 rfl (Nat.le_of_ble_eq_true rfl) ⟨Nat.le_of_ble_eq_true rfl, Nat.le_of_ble_eq_true rfl⟩ dX11_step_148 (fun r148 S148 H locs hp148 hw => ?_)
          obtain ⟨rfl, a9x⟩ := hp148
          have ga_99 := zGv.at a9x.1 ga_92.1 (by decide) (by rw [show zK S145 (b 4) = 3 from ga_96.1]; decide)
          have ga_100 := zGv.at a9x.1 ga_93.1 (by decide) (by rw [show zK S145 (b 4) = 3 from ga_96.1]; decide)
          have ga_101 := zGv.at a9x.1 ga_94.1 (by decide) (by rw [show zK S145 (b 4) = 3 from ga_96.1]; decide)
          have ga_102 := zGv.at a9x.1 ga_95.1 (by decide) (by rw [show zK S145 (b 4) = 3 from ga_96.1]; decide)
          have ga_103 := zGv.at a9x.1 ga_98.1 (by decide) (by rw [show zK S145 (b 4) = 3 from ga_96.1]; decide)
          have ga_104 := zGv.at a9x.1 hp145.2 (by decide) (by rw [show zK S145 (b 4) = 3 from ga_96.1]; decide)
          refine lv_pop hx hb dX11_step_151 rfl ?_
          refine lv_aload_n hx hb dX11_step_152 rfl (lv_at hl 2 rfl) ?_
          refine g_Mod_steps (a := (b 0)) (v := (b 4)) C hw ga_99.1 in_X11 (by decide +kernel) ((ga_99.2.1 247).2.trans ((ga_92.2.1 247).2.trans (zQ_nO (k := 14) (zne kq138 (fun e9 => absurd (Eq.trans (Eq.symm hM.1) e9) (by decide))) hM.2.2.2.2.1))) dX11_step_153 ?_
          refine zcV_i (As := []) (rest := []) (n9 := 0) (b := (b 4)) C hw (c_Jx4a65c_size_v l D y base S148 (b 4) 1 a9x.2.1 a9x.2.2) gX11_step_Jx4a65c_size_8abf5 rfl (by decide +kernel) ⟨⟨rfl, rfl⟩, Nat.le_of_ble_eq_true rfl, Nat.le_of_ble_eq_true rfl⟩ a9x.2.1 ⟨by decide, by decide⟩ rfl rfl hl.1 rfl (Nat.le_of_ble_eq_true rfl) ⟨Nat.le_of_ble_eq_true rfl, Nat.le_of_ble_eq_true rfl⟩ dX11_step_156 (fun r156 S156 H locs hp156 hw => ?_)
          obtain ⟨rfl, hS9⟩ := hp156
          have hS9 := hS9.symm
          subst hS9
          exact zri C hw hr hlocks rfl ⟨ga_99.1, (((ga_99.2.1 240).1.trans ((ga_92.2.1 240).1.trans (zI_nO (k := 14) (zne kq138 (fun e9 => absurd (Eq.trans (Eq.symm hM.1) e9) (by decide))) (zI_s (zsI S 240 (b 0) 0) 240 (b 0) 0))))).trans (by unfold kd_step; (try unfold zb); grind), (fun h9 => by first | rfl | (revert h9; unfold kd_step; (try unfold zb); grind))⟩ ⟨Nat.le_of_ble_eq_true rfl, Nat.le_of_ble_eq_true rfl⟩ dX11_step_159
        · replace c67 := zb0.mp c67
          refine lv_iload_n hx hb dX11_step_70 rfl (lv_at hl 2 rfl) ?_
          refine lv_bipush (v := 112) hx hb dX11_step_71 (by decide) ?_
          refine lv_icmp_ne (tgt := 92) hx hb dX11_step_73 (by decide) (fun c73 => ?_) (fun c73 => ?_)
          · refine lv_iconst (v := 0) hx hb dX11_step_92 (by decide) ?_
            refine lv_istore (lv' := [(5, .int 0), (4, .int 1), (0, .ref (b 0)), (1, .int p0), (2, .int p1), (3, .int p2)]) hx hb dX11_step_93 hl (by decide) rfl (fun ls hl => ?_)
            refine lv_aload_n hx hb dX11_step_95 rfl (lv_at hl 2 rfl) ?_
            refine lv_iload hx hb dX11_step_96 (lv_at hl 0 rfl) ?_
            refine lv_if_ne (tgt := 105) hx hb dX11_step_98 (by decide) (fun c98 => absurd c98 (by decide)) (fun _ => ?_)
            refine lv_iconst (v := 2) hx hb dX11_step_101 (by decide) ?_
            refine lv_goto (tgt := 122) hx hb dX11_step_102 (by decide) ?_
            refine p_Mod_thrown (a := (b 0)) (v := 2) C hw hM.1 in_X11 (by decide +kernel) dX11_step_122 (fun H locs hw => ?_)
            refine lv_aload_n hx hb dX11_step_125 rfl (lv_at hl 2 rfl) ?_
            refine g_Mod_thrown (a := (b 0)) (v := 2) C hw hM.1 in_X11 (by decide +kernel) (zI_s (zsI S 240 (b 0) 0) 240 (b 0) 2) dX11_step_126 ?_
            refine lv_if_le (tgt := 134) hx hb dX11_step_129 (by decide) (fun c129 => absurd c129 (by decide)) (fun _ => ?_)
            refine lv_iconst (v := 0) hx hb dX11_step_132 (by decide) ?_
            exact zri C hw hr hlocks rfl ⟨hM.1, ((zI_s (zsI S 240 (b 0) 0) 240 (b 0) 2)).trans (by unfold kd_step; (try unfold zb); grind), (fun h9 => by first | rfl | (revert h9; unfold kd_step; (try unfold zb); grind))⟩ ⟨Nat.le_of_ble_eq_true rfl, Nat.le_of_ble_eq_true rfl⟩ dX11_step_133
          · refine lv_iload_n hx hb dX11_step_76 rfl (lv_at hl 4 rfl) ?_
            refine lv_i2l (v := p2.toInt64) hx hb dX11_step_77 rfl ?_
            refine lv_lconst (v := ((0 : Int32).toInt64)) hx hb dX11_step_78 (by decide) ?_
            refine lv_ldc2 (own := RX11) (v := ((15 : Int32).toInt64)) hx hb hown (hts (.constantLong RX11 126 (15)) (by decide +kernel)) dX11_step_79 ?_
            refine zcS_i (As := [.long (p2.toInt64), .long ((0 : Int32).toInt64), .long ((15 : Int32).toInt64)]) (rest := []) (n9 := 3) C hw (c_X11_in l D y base (zsI S 240 (b 0) 0) p2 (0 : Int32) (15 : Int32) ) gX11_step_X11_in rfl (by decide +kernel) ⟨⟨rfl, rfl⟩, Nat.le_of_ble_eq_true rfl, Nat.le_of_ble_eq_true rfl⟩ rfl hl.1 rfl (Nat.le_of_ble_eq_true rfl) ⟨Nat.le_of_ble_eq_true rfl, Nat.le_of_ble_eq_true rfl⟩ dX11_step_82 (fun r82 S82 H locs hp82 hw => ?_)
            obtain ⟨rfl, hS9⟩ := hp82
            have hS9 := hS9.symm
            subst hS9
            refine lv_if_eq (tgt := 92) hx hb dX11_step_85 (by decide) (fun c85 => ?_) (fun c85 => ?_)
            · replace c85 := zb0.mp c85
              refine lv_iconst (v := 0) hx hb dX11_step_92 (by decide) ?_
              refine lv_istore (lv' := [(5, .int 0), (4, .int 1), (0, .ref (b 0)), (1, .int p0), (2, .int p1), (3, .int p2)]) hx hb dX11_step_93 hl (by decide) rfl (fun ls hl => ?_)
              refine lv_aload_n hx hb dX11_step_95 rfl (lv_at hl 2 rfl) ?_
              refine lv_iload hx hb dX11_step_96 (lv_at hl 0 rfl) ?_
              refine lv_if_ne (tgt := 105) hx hb dX11_step_98 (by decide) (fun c98 => absurd c98 (by decide)) (fun _ => ?_)
              refine lv_iconst (v := 2) hx hb dX11_step_101 (by decide) ?_
              refine lv_goto (tgt := 122) hx hb dX11_step_102 (by decide) ?_
              refine p_Mod_thrown (a := (b 0)) (v := 2) C hw hM.1 in_X11 (by decide +kernel) dX11_step_122 (fun H locs hw => ?_)
              refine lv_aload_n hx hb dX11_step_125 rfl (lv_at hl 2 rfl) ?_
              refine g_Mod_thrown (a := (b 0)) (v := 2) C hw hM.1 in_X11 (by decide +kernel) (zI_s (zsI S 240 (b 0) 0) 240 (b 0) 2) dX11_step_126 ?_
              refine lv_if_le (tgt := 134) hx hb dX11_step_129 (by decide) (fun c129 => absurd c129 (by decide)) (fun _ => ?_)
              refine lv_iconst (v := 0) hx hb dX11_step_132 (by decide) ?_
              exact zri C hw hr hlocks rfl ⟨hM.1, ((zI_s (zsI S 240 (b 0) 0) 240 (b 0) 2)).trans (by unfold kd_step; (try unfold zb); grind), (fun h9 => by first | rfl | (revert h9; unfold kd_step; (try unfold zb); grind))⟩ ⟨Nat.le_of_ble_eq_true rfl, Nat.le_of_ble_eq_true rfl⟩ dX11_step_133
            · replace c85 := zb1.mp c85
              refine lv_iconst (v := 1) hx hb dX11_step_88 (by decide) ?_
              refine lv_goto (tgt := 93) hx hb dX11_step_89 (by decide) ?_
              refine lv_istore (lv' := [(5, .int 1), (4, .int 1), (0, .ref (b 0)), (1, .int p0), (2, .int p1), (3, .int p2)]) hx hb dX11_step_93 hl (by decide) rfl (fun ls hl => ?_)
              refine lv_aload_n hx hb dX11_step_95 rfl (lv_at hl 2 rfl) ?_
              refine lv_iload hx hb dX11_step_96 (lv_at hl 0 rfl) ?_
              refine lv_if_ne (tgt := 105) hx hb dX11_step_98 (by decide) (fun _ => ?_) (fun c98 => absurd c98 (by decide))
              refine lv_aload_n hx hb dX11_step_105 rfl (lv_at hl 2 rfl) ?_
              refine g_Mod_steps (a := (b 0)) (v := (b 4)) C hw hM.1 in_X11 (by decide +kernel) hM.2.2.2.2.1 dX11_step_106 ?_
              refine zcV_i (As := []) (rest := [.ref (b 0)]) (n9 := 0) (b := (b 4)) C hw (c_Jx4a65c_size_8abf5 l D y base (zsI S 240 (b 0) 0) (b 4) hM.2.2.2.2.2.2.2.2.2.2.2.2.2.1 (zI_t (S := S) (t := 240) (a := (b 0)) (v := 0) (t' := 50) (a' := (b 4)) (u := 0) (by decide) hM0.2.2.2.1)) gX11_step_Jx4a65c_size_8abf5 rfl (by decide +kernel) ⟨⟨rfl, rfl⟩, Nat.le_of_ble_eq_true rfl, Nat.le_of_ble_eq_true rfl⟩ hM.2.2.2.2.2.2.2.2.2.2.2.2.2.1 ⟨by decide, by decide⟩ rfl rfl hl.1 rfl (Nat.le_of_ble_eq_true rfl) ⟨Nat.le_of_ble_eq_true rfl, Nat.le_of_ble_eq_true rfl⟩ dX11_step_109 (fun r109 S109 H locs hp109 hw => ?_)
              obtain ⟨rfl, hS9⟩ := hp109
              have hS9 := hS9.symm
              subst hS9
              refine lv_bipush (v := 6) hx hb dX11_step_112 (by decide) ?_
              refine lv_icmp_ne (tgt := 121) hx hb dX11_step_114 (by decide) (fun _ => ?_) (fun c114 => absurd c114 (by decide))
              refine lv_iconst (v := 0) hx hb dX11_step_121 (by decide) ?_
              refine p_Mod_thrown (a := (b 0)) (v := 0) C hw hM.1 in_X11 (by decide +kernel) dX11_step_122 (fun H locs hw => ?_)
              refine lv_aload_n hx hb dX11_step_125 rfl (lv_at hl 2 rfl) ?_
              refine g_Mod_thrown (a := (b 0)) (v := 0) C hw hM.1 in_X11 (by decide +kernel) (zI_s (zsI S 240 (b 0) 0) 240 (b 0) 0) dX11_step_126 ?_
              refine lv_if_le (tgt := 134) hx hb dX11_step_129 (by decide) (fun _ => ?_) (fun c129 => absurd c129 (by decide))
              refine lv_aload_n hx hb dX11_step_134 rfl (lv_at hl 2 rfl) ?_
              refine g_Mod_steps (a := (b 0)) (v := (b 4)) C hw hM.1 in_X11 (by decide +kernel) hM.2.2.2.2.1 dX11_step_135 ?_
              refine znew (k := 14) (Cn := RX10) (T := TX10) (N := 3) C hw (by decide) (by decide) rfl in_X10 tyX10 tyX10_ok (by decide +kernel) (by decide +kernel) (by decide +kernel) (zdfX10) (Nat.le_of_ble_eq_true rfl) (Nat.le_of_ble_eq_true rfl) dX11_step_138 (fun q138 H kq138 hw => ?_)
              refine lv_dup hx hb dX11_step_141 rfl ?_
              refine lv_iload_n hx hb dX11_step_142 rfl (lv_at hl 3 rfl) ?_
              refine lv_iload_n hx hb dX11_step_143 rfl (lv_at hl 4 rfl) ?_
              refine lv_iload_n hx hb dX11_step_144 rfl (lv_at hl 5 rfl) ?_
              refine zcI_v (As := [.int p0, .int p1, .int p2]) (rest := [.ref q138, .ref (b 4)]) (n9 := 3) (b := q138) C hw (c_X10_init l D y base (znO (zsI (zsI S 240 (b 0) 0) 240 (b 0) 0) q138 14) q138 p0 p1 p2 (zK_nOs _ _ _) (by grind)) gX11_step_X10_init rfl (by decide +kernel) (by decide +kernel) (by decide +kernel) rfl (by decide +kernel) ⟨⟨rfl, rfl⟩, Nat.le_of_ble_eq_true rfl, Nat.le_of_ble_eq_true rfl⟩ rfl hl.1 rfl (Nat.le_of_ble_eq_true rfl) ⟨Nat.le_of_ble_eq_true rfl, Nat.le_of_ble_eq_true rfl⟩ dX11_step_145 (fun S145 H locs hp145 hw => ?_)
              have ga_105 := zGv.at hp145.1 (zK_nO (k := 14) (zne kq138 (fun e9 => absurd (Eq.trans (Eq.symm hM.1) e9) (by decide))) hM.1) (by decide) (by rw [show zK (znO (zsI (zsI S 240 (b 0) 0) 240 (b 0) 0) q138 14) q138 = 14 from (zK_nOs (zsI (zsI S 240 (b 0) 0) 240 (b 0) 0) q138 14)]; decide)
              have ga_106 := zGv.at hp145.1 (zK_nO (k := 14) (zne kq138 (fun e9 => absurd (Eq.trans (Eq.symm hM.2.2.2.2.2.2.2.1) e9) (by decide))) hM.2.2.2.2.2.2.2.1) (by decide) (by rw [show zK (znO (zsI (zsI S 240 (b 0) 0) 240 (b 0) 0) q138 14) q138 = 14 from (zK_nOs (zsI (zsI S 240 (b 0) 0) 240 (b 0) 0) q138 14)]; decide)
              have ga_107 := zGv.at hp145.1 (zK_nO (k := 14) (zne kq138 (fun e9 => absurd (Eq.trans (Eq.symm hM.2.2.2.2.2.2.2.2.2.1) e9) (by decide))) hM.2.2.2.2.2.2.2.2.2.1) (by decide) (by rw [show zK (znO (zsI (zsI S 240 (b 0) 0) 240 (b 0) 0) q138 14) q138 = 14 from (zK_nOs (zsI (zsI S 240 (b 0) 0) 240 (b 0) 0) q138 14)]; decide)
              have ga_108 := zGv.at hp145.1 (zK_nO (k := 14) (zne kq138 (fun e9 => absurd (Eq.trans (Eq.symm hM.2.2.2.2.2.2.2.2.2.2.2.1) e9) (by decide))) hM.2.2.2.2.2.2.2.2.2.2.2.1) (by decide) (by rw [show zK (znO (zsI (zsI S 240 (b 0) 0) 240 (b 0) 0) q138 14) q138 = 14 from (zK_nOs (zsI (zsI S 240 (b 0) 0) 240 (b 0) 0) q138 14)]; decide)
              have ga_109 := zGv.at hp145.1 (zK_nO (k := 14) (zne kq138 (fun e9 => absurd (Eq.trans (Eq.symm hM.2.2.2.2.2.2.2.2.2.2.2.2.2.1) e9) (by decide))) hM.2.2.2.2.2.2.2.2.2.2.2.2.2.1) (by decide) (by rw [show zK (znO (zsI (zsI S 240 (b 0) 0) 240 (b 0) 0) q138 14) q138 = 14 from (zK_nOs (zsI (zsI S 240 (b 0) 0) 240 (b 0) 0) q138 14)]; decide)
              have ga_110 := zGv.at hp145.1 (zK_nO (k := 14) (zne kq138 (fun e9 => absurd (Eq.trans (Eq.symm hM.2.2.2.2.2.2.2.2.2.2.2.2.2.2.1) e9) (by decide))) hM.2.2.2.2.2.2.2.2.2.2.2.2.2.2.1) (by decide) (by rw [show zK (znO (zsI (zsI S 240 (b 0) 0) 240 (b 0) 0) q138 14) q138 = 14 from (zK_nOs (zsI (zsI S 240 (b 0) 0) 240 (b 0) 0) q138 14)]; decide)
              have ga_111 := zGv.at hp145.1 (zK_nO (k := 14) (zne kq138 (fun e9 => absurd (Eq.trans (Eq.symm hM.2.2.2.2.2.2.2.2.2.2.2.2.2.2.2.1) e9) (by decide))) hM.2.2.2.2.2.2.2.2.2.2.2.2.2.2.2.1) (by decide) (by rw [show zK (znO (zsI (zsI S 240 (b 0) 0) 240 (b 0) 0) q138 14) q138 = 14 from (zK_nOs (zsI (zsI S 240 (b 0) 0) 240 (b 0) 0) q138 14)]; decide)
              refine zcV_i (As := [.ref q138]) (rest := []) (n9 := 1) (b := (b 4)) C hw (c_Jx4a65c_add_9ea2d l D y base S145 (b 4) q138 ga_109.1 ((ga_109.2.1 50).1.trans (zI_nO (k := 14) (zne kq138 (fun e9 => absurd (Eq.trans (Eq.symm hM.2.2.2.2.2.2.2.2.2.2.2.2.2.1) e9) (by decide))) (zI_t (S := (zsI S 240 (b 0) 0)) (t := 240) (a := (b 0)) (v := 0) (t' := 50) (a' := (b 4)) (u := 0) (by decide) (zI_t (S := S) (t := 240) (a := (b 0)) (v := 0) (t' := 50) (a' := (b 4)) (u := 0) (by decide) hM0.2.2.2.1)))) ((ga_109.2.1 49).2.trans (zQ_nO (k := 14) (zne kq138 (fun e9 => absurd (Eq.trans (Eq.symm hM.2.2.2.2.2.2.2.2.2.2.2.2.2.1) e9) (by decide))) hF)) hp145.2) gX11_step_Jx4a65c_add_9ea2d rfl (by decide +kernel) ⟨⟨rfl, rfl⟩, Nat.le_of_ble_eq_true rfl, Nat.le_of_ble_eq_true rfl⟩ ga_109.1 ⟨by decide, by decide⟩ rfl rfl hl.1 rfl (Nat.le_of_ble_eq_true rfl) ⟨Nat.le_of_ble_eq_true rfl, Nat.le_of_ble_eq_true rfl⟩ dX11_step_148 (fun r148 S148 H locs hp148 hw => ?_)
              obtain ⟨rfl, a9x⟩ := hp148
              have ga_112 := zGv.at a9x.1 ga_105.1 (by decide) (by rw [show zK S145 (b 4) = 3 from ga_109.1]; decide)
              have ga_113 := zGv.at a9x.1 ga_106.1 (by decide) (by rw [show zK S145 (b 4) = 3 from ga_109.1]; decide)
              have ga_114 := zGv.at a9x.1 ga_107.1 (by decide) (by rw [show zK S145 (b 4) = 3 from ga_109.1]; decide)
              have ga_115 := zGv.at a9x.1 ga_108.1 (by decide) (by rw [show zK S145 (b 4) = 3 from ga_109.1]; decide)
              have ga_116 := zGv.at a9x.1 ga_111.1 (by decide) (by rw [show zK S145 (b 4) = 3 from ga_109.1]; decide)
              have ga_117 := zGv.at a9x.1 hp145.2 (by decide) (by rw [show zK S145 (b 4) = 3 from ga_109.1]; decide)
              refine lv_pop hx hb dX11_step_151 rfl ?_
              refine lv_aload_n hx hb dX11_step_152 rfl (lv_at hl 2 rfl) ?_
              refine g_Mod_steps (a := (b 0)) (v := (b 4)) C hw ga_112.1 in_X11 (by decide +kernel) ((ga_112.2.1 247).2.trans ((ga_105.2.1 247).2.trans (zQ_nO (k := 14) (zne kq138 (fun e9 => absurd (Eq.trans (Eq.symm hM.1) e9) (by decide))) hM.2.2.2.2.1))) dX11_step_153 ?_
              refine zcV_i (As := []) (rest := []) (n9 := 0) (b := (b 4)) C hw (c_Jx4a65c_size_v l D y base S148 (b 4) 1 a9x.2.1 a9x.2.2) gX11_step_Jx4a65c_size_8abf5 rfl (by decide +kernel) ⟨⟨rfl, rfl⟩, Nat.le_of_ble_eq_true rfl, Nat.le_of_ble_eq_true rfl⟩ a9x.2.1 ⟨by decide, by decide⟩ rfl rfl hl.1 rfl (Nat.le_of_ble_eq_true rfl) ⟨Nat.le_of_ble_eq_true rfl, Nat.le_of_ble_eq_true rfl⟩ dX11_step_156 (fun r156 S156 H locs hp156 hw => ?_)
              obtain ⟨rfl, hS9⟩ := hp156
              have hS9 := hS9.symm
              subst hS9
              exact zri C hw hr hlocks rfl ⟨ga_112.1, (((ga_112.2.1 240).1.trans ((ga_105.2.1 240).1.trans (zI_nO (k := 14) (zne kq138 (fun e9 => absurd (Eq.trans (Eq.symm hM.1) e9) (by decide))) (zI_s (zsI S 240 (b 0) 0) 240 (b 0) 0))))).trans (by unfold kd_step; (try unfold zb); grind), (fun h9 => by first | rfl | (revert h9; unfold kd_step; (try unfold zb); grind))⟩ ⟨Nat.le_of_ble_eq_true rfl, Nat.le_of_ble_eq_true rfl⟩ dX11_step_159

