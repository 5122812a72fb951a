set_option maxHeartbeats 4000000 in
set_option maxRecDepth 100000 in
/-- J0_isLatin1_aae02 -/
theorem c_J0_isLatin1_aae02 (l : Launch) (D : va_G) (y : Nat → ClassId) (base : Nat) (S : zS)   : zMi l yJ0_isLatin1_aae02 wsJ0_isLatin1_aae02 ({ frames := 0, cells := 0, slots := 0, locals := 0 }) [.ref (y 90)] D y base S (fun (r : Int32) (S1 : zS) => r = 1 ∧ S1 = S) 0 0 := by
  refine zMet_of (cc := cJ0_isLatin1_aae02) (maxL := 1) (ret := (some .boolean)) (own := RJ0) (by decide +kernel) rfl rfl (Nat.le_of_ble_eq_true rfl) ?_
  intro p e s m args below meth c ls C hr hlocks hnm hw hl
  have hx := C.1
  have hb := C.2.1
  have hown := C.2.2.2.1
  have hts := C.2.2.2.2
  have hl : lv_has ls 1 [(0, .ref (y 90))] := hl
  refine zgetC C hw (by decide +kernel) dJ0_isLatin1_aae02_0 ?_
  refine lv_if_eq (tgt := 17) hx hb dJ0_isLatin1_aae02_3 (by decide) (fun c3 => absurd c3 (by decide)) (fun _ => ?_)
  refine lv_aload_n hx hb dJ0_isLatin1_aae02_6 rfl (lv_at hl 0 rfl) ?_
  refine zgetSc C hw (by decide +kernel) dJ0_isLatin1_aae02_7 ?_
  refine lv_if_ne (tgt := 17) hx hb dJ0_isLatin1_aae02_10 (by decide) (fun c10 => absurd c10 (by decide)) (fun _ => ?_)
  refine lv_iconst (v := 1) hx hb dJ0_isLatin1_aae02_13 (by decide) ?_
  refine lv_goto (tgt := 18) hx hb dJ0_isLatin1_aae02_14 (by decide) ?_
  exact zri C hw hr hlocks (by decide) (by first | exact ⟨rfl, rfl⟩ | exact rfl | (refine ⟨?_, rfl⟩; grind) | grind) ⟨Nat.le_of_ble_eq_true rfl, Nat.le_of_ble_eq_true rfl⟩ dJ0_isLatin1_aae02_18

set_option maxHeartbeats 4000000 in
set_option maxRecDepth 100000 in
/-- J3_checkIndex_8e157 -/
theorem c_J3_checkIndex_8e157 (l : Launch) (D : va_G) (y : Nat → ClassId) (base : Nat) (S : zS) (k : Nat) (x0 : Nat) (hk3 : k < 3) : zMi l yJ3_checkIndex_8e157 wsJ3_checkIndex_8e157 ({ frames := 0, cells := 0, slots := 0, locals := 0 }) [.int (nI k), .int 3, .ref x0] D y base S (fun (r : Int32) (S1 : zS) => r = nI k ∧ S1 = S) 0 0 := by
  refine zMet_of (cc := cJ3_checkIndex_8e157) (maxL := 3) (ret := (some .int)) (own := RJ3) (by decide +kernel) rfl rfl (Nat.le_of_ble_eq_true rfl) ?_
  intro p e s m args below meth c ls C hr hlocks hnm hw hl
  have hx := C.1
  have hb := C.2.1
  have hown := C.2.2.2.1
  have hts := C.2.2.2.2
  have hl : lv_has ls 3 [(0, .int (nI k)), (1, .int 3), (2, .ref x0)] := hl
  refine lv_iload_n hx hb dJ3_checkIndex_8e157_0 rfl (lv_at hl 0 rfl) ?_
  refine lv_if_lt (tgt := 9) hx hb dJ3_checkIndex_8e157_1 (by decide) (fun c1 => (show False from nI_pos (by omega) c1).elim) (fun c1 => ?_)
  refine lv_iload_n hx hb dJ3_checkIndex_8e157_4 rfl (lv_at hl 0 rfl) ?_
  refine lv_iload_n hx hb dJ3_checkIndex_8e157_5 rfl (lv_at hl 1 rfl) ?_
  refine lv_icmp_lt (tgt := 16) hx hb dJ3_checkIndex_8e157_6 (by decide) (fun c6 => ?_) (fun c6 => (show False from c6 (nI_lt (b := 3) hk3 (by decide))).elim)
  refine lv_iload_n hx hb dJ3_checkIndex_8e157_16 rfl (lv_at hl 0 rfl) ?_
  exact zri C hw hr hlocks rfl (by first | exact ⟨rfl, rfl⟩ | exact rfl | (refine ⟨?_, rfl⟩; grind) | grind) ⟨Nat.le_of_ble_eq_true rfl, Nat.le_of_ble_eq_true rfl⟩ dJ3_checkIndex_8e157_17

set_option maxHeartbeats 4000000 in
set_option maxRecDepth 100000 in
/-- J3_checkIndex_8e157 -/
theorem c_J3_checkIndex_8e157_n (l : Launch) (D : va_G) (y : Nat → ClassId) (base : Nat) (S : zS) (k : Nat) (hk3 : k < 3) : zMi l yJ3_checkIndex_8e157 wsJ3_checkIndex_8e157 ({ frames := 0, cells := 0, slots := 0, locals := 0 }) [.int (nI k), .int 3, .null] D y base S (fun (r : Int32) (S1 : zS) => r = nI k ∧ S1 = S) 0 0 := by
  refine zMet_of (cc := cJ3_checkIndex_8e157) (maxL := 3) (ret := (some .int)) (own := RJ3) (by decide +kernel) rfl rfl (Nat.le_of_ble_eq_true rfl) ?_
  intro p e s m args below meth c ls C hr hlocks hnm hw hl
  have hx := C.1
  have hb := C.2.1
  have hown := C.2.2.2.1
  have hts := C.2.2.2.2
  have hl : lv_has ls 3 [(0, .int (nI k)), (1, .int 3), (2, .null)] := hl
  refine lv_iload_n hx hb dJ3_checkIndex_8e157_0 rfl (lv_at hl 0 rfl) ?_
  refine lv_if_lt (tgt := 9) hx hb dJ3_checkIndex_8e157_1 (by decide) (fun c1 => (show False from nI_pos (by omega) c1).elim) (fun c1 => ?_)
  refine lv_iload_n hx hb dJ3_checkIndex_8e157_4 rfl (lv_at hl 0 rfl) ?_
  refine lv_iload_n hx hb dJ3_checkIndex_8e157_5 rfl (lv_at hl 1 rfl) ?_
  refine lv_icmp_lt (tgt := 16) hx hb dJ3_checkIndex_8e157_6 (by decide) (fun c6 => ?_) (fun c6 => (show False from c6 (nI_lt (b := 3) hk3 (by decide))).elim)
  refine lv_iload_n hx hb dJ3_checkIndex_8e157_16 rfl (lv_at hl 0 rfl) ?_
  exact zri C hw hr hlocks rfl (by first | exact ⟨rfl, rfl⟩ | exact rfl | (refine ⟨?_, rfl⟩; grind) | grind) ⟨Nat.le_of_ble_eq_true rfl, Nat.le_of_ble_eq_true rfl⟩ dJ3_checkIndex_8e157_17

set_option maxHeartbeats 4000000 in
set_option maxRecDepth 100000 in
/-- J0_checkIndex_df160 -/
theorem c_J0_checkIndex_df160 (l : Launch) (D : va_G) (y : Nat → ClassId) (base : Nat) (S : zS) (k : Nat) (hk3 : k < 3) : zMv l yJ0_checkIndex_df160 wsJ0_checkIndex_df160 ({ frames := 1, cells := 0, slots := 0, locals := 22 }) [.int (nI k), .int 3] D y base S (fun (S1 : zS) => S1 = S) 0 0 := by
  refine zMet_of (cc := cJ0_checkIndex_df160) (maxL := 2) (ret := none) (own := RJ0) (by decide +kernel) rfl rfl (Nat.le_of_ble_eq_true rfl) ?_
  intro p e s m args below meth c ls C hr hlocks hnm hw hl
  have hx := C.1
  have hb := C.2.1
  have hown := C.2.2.2.1
  have hts := C.2.2.2.2
  have hl : lv_has ls 2 [(0, .int (nI k)), (1, .int 3)] := hl
  refine lv_iload_n hx hb dJ0_checkIndex_df160_0 rfl (lv_at hl 0 rfl) ?_
  refine lv_iload_n hx hb dJ0_checkIndex_df160_1 rfl (lv_at hl 1 rfl) ?_
  refine zgetF C hw (by decide +kernel) dJ0_checkIndex_df160_2 ?_ (fun t9 => ?_)
  · refine zcS_i (As := [.int (nI k), .int 3, .null]) (rest := []) (n9 := 3) C hw (c_J3_checkIndex_8e157_n l D y base S k hk3) gJ0_checkIndex_df160_J3_checkIndex_8e157 rfl (by decide +kernel) ⟨⟨rfl, rfl⟩, Nat.le_of_ble_eq_true rfl, Nat.le_of_ble_eq_true rfl⟩ rfl hl.1 rfl (Nat.le_of_ble_eq_true rfl) ⟨Nat.le_of_ble_eq_true rfl, Nat.le_of_ble_eq_true rfl⟩ dJ0_checkIndex_df160_5 (fun r5 S5 H locs hp5 hw => ?_)
    obtain ⟨rfl, hS9⟩ := hp5
    have hS9 := hS9.symm
    subst hS9
    refine lv_pop hx hb dJ0_checkIndex_df160_8 rfl ?_
    exact zrv C hw hr hlocks (by first | exact ⟨rfl, rfl⟩ | exact rfl | (refine ⟨?_, rfl⟩; grind) | grind) ⟨Nat.le_of_ble_eq_true rfl, Nat.le_of_ble_eq_true rfl⟩ dJ0_checkIndex_df160_9
  · refine zcS_i (As := [.int (nI k), .int 3, .ref t9]) (rest := []) (n9 := 3) C hw (c_J3_checkIndex_8e157 l D y base S k t9 hk3) gJ0_checkIndex_df160_J3_checkIndex_8e157 rfl (by decide +kernel) ⟨⟨rfl, rfl⟩, Nat.le_of_ble_eq_true rfl, Nat.le_of_ble_eq_true rfl⟩ rfl hl.1 rfl (Nat.le_of_ble_eq_true rfl) ⟨Nat.le_of_ble_eq_true rfl, Nat.le_of_ble_eq_true rfl⟩ dJ0_checkIndex_df160_5 (fun r5 S5 H locs hp5 hw => ?_)
    obtain ⟨rfl, hS9⟩ := hp5
    have hS9 := hS9.symm
    subst hS9
    refine lv_pop hx hb dJ0_checkIndex_df160_8 rfl ?_
    exact zrv C hw hr hlocks (by first | exact ⟨rfl, rfl⟩ | exact rfl | (refine ⟨?_, rfl⟩; grind) | grind) ⟨Nat.le_of_ble_eq_true rfl, Nat.le_of_ble_eq_true rfl⟩ dJ0_checkIndex_df160_9

set_option maxHeartbeats 4000000 in
set_option maxRecDepth 100000 in
/-- J1_charAt_3b067 -/
theorem c_J1_charAt_3b067 (l : Launch) (D : va_G) (y : Nat → ClassId) (base : Nat) (S : zS) (k : Nat) (hk3 : k < 3) : zMi l yJ1_charAt_3b067 wsJ1_charAt_3b067 ({ frames := 2, cells := 0, slots := 0, locals := 43 }) [.ref (y 91), .int (nI k)] D y base S (fun (r : Int32) (S1 : zS) => r = zneo k ∧ S1 = S) 0 0 := by
  refine zMet_of (cc := cJ1_charAt_3b067) (maxL := 2) (ret := (some .char)) (own := RJ1) (by decide +kernel) rfl rfl (Nat.le_of_ble_eq_true rfl) ?_
  intro p e s m args below meth c ls C hr hlocks hnm hw hl
  have hx := C.1
  have hb := C.2.1
  have hown := C.2.2.2.1
  have hts := C.2.2.2.2
  have hl : lv_has ls 2 [(0, .ref (y 91)), (1, .int (nI k))] := hl
  refine lv_iload_n hx hb dJ1_charAt_3b067_0 rfl (lv_at hl 1 rfl) ?_
  refine lv_aload_n hx hb dJ1_charAt_3b067_1 rfl (lv_at hl 0 rfl) ?_
  refine zSlen C hw dJ1_charAt_3b067_2 ?_
  refine zcS_v (As := [.int (nI k), .int 3]) (rest := []) (n9 := 2) C hw (c_J0_checkIndex_df160 l D y base S k hk3) gJ1_charAt_3b067_J0_checkIndex_df160 rfl (by decide +kernel) ⟨⟨rfl, rfl⟩, Nat.le_of_ble_eq_true rfl, Nat.le_of_ble_eq_true rfl⟩ rfl hl.1 rfl (Nat.le_of_ble_eq_true rfl) ⟨Nat.le_of_ble_eq_true rfl, Nat.le_of_ble_eq_true rfl⟩ dJ1_charAt_3b067_3 (fun S3 H locs hp3 hw => ?_)
  have hS9 := hp3
  have hS9 := hS9.symm
  subst hS9
  refine lv_aload_n hx hb dJ1_charAt_3b067_6 rfl (lv_at hl 0 rfl) ?_
  refine lv_iload_n hx hb dJ1_charAt_3b067_7 rfl (lv_at hl 1 rfl) ?_
  refine zSald (v := (zneo k)) C hw (vp_in_nI hk3 (by decide)) (zneo_at k hk3) dJ1_charAt_3b067_8 ?_
  refine lv_sipush (v := 255) hx hb dJ1_charAt_3b067_9 (by decide) ?_
  refine lv_iand hx hb dJ1_charAt_3b067_12 ?_
  refine lv_i2c (v := (((zneo k) &&& 255).toUInt32 % 65536).toInt32) hx hb dJ1_charAt_3b067_13 rfl ?_
  refine zrd (x := (zneo k)) (zneo_c k hk3) ?_
  exact zri C hw hr hlocks (zneo_n k hk3) (by first | exact ⟨rfl, rfl⟩ | exact rfl | (refine ⟨?_, rfl⟩; grind) | grind) ⟨Nat.le_of_ble_eq_true rfl, Nat.le_of_ble_eq_true rfl⟩ dJ1_charAt_3b067_14

set_option maxHeartbeats 4000000 in
set_option maxRecDepth 100000 in
/-- J0_charAt_5068e -/
theorem c_J0_charAt_5068e (l : Launch) (D : va_G) (y : Nat → ClassId) (base : Nat) (S : zS) (k : Nat) (hk3 : k < 3) : zMi l yJ0_charAt_5068e wsJ0_charAt_5068e ({ frames := 3, cells := 0, slots := 0, locals := 64 }) [.ref (y 90), .int (nI k)] D y base S (fun (r : Int32) (S1 : zS) => r = zneo k ∧ S1 = S) 0 0 := by
  refine zMet_of (cc := cJ0_charAt_5068e) (maxL := 2) (ret := (some .char)) (own := RJ0) (by decide +kernel) rfl rfl (Nat.le_of_ble_eq_true rfl) ?_
  intro p e s m args below meth c ls C hr hlocks hnm hw hl
  have hx := C.1
  have hb := C.2.1
  have hown := C.2.2.2.1
  have hts := C.2.2.2.2
  have hl : lv_has ls 2 [(0, .ref (y 90)), (1, .int (nI k))] := hl
  refine lv_aload_n hx hb dJ0_charAt_5068e_0 rfl (lv_at hl 0 rfl) ?_
  refine zcVS_i (As := []) (rest := []) (n9 := 0) C hw (c_J0_isLatin1_aae02 l D y base S  ) gJ0_charAt_5068e_J0_isLatin1_aae02 rfl (by decide +kernel) ⟨⟨rfl, rfl⟩, Nat.le_of_ble_eq_true rfl, Nat.le_of_ble_eq_true rfl⟩ rfl hl.1 rfl (Nat.le_of_ble_eq_true rfl) ⟨Nat.le_of_ble_eq_true rfl, Nat.le_of_ble_eq_true rfl⟩ dJ0_charAt_5068e_1 (fun r1 S1 H locs hp1 hw => ?_)
  obtain ⟨rfl, hS9⟩ := hp1
  have hS9 := hS9.symm
  subst hS9
  refine lv_if_eq (tgt := 16) hx hb dJ0_charAt_5068e_4 (by decide) (fun c4 => absurd c4 (by decide)) (fun _ => ?_)
  refine lv_aload_n hx hb dJ0_charAt_5068e_7 rfl (lv_at hl 0 rfl) ?_
  refine zgetSv C hw (by decide +kernel) dJ0_charAt_5068e_8 ?_
  refine lv_iload_n hx hb dJ0_charAt_5068e_11 rfl (lv_at hl 1 rfl) ?_
  refine zcS_i (As := [.ref (y 91), .int (nI k)]) (rest := []) (n9 := 2) C hw (c_J1_charAt_3b067 l D y base S k hk3) gJ0_charAt_5068e_J1_charAt_3b067 rfl (by decide +kernel) ⟨⟨rfl, rfl⟩, Nat.le_of_ble_eq_true rfl, Nat.le_of_ble_eq_true rfl⟩ rfl hl.1 rfl (Nat.le_of_ble_eq_true rfl) ⟨Nat.le_of_ble_eq_true rfl, Nat.le_of_ble_eq_true rfl⟩ dJ0_charAt_5068e_12 (fun r12 S12 H locs hp12 hw => ?_)
  obtain ⟨rfl, hS9⟩ := hp12
  have hS9 := hS9.symm
  subst hS9
  exact zri C hw hr hlocks (zneo_n k hk3) (by first | exact ⟨rfl, rfl⟩ | exact rfl | (refine ⟨?_, rfl⟩; grind) | grind) ⟨Nat.le_of_ble_eq_true rfl, Nat.le_of_ble_eq_true rfl⟩ dJ0_charAt_5068e_15

set_option maxHeartbeats 4000000 in
set_option maxRecDepth 100000 in
/-- L_at -/
theorem c_L_at (l : Launch) (D : va_G) (y : Nat → ClassId) (base : Nat) (S : zS) (k : Nat) (hk31 : k < 2 ^ 31) (hy99 : y 99 < 2 ^ 31) : zMi l yL_at wsL_at ({ frames := 0, cells := 0, slots := 0, locals := 0 }) [.ref (y 98), .int (nI k)] D y base S (fun (r : Int32) (S1 : zS) => r = (if k < y 99 then zxs y k else 0) ∧ S1 = S) 0 0 := by
  refine zMet_of (cc := cL_at) (maxL := 2) (ret := (some .int)) (own := RL) (by decide +kernel) rfl rfl (Nat.le_of_ble_eq_true rfl) ?_
  intro p e s m args below meth c ls C hr hlocks hnm hw hl
  have hx := C.1
  have hb := C.2.1
  have hown := C.2.2.2.1
  have hts := C.2.2.2.2
  have hl : lv_has ls 2 [(0, .ref (y 98)), (1, .int (nI k))] := hl
  refine lv_iload_n hx hb dL_at_0 rfl (lv_at hl 1 rfl) ?_
  refine lv_aload_n hx hb dL_at_1 rfl (lv_at hl 0 rfl) ?_
  refine zslen C hw dL_at_2 ?_
  refine lv_icmp_ge (tgt := 12) hx hb dL_at_3 (by decide) (fun c3 => ?_) (fun c3 => ?_)
  · refine lv_iconst (v := 0) hx hb dL_at_12 (by decide) ?_
    exact zri C hw hr hlocks rfl ⟨(by rw [if_neg (by have := z_ge c3 hk31 hy99; omega)]), rfl⟩ ⟨Nat.le_of_ble_eq_true rfl, Nat.le_of_ble_eq_true rfl⟩ dL_at_13
  · refine lv_aload_n hx hb dL_at_6 rfl (lv_at hl 0 rfl) ?_
    refine lv_iload_n hx hb dL_at_7 rfl (lv_at hl 1 rfl) ?_
    refine zsld (v := (zxs y k)) C hw (vp_in_nI (z_lt c3 hk31 hy99) hy99) (by rw [nI_clamp hk31]) dL_at_8 ?_
    refine lv_goto (tgt := 13) hx hb dL_at_9 (by decide) ?_
    exact zri C hw hr hlocks rfl ⟨(by rw [if_pos (z_lt c3 hk31 hy99)]), rfl⟩ ⟨Nat.le_of_ble_eq_true rfl, Nat.le_of_ble_eq_true rfl⟩ dL_at_13

set_option maxHeartbeats 4000000 in
set_option maxRecDepth 100000 in
/-- L_some -/
theorem c_L_some (l : Launch) (D : va_G) (y : Nat → ClassId) (base : Nat) (S : zS) (v : Int32) (n : Nat) (hn0 : 0 < n) (hn30 : n < 2 ^ 30) : zMi l yL_some wsL_some ({ frames := 0, cells := 0, slots := 0, locals := 0 }) [.int v, .int (nI n)] D y base S (fun (r : Int32) (S1 : zS) => r = nI (zsome v n) ∧ S1 = S) 0 0 := by
  refine zMet_of (cc := cL_some) (maxL := 3) (ret := (some .int)) (own := RL) (by decide +kernel) rfl rfl (Nat.le_of_ble_eq_true rfl) ?_
  intro p e s m args below meth c ls C hr hlocks hnm hw hl
  have hx := C.1
  have hb := C.2.1
  have hown := C.2.2.2.1
  have hts := C.2.2.2.2
  have hl : lv_has ls 3 [(0, .int v), (1, .int (nI n))] := hl
  refine lv_iload_n hx hb dL_some_0 rfl (lv_at hl 0 rfl) ?_
  refine lv_iload_n hx hb dL_some_1 rfl (lv_at hl 1 rfl) ?_
  refine lv_irem hx hb dL_some_2 (fun h => absurd ((nI_eq (b := 0) (by omega) (by decide)).mp h) (by omega)) ?_
  refine lv_istore_n (lv' := [(2, .int (v - v / (nI n) * (nI n))), (0, .int v), (1, .int (nI n))]) hx hb dL_some_3 rfl hl (by decide) rfl (fun ls hl => ?_)
  refine lv_iload_n hx hb dL_some_4 rfl (lv_at hl 0 rfl) ?_
  refine lv_if_ge (tgt := 14) hx hb dL_some_5 (by decide) (fun c5 => ?_) (fun c5 => ?_)
  · refine lv_iload_n hx hb dL_some_14 rfl (lv_at hl 0 rfl) ?_
    exact zri C hw hr hlocks rfl ⟨zsome_pos hn0 hn30 c5, rfl⟩ ⟨Nat.le_of_ble_eq_true rfl, Nat.le_of_ble_eq_true rfl⟩ dL_some_15
  · refine lv_iload_n hx hb dL_some_8 rfl (lv_at hl 0 rfl) ?_
    refine lv_iload_n hx hb dL_some_9 rfl (lv_at hl 2 rfl) ?_
    refine lv_iadd hx hb dL_some_10 ?_
    refine lv_goto (tgt := 15) hx hb dL_some_11 (by decide) ?_
    exact zri C hw hr hlocks rfl ⟨zsome_neg hn0 hn30 c5, rfl⟩ ⟨Nat.le_of_ble_eq_true rfl, Nat.le_of_ble_eq_true rfl⟩ dL_some_15

