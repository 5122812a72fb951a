set_option maxHeartbeats 4000000 in
set_option maxRecDepth 100000 in
/-- X6_flipSent -/
theorem c_X6_flipSent_n (l : Launch) (D : va_G) (y : Nat → ClassId) (base : Nat) (S : zS) (w : Nat) (tk : Nat) (sn : Nat) (k : Nat) (hW : zWire S w tk sn) (h164 : zI S 164 w = nI k) (hk64 : k ≤ 64) (h161 : zI S 161 w = 0) (hasc : ∀ i j, i < j → j < k → zR S 22 sn i < zR S 22 sn j) : zMv l yX6_flipSent wsX6_flipSent ({ frames := 3, cells := 0, slots := 0, locals := 66 }) [.ref w] D y base S (fun (S1 : zS) => zFlp S S1 w tk ∧ zI S1 161 w = nI k) 0 0 := by
  refine zMet_of (cc := cX6_flipSent) (maxL := 2) (ret := none) (own := RX6) (by decide +kernel) rfl rfl (Nat.le_of_ble_eq_true rfl) ?_
  intro p e s m args below meth c ls C hr hlocks hnm hw hl
  have hx := C.1
  have hb := C.2.1
  have hown := C.2.2.2.1
  have hts := C.2.2.2.2
  have hl : lv_has ls 2 [(0, .ref w)] := hl
  have in_X6 : ∀ w ∈ wsX60, w ∈ wsX6_flipSent := by decide +kernel
  have hts9 : tk ≠ sn := hW.2.2.2.2.2.2.2
  refine lv_iconst (v := 0) hx hb dX6_flipSent_0 (by decide) ?_
  refine lv_istore_n (lv' := [(1, .int 0), (0, .ref w)]) hx hb dX6_flipSent_1 rfl hl (by decide) rfl (fun ls hl => ?_)
  have lp_2 : ∀ (n9 : Nat) (i : Nat) (S2 : zS) (H : Heap) (locs : List Loc) (ls : Array Slot), 64 - i < n9 → (i ≤ k) → (zFlp S S2 w tk) → (zI S2 161 w = nI i) → (∀ j, j < i → zR S2 22 tk j = zR S 22 sn j) → zW D y base S2 s H locs → lv_has ls 2 [(1, .int (nI i)), (0, .ref w)] → W p l e (headSpec wsX6_flipSent ({ frames := 3, cells := 0, slots := 0, locals := 66 })).room s m args below meth c H locs 0 0 (MQ below (va_Qv (fun (S1 : zS) => zFlp S S1 w tk ∧ zI S1 161 w = nI k) (zPost D y base) (zA base)) args s 0 0 (zA base)) (F0 m 2 ls []) := by
    intro n9
    induction n9 with
    | zero =>
      intro i S2 H locs ls hn9
      exact absurd hn9 (Nat.not_lt_zero _)
    | succ n9 ih_1 =>
      intro i S2 H locs ls hn9 hi hf h2 hj hw hl
      have hW2 : zWire S2 w tk sn := zWire.fix hf.1 hW
      have h164b : zI S2 164 w = nI k := (hf.2.1 164 w (Or.inr (by decide))).trans h164
      have hsn : zR S2 22 sn = zR S 22 sn := hf.2.2.1 22 sn (Or.inl (Ne.symm hts9))
      refine lv_iload_n hx hb dX6_flipSent_2 rfl (lv_at hl 0 rfl) ?_
      refine lv_aload_n hx hb dX6_flipSent_3 rfl (lv_at hl 1 rfl) ?_
      refine g_Wire_sentCount (a := w) (v := (nI k)) C hw hW2.1 in_X6 (by decide +kernel) h164b dX6_flipSent_4 ?_
      refine lv_icmp_ge (tgt := 35) hx hb dX6_flipSent_7 (by decide) (fun c7 => ?_) (fun c7 => ?_)
      · exact zrv C hw hr hlocks ⟨hf, (by rw [h2, show i = k by (first | (have := z_ge (n := k) c7 (by omega) (by omega); omega) | (have := z_ge (n := 64) c16 (by omega) (by omega); omega))])⟩ ⟨Nat.le_of_ble_eq_true rfl, Nat.le_of_ble_eq_true rfl⟩ dX6_flipSent_35
      · refine lv_iload_n hx hb dX6_flipSent_10 rfl (lv_at hl 0 rfl) ?_
        refine lv_aload_n hx hb dX6_flipSent_11 rfl (lv_at hl 1 rfl) ?_
        refine g_Wire_sent (a := w) (v := sn) C hw hW2.1 in_X6 (by decide +kernel) hW2.2.2.1 dX6_flipSent_12 ?_
        refine zalen (a := sn) (v := 64) C hw hW2.2.2.2.2.2.1 (by decide) (t0 := 1) rfl (zlen hW2.2.2.2.2.2.2.1 rfl) dX6_flipSent_15 ?_
        refine lv_icmp_ge (tgt := 35) hx hb dX6_flipSent_16 (by decide) (fun c16 => ?_) (fun c16 => ?_)
        · exact zrv C hw hr hlocks ⟨hf, (by rw [h2, show i = k by (first | (have := z_ge (n := k) c7 (by omega) (by omega); omega) | (have := z_ge (n := 64) c16 (by omega) (by omega); omega))])⟩ ⟨Nat.le_of_ble_eq_true rfl, Nat.le_of_ble_eq_true rfl⟩ dX6_flipSent_35
        · refine lv_aload_n hx hb dX6_flipSent_19 rfl (lv_at hl 1 rfl) ?_
          refine lv_aload_n hx hb dX6_flipSent_20 rfl (lv_at hl 1 rfl) ?_
          refine g_Wire_sent (a := w) (v := sn) C hw hW2.1 in_X6 (by decide +kernel) hW2.2.2.1 dX6_flipSent_21 ?_
          refine lv_iload_n hx hb dX6_flipSent_24 rfl (lv_at hl 0 rfl) ?_
          refine zald_I (a := sn) C hw hW2.2.2.2.2.2.1 hW2.2.2.2.2.2.2.1 (vp_in_nI (z_lt (n := 64) c16 (by omega) (by omega)) (by decide)) dX6_flipSent_25 ?_
          refine zcV_v (As := [.int (zR S2 22 sn ((nI i)).toNatClampNeg)]) (rest := []) (n9 := 1) (b := w) C hw (c_X6_flipAt l D y base S2 w tk sn (zR S2 22 sn ((nI i)).toNatClampNeg) hW2) gX6_flipSent_X6_flipAt rfl (by decide +kernel) ⟨⟨rfl, rfl⟩, Nat.le_of_ble_eq_true rfl, Nat.le_of_ble_eq_true rfl⟩ hW2.1 ⟨by decide, by decide⟩ rfl rfl hl.1 rfl (Nat.le_of_ble_eq_true rfl) ⟨Nat.le_of_ble_eq_true rfl, Nat.le_of_ble_eq_true rfl⟩ dX6_flipSent_26 (fun S26 H locs hp26 hw => ?_)
          refine lv_iinc (v := (nI (i + 1))) (lv' := [(1, .int (nI (i + 1))), (0, .ref w)]) hx hb dX6_flipSent_29 hl (k := 0) rfl (nI_1 _) (by decide) rfl (fun ls hl => ?_)
          refine lv_goto (tgt := 2) hx hb dX6_flipSent_32 (by decide) ?_
          have hik := z_lt (n := k) c7 (by omega) (by omega)
          rw [nI_clamp (by omega)] at hp26
          have hst := zflp_step h2 (by omega) (fun j hjj => by rw [hj j hjj, hsn]; exact hasc j i hjj hik) hp26
          exact ih_1 (i + 1) S26 _ _ _ (by omega) (by omega) (hf.tr hp26.1) hst.1 (by intro j hjj; by_cases e : j = i; rw [e, hst.2.2, hsn]; rw [hst.2.1 j (by omega), hj j (by omega)]) hw (lv_sub hl [0, 1] rfl)
  exact lp_2 _ 0 S _ _ _ (Nat.lt_succ_self _) (Nat.zero_le _) zFlp.rf h161 (fun j h => absurd h (Nat.not_lt_zero j)) hw (lv_sub hl [0, 1] rfl)

set_option maxHeartbeats 4000000 in
set_option maxRecDepth 100000 in
/-- X7_checkThreeApart -/
theorem c_X7_checkThreeApart (l : Launch) (hst : l.stackTraces = false) (D : va_G) (y : Nat → ClassId) (base : Nat) (S : zS) (p0 : Int32) (p1 : Int32) (p2 : Int32)  : zXv l yX7_checkThreeApart wsX7_checkThreeApart ({ frames := 7, cells := 3, slots := 18, locals := 111 }) [.int p0, .int p1, .int p2] D y base S (fun (S1 : zS) => (¬ p0 = p1 ∧ ¬ p0 = p2 ∧ ¬ p1 = p2) ∧ S1 = S) (fun (E : String) (S1 : zS) => E = "java/lang/IllegalArgumentException" ∧ ¬ (¬ p0 = p1 ∧ ¬ p0 = p2 ∧ ¬ p1 = p2) ∧ S1 = S) 3 18 := by
  refine zXet_of (cc := cX7_checkThreeApart) (maxL := 3) (ret := none) (own := RX7) (by decide +kernel) rfl rfl (Nat.le_of_ble_eq_true rfl) ?_
  intro p e s m args below meth c ls C hr hlocks hx0 hw hl
  have hx := C.1
  have hb := C.2.1
  have hown := C.2.2.2.1
  have hts := C.2.2.2.2
  have hl : lv_has ls 3 [(0, .int p0), (1, .int p1), (2, .int p2)] := hl
  refine lv_iload_n hx hb dX7_checkThreeApart_0 rfl (lv_at hl 0 rfl) ?_
  refine lv_iload_n hx hb dX7_checkThreeApart_1 rfl (lv_at hl 1 rfl) ?_
  refine zcS_xv (As := [.int p0, .int p1]) (rest := []) (n9 := 2) C hw (c_X7_checkApart l hst D y base S p0 p1 ) gX7_checkThreeApart_X7_checkApart rfl (by decide +kernel) ⟨⟨rfl, rfl⟩, Nat.le_of_ble_eq_true rfl, Nat.le_of_ble_eq_true rfl⟩ rfl hl.1 rfl (Nat.le_of_ble_eq_true rfl) ⟨Nat.le_of_ble_eq_true rfl, Nat.le_of_ble_eq_true rfl⟩ dX7_checkThreeApart_2 (fun E ce q9 S2 H locs hx2 hw h1 h2 h3 => zxout hw hx0 hlocks h1 h2 h3 (by obtain ⟨rfl, hc9, rfl⟩ := hx2; refine ⟨rfl, ?_, rfl⟩; grind) ⟨Nat.le_of_ble_eq_true rfl, Nat.le_of_ble_eq_true rfl⟩) (fun S2 H locs hp2 hw => ?_)
  obtain ⟨hp2, hS9⟩ := hp2
  have hS9 := hS9.symm
  subst hS9
  refine lv_iload_n hx hb dX7_checkThreeApart_5 rfl (lv_at hl 0 rfl) ?_
  refine lv_iload_n hx hb dX7_checkThreeApart_6 rfl (lv_at hl 2 rfl) ?_
  refine zcS_xv (As := [.int p0, .int p2]) (rest := []) (n9 := 2) C hw (c_X7_checkApart l hst D y base S p0 p2 ) gX7_checkThreeApart_X7_checkApart rfl (by decide +kernel) ⟨⟨rfl, rfl⟩, Nat.le_of_ble_eq_true rfl, Nat.le_of_ble_eq_true rfl⟩ rfl hl.1 rfl (Nat.le_of_ble_eq_true rfl) ⟨Nat.le_of_ble_eq_true rfl, Nat.le_of_ble_eq_true rfl⟩ dX7_checkThreeApart_7 (fun E ce q9 S7 H locs hx7 hw h1 h2 h3 => zxout hw hx0 hlocks h1 h2 h3 (by obtain ⟨rfl, hc9, rfl⟩ := hx7; refine ⟨rfl, ?_, rfl⟩; grind) ⟨Nat.le_of_ble_eq_true rfl, Nat.le_of_ble_eq_true rfl⟩) (fun S7 H locs hp7 hw => ?_)
  obtain ⟨hp7, hS9⟩ := hp7
  have hS9 := hS9.symm
  subst hS9
  refine lv_iload_n hx hb dX7_checkThreeApart_10 rfl (lv_at hl 1 rfl) ?_
  refine lv_iload_n hx hb dX7_checkThreeApart_11 rfl (lv_at hl 2 rfl) ?_
  refine zcS_xv (As := [.int p1, .int p2]) (rest := []) (n9 := 2) C hw (c_X7_checkApart l hst D y base S p1 p2 ) gX7_checkThreeApart_X7_checkApart rfl (by decide +kernel) ⟨⟨rfl, rfl⟩, Nat.le_of_ble_eq_true rfl, Nat.le_of_ble_eq_true rfl⟩ rfl hl.1 rfl (Nat.le_of_ble_eq_true rfl) ⟨Nat.le_of_ble_eq_true rfl, Nat.le_of_ble_eq_true rfl⟩ dX7_checkThreeApart_12 (fun E ce q9 S12 H locs hx12 hw h1 h2 h3 => zxout hw hx0 hlocks h1 h2 h3 (by obtain ⟨rfl, hc9, rfl⟩ := hx12; refine ⟨rfl, ?_, rfl⟩; grind) ⟨Nat.le_of_ble_eq_true rfl, Nat.le_of_ble_eq_true rfl⟩) (fun S12 H locs hp12 hw => ?_)
  obtain ⟨hp12, hS9⟩ := hp12
  have hS9 := hS9.symm
  subst hS9
  exact vx_ret (zrv C hw hr hlocks ⟨⟨hp2, hp7, hp12⟩, rfl⟩ ⟨Nat.le_of_ble_eq_true rfl, Nat.le_of_ble_eq_true rfl⟩ dX7_checkThreeApart_15)

set_option maxHeartbeats 4000000 in
set_option maxRecDepth 100000 in
/-- X7_hasBit -/
theorem c_X7_hasBit (l : Launch) (D : va_G) (y : Nat → ClassId) (base : Nat) (S : zS) (p0 : Int32) (p1 : Int32)  : zMi l yX7_hasBit wsX7_hasBit ({ frames := 0, cells := 0, slots := 0, locals := 0 }) [.int p0, .int p1] D y base S (fun (r : Int32) (S1 : zS) => r = zbv p0 p1 ∧ S1 = S) 0 0 := by
  refine zMet_of (cc := cX7_hasBit) (maxL := 2) (ret := (some .boolean)) (own := RX7) (by decide +kernel) rfl rfl (Nat.le_of_ble_eq_true rfl) ?_
  intro p e s m args below meth c ls C hr hlocks hnm hw hl
  have hx := C.1
  have hb := C.2.1
  have hown := C.2.2.2.1
  have hts := C.2.2.2.2
  have hl : lv_has ls 2 [(0, .int p0), (1, .int p1)] := hl
  refine lv_iload_n hx hb dX7_hasBit_0 rfl (lv_at hl 0 rfl) ?_
  refine lv_iload_n hx hb dX7_hasBit_1 rfl (lv_at hl 1 rfl) ?_
  refine lv_ishr hx hb dX7_hasBit_2 ?_
  refine lv_iconst (v := 1) hx hb dX7_hasBit_3 (by decide) ?_
  refine lv_iand hx hb dX7_hasBit_4 ?_
  refine lv_iconst (v := 1) hx hb dX7_hasBit_5 (by decide) ?_
  refine lv_icmp_ne (tgt := 13) hx hb dX7_hasBit_6 (by decide) (fun c6 => ?_) (fun c6 => ?_)
  · refine lv_iconst (v := 0) hx hb dX7_hasBit_13 (by decide) ?_
    exact zri C hw hr hlocks (by decide) ⟨zbv_0 c6, rfl⟩ ⟨Nat.le_of_ble_eq_true rfl, Nat.le_of_ble_eq_true rfl⟩ dX7_hasBit_14
  · refine lv_iconst (v := 1) hx hb dX7_hasBit_9 (by decide) ?_
    refine lv_goto (tgt := 14) hx hb dX7_hasBit_10 (by decide) ?_
    exact zri C hw hr hlocks (by decide) ⟨zbv_1 c6, rfl⟩ ⟨Nat.le_of_ble_eq_true rfl, Nat.le_of_ble_eq_true rfl⟩ dX7_hasBit_14

set_option maxHeartbeats 4000000 in
set_option maxRecDepth 100000 in
/-- X7_tickBehind -/
theorem c_X7_tickBehind (l : Launch) (D : va_G) (y : Nat → ClassId) (base : Nat) (S : zS) (x0 : Nat) (p0 : Int32) (p1 : Int32) (hk : zK S x0 = 11) (h181 : zI S 181 x0 = 0) : zMi l yX7_tickBehind wsX7_tickBehind ({ frames := 0, cells := 0, slots := 0, locals := 0 }) [.ref x0, .int p0, .int p1] D y base S (fun (r : Int32) (S1 : zS) => r = p0 + p1 ∧ S1 = S) 0 0 := by
  refine zMet_of (cc := cX7_tickBehind) (maxL := 3) (ret := (some .int)) (own := RX7) (by decide +kernel) rfl rfl (Nat.le_of_ble_eq_true rfl) ?_
  intro p e s m args below meth c ls C hr hlocks hnm hw hl
  have hx := C.1
  have hb := C.2.1
  have hown := C.2.2.2.1
  have hts := C.2.2.2.2
  have hl : lv_has ls 3 [(0, .ref x0), (1, .int p0), (2, .int p1)] := hl
  have in_X7 : ∀ w ∈ wsX70, w ∈ wsX7_tickBehind := by decide +kernel
  refine lv_iload_n hx hb dX7_tickBehind_0 rfl (lv_at hl 1 rfl) ?_
  refine lv_iload_n hx hb dX7_tickBehind_1 rfl (lv_at hl 2 rfl) ?_
  refine lv_iadd hx hb dX7_tickBehind_2 ?_
  refine lv_iload_n hx hb dX7_tickBehind_3 rfl (lv_at hl 2 rfl) ?_
  refine lv_aload_n hx hb dX7_tickBehind_4 rfl (lv_at hl 0 rfl) ?_
  refine g_Ph_thousandths (a := x0) (v := 0) C hw hk in_X7 (by decide +kernel) h181 dX7_tickBehind_5 ?_
  refine lv_imul hx hb dX7_tickBehind_8 ?_
  refine lv_sipush (v := 1000) hx hb dX7_tickBehind_9 (by decide) ?_
  refine lv_idiv hx hb dX7_tickBehind_12 (by decide) ?_
  refine lv_iadd hx hb dX7_tickBehind_13 ?_
  exact zri C hw hr hlocks rfl ⟨by rw [Int32.mul_zero, Int32.zero_div, Int32.add_zero], rfl⟩ ⟨Nat.le_of_ble_eq_true rfl, Nat.le_of_ble_eq_true rfl⟩ dX7_tickBehind_14

set_option maxHeartbeats 4000000 in
set_option maxRecDepth 100000 in
/-- X7_serialBits -/
theorem c_X7_serialBits (l : Launch) (D : va_G) (y : Nat → ClassId) (base : Nat) (S : zS) (p0 : Int32)  : zMi l yX7_serialBits wsX7_serialBits ({ frames := 0, cells := 0, slots := 0, locals := 0 }) [.int p0] D y base S (fun (r : Int32) (S1 : zS) => r = nI (zsbN p0) ∧ S1 = S) 0 0 := by
  refine zMet_of (cc := cX7_serialBits) (maxL := 1) (ret := (some .int)) (own := RX7) (by decide +kernel) rfl rfl (Nat.le_of_ble_eq_true rfl) ?_
  intro p e s m args below meth c ls C hr hlocks hnm hw hl
  have hx := C.1
  have hb := C.2.1
  have hown := C.2.2.2.1
  have hts := C.2.2.2.2
  have hl : lv_has ls 1 [(0, .int p0)] := hl
  refine lv_iload_n hx hb dX7_serialBits_0 rfl (lv_at hl 0 rfl) ?_
  refine lv_bipush (v := 110) hx hb dX7_serialBits_1 (by decide) ?_
  refine lv_icmp_ne (tgt := 11) hx hb dX7_serialBits_3 (by decide) (fun c3 => ?_) (fun c3 => ?_)
  · refine lv_bipush (v := 11) hx hb dX7_serialBits_11 (by decide) ?_
    exact zri C hw hr hlocks rfl ⟨by unfold zsbN; rw [if_neg c3]; rfl, rfl⟩ ⟨Nat.le_of_ble_eq_true rfl, Nat.le_of_ble_eq_true rfl⟩ dX7_serialBits_13
  · refine lv_bipush (v := 10) hx hb dX7_serialBits_6 (by decide) ?_
    refine lv_goto (tgt := 13) hx hb dX7_serialBits_8 (by decide) ?_
    exact zri C hw hr hlocks rfl ⟨by unfold zsbN; rw [if_pos c3]; rfl, rfl⟩ ⟨Nat.le_of_ble_eq_true rfl, Nat.le_of_ble_eq_true rfl⟩ dX7_serialBits_13

set_option maxHeartbeats 4000000 in
set_option maxRecDepth 100000 in
/-- J6_bitCount_0f7a4 -/
theorem c_J6_bitCount_0f7a4 (l : Launch) (D : va_G) (y : Nat → ClassId) (base : Nat) (S : zS) (p0 : Int32)  : zMi l yJ6_bitCount_0f7a4 wsJ6_bitCount_0f7a4 ({ frames := 0, cells := 0, slots := 0, locals := 0 }) [.int p0] D y base S (fun (r : Int32) (S1 : zS) => r = zbc p0 ∧ S1 = S) 0 0 := by
  refine zMet_of (cc := cJ6_bitCount_0f7a4) (maxL := 1) (ret := (some .int)) (own := RJ6) (by decide +kernel) rfl rfl (Nat.le_of_ble_eq_true rfl) ?_
  intro p e s m args below meth c ls C hr hlocks hnm hw hl
  have hx := C.1
  have hb := C.2.1
  have hown := C.2.2.2.1
  have hts := C.2.2.2.2
  have hl : lv_has ls 1 [(0, .int p0)] := hl
  refine lv_iload_n hx hb dJ6_bitCount_0f7a4_0 rfl (lv_at hl 0 rfl) ?_
  refine lv_iload_n hx hb dJ6_bitCount_0f7a4_1 rfl (lv_at hl 0 rfl) ?_
  refine lv_iconst (v := 1) hx hb dJ6_bitCount_0f7a4_2 (by decide) ?_
  refine lv_iushr hx hb dJ6_bitCount_0f7a4_3 rfl ?_
  refine lv_ldcw (own := RJ6) (v := 1431655765) hx hb hown (hts (.constant RJ6 265 (1431655765)) (by decide +kernel)) dJ6_bitCount_0f7a4_4 ?_
  refine lv_iand hx hb dJ6_bitCount_0f7a4_7 ?_
  refine lv_isub hx hb dJ6_bitCount_0f7a4_8 ?_
  refine lv_topi (fun x9 ex9 => ?_)
  refine lv_istore_n (lv' := [(0, .int x9)]) hx hb dJ6_bitCount_0f7a4_9 rfl hl (by decide) rfl (fun ls hl => ?_)
  refine lv_iload_n hx hb dJ6_bitCount_0f7a4_10 rfl (lv_at hl 0 rfl) ?_
  refine lv_ldcw (own := RJ6) (v := 858993459) hx hb hown (hts (.constant RJ6 266 (858993459)) (by decide +kernel)) dJ6_bitCount_0f7a4_11 ?_
  refine lv_iand hx hb dJ6_bitCount_0f7a4_14 ?_
  refine lv_iload_n hx hb dJ6_bitCount_0f7a4_15 rfl (lv_at hl 0 rfl) ?_
  refine lv_iconst (v := 2) hx hb dJ6_bitCount_0f7a4_16 (by decide) ?_
  refine lv_iushr hx hb dJ6_bitCount_0f7a4_17 rfl ?_
  refine lv_ldcw (own := RJ6) (v := 858993459) hx hb hown (hts (.constant RJ6 266 (858993459)) (by decide +kernel)) dJ6_bitCount_0f7a4_18 ?_
  refine lv_iand hx hb dJ6_bitCount_0f7a4_21 ?_
  refine lv_iadd hx hb dJ6_bitCount_0f7a4_22 ?_
  refine lv_topi (fun x23 ex23 => ?_)
  refine lv_istore_n (lv' := [(0, .int x23)]) hx hb dJ6_bitCount_0f7a4_23 rfl hl (by decide) rfl (fun ls hl => ?_)
  refine lv_iload_n hx hb dJ6_bitCount_0f7a4_24 rfl (lv_at hl 0 rfl) ?_
  refine lv_iload_n hx hb dJ6_bitCount_0f7a4_25 rfl (lv_at hl 0 rfl) ?_
  refine lv_iconst (v := 4) hx hb dJ6_bitCount_0f7a4_26 (by decide) ?_
  refine lv_iushr hx hb dJ6_bitCount_0f7a4_27 rfl ?_
  refine lv_iadd hx hb dJ6_bitCount_0f7a4_28 ?_
  refine lv_ldcw (own := RJ6) (v := 252645135) hx hb hown (hts (.constant RJ6 267 (252645135)) (by decide +kernel)) dJ6_bitCount_0f7a4_29 ?_
  refine lv_iand hx hb dJ6_bitCount_0f7a4_32 ?_
  refine lv_topi (fun x33 ex33 => ?_)
  refine lv_istore_n (lv' := [(0, .int x33)]) hx hb dJ6_bitCount_0f7a4_33 rfl hl (by decide) rfl (fun ls hl => ?_)
  refine lv_iload_n hx hb dJ6_bitCount_0f7a4_34 rfl (lv_at hl 0 rfl) ?_
  refine lv_iload_n hx hb dJ6_bitCount_0f7a4_35 rfl (lv_at hl 0 rfl) ?_
  refine lv_bipush (v := 8) hx hb dJ6_bitCount_0f7a4_36 (by decide) ?_
  refine lv_iushr hx hb dJ6_bitCount_0f7a4_38 rfl ?_
  refine lv_iadd hx hb dJ6_bitCount_0f7a4_39 ?_
  refine lv_topi (fun x40 ex40 => ?_)
  refine lv_istore_n (lv' := [(0, .int x40)]) hx hb dJ6_bitCount_0f7a4_40 rfl hl (by decide) rfl (fun ls hl => ?_)
  refine lv_iload_n hx hb dJ6_bitCount_0f7a4_41 rfl (lv_at hl 0 rfl) ?_
  refine lv_iload_n hx hb dJ6_bitCount_0f7a4_42 rfl (lv_at hl 0 rfl) ?_
  refine lv_bipush (v := 16) hx hb dJ6_bitCount_0f7a4_43 (by decide) ?_
  refine lv_iushr hx hb dJ6_bitCount_0f7a4_45 rfl ?_
  refine lv_iadd hx hb dJ6_bitCount_0f7a4_46 ?_
  refine lv_topi (fun x47 ex47 => ?_)
  refine lv_istore_n (lv' := [(0, .int x47)]) hx hb dJ6_bitCount_0f7a4_47 rfl hl (by decide) rfl (fun ls hl => ?_)
  refine lv_iload_n hx hb dJ6_bitCount_0f7a4_48 rfl (lv_at hl 0 rfl) ?_
  refine lv_bipush (v := 63) hx hb dJ6_bitCount_0f7a4_49 (by decide) ?_
  refine lv_iand hx hb dJ6_bitCount_0f7a4_51 ?_
  exact zri C hw hr hlocks rfl ⟨by rw [ex47, ex40, ex33, ex23, ex9]; rfl, rfl⟩ ⟨Nat.le_of_ble_eq_true rfl, Nat.le_of_ble_eq_true rfl⟩ dJ6_bitCount_0f7a4_52

set_option maxHeartbeats 4000000 in
set_option maxRecDepth 100000 in
/-- X7_parityOf -/
theorem c_X7_parityOf (l : Launch) (D : va_G) (y : Nat → ClassId) (base : Nat) (S : zS) (p0 : Int32) (p1 : Int32)  : zMi l yX7_parityOf wsX7_parityOf ({ frames := 1, cells := 0, slots := 0, locals := 20 }) [.int p0, .int p1] D y base S (fun (r : Int32) (S1 : zS) => r = zpo p0 p1 ∧ S1 = S) 0 0 := by
  refine zMet_of (cc := cX7_parityOf) (maxL := 3) (ret := (some .int)) (own := RX7) (by decide +kernel) rfl rfl (Nat.le_of_ble_eq_true rfl) ?_
  intro p e s m args below meth c ls C hr hlocks hnm hw hl
  have hx := C.1
  have hb := C.2.1
  have hown := C.2.2.2.1
  have hts := C.2.2.2.2
  have hl : lv_has ls 3 [(0, .int p0), (1, .int p1)] := hl
  refine lv_iload_n hx hb dX7_parityOf_0 rfl (lv_at hl 0 rfl) ?_
  refine zcS_i (As := [.int p0]) (rest := []) (n9 := 1) C hw (c_J6_bitCount_0f7a4 l D y base S p0 ) gX7_parityOf_J6_bitCount_0f7a4 rfl (by decide +kernel) ⟨⟨rfl, rfl⟩, Nat.le_of_ble_eq_true rfl, Nat.le_of_ble_eq_true rfl⟩ rfl hl.1 rfl (Nat.le_of_ble_eq_true rfl) ⟨Nat.le_of_ble_eq_true rfl, Nat.le_of_ble_eq_true rfl⟩ dX7_parityOf_1 (fun r1 S1 H locs hp1 hw => ?_)
  obtain ⟨rfl, hS9⟩ := hp1
  have hS9 := hS9.symm
  subst hS9
  refine lv_iconst (v := 1) hx hb dX7_parityOf_4 (by decide) ?_
  refine lv_iand hx hb dX7_parityOf_5 ?_
  refine lv_topi (fun x6 ex6 => ?_)
  refine lv_istore_n (lv' := [(2, .int x6), (0, .int p0), (1, .int p1)]) hx hb dX7_parityOf_6 rfl hl (by decide) rfl (fun ls hl => ?_)
  refine lv_iload_n hx hb dX7_parityOf_7 rfl (lv_at hl 2 rfl) ?_
  refine lv_bipush (v := 111) hx hb dX7_parityOf_8 (by decide) ?_
  refine lv_icmp_ne (tgt := 19) hx hb dX7_parityOf_10 (by decide) (fun c10 => ?_) (fun c10 => ?_)
  · refine lv_iload_n hx hb dX7_parityOf_19 rfl (lv_at hl 0 rfl) ?_
    exact zri C hw hr hlocks rfl ⟨by unfold zpo; rw [ex6]; first | rw [if_pos c10] | rw [if_neg c10], rfl⟩ ⟨Nat.le_of_ble_eq_true rfl, Nat.le_of_ble_eq_true rfl⟩ dX7_parityOf_20
  · refine lv_iconst (v := 1) hx hb dX7_parityOf_13 (by decide) ?_
    refine lv_iload_n hx hb dX7_parityOf_14 rfl (lv_at hl 0 rfl) ?_
    refine lv_isub hx hb dX7_parityOf_15 ?_
    refine lv_goto (tgt := 20) hx hb dX7_parityOf_16 (by decide) ?_
    exact zri C hw hr hlocks rfl ⟨by unfold zpo; rw [ex6]; first | rw [if_pos c10] | rw [if_neg c10], rfl⟩ ⟨Nat.le_of_ble_eq_true rfl, Nat.le_of_ble_eq_true rfl⟩ dX7_parityOf_20

set_option maxHeartbeats 4000000 in
set_option maxRecDepth 100000 in
/-- X7_serialWord -/
theorem c_X7_serialWord (l : Launch) (D : va_G) (y : Nat → ClassId) (base : Nat) (S : zS) (p0 : Int32) (p1 : Int32)  : zMi l yX7_serialWord wsX7_serialWord ({ frames := 2, cells := 0, slots := 0, locals := 42 }) [.int p0, .int p1] D y base S (fun (r : Int32) (S1 : zS) => r = zsw p0 p1 ∧ S1 = S) 0 0 := by
  refine zMet_of (cc := cX7_serialWord) (maxL := 3) (ret := (some .int)) (own := RX7) (by decide +kernel) rfl rfl (Nat.le_of_ble_eq_true rfl) ?_
  intro p e s m args below meth c ls C hr hlocks hnm hw hl
  have hx := C.1
  have hb := C.2.1
  have hown := C.2.2.2.1
  have hts := C.2.2.2.2
  have hl : lv_has ls 3 [(0, .int p0), (1, .int p1)] := hl
  refine lv_iload_n hx hb dX7_serialWord_0 rfl (lv_at hl 0 rfl) ?_
  refine lv_iconst (v := 1) hx hb dX7_serialWord_1 (by decide) ?_
  refine lv_ishl hx hb dX7_serialWord_2 ?_
  refine lv_topi (fun x3 ex3 => ?_)
  refine lv_istore_n (lv' := [(2, .int x3), (0, .int p0), (1, .int p1)]) hx hb dX7_serialWord_3 rfl hl (by decide) rfl (fun ls hl => ?_)
  refine lv_iload_n hx hb dX7_serialWord_4 rfl (lv_at hl 2 rfl) ?_
  refine lv_bipush (v := 110) hx hb dX7_serialWord_5 (by decide) ?_
  refine lv_icmp_eq (tgt := 21) hx hb dX7_serialWord_7 (by decide) (fun c7 => ?_) (fun c7 => ?_)
  · refine lv_iload_n hx hb dX7_serialWord_21 rfl (lv_at hl 0 rfl) ?_
    refine lv_iconst (v := 1) hx hb dX7_serialWord_22 (by decide) ?_
    refine lv_iload_n hx hb dX7_serialWord_23 rfl (lv_at hl 2 rfl) ?_
    refine zcS_i (As := [.int p1]) (rest := [.int 1, .int x3]) (n9 := 1) C hw (c_X7_serialBits l D y base S p1 ) gX7_serialWord_X7_serialBits rfl (by decide +kernel) ⟨⟨rfl, rfl⟩, Nat.le_of_ble_eq_true rfl, Nat.le_of_ble_eq_true rfl⟩ rfl hl.1 rfl (Nat.le_of_ble_eq_true rfl) ⟨Nat.le_of_ble_eq_true rfl, Nat.le_of_ble_eq_true rfl⟩ dX7_serialWord_24 (fun r24 S24 H locs hp24 hw => ?_)
    obtain ⟨rfl, hS9⟩ := hp24
    have hS9 := hS9.symm
    subst hS9
    refine lv_iconst (v := 1) hx hb dX7_serialWord_27 (by decide) ?_
    refine lv_isub hx hb dX7_serialWord_28 ?_
    refine lv_ishl hx hb dX7_serialWord_29 ?_
    refine lv_ior hx hb dX7_serialWord_30 ?_
    exact zri C hw hr hlocks rfl ⟨by unfold zsw; first | rw [ex20, ex3, if_neg c7] | rw [ex3, if_pos c7], rfl⟩ ⟨Nat.le_of_ble_eq_true rfl, Nat.le_of_ble_eq_true rfl⟩ dX7_serialWord_31
  · refine lv_iload_n hx hb dX7_serialWord_10 rfl (lv_at hl 0 rfl) ?_
    refine lv_iload_n hx hb dX7_serialWord_11 rfl (lv_at hl 1 rfl) ?_
    refine lv_iload_n hx hb dX7_serialWord_12 rfl (lv_at hl 2 rfl) ?_
    refine zcS_i (As := [.int p0, .int p1]) (rest := [.int x3]) (n9 := 2) C hw (c_X7_parityOf l D y base S p0 p1 ) gX7_serialWord_X7_parityOf rfl (by decide +kernel) ⟨⟨rfl, rfl⟩, Nat.le_of_ble_eq_true rfl, Nat.le_of_ble_eq_true rfl⟩ rfl hl.1 rfl (Nat.le_of_ble_eq_true rfl) ⟨Nat.le_of_ble_eq_true rfl, Nat.le_of_ble_eq_true rfl⟩ dX7_serialWord_13 (fun r13 S13 H locs hp13 hw => ?_)
    obtain ⟨rfl, hS9⟩ := hp13
    have hS9 := hS9.symm
    subst hS9
    refine lv_bipush (v := 9) hx hb dX7_serialWord_16 (by decide) ?_
    refine lv_ishl hx hb dX7_serialWord_18 ?_
    refine lv_ior hx hb dX7_serialWord_19 ?_
    refine lv_topi (fun x20 ex20 => ?_)
    refine lv_istore_n (lv' := [(2, .int x20), (0, .int p0), (1, .int p1)]) hx hb dX7_serialWord_20 rfl hl (by decide) rfl (fun ls hl => ?_)
    refine lv_iload_n hx hb dX7_serialWord_21 rfl (lv_at hl 0 rfl) ?_
    refine lv_iconst (v := 1) hx hb dX7_serialWord_22 (by decide) ?_
    refine lv_iload_n hx hb dX7_serialWord_23 rfl (lv_at hl 2 rfl) ?_
    refine zcS_i (As := [.int p1]) (rest := [.int 1, .int x20]) (n9 := 1) C hw (c_X7_serialBits l D y base S p1 ) gX7_serialWord_X7_serialBits rfl (by decide +kernel) ⟨⟨rfl, rfl⟩, Nat.le_of_ble_eq_true rfl, Nat.le_of_ble_eq_true rfl⟩ rfl hl.1 rfl (Nat.le_of_ble_eq_true rfl) ⟨Nat.le_of_ble_eq_true rfl, Nat.le_of_ble_eq_true rfl⟩ dX7_serialWord_24 (fun r24 S24 H locs hp24 hw => ?_)
    obtain ⟨rfl, hS9⟩ := hp24
    have hS9 := hS9.symm
    subst hS9
    refine lv_iconst (v := 1) hx hb dX7_serialWord_27 (by decide) ?_
    refine lv_isub hx hb dX7_serialWord_28 ?_
    refine lv_ishl hx hb dX7_serialWord_29 ?_
    refine lv_ior hx hb dX7_serialWord_30 ?_
    exact zri C hw hr hlocks rfl ⟨by unfold zsw; first | rw [ex20, ex3, if_neg c7] | rw [ex3, if_pos c7], rfl⟩ ⟨Nat.le_of_ble_eq_true rfl, Nat.le_of_ble_eq_true rfl⟩ dX7_serialWord_31

set_option maxHeartbeats 4000000 in
set_option maxRecDepth 100000 in
/-- X7_answeredByte -/
theorem c_X7_answeredByte (l : Launch) (D : va_G) (y : Nat → ClassId) (base : Nat) (S : zS) (p0 : Int32) (p1 : Int32)  : zMi l yX7_answeredByte wsX7_answeredByte ({ frames := 0, cells := 0, slots := 0, locals := 0 }) [.int p0, .int p1] D y base S (fun (r : Int32) (S1 : zS) => r = zan p0 p1 ∧ S1 = S) 0 0 := by
  refine zMet_of (cc := cX7_answeredByte) (maxL := 2) (ret := (some .int)) (own := RX7) (by decide +kernel) rfl rfl (Nat.le_of_ble_eq_true rfl) ?_
  intro p e s m args below meth c ls C hr hlocks hnm hw hl
  have hx := C.1
  have hb := C.2.1
  have hown := C.2.2.2.1
  have hts := C.2.2.2.2
  have hl : lv_has ls 2 [(0, .int p0), (1, .int p1)] := hl
  refine lv_iload_n hx hb dX7_answeredByte_0 rfl (lv_at hl 0 rfl) ?_
  refine lv_iconst (v := 1) hx hb dX7_answeredByte_1 (by decide) ?_
  refine lv_ishl hx hb dX7_answeredByte_2 ?_
  refine lv_iload_n hx hb dX7_answeredByte_3 rfl (lv_at hl 1 rfl) ?_
  refine lv_if_eq (tgt := 11) hx hb dX7_answeredByte_4 (by decide) (fun c4 => ?_) (fun c4 => ?_)
  · refine lv_iconst (v := 1) hx hb dX7_answeredByte_11 (by decide) ?_
    refine lv_ior hx hb dX7_answeredByte_12 ?_
    exact zri C hw hr hlocks rfl ⟨by unfold zan; first | rw [if_neg c4] | rw [if_pos c4], rfl⟩ ⟨Nat.le_of_ble_eq_true rfl, Nat.le_of_ble_eq_true rfl⟩ dX7_answeredByte_13
  · refine lv_iconst (v := 0) hx hb dX7_answeredByte_7 (by decide) ?_
    refine lv_goto (tgt := 12) hx hb dX7_answeredByte_8 (by decide) ?_
    refine lv_ior hx hb dX7_answeredByte_12 ?_
    exact zri C hw hr hlocks rfl ⟨by unfold zan; first | rw [if_neg c4] | rw [if_pos c4], rfl⟩ ⟨Nat.le_of_ble_eq_true rfl, Nat.le_of_ble_eq_true rfl⟩ dX7_answeredByte_13

set_option maxHeartbeats 4000000 in
set_option maxRecDepth 100000 in
/-- X5_init -/
theorem c_X5_init (l : Launch) (D : va_G) (y : Nat → ClassId) (base : Nat) (S : zS) (q0 : Nat) (m0 : Nat) (d0 : Nat) (hk : zK S q0 = 9) : zMv l yX5_init wsX5_init ({ frames := 1, cells := 0, slots := 0, locals := 12 }) [.ref q0, .ref m0, .ref d0] D y base S (fun (S1 : zS) => S1 = zsQ (zsQ S 144 q0 (some m0)) 145 q0 (some d0)) 0 0 := by
  refine zMet_of (cc := cX5_init) (maxL := 3) (ret := none) (own := RX5) (by decide +kernel) rfl rfl (Nat.le_of_ble_eq_true rfl) ?_
  intro p e s m args below meth c ls C hr hlocks hnm hw hl
  have hx := C.1
  have hb := C.2.1
  have hown := C.2.2.2.1
  have hts := C.2.2.2.2
  have hl : lv_has ls 3 [(0, .ref q0), (1, .ref m0), (2, .ref d0)] := hl
  have in_X5 : ∀ w ∈ wsX50, w ∈ wsX5_init := by decide +kernel
  refine lv_aload_n hx hb dX5_init_0 rfl (lv_at hl 0 rfl) ?_
  refine W.objInit hx hb hown (hts (.methodLink RX5 3 objectInit) (by decide +kernel)) (hts (.instanceMethod objectInit) (by decide +kernel)) (hts (.code objectInit ⟨#[0xb1]⟩ 1 none) (by decide +kernel)) rfl (by rw [C.2.2.1]; exact hl.1) rfl dX5_init_1 (Nat.le_of_ble_eq_true rfl) (Nat.le_of_ble_eq_true rfl) ?_
  refine W.eq (g2 := F0 m 4 ls []) rfl ?_
  refine lv_aload_n hx hb dX5_init_4 rfl (lv_at hl 0 rfl) ?_
  refine lv_aload_n hx hb dX5_init_5 rfl (lv_at hl 1 rfl) ?_
  refine p_Two_notes (a := q0) (v := m0) C hw hk in_X5 (by decide +kernel) hnm rfl dX5_init_6 (fun H locs hw => ?_)
  refine lv_aload_n hx hb dX5_init_9 rfl (lv_at hl 0 rfl) ?_
  refine lv_aload_n hx hb dX5_init_10 rfl (lv_at hl 2 rfl) ?_
  refine p_Two_devices (a := q0) (v := d0) C hw hk in_X5 (by decide +kernel) hnm rfl dX5_init_11 (fun H locs hw => ?_)
  exact zrv C hw hr hlocks rfl ⟨Nat.le_of_ble_eq_true rfl, Nat.le_of_ble_eq_true rfl⟩ dX5_init_14

set_option maxHeartbeats 4000000 in
set_option maxRecDepth 100000 in
/-- X2_init -/
theorem c_X2_init (l : Launch) (D : va_G) (y : Nat → ClassId) (base : Nat) (S : zS) (q0 : Nat) (m0 : Nat) (hk : zK S q0 = 6) : zMv l yX2_init wsX2_init ({ frames := 1, cells := 0, slots := 0, locals := 12 }) [.ref q0, .ref m0] D y base S (fun (S1 : zS) => S1 = zsQ S 96 q0 (some m0)) 0 0 := by
  refine zMet_of (cc := cX2_init) (maxL := 2) (ret := none) (own := RX2) (by decide +kernel) rfl rfl (Nat.le_of_ble_eq_true rfl) ?_
  intro p e s m args below meth c ls C hr hlocks hnm hw hl
  have hx := C.1
  have hb := C.2.1
  have hown := C.2.2.2.1
  have hts := C.2.2.2.2
  have hl : lv_has ls 2 [(0, .ref q0), (1, .ref m0)] := hl
  have in_X2 : ∀ w ∈ wsX20, w ∈ wsX2_init := by decide +kernel
  refine lv_aload_n hx hb dX2_init_0 rfl (lv_at hl 0 rfl) ?_
  refine W.objInit hx hb hown (hts (.methodLink RX2 3 objectInit) (by decide +kernel)) (hts (.instanceMethod objectInit) (by decide +kernel)) (hts (.code objectInit ⟨#[0xb1]⟩ 1 none) (by decide +kernel)) rfl (by rw [C.2.2.1]; exact hl.1) rfl dX2_init_1 (Nat.le_of_ble_eq_true rfl) (Nat.le_of_ble_eq_true rfl) ?_
  refine W.eq (g2 := F0 m 4 ls []) rfl ?_
  refine lv_aload_n hx hb dX2_init_4 rfl (lv_at hl 0 rfl) ?_
  refine lv_aload_n hx hb dX2_init_5 rfl (lv_at hl 1 rfl) ?_
  refine p_Four_notes (a := q0) (v := m0) C hw hk in_X2 (by decide +kernel) hnm rfl dX2_init_6 (fun H locs hw => ?_)
  exact zrv C hw hr hlocks rfl ⟨Nat.le_of_ble_eq_true rfl, Nat.le_of_ble_eq_true rfl⟩ dX2_init_9

set_option maxHeartbeats 4000000 in
set_option maxRecDepth 100000 in
/-- X7_decodeSerial -/
theorem c_X7_decodeSerial (l : Launch) (hst : l.stackTraces = false) (D : va_G) (y : Nat → ClassId) (base : Nat) (S : zS) (a : Nat → Nat) (p0 : Int32) (p1 : Int32) (p2 : Int32) (p3 : Int32) (hX : zX S a) (h0 : zX0 S a) : zXi l yX7_decodeSerial wsX7_decodeSerial ({ frames := 7, cells := 4, slots := 24, locals := 112 }) [.ref (a 0), .int p0, .int p1, .int p2, .int p3] D y base S (fun (r : Int32) (S1 : zS) => r = 0 ∧ kd_decodeSerial p0 p1 p2 p3 = 0 ∧ zCls S S1) (fun (E : String) (S1 : zS) => ((E = "java/lang/IndexOutOfBoundsException" ∧ kd_decodeSerial p0 p1 p2 p3 = 1) ∨ (E = "java/lang/IllegalArgumentException" ∧ kd_decodeSerial p0 p1 p2 p3 = 2)) ∧ zCls S S1) 4 24 := by
  refine zXet_of (cc := cX7_decodeSerial) (maxL := 8) (ret := (some .int)) (own := RX7) (by decide +kernel) rfl rfl (Nat.le_of_ble_eq_true rfl) ?_
  intro p e s m args below meth c ls C hr hlocks hx0 hw hl
  have hx := C.1
  have hb := C.2.1
  have hown := C.2.2.2.1
  have hts := C.2.2.2.2
  have hl : lv_has ls 8 [(0, .ref (a 0)), (1, .int p0), (2, .int p1), (3, .int p2), (4, .int p3)] := hl
  have in_X0 : ∀ w ∈ wsX00, w ∈ wsX7_decodeSerial := by decide +kernel
  have in_X3 : ∀ w ∈ wsX30, w ∈ wsX7_decodeSerial := by decide +kernel
  have in_X7 : ∀ w ∈ wsX70, w ∈ wsX7_decodeSerial := by decide +kernel
  refine lv_iload_n hx hb dX7_decodeSerial_0 rfl (lv_at hl 1 rfl) ?_
  refine zcS_xv (As := [.int p0]) (rest := []) (n9 := 1) C hw (c_X7_checkCapture l hst D y base S p0 ) gX7_decodeSerial_X7_checkCapture rfl (by decide +kernel) ⟨⟨rfl, rfl⟩, Nat.le_of_ble_eq_true rfl, Nat.le_of_ble_eq_true rfl⟩ rfl hl.1 rfl (Nat.le_of_ble_eq_true rfl) ⟨Nat.le_of_ble_eq_true rfl, Nat.le_of_ble_eq_true rfl⟩ dX7_decodeSerial_1 (fun E ce q9 S1 H locs hx1 hw h1 h2 h3 => zxout hw hx0 hlocks h1 h2 h3 (by obtain ⟨rfl, hc9, rfl⟩ := hx1; refine ⟨?_, zCls.rf⟩; first | exact (Or.inl ⟨rfl, (by unfold kd_decodeSerial; grind)⟩) | exact (Or.inr ⟨rfl, (by unfold kd_decodeSerial; grind)⟩)) ⟨Nat.le_of_ble_eq_true rfl, Nat.le_of_ble_eq_true rfl⟩) (fun S1 H locs hp1 hw => ?_)
  obtain ⟨hp1, hS9⟩ := hp1
  have hS9 := hS9.symm
  subst hS9
  refine lv_iload_n hx hb dX7_decodeSerial_4 rfl (lv_at hl 2 rfl) ?_
  refine zcS_xv (As := [.int p1]) (rest := []) (n9 := 1) C hw (c_X7_checkWire l hst D y base S p1 ) gX7_decodeSerial_X7_checkWire rfl (by decide +kernel) ⟨⟨rfl, rfl⟩, Nat.le_of_ble_eq_true rfl, Nat.le_of_ble_eq_true rfl⟩ rfl hl.1 rfl (Nat.le_of_ble_eq_true rfl) ⟨Nat.le_of_ble_eq_true rfl, Nat.le_of_ble_eq_true rfl⟩ dX7_decodeSerial_5 (fun E ce q9 S5 H locs hx5 hw h1 h2 h3 => zxout hw hx0 hlocks h1 h2 h3 (by obtain ⟨rfl, hc9, rfl⟩ := hx5; refine ⟨?_, zCls.rf⟩; first | exact (Or.inl ⟨rfl, (by unfold kd_decodeSerial; grind)⟩) | exact (Or.inr ⟨rfl, (by unfold kd_decodeSerial; grind)⟩)) ⟨Nat.le_of_ble_eq_true rfl, Nat.le_of_ble_eq_true rfl⟩) (fun S5 H locs hp5 hw => ?_)
  obtain ⟨hp5, hS9⟩ := hp5
  have hS9 := hS9.symm
  subst hS9
  refine lv_iload_n hx hb dX7_decodeSerial_8 rfl (lv_at hl 3 rfl) ?_
  refine lv_bipush (v := 10) hx hb dX7_decodeSerial_9 (by decide) ?_
  refine lv_sipush (v := 999) hx hb dX7_decodeSerial_11 (by decide) ?_
  refine zcS_xv (As := [.int p2, .int 10, .int 999]) (rest := []) (n9 := 3) C hw (c_X7_checkRange l hst D y base S p2 10 999 ) gX7_decodeSerial_X7_checkRange rfl (by decide +kernel) ⟨⟨rfl, rfl⟩, Nat.le_of_ble_eq_true rfl, Nat.le_of_ble_eq_true rfl⟩ rfl hl.1 rfl (Nat.le_of_ble_eq_true rfl) ⟨Nat.le_of_ble_eq_true rfl, Nat.le_of_ble_eq_true rfl⟩ dX7_decodeSerial_14 (fun E ce q9 S14 H locs hx14 hw h1 h2 h3 => zxout hw hx0 hlocks h1 h2 h3 (by obtain ⟨rfl, hc9, rfl⟩ := hx14; refine ⟨?_, zCls.rf⟩; first | exact (Or.inl ⟨rfl, (by unfold kd_decodeSerial; grind)⟩) | exact (Or.inr ⟨rfl, (by unfold kd_decodeSerial; grind)⟩)) ⟨Nat.le_of_ble_eq_true rfl, Nat.le_of_ble_eq_true rfl⟩) (fun S14 H locs hp14 hw => ?_)
  obtain ⟨hp14, hS9⟩ := hp14
  have hS9 := hS9.symm
  subst hS9
  refine lv_iload hx hb dX7_decodeSerial_17 (lv_at hl 4 rfl) ?_
  refine zcS_xv (As := [.int p3]) (rest := []) (n9 := 1) C hw (c_X7_checkParity l hst D y base S p3 ) gX7_decodeSerial_X7_checkParity rfl (by decide +kernel) ⟨⟨rfl, rfl⟩, Nat.le_of_ble_eq_true rfl, Nat.le_of_ble_eq_true rfl⟩ rfl hl.1 rfl (Nat.le_of_ble_eq_true rfl) ⟨Nat.le_of_ble_eq_true rfl, Nat.le_of_ble_eq_true rfl⟩ dX7_decodeSerial_19 (fun E ce q9 S19 H locs hx19 hw h1 h2 h3 => zxout hw hx0 hlocks h1 h2 h3 (by obtain ⟨rfl, hc9, rfl⟩ := hx19; refine ⟨?_, zCls.rf⟩; first | exact (Or.inl ⟨rfl, (by unfold kd_decodeSerial; grind)⟩) | exact (Or.inr ⟨rfl, (by unfold kd_decodeSerial; grind)⟩)) ⟨Nat.le_of_ble_eq_true rfl, Nat.le_of_ble_eq_true rfl⟩) (fun S19 H locs hp19 hw => ?_)
  obtain ⟨hp19, hS9⟩ := hp19
  have hS9 := hS9.symm
  subst hS9
  refine lv_aload_n hx hb dX7_decodeSerial_22 rfl (lv_at hl 0 rfl) ?_
  refine g_Ph_told (a := (a 0)) (v := (a 4)) C hw hX.1 in_X7 (by decide +kernel) hX.2.2.2.2.1 dX7_decodeSerial_23 ?_
  refine lv_iconst (v := 0) hx hb dX7_decodeSerial_26 (by decide) ?_
  refine p_Notes_count (a := (a 4)) (v := 0) C hw hX.2.2.2.2.2.2.2.2.2.2.1 in_X3 (by decide +kernel) dX7_decodeSerial_27 (fun H locs hw => ?_)
  refine lv_aload_n hx hb dX7_decodeSerial_30 rfl (lv_at hl 0 rfl) ?_
  refine g_Ph_captures (a := (a 0)) (v := (a 2)) C hw hX.1 in_X7 (by decide +kernel) hX.2.2.1 dX7_decodeSerial_31 ?_
  refine lv_iload_n hx hb dX7_decodeSerial_34 rfl (lv_at hl 1 rfl) ?_
  obtain ⟨c1, l1, eP1, hC1, eI1, eZ1⟩ := zX_c hX h0 (p := p0) hp1
  refine zald_P (a := (a 2)) (v := c1) C hw hX.2.2.2.2.2.2.2.2.1 (by decide) (t0 := 2) rfl rfl hX.2.2.2.2.2.2.2.2.2.1 (zin_of (N := 2) (by decide) (by grind) (by grind)) eP1 dX7_decodeSerial_35 ?_
  refine lv_astore (lv' := [(5, .ref c1), (0, .ref (a 0)), (1, .int p0), (2, .int p1), (3, .int p2), (4, .int p3)]) hx hb dX7_decodeSerial_36 hl (by decide) rfl (fun ls hl => ?_)
  refine lv_iconst (v := 1) hx hb dX7_decodeSerial_38 (by decide) ?_
  refine lv_istore (lv' := [(6, .int 1), (5, .ref c1), (0, .ref (a 0)), (1, .int p0), (2, .int p1), (3, .int p2), (4, .int p3)]) hx hb dX7_decodeSerial_39 hl (by decide) rfl (fun ls hl => ?_)
  refine lv_iconst (v := 1) hx hb dX7_decodeSerial_41 (by decide) ?_
  refine lv_istore (lv' := [(7, .int 1), (6, .int 1), (5, .ref c1), (0, .ref (a 0)), (1, .int p0), (2, .int p1), (3, .int p2), (4, .int p3)]) hx hb dX7_decodeSerial_42 hl (by decide) rfl (fun ls hl => ?_)
  refine lv_iload hx hb dX7_decodeSerial_44 (lv_at hl 0 rfl) ?_
  refine lv_aload hx hb dX7_decodeSerial_46 (lv_at hl 2 rfl) ?_
  refine g_Cap_count (a := c1) (v := 0) C hw hC1.1 in_X0 (by decide +kernel) eI1 dX7_decodeSerial_48 ?_
  refine lv_icmp_ge (tgt := 92) hx hb dX7_decodeSerial_51 (by decide) (fun _ => ?_) (fun c51 => absurd c51 (by decide))
  refine lv_aload_n hx hb dX7_decodeSerial_92 rfl (lv_at hl 3 rfl) ?_
  refine g_Ph_told (a := (a 0)) (v := (a 4)) C hw hX.1 in_X7 (by decide +kernel) hX.2.2.2.2.1 dX7_decodeSerial_93 ?_
  refine g_Notes_count (a := (a 4)) (v := 0) C hw hX.2.2.2.2.2.2.2.2.2.2.1 in_X3 (by decide +kernel) (zI_s _ _ _ _) dX7_decodeSerial_96 ?_
  exact vx_ret (zri C hw hr hlocks rfl ⟨rfl, (by unfold kd_decodeSerial; grind), zCls.I (by decide)⟩ ⟨Nat.le_of_ble_eq_true rfl, Nat.le_of_ble_eq_true rfl⟩ dX7_decodeSerial_99)

set_option maxHeartbeats 4000000 in
set_option maxRecDepth 100000 in
/-- X7_decodeTwo -/
theorem c_X7_decodeTwo (l : Launch) (hst : l.stackTraces = false) (D : va_G) (y : Nat → ClassId) (base : Nat) (S : zS) (a : Nat → Nat) (p0 : Int32) (p1 : Int32) (p2 : Int32) (hX : zX S a) (h0 : zX0 S a) : zXi l yX7_decodeTwo wsX7_decodeTwo ({ frames := 7, cells := 5, slots := 34, locals := 111 }) [.ref (a 0), .int p0, .int p1, .int p2] D y base S (fun (r : Int32) (S1 : zS) => r = 0 ∧ kd_decodeTwo p0 p1 p2 = 0 ∧ zCls S S1) (fun (E : String) (S1 : zS) => ((E = "java/lang/IndexOutOfBoundsException" ∧ kd_decodeTwo p0 p1 p2 = 1) ∨ (E = "java/lang/IllegalArgumentException" ∧ kd_decodeTwo p0 p1 p2 = 2)) ∧ zCls S S1) 5 34 := by
  refine zXet_of (cc := cX7_decodeTwo) (maxL := 7) (ret := (some .int)) (own := RX7) (by decide +kernel) rfl rfl (Nat.le_of_ble_eq_true rfl) ?_
  intro p e s m args below meth c ls C hr hlocks hx0 hw hl
  have hx := C.1
  have hb := C.2.1
  have hown := C.2.2.2.1
  have hts := C.2.2.2.2
  have hl : lv_has ls 7 [(0, .ref (a 0)), (1, .int p0), (2, .int p1), (3, .int p2)] := hl
  have in_X0 : ∀ w ∈ wsX00, w ∈ wsX7_decodeTwo := by decide +kernel
  have in_X3 : ∀ w ∈ wsX30, w ∈ wsX7_decodeTwo := by decide +kernel
  have in_X5 : ∀ w ∈ wsX50, w ∈ wsX7_decodeTwo := by decide +kernel
  have in_X7 : ∀ w ∈ wsX70, w ∈ wsX7_decodeTwo := by decide +kernel
  refine lv_iload_n hx hb dX7_decodeTwo_0 rfl (lv_at hl 1 rfl) ?_
  refine zcS_xv (As := [.int p0]) (rest := []) (n9 := 1) C hw (c_X7_checkCapture l hst D y base S p0 ) gX7_decodeTwo_X7_checkCapture rfl (by decide +kernel) ⟨⟨rfl, rfl⟩, Nat.le_of_ble_eq_true rfl, Nat.le_of_ble_eq_true rfl⟩ rfl hl.1 rfl (Nat.le_of_ble_eq_true rfl) ⟨Nat.le_of_ble_eq_true rfl, Nat.le_of_ble_eq_true rfl⟩ dX7_decodeTwo_1 (fun E ce q9 S1 H locs hx1 hw h1 h2 h3 => zxout hw hx0 hlocks h1 h2 h3 (by obtain ⟨rfl, hc9, rfl⟩ := hx1; refine ⟨?_, zCls.rf⟩; first | exact (Or.inl ⟨rfl, (by unfold kd_decodeTwo; grind)⟩) | exact (Or.inr ⟨rfl, (by unfold kd_decodeTwo; grind)⟩)) ⟨Nat.le_of_ble_eq_true rfl, Nat.le_of_ble_eq_true rfl⟩) (fun S1 H locs hp1 hw => ?_)
  obtain ⟨hp1, hS9⟩ := hp1
  have hS9 := hS9.symm
  subst hS9
  refine lv_iload_n hx hb dX7_decodeTwo_4 rfl (lv_at hl 2 rfl) ?_
  refine zcS_xv (As := [.int p1]) (rest := []) (n9 := 1) C hw (c_X7_checkWire l hst D y base S p1 ) gX7_decodeTwo_X7_checkWire rfl (by decide +kernel) ⟨⟨rfl, rfl⟩, Nat.le_of_ble_eq_true rfl, Nat.le_of_ble_eq_true rfl⟩ rfl hl.1 rfl (Nat.le_of_ble_eq_true rfl) ⟨Nat.le_of_ble_eq_true rfl, Nat.le_of_ble_eq_true rfl⟩ dX7_decodeTwo_5 (fun E ce q9 S5 H locs hx5 hw h1 h2 h3 => zxout hw hx0 hlocks h1 h2 h3 (by obtain ⟨rfl, hc9, rfl⟩ := hx5; refine ⟨?_, zCls.rf⟩; first | exact (Or.inl ⟨rfl, (by unfold kd_decodeTwo; grind)⟩) | exact (Or.inr ⟨rfl, (by unfold kd_decodeTwo; grind)⟩)) ⟨Nat.le_of_ble_eq_true rfl, Nat.le_of_ble_eq_true rfl⟩) (fun S5 H locs hp5 hw => ?_)
  obtain ⟨hp5, hS9⟩ := hp5
  have hS9 := hS9.symm
  subst hS9
  refine lv_iload_n hx hb dX7_decodeTwo_8 rfl (lv_at hl 3 rfl) ?_
  refine zcS_xv (As := [.int p2]) (rest := []) (n9 := 1) C hw (c_X7_checkWire l hst D y base S p2 ) gX7_decodeTwo_X7_checkWire rfl (by decide +kernel) ⟨⟨rfl, rfl⟩, Nat.le_of_ble_eq_true rfl, Nat.le_of_ble_eq_true rfl⟩ rfl hl.1 rfl (Nat.le_of_ble_eq_true rfl) ⟨Nat.le_of_ble_eq_true rfl, Nat.le_of_ble_eq_true rfl⟩ dX7_decodeTwo_9 (fun E ce q9 S9 H locs hx9 hw h1 h2 h3 => zxout hw hx0 hlocks h1 h2 h3 (by obtain ⟨rfl, hc9, rfl⟩ := hx9; refine ⟨?_, zCls.rf⟩; first | exact (Or.inl ⟨rfl, (by unfold kd_decodeTwo; grind)⟩) | exact (Or.inr ⟨rfl, (by unfold kd_decodeTwo; grind)⟩)) ⟨Nat.le_of_ble_eq_true rfl, Nat.le_of_ble_eq_true rfl⟩) (fun S9 H locs hp9 hw => ?_)
  obtain ⟨hp9, hS9⟩ := hp9
  have hS9 := hS9.symm
  subst hS9
  refine lv_iload_n hx hb dX7_decodeTwo_12 rfl (lv_at hl 2 rfl) ?_
  refine lv_iload_n hx hb dX7_decodeTwo_13 rfl (lv_at hl 3 rfl) ?_
  refine zcS_xv (As := [.int p1, .int p2]) (rest := []) (n9 := 2) C hw (c_X7_checkApart l hst D y base S p1 p2 ) gX7_decodeTwo_X7_checkApart rfl (by decide +kernel) ⟨⟨rfl, rfl⟩, Nat.le_of_ble_eq_true rfl, Nat.le_of_ble_eq_true rfl⟩ rfl hl.1 rfl (Nat.le_of_ble_eq_true rfl) ⟨Nat.le_of_ble_eq_true rfl, Nat.le_of_ble_eq_true rfl⟩ dX7_decodeTwo_14 (fun E ce q9 S14 H locs hx14 hw h1 h2 h3 => zxout hw hx0 hlocks h1 h2 h3 (by obtain ⟨rfl, hc9, rfl⟩ := hx14; refine ⟨?_, zCls.rf⟩; first | exact (Or.inl ⟨rfl, (by unfold kd_decodeTwo; grind)⟩) | exact (Or.inr ⟨rfl, (by unfold kd_decodeTwo; grind)⟩)) ⟨Nat.le_of_ble_eq_true rfl, Nat.le_of_ble_eq_true rfl⟩) (fun S14 H locs hp14 hw => ?_)
  obtain ⟨hp14, hS9⟩ := hp14
  have hS9 := hS9.symm
  subst hS9
  refine lv_aload_n hx hb dX7_decodeTwo_17 rfl (lv_at hl 0 rfl) ?_
  refine g_Ph_told (a := (a 0)) (v := (a 4)) C hw hX.1 in_X7 (by decide +kernel) hX.2.2.2.2.1 dX7_decodeTwo_18 ?_
  refine lv_iconst (v := 0) hx hb dX7_decodeTwo_21 (by decide) ?_
  refine p_Notes_count (a := (a 4)) (v := 0) C hw hX.2.2.2.2.2.2.2.2.2.2.1 in_X3 (by decide +kernel) dX7_decodeTwo_22 (fun H locs hw => ?_)
  refine lv_aload_n hx hb dX7_decodeTwo_25 rfl (lv_at hl 0 rfl) ?_
  refine g_Ph_captures (a := (a 0)) (v := (a 2)) C hw hX.1 in_X7 (by decide +kernel) hX.2.2.1 dX7_decodeTwo_26 ?_
  refine lv_iload_n hx hb dX7_decodeTwo_29 rfl (lv_at hl 1 rfl) ?_
  obtain ⟨c1, l1, eP1, hC1, eI1, eZ1⟩ := zX_c hX h0 (p := p0) hp1
  refine zald_P (a := (a 2)) (v := c1) C hw hX.2.2.2.2.2.2.2.2.1 (by decide) (t0 := 2) rfl rfl hX.2.2.2.2.2.2.2.2.2.1 (zin_of (N := 2) (by decide) (by grind) (by grind)) eP1 dX7_decodeTwo_30 ?_
  refine lv_astore (lv' := [(4, .ref c1), (0, .ref (a 0)), (1, .int p0), (2, .int p1), (3, .int p2)]) hx hb dX7_decodeTwo_31 hl (by decide) rfl (fun ls hl => ?_)
  refine znew (k := 9) (Cn := RX5) (T := TX5) (N := 10) C hw (by decide) (by decide) rfl in_X5 tyX5 tyX5_ok (by decide +kernel) (by decide +kernel) (by decide +kernel) (zdfX5) (Nat.le_of_ble_eq_true rfl) (Nat.le_of_ble_eq_true rfl) dX7_decodeTwo_33 (fun q33 H kq33 hw => ?_)
  refine lv_dup hx hb dX7_decodeTwo_36 rfl ?_
  refine lv_aload_n hx hb dX7_decodeTwo_37 rfl (lv_at hl 1 rfl) ?_
  refine g_Ph_told (a := (a 0)) (v := (a 4)) C hw (zK_nO (k := 9) (zne kq33 (fun e9 => absurd (Eq.trans (Eq.symm hX.1) e9) (by decide))) hX.1) in_X7 (by decide +kernel) (zQ_nO (k := 9) (zne kq33 (fun e9 => absurd (Eq.trans (Eq.symm hX.1) e9) (by decide))) hX.2.2.2.2.1) dX7_decodeTwo_38 ?_
  refine lv_aload_n hx hb dX7_decodeTwo_41 rfl (lv_at hl 1 rfl) ?_
  refine g_Ph_devices (a := (a 0)) (v := (a 5)) C hw (zK_nO (k := 9) (zne kq33 (fun e9 => absurd (Eq.trans (Eq.symm hX.1) e9) (by decide))) hX.1) in_X7 (by decide +kernel) (zQ_nO (k := 9) (zne kq33 (fun e9 => absurd (Eq.trans (Eq.symm hX.1) e9) (by decide))) hX.2.2.2.2.2.1) dX7_decodeTwo_42 ?_
  refine zcI_v (As := [.ref (a 4), .ref (a 5)]) (rest := [.ref q33]) (n9 := 2) (b := q33) C hw (c_X5_init l D y base (znO (zsI S 112 (a 4) 0) q33 9) q33 (a 4) (a 5) (zK_nOs _ _ _)) gX7_decodeTwo_X5_init rfl (by decide +kernel) (by decide +kernel) (by decide +kernel) rfl (by decide +kernel) ⟨⟨rfl, rfl⟩, Nat.le_of_ble_eq_true rfl, Nat.le_of_ble_eq_true rfl⟩ rfl hl.1 rfl (Nat.le_of_ble_eq_true rfl) ⟨Nat.le_of_ble_eq_true rfl, Nat.le_of_ble_eq_true rfl⟩ dX7_decodeTwo_45 (fun S45 H locs hp45 hw => ?_)
  obtain rfl := hp45
  refine lv_astore (lv' := [(5, .ref q33), (4, .ref c1), (0, .ref (a 0)), (1, .int p0), (2, .int p1), (3, .int p2)]) hx hb dX7_decodeTwo_48 hl (by decide) rfl (fun ls hl => ?_)
  refine lv_iconst (v := 1) hx hb dX7_decodeTwo_50 (by decide) ?_
  refine lv_istore (lv' := [(6, .int 1), (5, .ref q33), (4, .ref c1), (0, .ref (a 0)), (1, .int p0), (2, .int p1), (3, .int p2)]) hx hb dX7_decodeTwo_51 hl (by decide) rfl (fun ls hl => ?_)
  refine lv_iload hx hb dX7_decodeTwo_53 (lv_at hl 0 rfl) ?_
  refine lv_aload hx hb dX7_decodeTwo_55 (lv_at hl 2 rfl) ?_
  refine g_Cap_count (a := c1) (v := 0) C hw (zK_nO (k := 9) (zne kq33 (fun e9 => absurd (Eq.trans (Eq.symm hC1.1) e9) (by decide))) hC1.1) in_X0 (by decide +kernel) (zI_nO (k := 9) (zne kq33 (fun e9 => absurd (Eq.trans (Eq.symm hC1.1) e9) (by decide))) eI1) dX7_decodeTwo_57 ?_
  refine lv_icmp_ge (tgt := 159) hx hb dX7_decodeTwo_60 (by decide) (fun _ => ?_) (fun c60 => absurd c60 (by decide))
  refine lv_aload_n hx hb dX7_decodeTwo_159 rfl (lv_at hl 3 rfl) ?_
  refine g_Ph_told (a := (a 0)) (v := (a 4)) C hw (zK_nO (k := 9) (zne kq33 (fun e9 => absurd (Eq.trans (Eq.symm hX.1) e9) (by decide))) hX.1) in_X7 (by decide +kernel) (zQ_t (by decide) (zQ_t (by decide) (zQ_nO (k := 9) (zne kq33 (fun e9 => absurd (Eq.trans (Eq.symm hX.1) e9) (by decide))) hX.2.2.2.2.1))) dX7_decodeTwo_160 ?_
  refine g_Notes_count (a := (a 4)) (v := 0) C hw (zK_nO (k := 9) (zne kq33 (fun e9 => absurd (Eq.trans (Eq.symm hX.2.2.2.2.2.2.2.2.2.2.1) e9) (by decide))) hX.2.2.2.2.2.2.2.2.2.2.1) in_X3 (by decide +kernel) (zI_nO (k := 9) (zne kq33 (fun e9 => absurd (Eq.trans (Eq.symm hX.2.2.2.2.2.2.2.2.2.2.1) e9) (by decide))) (zI_s _ _ _ _)) dX7_decodeTwo_163 ?_
  exact vx_ret (zri C hw hr hlocks rfl ⟨rfl, (by unfold kd_decodeTwo; grind), ((zCls.I (by decide)).tr ((zCls.nO kq33).tr ((zCls.Q (by decide)).tr (zCls.Q (by decide)))))⟩ ⟨Nat.le_of_ble_eq_true rfl, Nat.le_of_ble_eq_true rfl⟩ dX7_decodeTwo_166)

set_option maxHeartbeats 4000000 in
set_option maxRecDepth 100000 in
/-- X7_decodeFour -/
theorem c_X7_decodeFour (l : Launch) (hst : l.stackTraces = false) (D : va_G) (y : Nat → ClassId) (base : Nat) (S : zS) (a : Nat → Nat) (p0 : Int32) (p1 : Int32) (p2 : Int32) (p3 : Int32) (p4 : Int32) (hX : zX S a) (h0 : zX0 S a) : zXi l yX7_decodeFour wsX7_decodeFour ({ frames := 8, cells := 9, slots := 52, locals := 133 }) [.ref (a 0), .int p0, .int p1, .int p2, .int p3, .int p4] D y base S (fun (r : Int32) (S1 : zS) => r = 0 ∧ kd_decodeFour p0 p1 p2 p3 p4 = 0 ∧ zCls S S1) (fun (E : String) (S1 : zS) => ((E = "java/lang/IndexOutOfBoundsException" ∧ kd_decodeFour p0 p1 p2 p3 p4 = 1) ∨ (E = "java/lang/IllegalArgumentException" ∧ kd_decodeFour p0 p1 p2 p3 p4 = 2)) ∧ zCls S S1) 9 52 := by
  refine zXet_of (cc := cX7_decodeFour) (maxL := 10) (ret := (some .int)) (own := RX7) (by decide +kernel) rfl rfl (Nat.le_of_ble_eq_true rfl) ?_
  intro p e s m args below meth c ls C hr hlocks hx0 hw hl
  have hx := C.1
  have hb := C.2.1
  have hown := C.2.2.2.1
  have hts := C.2.2.2.2
  have hl : lv_has ls 10 [(0, .ref (a 0)), (1, .int p0), (2, .int p1), (3, .int p2), (4, .int p3), (5, .int p4)] := hl
  have in_X0 : ∀ w ∈ wsX00, w ∈ wsX7_decodeFour := by decide +kernel
  have in_X2 : ∀ w ∈ wsX20, w ∈ wsX7_decodeFour := by decide +kernel
  have in_X3 : ∀ w ∈ wsX30, w ∈ wsX7_decodeFour := by decide +kernel
  have in_X7 : ∀ w ∈ wsX70, w ∈ wsX7_decodeFour := by decide +kernel
  refine lv_iload_n hx hb dX7_decodeFour_0 rfl (lv_at hl 1 rfl) ?_
  refine zcS_xv (As := [.int p0]) (rest := []) (n9 := 1) C hw (c_X7_checkCapture l hst D y base S p0 ) gX7_decodeFour_X7_checkCapture rfl (by decide +kernel) ⟨⟨rfl, rfl⟩, Nat.le_of_ble_eq_true rfl, Nat.le_of_ble_eq_true rfl⟩ rfl hl.1 rfl (Nat.le_of_ble_eq_true rfl) ⟨Nat.le_of_ble_eq_true rfl, Nat.le_of_ble_eq_true rfl⟩ dX7_decodeFour_1 (fun E ce q9 S1 H locs hx1 hw h1 h2 h3 => zxout hw hx0 hlocks h1 h2 h3 (by obtain ⟨rfl, hc9, rfl⟩ := hx1; refine ⟨?_, zCls.rf⟩; first | exact (Or.inl ⟨rfl, (by unfold kd_decodeFour; grind)⟩) | exact (Or.inr ⟨rfl, (by unfold kd_decodeFour; grind)⟩)) ⟨Nat.le_of_ble_eq_true rfl, Nat.le_of_ble_eq_true rfl⟩) (fun S1 H locs hp1 hw => ?_)
  obtain ⟨hp1, hS9⟩ := hp1
  have hS9 := hS9.symm
  subst hS9
  refine lv_iload_n hx hb dX7_decodeFour_4 rfl (lv_at hl 2 rfl) ?_
  refine zcS_xv (As := [.int p1]) (rest := []) (n9 := 1) C hw (c_X7_checkWire l hst D y base S p1 ) gX7_decodeFour_X7_checkWire rfl (by decide +kernel) ⟨⟨rfl, rfl⟩, Nat.le_of_ble_eq_true rfl, Nat.le_of_ble_eq_true rfl⟩ rfl hl.1 rfl (Nat.le_of_ble_eq_true rfl) ⟨Nat.le_of_ble_eq_true rfl, Nat.le_of_ble_eq_true rfl⟩ dX7_decodeFour_5 (fun E ce q9 S5 H locs hx5 hw h1 h2 h3 => zxout hw hx0 hlocks h1 h2 h3 (by obtain ⟨rfl, hc9, rfl⟩ := hx5; refine ⟨?_, zCls.rf⟩; first | exact (Or.inl ⟨rfl, (by unfold kd_decodeFour; grind)⟩) | exact (Or.inr ⟨rfl, (by unfold kd_decodeFour; grind)⟩)) ⟨Nat.le_of_ble_eq_true rfl, Nat.le_of_ble_eq_true rfl⟩) (fun S5 H locs hp5 hw => ?_)
  obtain ⟨hp5, hS9⟩ := hp5
  have hS9 := hS9.symm
  subst hS9
  refine lv_iload_n hx hb dX7_decodeFour_8 rfl (lv_at hl 3 rfl) ?_
  refine zcS_xv (As := [.int p2]) (rest := []) (n9 := 1) C hw (c_X7_checkWire l hst D y base S p2 ) gX7_decodeFour_X7_checkWire rfl (by decide +kernel) ⟨⟨rfl, rfl⟩, Nat.le_of_ble_eq_true rfl, Nat.le_of_ble_eq_true rfl⟩ rfl hl.1 rfl (Nat.le_of_ble_eq_true rfl) ⟨Nat.le_of_ble_eq_true rfl, Nat.le_of_ble_eq_true rfl⟩ dX7_decodeFour_9 (fun E ce q9 S9 H locs hx9 hw h1 h2 h3 => zxout hw hx0 hlocks h1 h2 h3 (by obtain ⟨rfl, hc9, rfl⟩ := hx9; refine ⟨?_, zCls.rf⟩; first | exact (Or.inl ⟨rfl, (by unfold kd_decodeFour; grind)⟩) | exact (Or.inr ⟨rfl, (by unfold kd_decodeFour; grind)⟩)) ⟨Nat.le_of_ble_eq_true rfl, Nat.le_of_ble_eq_true rfl⟩) (fun S9 H locs hp9 hw => ?_)
  obtain ⟨hp9, hS9⟩ := hp9
  have hS9 := hS9.symm
  subst hS9
  refine lv_iload hx hb dX7_decodeFour_12 (lv_at hl 4 rfl) ?_
  refine zcS_xv (As := [.int p3]) (rest := []) (n9 := 1) C hw (c_X7_checkWire l hst D y base S p3 ) gX7_decodeFour_X7_checkWire rfl (by decide +kernel) ⟨⟨rfl, rfl⟩, Nat.le_of_ble_eq_true rfl, Nat.le_of_ble_eq_true rfl⟩ rfl hl.1 rfl (Nat.le_of_ble_eq_true rfl) ⟨Nat.le_of_ble_eq_true rfl, Nat.le_of_ble_eq_true rfl⟩ dX7_decodeFour_14 (fun E ce q9 S14 H locs hx14 hw h1 h2 h3 => zxout hw hx0 hlocks h1 h2 h3 (by obtain ⟨rfl, hc9, rfl⟩ := hx14; refine ⟨?_, zCls.rf⟩; first | exact (Or.inl ⟨rfl, (by unfold kd_decodeFour; grind)⟩) | exact (Or.inr ⟨rfl, (by unfold kd_decodeFour; grind)⟩)) ⟨Nat.le_of_ble_eq_true rfl, Nat.le_of_ble_eq_true rfl⟩) (fun S14 H locs hp14 hw => ?_)
  obtain ⟨hp14, hS9⟩ := hp14
  have hS9 := hS9.symm
  subst hS9
  refine lv_iload_n hx hb dX7_decodeFour_17 rfl (lv_at hl 2 rfl) ?_
  refine lv_iload_n hx hb dX7_decodeFour_18 rfl (lv_at hl 3 rfl) ?_
  refine lv_iload hx hb dX7_decodeFour_19 (lv_at hl 4 rfl) ?_
  refine zcS_xv (As := [.int p1, .int p2, .int p3]) (rest := []) (n9 := 3) C hw (c_X7_checkThreeApart l hst D y base S p1 p2 p3 ) gX7_decodeFour_X7_checkThreeApart rfl (by decide +kernel) ⟨⟨rfl, rfl⟩, Nat.le_of_ble_eq_true rfl, Nat.le_of_ble_eq_true rfl⟩ rfl hl.1 rfl (Nat.le_of_ble_eq_true rfl) ⟨Nat.le_of_ble_eq_true rfl, Nat.le_of_ble_eq_true rfl⟩ dX7_decodeFour_21 (fun E ce q9 S21 H locs hx21 hw h1 h2 h3 => zxout hw hx0 hlocks h1 h2 h3 (by obtain ⟨rfl, hc9, rfl⟩ := hx21; refine ⟨?_, zCls.rf⟩; first | exact (Or.inl ⟨rfl, (by unfold kd_decodeFour; grind)⟩) | exact (Or.inr ⟨rfl, (by unfold kd_decodeFour; grind)⟩)) ⟨Nat.le_of_ble_eq_true rfl, Nat.le_of_ble_eq_true rfl⟩) (fun S21 H locs hp21 hw => ?_)
  obtain ⟨hp21, hS9⟩ := hp21
  have hS9 := hS9.symm
  subst hS9
  refine lv_iload hx hb dX7_decodeFour_24 (lv_at hl 5 rfl) ?_
  refine lv_iconst (v := 0) hx hb dX7_decodeFour_26 (by decide) ?_
  refine lv_iconst (v := 3) hx hb dX7_decodeFour_27 (by decide) ?_
  refine zcS_xv (As := [.int p4, .int 0, .int 3]) (rest := []) (n9 := 3) C hw (c_X7_checkRange l hst D y base S p4 0 3 ) gX7_decodeFour_X7_checkRange rfl (by decide +kernel) ⟨⟨rfl, rfl⟩, Nat.le_of_ble_eq_true rfl, Nat.le_of_ble_eq_true rfl⟩ rfl hl.1 rfl (Nat.le_of_ble_eq_true rfl) ⟨Nat.le_of_ble_eq_true rfl, Nat.le_of_ble_eq_true rfl⟩ dX7_decodeFour_28 (fun E ce q9 S28 H locs hx28 hw h1 h2 h3 => zxout hw hx0 hlocks h1 h2 h3 (by obtain ⟨rfl, hc9, rfl⟩ := hx28; refine ⟨?_, zCls.rf⟩; first | exact (Or.inl ⟨rfl, (by unfold kd_decodeFour; grind)⟩) | exact (Or.inr ⟨rfl, (by unfold kd_decodeFour; grind)⟩)) ⟨Nat.le_of_ble_eq_true rfl, Nat.le_of_ble_eq_true rfl⟩) (fun S28 H locs hp28 hw => ?_)
  obtain ⟨hp28, hS9⟩ := hp28
  have hS9 := hS9.symm
  subst hS9
  refine lv_aload_n hx hb dX7_decodeFour_31 rfl (lv_at hl 0 rfl) ?_
  refine g_Ph_told (a := (a 0)) (v := (a 4)) C hw hX.1 in_X7 (by decide +kernel) hX.2.2.2.2.1 dX7_decodeFour_32 ?_
  refine lv_iconst (v := 0) hx hb dX7_decodeFour_35 (by decide) ?_
  refine p_Notes_count (a := (a 4)) (v := 0) C hw hX.2.2.2.2.2.2.2.2.2.2.1 in_X3 (by decide +kernel) dX7_decodeFour_36 (fun H locs hw => ?_)
  refine lv_aload_n hx hb dX7_decodeFour_39 rfl (lv_at hl 0 rfl) ?_
  refine g_Ph_captures (a := (a 0)) (v := (a 2)) C hw hX.1 in_X7 (by decide +kernel) hX.2.2.1 dX7_decodeFour_40 ?_
  refine lv_iload_n hx hb dX7_decodeFour_43 rfl (lv_at hl 1 rfl) ?_
  obtain ⟨c1, l1, eP1, hC1, eI1, eZ1⟩ := zX_c hX h0 (p := p0) hp1
  refine zald_P (a := (a 2)) (v := c1) C hw hX.2.2.2.2.2.2.2.2.1 (by decide) (t0 := 2) rfl rfl hX.2.2.2.2.2.2.2.2.2.1 (zin_of (N := 2) (by decide) (by grind) (by grind)) eP1 dX7_decodeFour_44 ?_
  refine lv_astore (lv' := [(6, .ref c1), (0, .ref (a 0)), (1, .int p0), (2, .int p1), (3, .int p2), (4, .int p3), (5, .int p4)]) hx hb dX7_decodeFour_45 hl (by decide) rfl (fun ls hl => ?_)
  refine lv_iload hx hb dX7_decodeFour_47 (lv_at hl 6 rfl) ?_
  refine lv_if_eq (tgt := 58) hx hb dX7_decodeFour_49 (by decide) (fun c49 => ?_) (fun c49 => ?_)
  · refine lv_iconst (v := 1) hx hb dX7_decodeFour_58 (by decide) ?_
    refine lv_goto (tgt := 63) hx hb dX7_decodeFour_59 (by decide) ?_
    refine lv_istore (lv' := [(7, .int 1), (6, .ref c1), (0, .ref (a 0)), (1, .int p0), (2, .int p1), (3, .int p2), (4, .int p3), (5, .int p4)]) hx hb dX7_decodeFour_63 hl (by decide) rfl (fun ls hl => ?_)
    refine znew (k := 6) (Cn := RX2) (T := TX2) (N := 4) C hw (by decide) (by decide) rfl in_X2 tyX2 tyX2_ok (by decide +kernel) (by decide +kernel) (by decide +kernel) (zdfX2) (Nat.le_of_ble_eq_true rfl) (Nat.le_of_ble_eq_true rfl) dX7_decodeFour_65 (fun q65 H kq65 hw => ?_)
    refine lv_dup hx hb dX7_decodeFour_68 rfl ?_
    refine lv_aload_n hx hb dX7_decodeFour_69 rfl (lv_at hl 2 rfl) ?_
    refine g_Ph_told (a := (a 0)) (v := (a 4)) C hw (zK_nO (k := 6) (zne kq65 (fun e9 => absurd (Eq.trans (Eq.symm hX.1) e9) (by decide))) hX.1) in_X7 (by decide +kernel) (zQ_nO (k := 6) (zne kq65 (fun e9 => absurd (Eq.trans (Eq.symm hX.1) e9) (by decide))) hX.2.2.2.2.1) dX7_decodeFour_70 ?_
    refine zcI_v (As := [.ref (a 4)]) (rest := [.ref q65]) (n9 := 1) (b := q65) C hw (c_X2_init l D y base (znO (zsI S 112 (a 4) 0) q65 6) q65 (a 4) (zK_nOs _ _ _)) gX7_decodeFour_X2_init rfl (by decide +kernel) (by decide +kernel) (by decide +kernel) rfl (by decide +kernel) ⟨⟨rfl, rfl⟩, Nat.le_of_ble_eq_true rfl, Nat.le_of_ble_eq_true rfl⟩ rfl hl.1 rfl (Nat.le_of_ble_eq_true rfl) ⟨Nat.le_of_ble_eq_true rfl, Nat.le_of_ble_eq_true rfl⟩ dX7_decodeFour_73 (fun S73 H locs hp73 hw => ?_)
    obtain rfl := hp73
    refine lv_astore (lv' := [(8, .ref q65), (7, .int 1), (6, .ref c1), (0, .ref (a 0)), (1, .int p0), (2, .int p1), (3, .int p2), (4, .int p3), (5, .int p4)]) hx hb dX7_decodeFour_76 hl (by decide) rfl (fun ls hl => ?_)
    refine lv_iconst (v := 1) hx hb dX7_decodeFour_78 (by decide) ?_
    refine lv_istore (lv' := [(9, .int 1), (8, .ref q65), (7, .int 1), (6, .ref c1), (0, .ref (a 0)), (1, .int p0), (2, .int p1), (3, .int p2), (4, .int p3), (5, .int p4)]) hx hb dX7_decodeFour_79 hl (by decide) rfl (fun ls hl => ?_)
    refine lv_iload hx hb dX7_decodeFour_81 (lv_at hl 0 rfl) ?_
    refine lv_aload hx hb dX7_decodeFour_83 (lv_at hl 3 rfl) ?_
    refine g_Cap_count (a := c1) (v := 0) C hw (zK_nO (k := 6) (zne kq65 (fun e9 => absurd (Eq.trans (Eq.symm hC1.1) e9) (by decide))) hC1.1) in_X0 (by decide +kernel) (zI_nO (k := 6) (zne kq65 (fun e9 => absurd (Eq.trans (Eq.symm hC1.1) e9) (by decide))) eI1) dX7_decodeFour_85 ?_
    refine lv_icmp_ge (tgt := 190) hx hb dX7_decodeFour_88 (by decide) (fun _ => ?_) (fun c88 => absurd c88 (by decide))
    refine lv_aload_n hx hb dX7_decodeFour_190 rfl (lv_at hl 4 rfl) ?_
    refine g_Ph_told (a := (a 0)) (v := (a 4)) C hw (zK_nO (k := 6) (zne kq65 (fun e9 => absurd (Eq.trans (Eq.symm hX.1) e9) (by decide))) hX.1) in_X7 (by decide +kernel) (zQ_t (by decide) (zQ_nO (k := 6) (zne kq65 (fun e9 => absurd (Eq.trans (Eq.symm hX.1) e9) (by decide))) hX.2.2.2.2.1)) dX7_decodeFour_191 ?_
    refine g_Notes_count (a := (a 4)) (v := 0) C hw (zK_nO (k := 6) (zne kq65 (fun e9 => absurd (Eq.trans (Eq.symm hX.2.2.2.2.2.2.2.2.2.2.1) e9) (by decide))) hX.2.2.2.2.2.2.2.2.2.2.1) in_X3 (by decide +kernel) (zI_nO (k := 6) (zne kq65 (fun e9 => absurd (Eq.trans (Eq.symm hX.2.2.2.2.2.2.2.2.2.2.1) e9) (by decide))) (zI_s _ _ _ _)) dX7_decodeFour_194 ?_
    exact vx_ret (zri C hw hr hlocks rfl ⟨rfl, (by unfold kd_decodeFour; grind), ((zCls.I (by decide)).tr ((zCls.nO kq65).tr (zCls.Q (by decide))))⟩ ⟨Nat.le_of_ble_eq_true rfl, Nat.le_of_ble_eq_true rfl⟩ dX7_decodeFour_197)
  · refine lv_iload hx hb dX7_decodeFour_52 (lv_at hl 6 rfl) ?_
    refine lv_iconst (v := 3) hx hb dX7_decodeFour_54 (by decide) ?_
    refine lv_icmp_ne (tgt := 62) hx hb dX7_decodeFour_55 (by decide) (fun c55 => ?_) (fun c55 => ?_)
    · refine lv_iconst (v := 0) hx hb dX7_decodeFour_62 (by decide) ?_
      refine lv_istore (lv' := [(7, .int 0), (6, .ref c1), (0, .ref (a 0)), (1, .int p0), (2, .int p1), (3, .int p2), (4, .int p3), (5, .int p4)]) hx hb dX7_decodeFour_63 hl (by decide) rfl (fun ls hl => ?_)
      refine znew (k := 6) (Cn := RX2) (T := TX2) (N := 4) C hw (by decide) (by decide) rfl in_X2 tyX2 tyX2_ok (by decide +kernel) (by decide +kernel) (by decide +kernel) (zdfX2) (Nat.le_of_ble_eq_true rfl) (Nat.le_of_ble_eq_true rfl) dX7_decodeFour_65 (fun q65 H kq65 hw => ?_)
      refine lv_dup hx hb dX7_decodeFour_68 rfl ?_
      refine lv_aload_n hx hb dX7_decodeFour_69 rfl (lv_at hl 2 rfl) ?_
      refine g_Ph_told (a := (a 0)) (v := (a 4)) C hw (zK_nO (k := 6) (zne kq65 (fun e9 => absurd (Eq.trans (Eq.symm hX.1) e9) (by decide))) hX.1) in_X7 (by decide +kernel) (zQ_nO (k := 6) (zne kq65 (fun e9 => absurd (Eq.trans (Eq.symm hX.1) e9) (by decide))) hX.2.2.2.2.1) dX7_decodeFour_70 ?_
      refine zcI_v (As := [.ref (a 4)]) (rest := [.ref q65]) (n9 := 1) (b := q65) C hw (c_X2_init l D y base (znO (zsI S 112 (a 4) 0) q65 6) q65 (a 4) (zK_nOs _ _ _)) gX7_decodeFour_X2_init rfl (by decide +kernel) (by decide +kernel) (by decide +kernel) rfl (by decide +kernel) ⟨⟨rfl, rfl⟩, Nat.le_of_ble_eq_true rfl, Nat.le_of_ble_eq_true rfl⟩ rfl hl.1 rfl (Nat.le_of_ble_eq_true rfl) ⟨Nat.le_of_ble_eq_true rfl, Nat.le_of_ble_eq_true rfl⟩ dX7_decodeFour_73 (fun S73 H locs hp73 hw => ?_)
      obtain rfl := hp73
      refine lv_astore (lv' := [(8, .ref q65), (7, .int 0), (6, .ref c1), (0, .ref (a 0)), (1, .int p0), (2, .int p1), (3, .int p2), (4, .int p3), (5, .int p4)]) hx hb dX7_decodeFour_76 hl (by decide) rfl (fun ls hl => ?_)
      refine lv_iconst (v := 1) hx hb dX7_decodeFour_78 (by decide) ?_
      refine lv_istore (lv' := [(9, .int 1), (8, .ref q65), (7, .int 0), (6, .ref c1), (0, .ref (a 0)), (1, .int p0), (2, .int p1), (3, .int p2), (4, .int p3), (5, .int p4)]) hx hb dX7_decodeFour_79 hl (by decide) rfl (fun ls hl => ?_)
      refine lv_iload hx hb dX7_decodeFour_81 (lv_at hl 0 rfl) ?_
      refine lv_aload hx hb dX7_decodeFour_83 (lv_at hl 3 rfl) ?_
      refine g_Cap_count (a := c1) (v := 0) C hw (zK_nO (k := 6) (zne kq65 (fun e9 => absurd (Eq.trans (Eq.symm hC1.1) e9) (by decide))) hC1.1) in_X0 (by decide +kernel) (zI_nO (k := 6) (zne kq65 (fun e9 => absurd (Eq.trans (Eq.symm hC1.1) e9) (by decide))) eI1) dX7_decodeFour_85 ?_
      refine lv_icmp_ge (tgt := 190) hx hb dX7_decodeFour_88 (by decide) (fun _ => ?_) (fun c88 => absurd c88 (by decide))
      refine lv_aload_n hx hb dX7_decodeFour_190 rfl (lv_at hl 4 rfl) ?_
      refine g_Ph_told (a := (a 0)) (v := (a 4)) C hw (zK_nO (k := 6) (zne kq65 (fun e9 => absurd (Eq.trans (Eq.symm hX.1) e9) (by decide))) hX.1) in_X7 (by decide +kernel) (zQ_t (by decide) (zQ_nO (k := 6) (zne kq65 (fun e9 => absurd (Eq.trans (Eq.symm hX.1) e9) (by decide))) hX.2.2.2.2.1)) dX7_decodeFour_191 ?_
      refine g_Notes_count (a := (a 4)) (v := 0) C hw (zK_nO (k := 6) (zne kq65 (fun e9 => absurd (Eq.trans (Eq.symm hX.2.2.2.2.2.2.2.2.2.2.1) e9) (by decide))) hX.2.2.2.2.2.2.2.2.2.2.1) in_X3 (by decide +kernel) (zI_nO (k := 6) (zne kq65 (fun e9 => absurd (Eq.trans (Eq.symm hX.2.2.2.2.2.2.2.2.2.2.1) e9) (by decide))) (zI_s _ _ _ _)) dX7_decodeFour_194 ?_
      exact vx_ret (zri C hw hr hlocks rfl ⟨rfl, (by unfold kd_decodeFour; grind), ((zCls.I (by decide)).tr ((zCls.nO kq65).tr (zCls.Q (by decide))))⟩ ⟨Nat.le_of_ble_eq_true rfl, Nat.le_of_ble_eq_true rfl⟩ dX7_decodeFour_197)
    · refine lv_iconst (v := 1) hx hb dX7_decodeFour_58 (by decide) ?_
      refine lv_goto (tgt := 63) hx hb dX7_decodeFour_59 (by decide) ?_
      refine lv_istore (lv' := [(7, .int 1), (6, .ref c1), (0, .ref (a 0)), (1, .int p0), (2, .int p1), (3, .int p2), (4, .int p3), (5, .int p4)]) hx hb dX7_decodeFour_63 hl (by decide) rfl (fun ls hl => ?_)
      refine znew (k := 6) (Cn := RX2) (T := TX2) (N := 4) C hw (by decide) (by decide) rfl in_X2 tyX2 tyX2_ok (by decide +kernel) (by decide +kernel) (by decide +kernel) (zdfX2) (Nat.le_of_ble_eq_true rfl) (Nat.le_of_ble_eq_true rfl) dX7_decodeFour_65 (fun q65 H kq65 hw => ?_)
      refine lv_dup hx hb dX7_decodeFour_68 rfl ?_
      refine lv_aload_n hx hb dX7_decodeFour_69 rfl (lv_at hl 2 rfl) ?_
      refine g_Ph_told (a := (a 0)) (v := (a 4)) C hw (zK_nO (k := 6) (zne kq65 (fun e9 => absurd (Eq.trans (Eq.symm hX.1) e9) (by decide))) hX.1) in_X7 (by decide +kernel) (zQ_nO (k := 6) (zne kq65 (fun e9 => absurd (Eq.trans (Eq.symm hX.1) e9) (by decide))) hX.2.2.2.2.1) dX7_decodeFour_70 ?_
      refine zcI_v (As := [.ref (a 4)]) (rest := [.ref q65]) (n9 := 1) (b := q65) C hw (c_X2_init l D y base (znO (zsI S 112 (a 4) 0) q65 6) q65 (a 4) (zK_nOs _ _ _)) gX7_decodeFour_X2_init rfl (by decide +kernel) (by decide +kernel) (by decide +kernel) rfl (by decide +kernel) ⟨⟨rfl, rfl⟩, Nat.le_of_ble_eq_true rfl, Nat.le_of_ble_eq_true rfl⟩ rfl hl.1 rfl (Nat.le_of_ble_eq_true rfl) ⟨Nat.le_of_ble_eq_true rfl, Nat.le_of_ble_eq_true rfl⟩ dX7_decodeFour_73 (fun S73 H locs hp73 hw => ?_)
      obtain rfl := hp73
      refine lv_astore (lv' := [(8, .ref q65), (7, .int 1), (6, .ref c1), (0, .ref (a 0)), (1, .int p0), (2, .int p1), (3, .int p2), (4, .int p3), (5, .int p4)]) hx hb dX7_decodeFour_76 hl (by decide) rfl (fun ls hl => ?_)
      refine lv_iconst (v := 1) hx hb dX7_decodeFour_78 (by decide) ?_
      refine lv_istore (lv' := [(9, .int 1), (8, .ref q65), (7, .int 1), (6, .ref c1), (0, .ref (a 0)), (1, .int p0), (2, .int p1), (3, .int p2), (4, .int p3), (5, .int p4)]) hx hb dX7_decodeFour_79 hl (by decide) rfl (fun ls hl => ?_)
      refine lv_iload hx hb dX7_decodeFour_81 (lv_at hl 0 rfl) ?_
      refine lv_aload hx hb dX7_decodeFour_83 (lv_at hl 3 rfl) ?_
      refine g_Cap_count (a := c1) (v := 0) C hw (zK_nO (k := 6) (zne kq65 (fun e9 => absurd (Eq.trans (Eq.symm hC1.1) e9) (by decide))) hC1.1) in_X0 (by decide +kernel) (zI_nO (k := 6) (zne kq65 (fun e9 => absurd (Eq.trans (Eq.symm hC1.1) e9) (by decide))) eI1) dX7_decodeFour_85 ?_
      refine lv_icmp_ge (tgt := 190) hx hb dX7_decodeFour_88 (by decide) (fun _ => ?_) (fun c88 => absurd c88 (by decide))
      refine lv_aload_n hx hb dX7_decodeFour_190 rfl (lv_at hl 4 rfl) ?_
      refine g_Ph_told (a := (a 0)) (v := (a 4)) C hw (zK_nO (k := 6) (zne kq65 (fun e9 => absurd (Eq.trans (Eq.symm hX.1) e9) (by decide))) hX.1) in_X7 (by decide +kernel) (zQ_t (by decide) (zQ_nO (k := 6) (zne kq65 (fun e9 => absurd (Eq.trans (Eq.symm hX.1) e9) (by decide))) hX.2.2.2.2.1)) dX7_decodeFour_191 ?_
      refine g_Notes_count (a := (a 4)) (v := 0) C hw (zK_nO (k := 6) (zne kq65 (fun e9 => absurd (Eq.trans (Eq.symm hX.2.2.2.2.2.2.2.2.2.2.1) e9) (by decide))) hX.2.2.2.2.2.2.2.2.2.2.1) in_X3 (by decide +kernel) (zI_nO (k := 6) (zne kq65 (fun e9 => absurd (Eq.trans (Eq.symm hX.2.2.2.2.2.2.2.2.2.2.1) e9) (by decide))) (zI_s _ _ _ _)) dX7_decodeFour_194 ?_
      exact vx_ret (zri C hw hr hlocks rfl ⟨rfl, (by unfold kd_decodeFour; grind), ((zCls.I (by decide)).tr ((zCls.nO kq65).tr (zCls.Q (by decide))))⟩ ⟨Nat.le_of_ble_eq_true rfl, Nat.le_of_ble_eq_true rfl⟩ dX7_decodeFour_197)

set_option maxHeartbeats 4000000 in
set_option maxRecDepth 100000 in
/-- X7_flip -/
theorem c_X7_flip (l : Launch) (hst : l.stackTraces = false) (D : va_G) (y : Nat → ClassId) (base : Nat) (S : zS) (a : Nat → Nat) (p0 : Int32) (p1 : Int32) (hX : zX S a) (h0 : zX0 S a) : zXi l yX7_flip wsX7_flip ({ frames := 7, cells := 3, slots := 18, locals := 112 }) [.ref (a 0), .int p0, .int p1] D y base S (fun (r : Int32) (S1 : zS) => r = 1 ∧ kd_flip p0 p1 = 0 ∧ zCls S S1) (fun (E : String) (S1 : zS) => ((E = "java/lang/IndexOutOfBoundsException" ∧ kd_flip p0 p1 = 1) ∨ (E = "java/lang/IllegalArgumentException" ∧ kd_flip p0 p1 = 2)) ∧ zCls S S1) 3 18 := by
  refine zXet_of (cc := cX7_flip) (maxL := 4) (ret := (some .int)) (own := RX7) (by decide +kernel) rfl rfl (Nat.le_of_ble_eq_true rfl) ?_
  intro p e s m args below meth c ls C hr hlocks hx0 hw hl
  have hx := C.1
  have hb := C.2.1
  have hown := C.2.2.2.1
  have hts := C.2.2.2.2
  have hl : lv_has ls 4 [(0, .ref (a 0)), (1, .int p0), (2, .int p1)] := hl
  have in_X6 : ∀ w ∈ wsX60, w ∈ wsX7_flip := by decide +kernel
  have in_X7 : ∀ w ∈ wsX70, w ∈ wsX7_flip := by decide +kernel
  refine lv_iload_n hx hb dX7_flip_0 rfl (lv_at hl 1 rfl) ?_
  refine zcS_xv (As := [.int p0]) (rest := []) (n9 := 1) C hw (c_X7_checkWire l hst D y base S p0 ) gX7_flip_X7_checkWire rfl (by decide +kernel) ⟨⟨rfl, rfl⟩, Nat.le_of_ble_eq_true rfl, Nat.le_of_ble_eq_true rfl⟩ rfl hl.1 rfl (Nat.le_of_ble_eq_true rfl) ⟨Nat.le_of_ble_eq_true rfl, Nat.le_of_ble_eq_true rfl⟩ dX7_flip_1 (fun E ce q9 S1 H locs hx1 hw h1 h2 h3 => zxout hw hx0 hlocks h1 h2 h3 (by obtain ⟨rfl, hc9, rfl⟩ := hx1; refine ⟨?_, zCls.rf⟩; first | exact (Or.inl ⟨rfl, (by unfold kd_flip; grind)⟩) | exact (Or.inr ⟨rfl, (by unfold kd_flip; grind)⟩)) ⟨Nat.le_of_ble_eq_true rfl, Nat.le_of_ble_eq_true rfl⟩) (fun S1 H locs hp1 hw => ?_)
  obtain ⟨hp1, hS9⟩ := hp1
  have hS9 := hS9.symm
  subst hS9
  refine lv_iload_n hx hb dX7_flip_4 rfl (lv_at hl 2 rfl) ?_
  refine lv_iconst (v := 0) hx hb dX7_flip_5 (by decide) ?_
  refine lv_sipush (v := 9999) hx hb dX7_flip_6 (by decide) ?_
  refine zcS_xv (As := [.int p1, .int 0, .int 9999]) (rest := []) (n9 := 3) C hw (c_X7_checkRange l hst D y base S p1 0 9999 ) gX7_flip_X7_checkRange rfl (by decide +kernel) ⟨⟨rfl, rfl⟩, Nat.le_of_ble_eq_true rfl, Nat.le_of_ble_eq_true rfl⟩ rfl hl.1 rfl (Nat.le_of_ble_eq_true rfl) ⟨Nat.le_of_ble_eq_true rfl, Nat.le_of_ble_eq_true rfl⟩ dX7_flip_9 (fun E ce q9 S9 H locs hx9 hw h1 h2 h3 => zxout hw hx0 hlocks h1 h2 h3 (by obtain ⟨rfl, hc9, rfl⟩ := hx9; refine ⟨?_, zCls.rf⟩; first | exact (Or.inl ⟨rfl, (by unfold kd_flip; grind)⟩) | exact (Or.inr ⟨rfl, (by unfold kd_flip; grind)⟩)) ⟨Nat.le_of_ble_eq_true rfl, Nat.le_of_ble_eq_true rfl⟩) (fun S9 H locs hp9 hw => ?_)
  obtain ⟨hp9, hS9⟩ := hp9
  have hS9 := hS9.symm
  subst hS9
  refine lv_aload_n hx hb dX7_flip_12 rfl (lv_at hl 0 rfl) ?_
  refine g_Ph_wires (a := (a 0)) (v := (a 1)) C hw hX.1 in_X7 (by decide +kernel) hX.2.1 dX7_flip_13 ?_
  refine lv_iload_n hx hb dX7_flip_16 rfl (lv_at hl 1 rfl) ?_
  obtain ⟨w1, t1, n1, eP1, hW1, eI1, eJ1, eA1, eB1⟩ := zX_w hX h0 (p := p0) hp1
  refine zald_P (a := (a 1)) (v := w1) C hw hX.2.2.2.2.2.2.1 (by decide) (t0 := 3) rfl rfl hX.2.2.2.2.2.2.2.1 (zin_of (N := 4) (by decide) (by grind) (by grind)) eP1 dX7_flip_17 ?_
  refine lv_astore_n (lv' := [(3, .ref w1), (0, .ref (a 0)), (1, .int p0), (2, .int p1)]) hx hb dX7_flip_18 rfl hl (by decide) rfl (fun ls hl => ?_)
  refine lv_aload_n hx hb dX7_flip_19 rfl (lv_at hl 0 rfl) ?_
  refine lv_iconst (v := 0) hx hb dX7_flip_20 (by decide) ?_
  refine zcV_v (As := [.int 0]) (rest := []) (n9 := 1) (b := w1) C hw (c_X6_beginSending l D y base S w1 t1 n1 0 hW1 (Or.inl rfl)) gX7_flip_X6_beginSending rfl (by decide +kernel) ⟨⟨rfl, rfl⟩, Nat.le_of_ble_eq_true rfl, Nat.le_of_ble_eq_true rfl⟩ hW1.1 ⟨by decide, by decide⟩ rfl rfl hl.1 rfl (Nat.le_of_ble_eq_true rfl) ⟨Nat.le_of_ble_eq_true rfl, Nat.le_of_ble_eq_true rfl⟩ dX7_flip_21 (fun S21 H locs hp21 hw => ?_)
  obtain rfl := hp21
  refine lv_aload_n hx hb dX7_flip_24 rfl (lv_at hl 0 rfl) ?_
  refine lv_iload_n hx hb dX7_flip_25 rfl (lv_at hl 3 rfl) ?_
  refine zcV_v (As := [.int p1]) (rest := []) (n9 := 1) (b := w1) C hw (c_X6_addSent l D y base (zsI (zsI S 163 w1 0) 164 w1 0) w1 t1 n1 p1 0 hW1 (zI_s _ _ _ _) (by decide) (Or.inl rfl)) gX7_flip_X6_addSent rfl (by decide +kernel) ⟨⟨rfl, rfl⟩, Nat.le_of_ble_eq_true rfl, Nat.le_of_ble_eq_true rfl⟩ hW1.1 ⟨by decide, by decide⟩ rfl rfl hl.1 rfl (Nat.le_of_ble_eq_true rfl) ⟨Nat.le_of_ble_eq_true rfl, Nat.le_of_ble_eq_true rfl⟩ dX7_flip_26 (fun S26 H locs hp26 hw => ?_)
  obtain rfl := hp26
  refine lv_aload_n hx hb dX7_flip_29 rfl (lv_at hl 0 rfl) ?_
  have hJ30 := zIR (sn := n1) (f := upd (zR (zsI (zsI S 163 w1 0) 164 w1 0) 22 n1) 0 p1) (v := nI (0 + 1)) (show zI (zsI (zsI S 163 w1 0) 164 w1 0) 161 w1 = 0 from zI_t (by decide) (zI_t (by decide) eJ1))
  have hs30 := (zSnd.begin (S := S) (w := w1) (sn := n1) (Or.inl rfl) p1.toInt).add (k := 0) (zI_s _ _ _ _) (Nat.le_refl _) (by decide) (Int.le_refl _)
  refine zcV_i (As := []) (rest := []) (n9 := 0) (b := w1) C hw (c_X6_takesSent l D y base (zsI (zsR (zsI (zsI S 163 w1 0) 164 w1 0) 22 n1 (upd (zR (zsI (zsI S 163 w1 0) 164 w1 0) 22 n1) 0 p1)) 164 w1 (nI (0 + 1))) w1 t1 n1 S 0 _ _ 1 hW1 hs30 (by decide) hJ30) gX7_flip_X6_takesSent rfl (by decide +kernel) ⟨⟨rfl, rfl⟩, Nat.le_of_ble_eq_true rfl, Nat.le_of_ble_eq_true rfl⟩ hW1.1 ⟨by decide, by decide⟩ rfl rfl hl.1 rfl (Nat.le_of_ble_eq_true rfl) ⟨Nat.le_of_ble_eq_true rfl, Nat.le_of_ble_eq_true rfl⟩ dX7_flip_30 (fun r30 S30 H locs hp30 hw => ?_)
  obtain ⟨⟨hg30, hz30⟩, hS9⟩ := hp30
  have hS9 := hS9.symm
  subst hS9
  refine zcS_xv (As := [.int r30]) (rest := []) (n9 := 1) C hw (c_X7_checkFlips l hst D y base (zsI (zsR (zsI (zsI S 163 w1 0) 164 w1 0) 22 n1 (upd (zR (zsI (zsI S 163 w1 0) 164 w1 0) 22 n1) 0 p1)) 164 w1 (nI (0 + 1))) r30 ) gX7_flip_X7_checkFlips rfl (by decide +kernel) ⟨⟨rfl, rfl⟩, Nat.le_of_ble_eq_true rfl, Nat.le_of_ble_eq_true rfl⟩ rfl hl.1 rfl (Nat.le_of_ble_eq_true rfl) ⟨Nat.le_of_ble_eq_true rfl, Nat.le_of_ble_eq_true rfl⟩ dX7_flip_33 (fun E ce q9 S33 H locs hx33 hw h1 h2 h3 => zxout hw hx0 hlocks h1 h2 h3 (by obtain ⟨rfl, hc9, rfl⟩ := hx33; exact absurd (hg30.mpr ⟨trivial, by grind⟩) hc9) ⟨Nat.le_of_ble_eq_true rfl, Nat.le_of_ble_eq_true rfl⟩) (fun S33 H locs hp33 hw => ?_)
  obtain ⟨hp33, hS9⟩ := hp33
  have hS9 := hS9.symm
  subst hS9
  refine lv_aload_n hx hb dX7_flip_36 rfl (lv_at hl 0 rfl) ?_
  have hS37 : (zsI (zsR (zsI (zsI S 163 w1 0) 164 w1 0) 22 n1 (upd (zR (zsI (zsI S 163 w1 0) 164 w1 0) 22 n1) 0 p1)) 164 w1 (nI (0 + 1))) = (zsI (zsR (zsI (zsI S 163 w1 0) 164 w1 0) 22 n1 (upd (zR (zsI (zsI S 163 w1 0) 164 w1 0) 22 n1) 0 p1)) 164 w1 (nI (0 + 1))) := rfl
  refine zcV_v (As := []) (rest := []) (n9 := 0) (b := w1) C hw (c_X6_flipSent_n l D y base (zsI (zsR (zsI (zsI S 163 w1 0) 164 w1 0) 22 n1 (upd (zR (zsI (zsI S 163 w1 0) 164 w1 0) 22 n1) 0 p1)) 164 w1 (nI (0 + 1))) w1 t1 n1 1 hW1 (zI_s _ _ _ _) (by decide) hJ30 (fun i j h1 h2 => by omega)) gX7_flip_X6_flipSent rfl (by decide +kernel) ⟨⟨rfl, rfl⟩, Nat.le_of_ble_eq_true rfl, Nat.le_of_ble_eq_true rfl⟩ hW1.1 ⟨by decide, by decide⟩ rfl rfl hl.1 rfl (Nat.le_of_ble_eq_true rfl) ⟨Nat.le_of_ble_eq_true rfl, Nat.le_of_ble_eq_true rfl⟩ dX7_flip_37 (fun S37 H locs hp37 hw => ?_)
  have hW37_w := zWire.fix hp37.1.1 hW1
  have hq37 := hp37.2
  refine lv_aload_n hx hb dX7_flip_40 rfl (lv_at hl 0 rfl) ?_
  refine g_Wire_count (a := w1) (v := (nI 1)) C hw hW37_w.1 in_X6 (by decide +kernel) hq37 dX7_flip_41 ?_
  exact vx_ret (zri C hw hr hlocks rfl ⟨rfl, (by unfold kd_flip; grind), (zCls.I (by decide)).tr ((zCls.I (by decide)).tr ((zCls.R (by decide)).tr ((zCls.I (by decide)).tr (zCls.flp hp37.1))))⟩ ⟨Nat.le_of_ble_eq_true rfl, Nat.le_of_ble_eq_true rfl⟩ dX7_flip_44)
