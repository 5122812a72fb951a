set_option maxHeartbeats 4000000 in
set_option maxRecDepth 100000 in
/-- X6_beginSending -/
theorem c_X6_beginSending (l : Launch) (D : va_G) (y : Nat → ClassId) (base : Nat) (S : zS) (w : Nat) (tk : Nat) (sn : Nat) (p0 : Int32) (hW : zWire S w tk sn) (hz : p0 = 0 ∨ p0 = 1) : zMv l yX6_beginSending wsX6_beginSending ({ frames := 0, cells := 0, slots := 0, locals := 0 }) [.ref w, .int p0] D y base S (fun (S1 : zS) => S1 = zsI (zsI S 163 w p0) 164 w 0) 0 0 := by
  refine zMet_of (cc := cX6_beginSending) (maxL := 2) (ret := none) (own := RX6) (by decide +kernel) rfl rfl (Nat.le_of_ble_eq_true rfl) ?_
  intro p e s m args below meth c ls C hr hlocks hnm hw hl
  have hx := C.1
  have hb := C.2.1
  have hown := C.2.2.2.1
  have hts := C.2.2.2.2
  have hl : lv_has ls 2 [(0, .ref w), (1, .int p0)] := hl
  have in_X6 : ∀ w ∈ wsX60, w ∈ wsX6_beginSending := by decide +kernel
  refine lv_aload_n hx hb dX6_beginSending_0 rfl (lv_at hl 0 rfl) ?_
  refine lv_iload_n hx hb dX6_beginSending_1 rfl (lv_at hl 1 rfl) ?_
  refine p_Wire_isSentHigh (a := w) (v := p0) C hw hW.1 in_X6 (by decide +kernel) (z01_nf hz) dX6_beginSending_2 (fun H locs hw => ?_)
  refine lv_aload_n hx hb dX6_beginSending_5 rfl (lv_at hl 0 rfl) ?_
  refine lv_iconst (v := 0) hx hb dX6_beginSending_6 (by decide) ?_
  refine p_Wire_sentCount (a := w) (v := 0) C hw hW.1 in_X6 (by decide +kernel) dX6_beginSending_7 (fun H locs hw => ?_)
  exact zrv C hw hr hlocks rfl ⟨Nat.le_of_ble_eq_true rfl, Nat.le_of_ble_eq_true rfl⟩ dX6_beginSending_10

set_option maxHeartbeats 4000000 in
set_option maxRecDepth 100000 in
/-- X6_countAhead -/
theorem c_X6_countAhead (l : Launch) (D : va_G) (y : Nat → ClassId) (base : Nat) (S : zS) (w : Nat) (tk : Nat) (sn : Nat) (p0 : Int32) (hW : zWire S w tk sn) : zMi l yX6_countAhead wsX6_countAhead ({ frames := 0, cells := 0, slots := 0, locals := 0 }) [.ref w, .int p0] D y base S (fun (r : Int32) (S1 : zS) => (∃ k, r = nI k ∧ k = zwC S w tk p0) ∧ S1 = S) 0 0 := by
  refine zMet_of (cc := cX6_countAhead) (maxL := 4) (ret := (some .int)) (own := RX6) (by decide +kernel) rfl rfl (Nat.le_of_ble_eq_true rfl) ?_
  intro p e s m args below meth c ls C hr hlocks hnm hw hl
  have hx := C.1
  have hb := C.2.1
  have hown := C.2.2.2.1
  have hts := C.2.2.2.2
  have hl : lv_has ls 4 [(0, .ref w), (1, .int p0)] := hl
  have in_X6 : ∀ w ∈ wsX60, w ∈ wsX6_countAhead := by decide +kernel
  refine lv_iconst (v := 0) hx hb dX6_countAhead_0 (by decide) ?_
  refine lv_istore_n (lv' := [(2, .int 0), (0, .ref w), (1, .int p0)]) hx hb dX6_countAhead_1 rfl hl (by decide) rfl (fun ls hl => ?_)
  refine lv_iconst (v := 0) hx hb dX6_countAhead_2 (by decide) ?_
  refine lv_istore_n (lv' := [(3, .int 0), (2, .int 0), (0, .ref w), (1, .int p0)]) hx hb dX6_countAhead_3 rfl hl (by decide) rfl (fun ls hl => ?_)
  have lp_2 : ∀ (n9 : Nat) (i : Nat) (k : Nat) (H : Heap) (locs : List Loc) (ls : Array Slot), 364 - i < n9 → (i ≤ zwN S w) → (k = zct (fun j => decide (zR S 22 tk j < p0)) i) → zW D y base S s H locs → lv_has ls 4 [(2, .int (nI k)), (3, .int (nI i)), (0, .ref w), (1, .int p0)] → W p l e (headSpec wsX6_countAhead ({ frames := 0, cells := 0, slots := 0, locals := 0 })).room s m args below meth c H locs 0 0 (MQ below (va_Qi (fun (r : Int32) (S1 : zS) => (∃ k, r = nI k ∧ k = zwC S w tk p0) ∧ S1 = S) (zPost D y base) (zA base)) args s 0 0 (zA base)) (F0 m 4 ls []) := by
    intro n9
    induction n9 with
    | zero =>
      intro i k H locs ls hn9
      exact absurd hn9 (Nat.not_lt_zero _)
    | succ n9 ih_1 =>
      intro i k H locs ls hn9 hi hk hw hl
      have hN := zwN_le S w
      have hN2 : zwN S w = min (zI S 161 w).toNatClampNeg 364 := rfl
      refine lv_iload_n hx hb dX6_countAhead_4 rfl (lv_at hl 1 rfl) ?_
      refine lv_aload_n hx hb dX6_countAhead_5 rfl (lv_at hl 2 rfl) ?_
      refine g_Wire_count (a := w) (v := (zI S 161 w)) C hw hW.1 in_X6 (by decide +kernel) rfl dX6_countAhead_6 ?_
      refine lv_icmp_ge (tgt := 40) hx hb dX6_countAhead_9 (by decide) (fun c9 => ?_) (fun c9 => ?_)
      · refine lv_iload_n hx hb dX6_countAhead_40 rfl (lv_at hl 0 rfl) ?_
        exact zri C hw hr hlocks rfl ⟨⟨k, rfl, (by have e : i = zwN S w := (by first | (have := z_cl_le c9 (i := i) (by omega); omega) | (have := z_ge (n := 364) c18 (by omega) (by omega); omega)); rw [hk, e]; rfl)⟩, rfl⟩ ⟨Nat.le_of_ble_eq_true rfl, Nat.le_of_ble_eq_true rfl⟩ dX6_countAhead_41
      · refine lv_iload_n hx hb dX6_countAhead_12 rfl (lv_at hl 1 rfl) ?_
        refine lv_aload_n hx hb dX6_countAhead_13 rfl (lv_at hl 2 rfl) ?_
        refine g_Wire_ticks (a := w) (v := tk) C hw hW.1 in_X6 (by decide +kernel) hW.2.1 dX6_countAhead_14 ?_
        refine zalen (a := tk) (v := 364) C hw hW.2.2.2.1 (by decide) (t0 := 1) rfl (zlen hW.2.2.2.2.1 rfl) dX6_countAhead_17 ?_
        refine lv_icmp_ge (tgt := 40) hx hb dX6_countAhead_18 (by decide) (fun c18 => ?_) (fun c18 => ?_)
        · refine lv_iload_n hx hb dX6_countAhead_40 rfl (lv_at hl 0 rfl) ?_
          exact zri C hw hr hlocks rfl ⟨⟨k, rfl, (by have e : i = zwN S w := (by first | (have := z_cl_le c9 (i := i) (by omega); omega) | (have := z_ge (n := 364) c18 (by omega) (by omega); omega)); rw [hk, e]; rfl)⟩, rfl⟩ ⟨Nat.le_of_ble_eq_true rfl, Nat.le_of_ble_eq_true rfl⟩ dX6_countAhead_41
        · refine lv_aload_n hx hb dX6_countAhead_21 rfl (lv_at hl 2 rfl) ?_
          refine g_Wire_ticks (a := w) (v := tk) C hw hW.1 in_X6 (by decide +kernel) hW.2.1 dX6_countAhead_22 ?_
          refine lv_iload_n hx hb dX6_countAhead_25 rfl (lv_at hl 1 rfl) ?_
          refine zald_I (a := tk) C hw hW.2.2.2.1 hW.2.2.2.2.1 (vp_in_nI (z_lt (n := 364) c18 (by omega) (by omega)) (by decide)) dX6_countAhead_26 ?_
          refine lv_iload_n hx hb dX6_countAhead_27 rfl (lv_at hl 3 rfl) ?_
          refine lv_icmp_ge (tgt := 34) hx hb dX6_countAhead_28 (by decide) (fun c28 => ?_) (fun c28 => ?_)
          · refine lv_iinc (v := (nI (i + 1))) (lv' := [(3, .int (nI (i + 1))), (2, .int (nI k)), (0, .ref w), (1, .int p0)]) hx hb dX6_countAhead_34 hl (k := 1) rfl (nI_1 _) (by decide) rfl (fun ls hl => ?_)
            refine lv_goto (tgt := 4) hx hb dX6_countAhead_37 (by decide) ?_
            exact ih_1 (i + 1) k _ _ _ (by have := z_cl_lt c9 (i := i) (by omega); have := z_lt (n := 364) c18 (by omega) (by omega); omega) (by have := z_cl_lt c9 (i := i) (by omega); have := z_lt (n := 364) c18 (by omega) (by omega); omega) (by have := z_lt (n := 364) c18 (by omega) (by omega); rw [hk]; exact (zct_f (show ¬ decide (zR S 22 tk i < p0) = true by rw [decide_eq_true_eq]; rw [nI_clamp (by omega)] at c28; grind)).symm) hw (lv_sub hl [1, 0, 2, 3] rfl)
          · refine lv_iinc (v := (nI (k + 1))) (lv' := [(2, .int (nI (k + 1))), (3, .int (nI i)), (0, .ref w), (1, .int p0)]) hx hb dX6_countAhead_31 hl (k := 0) rfl (nI_1 _) (by decide) rfl (fun ls hl => ?_)
            refine lv_iinc (v := (nI (i + 1))) (lv' := [(3, .int (nI (i + 1))), (2, .int (nI (k + 1))), (0, .ref w), (1, .int p0)]) hx hb dX6_countAhead_34 hl (k := 1) rfl (nI_1 _) (by decide) rfl (fun ls hl => ?_)
            refine lv_goto (tgt := 4) hx hb dX6_countAhead_37 (by decide) ?_
            exact ih_1 (i + 1) (k + 1) _ _ _ (by have := z_cl_lt c9 (i := i) (by omega); have := z_lt (n := 364) c18 (by omega) (by omega); omega) (by have := z_cl_lt c9 (i := i) (by omega); have := z_lt (n := 364) c18 (by omega) (by omega); omega) (by have := z_lt (n := 364) c18 (by omega) (by omega); rw [hk]; exact (zct_t (show decide (zR S 22 tk i < p0) = true from decide_eq_true (by rw [nI_clamp (by omega)] at c28; grind))).symm) hw (lv_sub hl [1, 0, 2, 3] rfl)
  exact lp_2 _ 0 0 _ _ _ (Nat.lt_succ_self _) (Nat.zero_le _) rfl hw (lv_sub hl [1, 0, 2, 3] rfl)

set_option maxHeartbeats 4000000 in
set_option maxRecDepth 100000 in
/-- X6_hasFlip -/
theorem c_X6_hasFlip (l : Launch) (D : va_G) (y : Nat → ClassId) (base : Nat) (S : zS) (w : Nat) (tk : Nat) (sn : Nat) (p0 : Int32) (hW : zWire S w tk sn) : zMi l yX6_hasFlip wsX6_hasFlip ({ frames := 1, cells := 0, slots := 0, locals := 23 }) [.ref w, .int p0] D y base S (fun (r : Int32) (S1 : zS) => r = zb (zwHas S w tk p0 = true) ∧ S1 = S) 0 0 := by
  refine zMet_of (cc := cX6_hasFlip) (maxL := 3) (ret := (some .boolean)) (own := RX6) (by decide +kernel) rfl rfl (Nat.le_of_ble_eq_true rfl) ?_
  intro p e s m args below meth c ls C hr hlocks hnm hw hl
  have hx := C.1
  have hb := C.2.1
  have hown := C.2.2.2.1
  have hts := C.2.2.2.2
  have hl : lv_has ls 3 [(0, .ref w), (1, .int p0)] := hl
  have in_X6 : ∀ w ∈ wsX60, w ∈ wsX6_hasFlip := by decide +kernel
  refine lv_aload_n hx hb dX6_hasFlip_0 rfl (lv_at hl 0 rfl) ?_
  refine lv_iload_n hx hb dX6_hasFlip_1 rfl (lv_at hl 1 rfl) ?_
  refine zcV_i (As := [.int p0]) (rest := []) (n9 := 1) (b := w) C hw (c_X6_countAhead l D y base S w tk sn p0 hW) gX6_hasFlip_X6_countAhead rfl (by decide +kernel) ⟨⟨rfl, rfl⟩, Nat.le_of_ble_eq_true rfl, Nat.le_of_ble_eq_true rfl⟩ hW.1 ⟨by decide, by decide⟩ rfl rfl hl.1 rfl (Nat.le_of_ble_eq_true rfl) ⟨Nat.le_of_ble_eq_true rfl, Nat.le_of_ble_eq_true rfl⟩ dX6_hasFlip_2 (fun r2 S2 H locs hp2 hw => ?_)
  obtain ⟨⟨k2, rfl, hk2⟩, hS9⟩ := hp2
  have hS9 := hS9.symm
  subst hS9
  refine lv_istore_n (lv' := [(2, .int (nI k2)), (0, .ref w), (1, .int p0)]) hx hb dX6_hasFlip_5 rfl hl (by decide) rfl (fun ls hl => ?_)
  refine lv_iload_n hx hb dX6_hasFlip_6 rfl (lv_at hl 0 rfl) ?_
  refine lv_aload_n hx hb dX6_hasFlip_7 rfl (lv_at hl 1 rfl) ?_
  refine g_Wire_count (a := w) (v := (zI S 161 w)) C hw hW.1 in_X6 (by decide +kernel) rfl dX6_hasFlip_8 ?_
  refine lv_icmp_ge (tgt := 37) hx hb dX6_hasFlip_11 (by decide) (fun c11 => ?_) (fun c11 => ?_)
  · refine lv_iconst (v := 0) hx hb dX6_hasFlip_37 (by decide) ?_
    exact zri C hw hr hlocks (by decide) ⟨zb_f (zwHas_0 hk2 (by first | exact Or.inr (Or.inr c30) | exact Or.inr (Or.inl c20) | exact Or.inl c11)), rfl⟩ ⟨Nat.le_of_ble_eq_true rfl, Nat.le_of_ble_eq_true rfl⟩ dX6_hasFlip_38
  · refine lv_iload_n hx hb dX6_hasFlip_14 rfl (lv_at hl 0 rfl) ?_
    refine lv_aload_n hx hb dX6_hasFlip_15 rfl (lv_at hl 1 rfl) ?_
    refine g_Wire_ticks (a := w) (v := tk) C hw hW.1 in_X6 (by decide +kernel) hW.2.1 dX6_hasFlip_16 ?_
    refine zalen (a := tk) (v := 364) C hw hW.2.2.2.1 (by decide) (t0 := 1) rfl (zlen hW.2.2.2.2.1 rfl) dX6_hasFlip_19 ?_
    refine lv_icmp_ge (tgt := 37) hx hb dX6_hasFlip_20 (by decide) (fun c20 => ?_) (fun c20 => ?_)
    · refine lv_iconst (v := 0) hx hb dX6_hasFlip_37 (by decide) ?_
      exact zri C hw hr hlocks (by decide) ⟨zb_f (zwHas_0 hk2 (by first | exact Or.inr (Or.inr c30) | exact Or.inr (Or.inl c20) | exact Or.inl c11)), rfl⟩ ⟨Nat.le_of_ble_eq_true rfl, Nat.le_of_ble_eq_true rfl⟩ dX6_hasFlip_38
    · refine lv_aload_n hx hb dX6_hasFlip_23 rfl (lv_at hl 1 rfl) ?_
      refine g_Wire_ticks (a := w) (v := tk) C hw hW.1 in_X6 (by decide +kernel) hW.2.1 dX6_hasFlip_24 ?_
      refine lv_iload_n hx hb dX6_hasFlip_27 rfl (lv_at hl 0 rfl) ?_
      refine zald_I (a := tk) C hw hW.2.2.2.1 hW.2.2.2.2.1 (vp_in_nI (z_lt (n := 364) c20 (by have := zwC_le S w tk p0; have := zwN_le S w; omega) (by omega)) (by decide)) dX6_hasFlip_28 ?_
      refine lv_iload_n hx hb dX6_hasFlip_29 rfl (lv_at hl 2 rfl) ?_
      refine lv_icmp_ne (tgt := 37) hx hb dX6_hasFlip_30 (by decide) (fun c30 => ?_) (fun c30 => ?_)
      · refine lv_iconst (v := 0) hx hb dX6_hasFlip_37 (by decide) ?_
        exact zri C hw hr hlocks (by decide) ⟨zb_f (zwHas_0 hk2 (by first | exact Or.inr (Or.inr c30) | exact Or.inr (Or.inl c20) | exact Or.inl c11)), rfl⟩ ⟨Nat.le_of_ble_eq_true rfl, Nat.le_of_ble_eq_true rfl⟩ dX6_hasFlip_38
      · refine lv_iconst (v := 1) hx hb dX6_hasFlip_33 (by decide) ?_
        refine lv_goto (tgt := 38) hx hb dX6_hasFlip_34 (by decide) ?_
        exact zri C hw hr hlocks (by decide) ⟨zb_t (zwHas_1 hk2 c11 c20 (by first | exact c30 | exact Decidable.byContradiction c30)), rfl⟩ ⟨Nat.le_of_ble_eq_true rfl, Nat.le_of_ble_eq_true rfl⟩ dX6_hasFlip_38

set_option maxHeartbeats 4000000 in
set_option maxRecDepth 100000 in
/-- X6_addSent -/
theorem c_X6_addSent (l : Launch) (D : va_G) (y : Nat → ClassId) (base : Nat) (S : zS) (w : Nat) (tk : Nat) (sn : Nat) (p0 : Int32) (k : Nat) (hW : zWire S w tk sn) (hk : zI S 164 w = nI k) (hk64 : k < 64) (hc : k = 0 ∨ ¬ zR S 22 sn (k - 1) = p0) : zMv l yX6_addSent wsX6_addSent ({ frames := 0, cells := 0, slots := 0, locals := 0 }) [.ref w, .int p0] D y base S (fun (S1 : zS) => S1 = zsI (zsR S 22 sn (upd (zR S 22 sn) k p0)) 164 w (nI (k + 1))) 0 0 := by
  refine zMet_of (cc := cX6_addSent) (maxL := 3) (ret := none) (own := RX6) (by decide +kernel) rfl rfl (Nat.le_of_ble_eq_true rfl) ?_
  intro p e s m args below meth c ls C hr hlocks hnm hw hl
  have hx := C.1
  have hb := C.2.1
  have hown := C.2.2.2.1
  have hts := C.2.2.2.2
  have hl : lv_has ls 3 [(0, .ref w), (1, .int p0)] := hl
  have in_X6 : ∀ w ∈ wsX60, w ∈ wsX6_addSent := by decide +kernel
  refine lv_aload_n hx hb dX6_addSent_0 rfl (lv_at hl 0 rfl) ?_
  refine g_Wire_sentCount (a := w) (v := (nI k)) C hw hW.1 in_X6 (by decide +kernel) hk dX6_addSent_1 ?_
  refine lv_iconst (v := 1) hx hb dX6_addSent_4 (by decide) ?_
  refine lv_isub hx hb dX6_addSent_5 ?_
  refine lv_topi (fun x6 ex6 => ?_)
  refine lv_istore_n (lv' := [(2, .int x6), (0, .ref w), (1, .int p0)]) hx hb dX6_addSent_6 rfl hl (by decide) rfl (fun ls hl => ?_)
  refine lv_iload_n hx hb dX6_addSent_7 rfl (lv_at hl 0 rfl) ?_
  refine lv_if_lt (tgt := 38) hx hb dX6_addSent_8 (by decide) (fun c8 => ?_) (fun c8 => ?_)
  · refine lv_aload_n hx hb dX6_addSent_38 rfl (lv_at hl 1 rfl) ?_
    refine g_Wire_sentCount (a := w) (v := (nI k)) C hw hW.1 in_X6 (by decide +kernel) hk dX6_addSent_39 ?_
    refine lv_if_lt (tgt := 77) hx hb dX6_addSent_42 (by decide) (fun c42 => (show False from nI_pos (by omega) c42).elim) (fun c42 => ?_)
    refine lv_aload_n hx hb dX6_addSent_45 rfl (lv_at hl 1 rfl) ?_
    refine g_Wire_sentCount (a := w) (v := (nI k)) C hw hW.1 in_X6 (by decide +kernel) hk dX6_addSent_46 ?_
    refine lv_aload_n hx hb dX6_addSent_49 rfl (lv_at hl 1 rfl) ?_
    refine g_Wire_sent (a := w) (v := sn) C hw hW.1 in_X6 (by decide +kernel) hW.2.2.1 dX6_addSent_50 ?_
    refine zalen (a := sn) (v := 64) C hw hW.2.2.2.2.2.1 (by decide) (t0 := 1) rfl (zlen hW.2.2.2.2.2.2.1 rfl) dX6_addSent_53 ?_
    refine lv_icmp_ge (tgt := 77) hx hb dX6_addSent_54 (by decide) (fun c54 => (show False from nI_ge hk64 (by decide) c54).elim) (fun c54 => ?_)
    refine lv_aload_n hx hb dX6_addSent_57 rfl (lv_at hl 1 rfl) ?_
    refine g_Wire_sent (a := w) (v := sn) C hw hW.1 in_X6 (by decide +kernel) hW.2.2.1 dX6_addSent_58 ?_
    refine lv_aload_n hx hb dX6_addSent_61 rfl (lv_at hl 1 rfl) ?_
    refine g_Wire_sentCount (a := w) (v := (nI k)) C hw hW.1 in_X6 (by decide +kernel) hk dX6_addSent_62 ?_
    refine lv_iload_n hx hb dX6_addSent_65 rfl (lv_at hl 2 rfl) ?_
    refine zast_I (a := sn) C hw hW.2.2.2.2.2.1 hW.2.2.2.2.2.2.1 (vp_in_nI hk64 (by decide)) dX6_addSent_66 (fun H locs hw => ?_)
    refine lv_aload_n hx hb dX6_addSent_67 rfl (lv_at hl 1 rfl) ?_
    refine lv_dup hx hb dX6_addSent_68 rfl ?_
    refine g_Wire_sentCount (a := w) (v := (nI k)) C hw hW.1 in_X6 (by decide +kernel) hk dX6_addSent_69 ?_
    refine lv_iconst (v := 1) hx hb dX6_addSent_72 (by decide) ?_
    refine lv_iadd hx hb dX6_addSent_73 ?_
    refine lv_topi (fun x74 ex74 => ?_)
    refine p_Wire_sentCount (a := w) (v := x74) C hw hW.1 in_X6 (by decide +kernel) dX6_addSent_74 (fun H locs hw => ?_)
    exact zrv C hw hr hlocks (by rw [nI_clamp (by omega)]; rw [ex74, nI_1]) ⟨Nat.le_of_ble_eq_true rfl, Nat.le_of_ble_eq_true rfl⟩ dX6_addSent_77
  · refine lv_iload_n hx hb dX6_addSent_11 rfl (lv_at hl 0 rfl) ?_
    refine lv_aload_n hx hb dX6_addSent_12 rfl (lv_at hl 1 rfl) ?_
    refine g_Wire_sent (a := w) (v := sn) C hw hW.1 in_X6 (by decide +kernel) hW.2.2.1 dX6_addSent_13 ?_
    refine zalen (a := sn) (v := 64) C hw hW.2.2.2.2.2.1 (by decide) (t0 := 1) rfl (zlen hW.2.2.2.2.2.2.1 rfl) dX6_addSent_16 ?_
    refine lv_icmp_ge (tgt := 38) hx hb dX6_addSent_17 (by decide) (fun c17 => ?_) (fun c17 => ?_)
    · refine lv_aload_n hx hb dX6_addSent_38 rfl (lv_at hl 1 rfl) ?_
      refine g_Wire_sentCount (a := w) (v := (nI k)) C hw hW.1 in_X6 (by decide +kernel) hk dX6_addSent_39 ?_
      refine lv_if_lt (tgt := 77) hx hb dX6_addSent_42 (by decide) (fun c42 => (show False from nI_pos (by omega) c42).elim) (fun c42 => ?_)
      refine lv_aload_n hx hb dX6_addSent_45 rfl (lv_at hl 1 rfl) ?_
      refine g_Wire_sentCount (a := w) (v := (nI k)) C hw hW.1 in_X6 (by decide +kernel) hk dX6_addSent_46 ?_
      refine lv_aload_n hx hb dX6_addSent_49 rfl (lv_at hl 1 rfl) ?_
      refine g_Wire_sent (a := w) (v := sn) C hw hW.1 in_X6 (by decide +kernel) hW.2.2.1 dX6_addSent_50 ?_
      refine zalen (a := sn) (v := 64) C hw hW.2.2.2.2.2.1 (by decide) (t0 := 1) rfl (zlen hW.2.2.2.2.2.2.1 rfl) dX6_addSent_53 ?_
      refine lv_icmp_ge (tgt := 77) hx hb dX6_addSent_54 (by decide) (fun c54 => (show False from nI_ge hk64 (by decide) c54).elim) (fun c54 => ?_)
      refine lv_aload_n hx hb dX6_addSent_57 rfl (lv_at hl 1 rfl) ?_
      refine g_Wire_sent (a := w) (v := sn) C hw hW.1 in_X6 (by decide +kernel) hW.2.2.1 dX6_addSent_58 ?_
      refine lv_aload_n hx hb dX6_addSent_61 rfl (lv_at hl 1 rfl) ?_
      refine g_Wire_sentCount (a := w) (v := (nI k)) C hw hW.1 in_X6 (by decide +kernel) hk dX6_addSent_62 ?_
      refine lv_iload_n hx hb dX6_addSent_65 rfl (lv_at hl 2 rfl) ?_
      refine zast_I (a := sn) C hw hW.2.2.2.2.2.1 hW.2.2.2.2.2.2.1 (vp_in_nI hk64 (by decide)) dX6_addSent_66 (fun H locs hw => ?_)
      refine lv_aload_n hx hb dX6_addSent_67 rfl (lv_at hl 1 rfl) ?_
      refine lv_dup hx hb dX6_addSent_68 rfl ?_
      refine g_Wire_sentCount (a := w) (v := (nI k)) C hw hW.1 in_X6 (by decide +kernel) hk dX6_addSent_69 ?_
      refine lv_iconst (v := 1) hx hb dX6_addSent_72 (by decide) ?_
      refine lv_iadd hx hb dX6_addSent_73 ?_
      refine lv_topi (fun x74 ex74 => ?_)
      refine p_Wire_sentCount (a := w) (v := x74) C hw hW.1 in_X6 (by decide +kernel) dX6_addSent_74 (fun H locs hw => ?_)
      exact zrv C hw hr hlocks (by rw [nI_clamp (by omega)]; rw [ex74, nI_1]) ⟨Nat.le_of_ble_eq_true rfl, Nat.le_of_ble_eq_true rfl⟩ dX6_addSent_77
    · refine lv_aload_n hx hb dX6_addSent_20 rfl (lv_at hl 1 rfl) ?_
      refine g_Wire_sent (a := w) (v := sn) C hw hW.1 in_X6 (by decide +kernel) hW.2.2.1 dX6_addSent_21 ?_
      refine lv_iload_n hx hb dX6_addSent_24 rfl (lv_at hl 0 rfl) ?_
      refine zald_I (a := sn) C hw hW.2.2.2.2.2.1 hW.2.2.2.2.2.2.1 (zin_of (N := 64) (by decide) (by grind) (by grind)) dX6_addSent_25 ?_
      refine lv_iload_n hx hb dX6_addSent_26 rfl (lv_at hl 2 rfl) ?_
      refine lv_icmp_ne (tgt := 38) hx hb dX6_addSent_27 (by decide) (fun c27 => ?_) (fun c27 => (show False from (by obtain ⟨g1, g2⟩ := z_pred (k := k) (by omega) (by rw [← ex6]; exact c8); rcases hc with hc | hc; omega; apply hc; rw [← g2, ← ex6]; exact c27)).elim)
      refine lv_aload_n hx hb dX6_addSent_38 rfl (lv_at hl 1 rfl) ?_
      refine g_Wire_sentCount (a := w) (v := (nI k)) C hw hW.1 in_X6 (by decide +kernel) hk dX6_addSent_39 ?_
      refine lv_if_lt (tgt := 77) hx hb dX6_addSent_42 (by decide) (fun c42 => (show False from nI_pos (by omega) c42).elim) (fun c42 => ?_)
      refine lv_aload_n hx hb dX6_addSent_45 rfl (lv_at hl 1 rfl) ?_
      refine g_Wire_sentCount (a := w) (v := (nI k)) C hw hW.1 in_X6 (by decide +kernel) hk dX6_addSent_46 ?_
      refine lv_aload_n hx hb dX6_addSent_49 rfl (lv_at hl 1 rfl) ?_
      refine g_Wire_sent (a := w) (v := sn) C hw hW.1 in_X6 (by decide +kernel) hW.2.2.1 dX6_addSent_50 ?_
      refine zalen (a := sn) (v := 64) C hw hW.2.2.2.2.2.1 (by decide) (t0 := 1) rfl (zlen hW.2.2.2.2.2.2.1 rfl) dX6_addSent_53 ?_
      refine lv_icmp_ge (tgt := 77) hx hb dX6_addSent_54 (by decide) (fun c54 => (show False from nI_ge hk64 (by decide) c54).elim) (fun c54 => ?_)
      refine lv_aload_n hx hb dX6_addSent_57 rfl (lv_at hl 1 rfl) ?_
      refine g_Wire_sent (a := w) (v := sn) C hw hW.1 in_X6 (by decide +kernel) hW.2.2.1 dX6_addSent_58 ?_
      refine lv_aload_n hx hb dX6_addSent_61 rfl (lv_at hl 1 rfl) ?_
      refine g_Wire_sentCount (a := w) (v := (nI k)) C hw hW.1 in_X6 (by decide +kernel) hk dX6_addSent_62 ?_
      refine lv_iload_n hx hb dX6_addSent_65 rfl (lv_at hl 2 rfl) ?_
      refine zast_I (a := sn) C hw hW.2.2.2.2.2.1 hW.2.2.2.2.2.2.1 (vp_in_nI hk64 (by decide)) dX6_addSent_66 (fun H locs hw => ?_)
      refine lv_aload_n hx hb dX6_addSent_67 rfl (lv_at hl 1 rfl) ?_
      refine lv_dup hx hb dX6_addSent_68 rfl ?_
      refine g_Wire_sentCount (a := w) (v := (nI k)) C hw hW.1 in_X6 (by decide +kernel) hk dX6_addSent_69 ?_
      refine lv_iconst (v := 1) hx hb dX6_addSent_72 (by decide) ?_
      refine lv_iadd hx hb dX6_addSent_73 ?_
      refine lv_topi (fun x74 ex74 => ?_)
      refine p_Wire_sentCount (a := w) (v := x74) C hw hW.1 in_X6 (by decide +kernel) dX6_addSent_74 (fun H locs hw => ?_)
      exact zrv C hw hr hlocks (by rw [nI_clamp (by omega)]; rw [ex74, nI_1]) ⟨Nat.le_of_ble_eq_true rfl, Nat.le_of_ble_eq_true rfl⟩ dX6_addSent_77

set_option maxHeartbeats 4000000 in
set_option maxRecDepth 100000 in
/-- X6_send -/
theorem c_X6_send (l : Launch) (D : va_G) (y : Nat → ClassId) (base : Nat) (S : zS) (w : Nat) (tk : Nat) (sn : Nat) (S0 : zS) (p0 : Int32) (p1 : Int32) (cur : Int32) (good : Prop) (nxt : Int) (n : Nat) (hW : zWire S w tk sn) (hz : p0 = 0 ∨ p0 = 1) (hs : zSnd S0 S w sn cur good nxt n) (hn : n < 64) (ht : nxt ≤ p1.toInt) : zMv l yX6_send wsX6_send ({ frames := 1, cells := 0, slots := 0, locals := 22 }) [.ref w, .int p0, .int p1] D y base S (fun (S1 : zS) => zSnd S0 S1 w sn p0 (good ∧ (p0 = cur ∨ p1 ≤ 9999)) (p1.toInt + 1) (n + 1) ∧ zChg S S1 w sn) 0 0 := by
  refine zMet_of (cc := cX6_send) (maxL := 3) (ret := none) (own := RX6) (by decide +kernel) rfl rfl (Nat.le_of_ble_eq_true rfl) ?_
  intro p e s m args below meth c ls C hr hlocks hnm hw hl
  have hx := C.1
  have hb := C.2.1
  have hown := C.2.2.2.1
  have hts := C.2.2.2.2
  have hl : lv_has ls 3 [(0, .ref w), (1, .int p0), (2, .int p1)] := hl
  have in_X6 : ∀ w ∈ wsX60, w ∈ wsX6_send := by decide +kernel
  have hcur : zI S 163 w = cur := hs.2.1
  obtain ⟨k, hkn, hk, hkl⟩ : ∃ k, k ≤ n ∧ zI S 164 w = nI k ∧ ∀ j, j < k → (zR S 22 sn j).toInt < nxt := by obtain ⟨-, -, -, k, h1, h2, -, h3⟩ := hs; exact ⟨k, h1, h2, h3⟩
  refine lv_iload_n hx hb dX6_send_0 rfl (lv_at hl 1 rfl) ?_
  refine lv_aload_n hx hb dX6_send_1 rfl (lv_at hl 0 rfl) ?_
  refine g_Wire_isSentHigh (a := w) (v := cur) C hw hW.1 in_X6 (by decide +kernel) hcur dX6_send_2 ?_
  refine lv_icmp_eq (tgt := 18) hx hb dX6_send_5 (by decide) (fun c5 => ?_) (fun c5 => ?_)
  · exact zrv C hw hr hlocks ⟨by rw [c5]; exact hs.weak (by grind) (by omega) (by omega), zChg.rf⟩ ⟨Nat.le_of_ble_eq_true rfl, Nat.le_of_ble_eq_true rfl⟩ dX6_send_18
  · refine lv_aload_n hx hb dX6_send_8 rfl (lv_at hl 0 rfl) ?_
    refine lv_iload_n hx hb dX6_send_9 rfl (lv_at hl 1 rfl) ?_
    refine p_Wire_isSentHigh (a := w) (v := p0) C hw hW.1 in_X6 (by decide +kernel) (z01_nf hz) dX6_send_10 (fun H locs hw => ?_)
    refine lv_aload_n hx hb dX6_send_13 rfl (lv_at hl 0 rfl) ?_
    refine lv_iload_n hx hb dX6_send_14 rfl (lv_at hl 2 rfl) ?_
    refine zcV_v (As := [.int p1]) (rest := []) (n9 := 1) (b := w) C hw (c_X6_addSent l D y base (zsI S 163 w p0) w tk sn p1 k hW (zI_t (by decide) hk) (by omega) (by rcases Nat.eq_zero_or_pos k with h | h; exact Or.inl h; right; intro e; have h2 := hkl (k - 1) (by omega); rw [show zR S 22 sn (k - 1) = p1 from e] at h2; omega)) gX6_send_X6_addSent rfl (by decide +kernel) ⟨⟨rfl, rfl⟩, Nat.le_of_ble_eq_true rfl, Nat.le_of_ble_eq_true rfl⟩ hW.1 ⟨by decide, by decide⟩ rfl rfl hl.1 rfl (Nat.le_of_ble_eq_true rfl) ⟨Nat.le_of_ble_eq_true rfl, Nat.le_of_ble_eq_true rfl⟩ dX6_send_15 (fun S15 H locs hp15 hw => ?_)
    obtain rfl := hp15
    exact zrv C hw hr hlocks ⟨(hs.step hz c5 hk hkn hn ht).weak (by have := c5; grind) (Nat.le_refl _) (Int.le_refl _), zChg.tr (zChg.I (Or.inl rfl)) (zChg.tr zChg.R (zChg.I (Or.inr rfl)))⟩ ⟨Nat.le_of_ble_eq_true rfl, Nat.le_of_ble_eq_true rfl⟩ dX6_send_18

set_option maxHeartbeats 4000000 in
set_option maxRecDepth 100000 in
/-- X6_takesSent -/
theorem c_X6_takesSent (l : Launch) (D : va_G) (y : Nat → ClassId) (base : Nat) (S : zS) (w : Nat) (tk : Nat) (sn : Nat) (S0 : zS) (cur : Int32) (good : Prop) (nxt : Int) (n : Nat) (hW : zWire S w tk sn) (hs : zSnd S0 S w sn cur good nxt n) (hn : n ≤ 64) (h0 : zI S 161 w = 0) : zMi l yX6_takesSent wsX6_takesSent ({ frames := 2, cells := 0, slots := 0, locals := 45 }) [.ref w] D y base S (fun (r : Int32) (S1 : zS) => ((¬ r = 0 ↔ good) ∧ (r = 0 ∨ r = 1)) ∧ S1 = S) 0 0 := by
  refine zMet_of (cc := cX6_takesSent) (maxL := 3) (ret := (some .boolean)) (own := RX6) (by decide +kernel) rfl rfl (Nat.le_of_ble_eq_true rfl) ?_
  intro p e s m args below meth c ls C hr hlocks hnm hw hl
  have hx := C.1
  have hb := C.2.1
  have hown := C.2.2.2.1
  have hts := C.2.2.2.2
  have hl : lv_has ls 3 [(0, .ref w)] := hl
  have in_X6 : ∀ w ∈ wsX60, w ∈ wsX6_takesSent := by decide +kernel
  obtain ⟨k, hkn, hk, hgood⟩ : ∃ k, k ≤ n ∧ zI S 164 w = nI k ∧ ((∀ j, j < k → zR S 22 sn j ≤ 9999) ↔ good) := by obtain ⟨-, -, -, k, h1, h2, h3, -⟩ := hs; exact ⟨k, h1, h2, h3⟩
  have hnf : ∀ t, ¬ zwHas S w tk t = true := by intro t; rw [zwHas_iff]; intro q; have : zwN S w = min (zI S 161 w).toNatClampNeg 364 := rfl; rw [h0, sb_cl0] at this; omega
  refine lv_aload_n hx hb dX6_takesSent_0 rfl (lv_at hl 0 rfl) ?_
  refine g_Wire_count (a := w) (v := 0) C hw hW.1 in_X6 (by decide +kernel) h0 dX6_takesSent_1 ?_
  refine lv_istore_n (lv' := [(1, .int 0), (0, .ref w)]) hx hb dX6_takesSent_4 rfl hl (by decide) rfl (fun ls hl => ?_)
  refine lv_iconst (v := 0) hx hb dX6_takesSent_5 (by decide) ?_
  refine lv_istore_n (lv' := [(2, .int 0), (1, .int 0), (0, .ref w)]) hx hb dX6_takesSent_6 rfl hl (by decide) rfl (fun ls hl => ?_)
  have lp_2 : ∀ (n9 : Nat) (i : Nat) (H : Heap) (locs : List Loc) (ls : Array Slot), 64 - i < n9 → (i ≤ k) → (∀ j, j < i → zR S 22 sn j ≤ 9999) → zW D y base S s H locs → lv_has ls 3 [(1, .int (nI i)), (2, .int (nI i)), (0, .ref w)] → W p l e (headSpec wsX6_takesSent ({ frames := 2, cells := 0, slots := 0, locals := 45 })).room s m args below meth c H locs 0 0 (MQ below (va_Qi (fun (r : Int32) (S1 : zS) => ((¬ r = 0 ↔ good) ∧ (r = 0 ∨ r = 1)) ∧ S1 = S) (zPost D y base) (zA base)) args s 0 0 (zA base)) (F0 m 7 ls []) := by
    intro n9
    induction n9 with
    | zero =>
      intro i H locs ls hn9
      exact absurd hn9 (Nat.not_lt_zero _)
    | succ n9 ih_1 =>
      intro i H locs ls hn9 hi hj hw hl
      refine lv_iload_n hx hb dX6_takesSent_7 rfl (lv_at hl 1 rfl) ?_
      refine lv_aload_n hx hb dX6_takesSent_8 rfl (lv_at hl 2 rfl) ?_
      refine g_Wire_sentCount (a := w) (v := (nI k)) C hw hW.1 in_X6 (by decide +kernel) hk dX6_takesSent_9 ?_
      refine lv_icmp_ge (tgt := 65) hx hb dX6_takesSent_12 (by decide) (fun c12 => ?_) (fun c12 => ?_)
      · refine lv_iload_n hx hb dX6_takesSent_65 rfl (lv_at hl 0 rfl) ?_
        refine lv_sipush (v := 300) hx hb dX6_takesSent_66 (by decide) ?_
        refine lv_icmp_gt (tgt := 76) hx hb dX6_takesSent_69 (by decide) (fun c69 => (show False from (by have h9 := c69; rw [show (300 : Int32) = nI 300 from rfl, nI_ltI (by omega) (by omega)] at h9; omega)).elim) (fun c69 => ?_)
        refine lv_iconst (v := 1) hx hb dX6_takesSent_72 (by decide) ?_
        refine lv_goto (tgt := 77) hx hb dX6_takesSent_73 (by decide) ?_
        exact zri C hw hr hlocks (by decide) ⟨⟨⟨fun _ => hgood.mp (by have := z_ge (n := k) c12 (by omega) (by omega); exact fun j h => hj j (by omega)), fun _ => by decide⟩, Or.inr rfl⟩, rfl⟩ ⟨Nat.le_of_ble_eq_true rfl, Nat.le_of_ble_eq_true rfl⟩ dX6_takesSent_77
      · refine lv_iload_n hx hb dX6_takesSent_15 rfl (lv_at hl 1 rfl) ?_
        refine lv_aload_n hx hb dX6_takesSent_16 rfl (lv_at hl 2 rfl) ?_
        refine g_Wire_sent (a := w) (v := sn) C hw hW.1 in_X6 (by decide +kernel) hW.2.2.1 dX6_takesSent_17 ?_
        refine zalen (a := sn) (v := 64) C hw hW.2.2.2.2.2.1 (by decide) (t0 := 1) rfl (zlen hW.2.2.2.2.2.2.1 rfl) dX6_takesSent_20 ?_
        refine lv_icmp_ge (tgt := 65) hx hb dX6_takesSent_21 (by decide) (fun c21 => (show False from (by have := z_lt (n := k) c12 (by omega) (by omega); have := z_ge (n := 64) c21 (by omega) (by omega); omega)).elim) (fun c21 => ?_)
        refine lv_aload_n hx hb dX6_takesSent_24 rfl (lv_at hl 2 rfl) ?_
        refine g_Wire_sent (a := w) (v := sn) C hw hW.1 in_X6 (by decide +kernel) hW.2.2.1 dX6_takesSent_25 ?_
        refine lv_iload_n hx hb dX6_takesSent_28 rfl (lv_at hl 1 rfl) ?_
        refine zald_I (a := sn) C hw hW.2.2.2.2.2.1 hW.2.2.2.2.2.2.1 (vp_in_nI (z_lt (n := 64) c21 (by omega) (by omega)) (by decide)) dX6_takesSent_29 ?_
        refine lv_sipush (v := 9999) hx hb dX6_takesSent_30 (by decide) ?_
        refine lv_icmp_le (tgt := 38) hx hb dX6_takesSent_33 (by decide) (fun c33 => ?_) (fun c33 => ?_)
        · refine lv_iload_n hx hb dX6_takesSent_38 rfl (lv_at hl 0 rfl) ?_
          refine lv_aload_n hx hb dX6_takesSent_39 rfl (lv_at hl 2 rfl) ?_
          refine lv_aload_n hx hb dX6_takesSent_40 rfl (lv_at hl 2 rfl) ?_
          refine g_Wire_sent (a := w) (v := sn) C hw hW.1 in_X6 (by decide +kernel) hW.2.2.1 dX6_takesSent_41 ?_
          refine lv_iload_n hx hb dX6_takesSent_44 rfl (lv_at hl 1 rfl) ?_
          refine zald_I (a := sn) C hw hW.2.2.2.2.2.1 hW.2.2.2.2.2.2.1 (vp_in_nI (z_lt (n := 64) c21 (by omega) (by omega)) (by decide)) dX6_takesSent_45 ?_
          refine zcV_i (As := [.int (zR S 22 sn ((nI i)).toNatClampNeg)]) (rest := [.int (nI i)]) (n9 := 1) (b := w) C hw (c_X6_hasFlip l D y base S w tk sn (zR S 22 sn ((nI i)).toNatClampNeg) hW) gX6_takesSent_X6_hasFlip rfl (by decide +kernel) ⟨⟨rfl, rfl⟩, Nat.le_of_ble_eq_true rfl, Nat.le_of_ble_eq_true rfl⟩ hW.1 ⟨by decide, by decide⟩ rfl rfl hl.1 rfl (Nat.le_of_ble_eq_true rfl) ⟨Nat.le_of_ble_eq_true rfl, Nat.le_of_ble_eq_true rfl⟩ dX6_takesSent_46 (fun r46 S46 H locs hp46 hw => ?_)
          obtain ⟨rfl, hS9⟩ := hp46
          have hS9 := hS9.symm
          subst hS9
          refine lv_if_eq (tgt := 56) hx hb dX6_takesSent_49 (by decide) (fun c49 => ?_) (fun c49 => (show False from hnf _ (zb1.mp c49)).elim)
          replace c49 := zb0.mp c49
          refine lv_iconst (v := 1) hx hb dX6_takesSent_56 (by decide) ?_
          refine lv_iadd hx hb dX6_takesSent_57 ?_
          refine zrd (x := (nI (i + 1))) (nI_1 _) ?_
          refine lv_istore_n (lv' := [(1, .int (nI (i + 1))), (2, .int (nI i)), (0, .ref w)]) hx hb dX6_takesSent_58 rfl hl (by decide) rfl (fun ls hl => ?_)
          refine lv_iinc (v := (nI (i + 1))) (lv' := [(2, .int (nI (i + 1))), (1, .int (nI (i + 1))), (0, .ref w)]) hx hb dX6_takesSent_59 hl (k := 1) rfl (nI_1 _) (by decide) rfl (fun ls hl => ?_)
          refine lv_goto (tgt := 7) hx hb dX6_takesSent_62 (by decide) ?_
          exact ih_1 (i + 1) _ _ _ (by have := z_lt (n := k) c12 (by omega) (by omega); omega) (by have := z_lt (n := k) c12 (by omega) (by omega); omega) (fun j h => by have := z_lt (n := k) c12 (by omega) (by omega); rcases Nat.lt_or_ge j i with g | g; exact hj j g; rw [show j = i by omega]; rw [nI_clamp (by omega)] at c33; exact c33) hw (lv_sub hl [1, 0, 2] rfl)
        · refine lv_iconst (v := 0) hx hb dX6_takesSent_36 (by decide) ?_
          exact zri C hw hr hlocks (by decide) ⟨⟨⟨fun h => absurd rfl h, fun g => by have h9 := hgood.mpr g i (z_lt (n := k) c12 (by omega) (by omega)); rw [nI_clamp (by omega)] at c33; exact absurd h9 c33⟩, Or.inl rfl⟩, rfl⟩ ⟨Nat.le_of_ble_eq_true rfl, Nat.le_of_ble_eq_true rfl⟩ dX6_takesSent_37
  exact lp_2 _ 0 _ _ _ (Nat.lt_succ_self _) (Nat.zero_le _) (fun j h => absurd h (Nat.not_lt_zero j)) hw (lv_sub hl [1, 0, 2] rfl)

set_option maxHeartbeats 4000000 in
set_option maxRecDepth 100000 in
/-- X6_putIn -/
theorem c_X6_putIn (l : Launch) (D : va_G) (y : Nat → ClassId) (base : Nat) (S : zS) (w : Nat) (tk : Nat) (sn : Nat) (p0 : Int32) (p1 : Int32) (hW : zWire S w tk sn) : zMv l yX6_putIn wsX6_putIn ({ frames := 0, cells := 0, slots := 0, locals := 0 }) [.ref w, .int p0, .int p1] D y base S (fun (S1 : zS) => ((0 ≤ p0 ∧ p0 ≤ zI S 161 w ∧ zI S 161 w < 364) ∧ S1 = zsI (zsR S 22 tk (zins (zR S 22 tk) p0.toNatClampNeg (zI S 161 w).toNatClampNeg p1)) 161 w (zI S 161 w + 1)) ∨ (¬ (0 ≤ p0 ∧ p0 ≤ zI S 161 w ∧ zI S 161 w < 364) ∧ S1 = S)) 0 0 := by
  refine zMet_of (cc := cX6_putIn) (maxL := 4) (ret := none) (own := RX6) (by decide +kernel) rfl rfl (Nat.le_of_ble_eq_true rfl) ?_
  intro p e s m args below meth c ls C hr hlocks hnm hw hl
  have hx := C.1
  have hb := C.2.1
  have hown := C.2.2.2.1
  have hts := C.2.2.2.2
  have hl : lv_has ls 4 [(0, .ref w), (1, .int p0), (2, .int p1)] := hl
  have in_X6 : ∀ w ∈ wsX60, w ∈ wsX6_putIn := by decide +kernel
  refine lv_iload_n hx hb dX6_putIn_0 rfl (lv_at hl 1 rfl) ?_
  refine lv_if_lt (tgt := 24) hx hb dX6_putIn_1 (by decide) (fun c1 => ?_) (fun c1 => ?_)
  · exact zrv C hw hr hlocks (Or.inr ⟨by grind, rfl⟩) ⟨Nat.le_of_ble_eq_true rfl, Nat.le_of_ble_eq_true rfl⟩ dX6_putIn_24
  · refine lv_iload_n hx hb dX6_putIn_4 rfl (lv_at hl 1 rfl) ?_
    refine lv_aload_n hx hb dX6_putIn_5 rfl (lv_at hl 0 rfl) ?_
    refine g_Wire_count (a := w) (v := (zI S 161 w)) C hw hW.1 in_X6 (by decide +kernel) rfl dX6_putIn_6 ?_
    refine lv_icmp_gt (tgt := 24) hx hb dX6_putIn_9 (by decide) (fun c9 => ?_) (fun c9 => ?_)
    · exact zrv C hw hr hlocks (Or.inr ⟨by grind, rfl⟩) ⟨Nat.le_of_ble_eq_true rfl, Nat.le_of_ble_eq_true rfl⟩ dX6_putIn_24
    · refine lv_aload_n hx hb dX6_putIn_12 rfl (lv_at hl 0 rfl) ?_
      refine g_Wire_count (a := w) (v := (zI S 161 w)) C hw hW.1 in_X6 (by decide +kernel) rfl dX6_putIn_13 ?_
      refine lv_aload_n hx hb dX6_putIn_16 rfl (lv_at hl 0 rfl) ?_
      refine g_Wire_ticks (a := w) (v := tk) C hw hW.1 in_X6 (by decide +kernel) hW.2.1 dX6_putIn_17 ?_
      refine zalen (a := tk) (v := 364) C hw hW.2.2.2.1 (by decide) (t0 := 1) rfl (zlen hW.2.2.2.2.1 rfl) dX6_putIn_20 ?_
      refine lv_icmp_lt (tgt := 25) hx hb dX6_putIn_21 (by decide) (fun c21 => ?_) (fun c21 => ?_)
      · obtain ⟨n, hn, en⟩ : ∃ n, n < 364 ∧ zI S 161 w = nI n := by obtain ⟨j, hj, e⟩ := nI_of (x := zI S 161 w) (by grind); refine ⟨j, ?_, e⟩; rw [e, show (364 : Int32) = nI 364 from rfl, nI_ltI hj (by omega)] at c21; exact c21
        obtain ⟨q, hq, eq⟩ : ∃ q, q ≤ n ∧ p0 = nI q := by obtain ⟨j, hj, e⟩ := nI_of (x := p0) c1; refine ⟨j, ?_, e⟩; rw [e, en] at c9; rcases Nat.lt_or_ge n j with h | h; exact absurd (nI_lt h hj) c9; exact h
        have hcn : (zI S 161 w).toNatClampNeg = n := by rw [en]; exact nI_clamp (by omega)
        have hcq : p0.toNatClampNeg = q := by rw [eq]; exact nI_clamp (by omega)
        refine lv_aload_n hx hb dX6_putIn_25 rfl (lv_at hl 0 rfl) ?_
        refine g_Wire_count (a := w) (v := (zI S 161 w)) C hw hW.1 in_X6 (by decide +kernel) rfl dX6_putIn_26 ?_
        refine zrd (x := (nI n)) en ?_
        refine lv_istore_n (lv' := [(3, .int (nI n)), (0, .ref w), (1, .int p0), (2, .int p1)]) hx hb dX6_putIn_29 rfl hl (by decide) rfl (fun ls hl => ?_)
        rw [← zsR_self S 22 tk] at hw
        have lp_2 : ∀ (n9 : Nat) (i : Nat) (g : Nat → Int32) (H : Heap) (locs : List Loc) (ls : Array Slot), i < n9 → (q ≤ i ∧ i ≤ n) → (∀ j, g j = if i < j ∧ j ≤ n then zR S 22 tk (j - 1) else zR S 22 tk j) → zW D y base (zsR S 22 tk g) s H locs → lv_has ls 4 [(3, .int (nI i)), (0, .ref w), (1, .int p0), (2, .int p1)] → W p l e (headSpec wsX6_putIn ({ frames := 0, cells := 0, slots := 0, locals := 0 })).room s m args below meth c H locs 0 0 (MQ below (va_Qv (fun (S1 : zS) => ((0 ≤ p0 ∧ p0 ≤ zI S 161 w ∧ zI S 161 w < 364) ∧ S1 = zsI (zsR S 22 tk (zins (zR S 22 tk) p0.toNatClampNeg (zI S 161 w).toNatClampNeg p1)) 161 w (zI S 161 w + 1)) ∨ (¬ (0 ≤ p0 ∧ p0 ≤ zI S 161 w ∧ zI S 161 w < 364) ∧ S1 = S)) (zPost D y base) (zA base)) args s 0 0 (zA base)) (F0 m 30 ls []) := by
          intro n9
          induction n9 with
          | zero =>
            intro i g H locs ls hn9
            exact absurd hn9 (Nat.not_lt_zero _)
          | succ n9 ih_1 =>
            intro i g H locs ls hn9 hi hg hw hl
            refine lv_iload_n hx hb dX6_putIn_30 rfl (lv_at hl 0 rfl) ?_
            refine lv_iload_n hx hb dX6_putIn_31 rfl (lv_at hl 2 rfl) ?_
            refine lv_icmp_le (tgt := 55) hx hb dX6_putIn_32 (by decide) (fun c32 => ?_) (fun c32 => ?_)
            · refine lv_aload_n hx hb dX6_putIn_55 rfl (lv_at hl 1 rfl) ?_
              refine g_Wire_ticks (a := w) (v := tk) C hw hW.1 in_X6 (by decide +kernel) hW.2.1 dX6_putIn_56 ?_
              refine lv_iload_n hx hb dX6_putIn_59 rfl (lv_at hl 2 rfl) ?_
              refine lv_iload_n hx hb dX6_putIn_60 rfl (lv_at hl 3 rfl) ?_
              refine zast_I (a := tk) C hw hW.2.2.2.1 hW.2.2.2.2.1 (zin_of (N := 364) (by decide) (by grind) (by grind)) dX6_putIn_61 (fun H locs hw => ?_)
              refine lv_aload_n hx hb dX6_putIn_62 rfl (lv_at hl 1 rfl) ?_
              refine lv_dup hx hb dX6_putIn_63 rfl ?_
              refine g_Wire_count (a := w) (v := (zI (zsR (zsR S 22 tk g) 22 tk (upd (zR (zsR S 22 tk g) 22 tk) (p0).toNatClampNeg p1)) 161 w)) C hw hW.1 in_X6 (by decide +kernel) rfl dX6_putIn_64 ?_
              refine lv_iconst (v := 1) hx hb dX6_putIn_67 (by decide) ?_
              refine lv_iadd hx hb dX6_putIn_68 ?_
              refine lv_topi (fun x69 ex69 => ?_)
              refine p_Wire_count (a := w) (v := x69) C hw hW.1 in_X6 (by decide +kernel) dX6_putIn_69 (fun H locs hw => ?_)
              exact zrv C hw hr hlocks (Or.inl ⟨by grind, by have hiq : i = q := (by rw [eq] at c32; have := z_ge c32 (by omega) (by omega); omega); rw [zR_s, zsR_zsR, hcq, hcn, ex69, show upd g q p1 = zins (zR S 22 tk) q n p1 from (funext fun j => by unfold zins; by_cases e : j = q; subst e; rw [pk_us, if_neg (by omega), if_pos rfl]; rw [pk_un e, hg, hiq]; by_cases h : j < q; rw [if_neg (by omega), if_pos h]; rw [if_neg h, if_neg e]; by_cases h2 : j ≤ n; rw [if_pos (by omega), if_pos h2]; rw [if_neg (by omega), if_neg h2])]; rfl⟩) ⟨Nat.le_of_ble_eq_true rfl, Nat.le_of_ble_eq_true rfl⟩ dX6_putIn_72
            · have hpos : q < i := by rw [eq] at c32; exact z_lt c32 (by omega) (by omega)
              have hpred : nI i - 1 = nI (i - 1) := pk_sub (b := 1) (by omega)
              refine lv_aload_n hx hb dX6_putIn_35 rfl (lv_at hl 1 rfl) ?_
              refine g_Wire_ticks (a := w) (v := tk) C hw hW.1 in_X6 (by decide +kernel) hW.2.1 dX6_putIn_36 ?_
              refine lv_iload_n hx hb dX6_putIn_39 rfl (lv_at hl 0 rfl) ?_
              refine lv_aload_n hx hb dX6_putIn_40 rfl (lv_at hl 1 rfl) ?_
              refine g_Wire_ticks (a := w) (v := tk) C hw hW.1 in_X6 (by decide +kernel) hW.2.1 dX6_putIn_41 ?_
              refine lv_iload_n hx hb dX6_putIn_44 rfl (lv_at hl 0 rfl) ?_
              refine lv_iconst (v := 1) hx hb dX6_putIn_45 (by decide) ?_
              refine lv_isub hx hb dX6_putIn_46 ?_
              refine zrd (x := (nI (i - 1))) hpred ?_
              refine zald_I (a := tk) C hw hW.2.2.2.1 hW.2.2.2.2.1 (vp_in_nI (by omega) (by decide)) dX6_putIn_47 ?_
              refine zrd (x := (g (i - 1))) (by rw [zR_s, nI_clamp (by omega)]) ?_
              refine zast_I (a := tk) C hw hW.2.2.2.1 hW.2.2.2.2.1 (vp_in_nI (by omega) (by decide)) dX6_putIn_48 (fun H locs hw => ?_)
              refine lv_iinc (v := (nI (i - 1))) (lv' := [(3, .int (nI (i - 1))), (0, .ref w), (1, .int p0), (2, .int p1)]) hx hb dX6_putIn_49 hl (k := 0) rfl (sb_m1 (by omega)) (by decide) rfl (fun ls hl => ?_)
              refine lv_goto (tgt := 30) hx hb dX6_putIn_52 (by decide) ?_
              rw [zR_s, zsR_zsR, nI_clamp (by omega)] at hw
              exact ih_1 (i - 1) (upd g i (g (i - 1))) _ _ _ (by omega) (by omega) (by intro j; by_cases e : j = i; subst e; rw [pk_us, if_pos (by omega), hg, if_neg (by omega)]; rw [pk_un e, hg]; by_cases h : i < j ∧ j ≤ n; rw [if_pos h, if_pos (by omega)]; rw [if_neg h, if_neg (by omega)]) hw (lv_sub hl [0, 1, 2, 3] rfl)
        exact lp_2 _ n (zR S 22 tk) _ _ _ (Nat.lt_succ_self _) ⟨hq, Nat.le_refl _⟩ (fun j => by rw [if_neg (by omega)]) hw (lv_sub hl [0, 1, 2, 3] rfl)
      · exact zrv C hw hr hlocks (Or.inr ⟨by grind, rfl⟩) ⟨Nat.le_of_ble_eq_true rfl, Nat.le_of_ble_eq_true rfl⟩ dX6_putIn_24

set_option maxHeartbeats 4000000 in
set_option maxRecDepth 100000 in
/-- X6_takeOut -/
theorem c_X6_takeOut (l : Launch) (D : va_G) (y : Nat → ClassId) (base : Nat) (S : zS) (w : Nat) (tk : Nat) (sn : Nat) (k : Nat) (hW : zWire S w tk sn) (hk : k < zwN S w) : zMv l yX6_takeOut wsX6_takeOut ({ frames := 0, cells := 0, slots := 0, locals := 0 }) [.ref w, .int (nI k)] D y base S (fun (S1 : zS) => S1 = zsI (zsR S 22 tk (zdel (zR S 22 tk) k (zwN S w))) 161 w (zI S 161 w - 1)) 0 0 := by
  refine zMet_of (cc := cX6_takeOut) (maxL := 3) (ret := none) (own := RX6) (by decide +kernel) rfl rfl (Nat.le_of_ble_eq_true rfl) ?_
  intro p e s m args below meth c ls C hr hlocks hnm hw hl
  have hx := C.1
  have hb := C.2.1
  have hown := C.2.2.2.1
  have hts := C.2.2.2.2
  have hl : lv_has ls 3 [(0, .ref w), (1, .int (nI k))] := hl
  have in_X6 : ∀ w ∈ wsX60, w ∈ wsX6_takeOut := by decide +kernel
  have hN := zwN_le S w
  have hN2 : zwN S w = min (zI S 161 w).toNatClampNeg 364 := rfl
  obtain ⟨n, en⟩ : ∃ n, n = zwN S w := ⟨_, rfl⟩
  rw [← en] at hN hN2 hk
  refine lv_iload_n hx hb dX6_takeOut_0 rfl (lv_at hl 1 rfl) ?_
  refine lv_iconst (v := 1) hx hb dX6_takeOut_1 (by decide) ?_
  refine lv_iadd hx hb dX6_takeOut_2 ?_
  refine zrd (x := (nI (k + 1))) (nI_1 _) ?_
  refine lv_istore_n (lv' := [(2, .int (nI (k + 1))), (0, .ref w), (1, .int (nI k))]) hx hb dX6_takeOut_3 rfl hl (by decide) rfl (fun ls hl => ?_)
  rw [← zsR_self S 22 tk] at hw
  have lp_2 : ∀ (n9 : Nat) (i : Nat) (g : Nat → Int32) (H : Heap) (locs : List Loc) (ls : Array Slot), 364 - i < n9 → (k + 1 ≤ i ∧ i ≤ n) → (∀ j, g j = if k ≤ j ∧ j + 1 < i then zR S 22 tk (j + 1) else zR S 22 tk j) → zW D y base (zsR S 22 tk g) s H locs → lv_has ls 3 [(2, .int (nI i)), (0, .ref w)] → W p l e (headSpec wsX6_takeOut ({ frames := 0, cells := 0, slots := 0, locals := 0 })).room s m args below meth c H locs 0 0 (MQ below (va_Qv (fun (S1 : zS) => S1 = zsI (zsR S 22 tk (zdel (zR S 22 tk) k (zwN S w))) 161 w (zI S 161 w - 1)) (zPost D y base) (zA base)) args s 0 0 (zA base)) (F0 m 4 ls []) := by
    intro n9
    induction n9 with
    | zero =>
      intro i g H locs ls hn9
      exact absurd hn9 (Nat.not_lt_zero _)
    | succ n9 ih_1 =>
      intro i g H locs ls hn9 hi hg hw hl
      refine lv_iload_n hx hb dX6_takeOut_4 rfl (lv_at hl 0 rfl) ?_
      refine lv_if_le (tgt := 45) hx hb dX6_takeOut_5 (by decide) (fun c5 => (show False from nI_nle (by omega) (by omega) c5).elim) (fun c5 => ?_)
      refine lv_iload_n hx hb dX6_takeOut_8 rfl (lv_at hl 0 rfl) ?_
      refine lv_aload_n hx hb dX6_takeOut_9 rfl (lv_at hl 1 rfl) ?_
      refine g_Wire_count (a := w) (v := (zI (zsR S 22 tk g) 161 w)) C hw hW.1 in_X6 (by decide +kernel) rfl dX6_takeOut_10 ?_
      refine lv_icmp_ge (tgt := 45) hx hb dX6_takeOut_13 (by decide) (fun c13 => ?_) (fun c13 => ?_)
      · refine lv_aload_n hx hb dX6_takeOut_45 rfl (lv_at hl 1 rfl) ?_
        refine lv_dup hx hb dX6_takeOut_46 rfl ?_
        refine g_Wire_count (a := w) (v := (zI (zsR S 22 tk g) 161 w)) C hw hW.1 in_X6 (by decide +kernel) rfl dX6_takeOut_47 ?_
        refine lv_iconst (v := 1) hx hb dX6_takeOut_50 (by decide) ?_
        refine lv_isub hx hb dX6_takeOut_51 ?_
        refine lv_topi (fun x52 ex52 => ?_)
        refine p_Wire_count (a := w) (v := x52) C hw hW.1 in_X6 (by decide +kernel) dX6_takeOut_52 (fun H locs hw => ?_)
        exact zrv C hw hr hlocks (by have hin2 : i = n := (by first | (have : (zI S 161 w).toNatClampNeg ≤ i := z_cl_le c13 (i := i) (by omega); omega) | (have := z_ge (n := 364) c22 (by omega) (by omega); omega)); rw [ex52, show g = zdel (zR S 22 tk) k (zwN S w) from (funext fun j => by rw [hg, hin2, en]; rfl)]; rfl) ⟨Nat.le_of_ble_eq_true rfl, Nat.le_of_ble_eq_true rfl⟩ dX6_takeOut_55
      · refine lv_iload_n hx hb dX6_takeOut_16 rfl (lv_at hl 0 rfl) ?_
        refine lv_aload_n hx hb dX6_takeOut_17 rfl (lv_at hl 1 rfl) ?_
        refine g_Wire_ticks (a := w) (v := tk) C hw hW.1 in_X6 (by decide +kernel) hW.2.1 dX6_takeOut_18 ?_
        refine zalen (a := tk) (v := 364) C hw hW.2.2.2.1 (by decide) (t0 := 1) rfl (zlen hW.2.2.2.2.1 rfl) dX6_takeOut_21 ?_
        refine lv_icmp_ge (tgt := 45) hx hb dX6_takeOut_22 (by decide) (fun c22 => ?_) (fun c22 => ?_)
        · refine lv_aload_n hx hb dX6_takeOut_45 rfl (lv_at hl 1 rfl) ?_
          refine lv_dup hx hb dX6_takeOut_46 rfl ?_
          refine g_Wire_count (a := w) (v := (zI (zsR S 22 tk g) 161 w)) C hw hW.1 in_X6 (by decide +kernel) rfl dX6_takeOut_47 ?_
          refine lv_iconst (v := 1) hx hb dX6_takeOut_50 (by decide) ?_
          refine lv_isub hx hb dX6_takeOut_51 ?_
          refine lv_topi (fun x52 ex52 => ?_)
          refine p_Wire_count (a := w) (v := x52) C hw hW.1 in_X6 (by decide +kernel) dX6_takeOut_52 (fun H locs hw => ?_)
          exact zrv C hw hr hlocks (by have hin2 : i = n := (by first | (have : (zI S 161 w).toNatClampNeg ≤ i := z_cl_le c13 (i := i) (by omega); omega) | (have := z_ge (n := 364) c22 (by omega) (by omega); omega)); rw [ex52, show g = zdel (zR S 22 tk) k (zwN S w) from (funext fun j => by rw [hg, hin2, en]; rfl)]; rfl) ⟨Nat.le_of_ble_eq_true rfl, Nat.le_of_ble_eq_true rfl⟩ dX6_takeOut_55
        · have hpred : nI i - 1 = nI (i - 1) := pk_sub (b := 1) (by omega)
          have hin : i < n := by have : i < (zI S 161 w).toNatClampNeg := z_cl_lt c13 (i := i) (by omega); have := z_lt (n := 364) c22 (by omega) (by omega); omega
          refine lv_aload_n hx hb dX6_takeOut_25 rfl (lv_at hl 1 rfl) ?_
          refine g_Wire_ticks (a := w) (v := tk) C hw hW.1 in_X6 (by decide +kernel) hW.2.1 dX6_takeOut_26 ?_
          refine lv_iload_n hx hb dX6_takeOut_29 rfl (lv_at hl 0 rfl) ?_
          refine lv_iconst (v := 1) hx hb dX6_takeOut_30 (by decide) ?_
          refine lv_isub hx hb dX6_takeOut_31 ?_
          refine zrd (x := (nI (i - 1))) hpred ?_
          refine lv_aload_n hx hb dX6_takeOut_32 rfl (lv_at hl 1 rfl) ?_
          refine g_Wire_ticks (a := w) (v := tk) C hw hW.1 in_X6 (by decide +kernel) hW.2.1 dX6_takeOut_33 ?_
          refine lv_iload_n hx hb dX6_takeOut_36 rfl (lv_at hl 0 rfl) ?_
          refine zald_I (a := tk) C hw hW.2.2.2.1 hW.2.2.2.2.1 (vp_in_nI (by omega) (by decide)) dX6_takeOut_37 ?_
          refine zrd (x := (g i)) (by rw [zR_s, nI_clamp (by omega)]) ?_
          refine zast_I (a := tk) C hw hW.2.2.2.1 hW.2.2.2.2.1 (vp_in_nI (by omega) (by decide)) dX6_takeOut_38 (fun H locs hw => ?_)
          refine lv_iinc (v := (nI (i + 1))) (lv' := [(2, .int (nI (i + 1))), (0, .ref w)]) hx hb dX6_takeOut_39 hl (k := 0) rfl (nI_1 _) (by decide) rfl (fun ls hl => ?_)
          refine lv_goto (tgt := 4) hx hb dX6_takeOut_42 (by decide) ?_
          rw [zR_s, zsR_zsR, nI_clamp (by omega)] at hw
          exact ih_1 (i + 1) (upd g (i - 1) (g i)) _ _ _ (by omega) (by omega) (by intro j; by_cases e : j = i - 1; subst e; rw [pk_us, if_pos (by omega), hg, if_neg (by omega), show i - 1 + 1 = i by omega]; rw [pk_un e, hg]; by_cases h : k ≤ j ∧ j + 1 < i; rw [if_pos h, if_pos (by omega)]; rw [if_neg h, if_neg (by omega)]) hw (lv_sub hl [0, 1] rfl)
  exact lp_2 _ (k + 1) (zR S 22 tk) _ _ _ (Nat.lt_succ_self _) ⟨Nat.le_refl _, hk⟩ (fun j => by rw [if_neg (by omega)]) hw (lv_sub hl [0, 1] rfl)

set_option maxHeartbeats 4000000 in
set_option maxRecDepth 100000 in
/-- X6_flipAt -/
theorem c_X6_flipAt (l : Launch) (D : va_G) (y : Nat → ClassId) (base : Nat) (S : zS) (w : Nat) (tk : Nat) (sn : Nat) (p0 : Int32) (hW : zWire S w tk sn) : zMv l yX6_flipAt wsX6_flipAt ({ frames := 2, cells := 0, slots := 0, locals := 45 }) [.ref w, .int p0] D y base S (fun (S1 : zS) => zFlp S S1 w tk ∧ ((zwHas S w tk p0 = true ∧ S1 = zsI (zsR S 22 tk (zdel (zR S 22 tk) (zwC S w tk p0) (zwN S w))) 161 w (zI S 161 w - 1)) ∨ (¬ zwHas S w tk p0 = true ∧ (0 ≤ zI S 161 w ∧ zI S 161 w < 364) ∧ S1 = zsI (zsR S 22 tk (zins (zR S 22 tk) (zwC S w tk p0) (zI S 161 w).toNatClampNeg p0)) 161 w (zI S 161 w + 1)) ∨ (¬ zwHas S w tk p0 = true ∧ ¬ (0 ≤ zI S 161 w ∧ zI S 161 w < 364) ∧ S1 = S))) 0 0 := by
  refine zMet_of (cc := cX6_flipAt) (maxL := 2) (ret := none) (own := RX6) (by decide +kernel) rfl rfl (Nat.le_of_ble_eq_true rfl) ?_
  intro p e s m args below meth c ls C hr hlocks hnm hw hl
  have hx := C.1
  have hb := C.2.1
  have hown := C.2.2.2.1
  have hts := C.2.2.2.2
  have hl : lv_has ls 2 [(0, .ref w), (1, .int p0)] := hl
  have hN := zwN_le S w
  have hN2 : zwN S w = min (zI S 161 w).toNatClampNeg 364 := rfl
  have hC := zwC_le S w tk p0
  refine lv_aload_n hx hb dX6_flipAt_0 rfl (lv_at hl 0 rfl) ?_
  refine lv_iload_n hx hb dX6_flipAt_1 rfl (lv_at hl 1 rfl) ?_
  refine zcV_i (As := [.int p0]) (rest := []) (n9 := 1) (b := w) C hw (c_X6_hasFlip l D y base S w tk sn p0 hW) gX6_flipAt_X6_hasFlip rfl (by decide +kernel) ⟨⟨rfl, rfl⟩, Nat.le_of_ble_eq_true rfl, Nat.le_of_ble_eq_true rfl⟩ hW.1 ⟨by decide, by decide⟩ rfl rfl hl.1 rfl (Nat.le_of_ble_eq_true rfl) ⟨Nat.le_of_ble_eq_true rfl, Nat.le_of_ble_eq_true rfl⟩ dX6_flipAt_2 (fun r2 S2 H locs hp2 hw => ?_)
  obtain ⟨rfl, hS9⟩ := hp2
  have hS9 := hS9.symm
  subst hS9
  refine lv_if_eq (tgt := 20) hx hb dX6_flipAt_5 (by decide) (fun c5 => ?_) (fun c5 => ?_)
  · replace c5 := zb0.mp c5
    refine lv_aload_n hx hb dX6_flipAt_20 rfl (lv_at hl 0 rfl) ?_
    refine lv_aload_n hx hb dX6_flipAt_21 rfl (lv_at hl 0 rfl) ?_
    refine lv_iload_n hx hb dX6_flipAt_22 rfl (lv_at hl 1 rfl) ?_
    refine zcV_i (As := [.int p0]) (rest := [.ref w]) (n9 := 1) (b := w) C hw (c_X6_countAhead l D y base S w tk sn p0 hW) gX6_flipAt_X6_countAhead rfl (by decide +kernel) ⟨⟨rfl, rfl⟩, Nat.le_of_ble_eq_true rfl, Nat.le_of_ble_eq_true rfl⟩ hW.1 ⟨by decide, by decide⟩ rfl rfl hl.1 rfl (Nat.le_of_ble_eq_true rfl) ⟨Nat.le_of_ble_eq_true rfl, Nat.le_of_ble_eq_true rfl⟩ dX6_flipAt_23 (fun r23 S23 H locs hp23 hw => ?_)
    obtain ⟨⟨k23, rfl, hk23⟩, hS9⟩ := hp23
    have hS9 := hS9.symm
    subst hS9
    refine lv_iload_n hx hb dX6_flipAt_26 rfl (lv_at hl 1 rfl) ?_
    refine zcV_v (As := [.int (nI k23), .int p0]) (rest := []) (n9 := 2) (b := w) C hw (c_X6_putIn l D y base S w tk sn (nI k23) p0 hW) gX6_flipAt_X6_putIn rfl (by decide +kernel) ⟨⟨rfl, rfl⟩, Nat.le_of_ble_eq_true rfl, Nat.le_of_ble_eq_true rfl⟩ hW.1 ⟨by decide, by decide⟩ rfl rfl hl.1 rfl (Nat.le_of_ble_eq_true rfl) ⟨Nat.le_of_ble_eq_true rfl, Nat.le_of_ble_eq_true rfl⟩ dX6_flipAt_27 (fun S27 H locs hp27 hw => ?_)
    have hpp := hp27
    exact zrv C hw hr hlocks (by rcases hpp with ⟨q, e9⟩ | ⟨q, e9⟩; rw [e9]; exact ⟨zFlp.tr zFlp.R zFlp.I, Or.inr (Or.inl ⟨c5, by grind, by rw [nI_clamp (by omega), hk23]⟩)⟩; rw [e9]; refine ⟨zFlp.rf, Or.inr (Or.inr ⟨c5, ?_, rfl⟩)⟩; rintro ⟨g1, g2⟩; apply q; refine ⟨nI_pos' (by omega), ?_, g2⟩; rw [z_01 _ g1]; exact nI_le (by omega) (by show (zI S 161 w).toInt.toNat < _; rw [Int32.lt_iff_toInt_lt] at g2; have : (364 : Int32).toInt = 364 := rfl; omega)) ⟨Nat.le_of_ble_eq_true rfl, Nat.le_of_ble_eq_true rfl⟩ dX6_flipAt_30
  · replace c5 := zb1.mp c5
    refine lv_aload_n hx hb dX6_flipAt_8 rfl (lv_at hl 0 rfl) ?_
    refine lv_aload_n hx hb dX6_flipAt_9 rfl (lv_at hl 0 rfl) ?_
    refine lv_iload_n hx hb dX6_flipAt_10 rfl (lv_at hl 1 rfl) ?_
    refine zcV_i (As := [.int p0]) (rest := [.ref w]) (n9 := 1) (b := w) C hw (c_X6_countAhead l D y base S w tk sn p0 hW) gX6_flipAt_X6_countAhead rfl (by decide +kernel) ⟨⟨rfl, rfl⟩, Nat.le_of_ble_eq_true rfl, Nat.le_of_ble_eq_true rfl⟩ hW.1 ⟨by decide, by decide⟩ rfl rfl hl.1 rfl (Nat.le_of_ble_eq_true rfl) ⟨Nat.le_of_ble_eq_true rfl, Nat.le_of_ble_eq_true rfl⟩ dX6_flipAt_11 (fun r11 S11 H locs hp11 hw => ?_)
    obtain ⟨⟨k11, rfl, hk11⟩, hS9⟩ := hp11
    have hS9 := hS9.symm
    subst hS9
    refine zcV_v (As := [.int (nI k11)]) (rest := []) (n9 := 1) (b := w) C hw (c_X6_takeOut l D y base S w tk sn k11 hW (by have := (zwHas_iff _ _ _ _).mp c5; omega)) gX6_flipAt_X6_takeOut rfl (by decide +kernel) ⟨⟨rfl, rfl⟩, Nat.le_of_ble_eq_true rfl, Nat.le_of_ble_eq_true rfl⟩ hW.1 ⟨by decide, by decide⟩ rfl rfl hl.1 rfl (Nat.le_of_ble_eq_true rfl) ⟨Nat.le_of_ble_eq_true rfl, Nat.le_of_ble_eq_true rfl⟩ dX6_flipAt_14 (fun S14 H locs hp14 hw => ?_)
    obtain rfl := hp14
    refine lv_goto (tgt := 30) hx hb dX6_flipAt_17 (by decide) ?_
    exact zrv C hw hr hlocks ⟨zFlp.tr zFlp.R zFlp.I, Or.inl ⟨c5, by rw [hk11]⟩⟩ ⟨Nat.le_of_ble_eq_true rfl, Nat.le_of_ble_eq_true rfl⟩ dX6_flipAt_30

set_option maxHeartbeats 4000000 in
set_option maxRecDepth 100000 in
/-- X6_flipSent -/
theorem c_X6_flipSent (l : Launch) (D : va_G) (y : Nat → ClassId) (base : Nat) (S : zS) (w : Nat) (tk : Nat) (sn : Nat) (hW : zWire S w tk sn) : zMv l yX6_flipSent wsX6_flipSent ({ frames := 3, cells := 0, slots := 0, locals := 66 }) [.ref w] D y base S (fun (S1 : zS) => zFlp S S1 w tk) 0 0 := by
  refine zMet_of (cc := cX6_flipSent) (maxL := 2) (ret := none) (own := RX6) (by decide +kernel) rfl rfl (Nat.le_of_ble_eq_true rfl) ?_
  intro p e s m args below meth c ls C hr hlocks hnm hw hl
  have hx := C.1
  have hb := C.2.1
  have hown := C.2.2.2.1
  have hts := C.2.2.2.2
  have hl : lv_has ls 2 [(0, .ref w)] := hl
  have in_X6 : ∀ w ∈ wsX60, w ∈ wsX6_flipSent := by decide +kernel
  refine lv_iconst (v := 0) hx hb dX6_flipSent_0 (by decide) ?_
  refine lv_istore_n (lv' := [(1, .int 0), (0, .ref w)]) hx hb dX6_flipSent_1 rfl hl (by decide) rfl (fun ls hl => ?_)
  have lp_2 : ∀ (n9 : Nat) (i : Nat) (S2 : zS) (H : Heap) (locs : List Loc) (ls : Array Slot), 64 - i < n9 → (i ≤ 64) → (zFlp S S2 w tk) → zW D y base S2 s H locs → lv_has ls 2 [(1, .int (nI i)), (0, .ref w)] → W p l e (headSpec wsX6_flipSent ({ frames := 3, cells := 0, slots := 0, locals := 66 })).room s m args below meth c H locs 0 0 (MQ below (va_Qv (fun (S1 : zS) => zFlp S S1 w tk) (zPost D y base) (zA base)) args s 0 0 (zA base)) (F0 m 2 ls []) := by
    intro n9
    induction n9 with
    | zero =>
      intro i S2 H locs ls hn9
      exact absurd hn9 (Nat.not_lt_zero _)
    | succ n9 ih_1 =>
      intro i S2 H locs ls hn9 hi hf hw hl
      have hW2 : zWire S2 w tk sn := zWire.fix hf.1 hW
      refine lv_iload_n hx hb dX6_flipSent_2 rfl (lv_at hl 0 rfl) ?_
      refine lv_aload_n hx hb dX6_flipSent_3 rfl (lv_at hl 1 rfl) ?_
      refine g_Wire_sentCount (a := w) (v := (zI S2 164 w)) C hw hW2.1 in_X6 (by decide +kernel) rfl dX6_flipSent_4 ?_
      refine lv_icmp_ge (tgt := 35) hx hb dX6_flipSent_7 (by decide) (fun c7 => ?_) (fun c7 => ?_)
      · exact zrv C hw hr hlocks hf ⟨Nat.le_of_ble_eq_true rfl, Nat.le_of_ble_eq_true rfl⟩ dX6_flipSent_35
      · refine lv_iload_n hx hb dX6_flipSent_10 rfl (lv_at hl 0 rfl) ?_
        refine lv_aload_n hx hb dX6_flipSent_11 rfl (lv_at hl 1 rfl) ?_
        refine g_Wire_sent (a := w) (v := sn) C hw hW2.1 in_X6 (by decide +kernel) hW2.2.2.1 dX6_flipSent_12 ?_
        refine zalen (a := sn) (v := 64) C hw hW2.2.2.2.2.2.1 (by decide) (t0 := 1) rfl (zlen hW2.2.2.2.2.2.2.1 rfl) dX6_flipSent_15 ?_
        refine lv_icmp_ge (tgt := 35) hx hb dX6_flipSent_16 (by decide) (fun c16 => ?_) (fun c16 => ?_)
        · exact zrv C hw hr hlocks hf ⟨Nat.le_of_ble_eq_true rfl, Nat.le_of_ble_eq_true rfl⟩ dX6_flipSent_35
        · refine lv_aload_n hx hb dX6_flipSent_19 rfl (lv_at hl 1 rfl) ?_
          refine lv_aload_n hx hb dX6_flipSent_20 rfl (lv_at hl 1 rfl) ?_
          refine g_Wire_sent (a := w) (v := sn) C hw hW2.1 in_X6 (by decide +kernel) hW2.2.2.1 dX6_flipSent_21 ?_
          refine lv_iload_n hx hb dX6_flipSent_24 rfl (lv_at hl 0 rfl) ?_
          refine zald_I (a := sn) C hw hW2.2.2.2.2.2.1 hW2.2.2.2.2.2.2.1 (vp_in_nI (z_lt (n := 64) c16 (by omega) (by omega)) (by decide)) dX6_flipSent_25 ?_
          refine zcV_v (As := [.int (zR S2 22 sn ((nI i)).toNatClampNeg)]) (rest := []) (n9 := 1) (b := w) C hw (c_X6_flipAt l D y base S2 w tk sn (zR S2 22 sn ((nI i)).toNatClampNeg) hW2) gX6_flipSent_X6_flipAt rfl (by decide +kernel) ⟨⟨rfl, rfl⟩, Nat.le_of_ble_eq_true rfl, Nat.le_of_ble_eq_true rfl⟩ hW2.1 ⟨by decide, by decide⟩ rfl rfl hl.1 rfl (Nat.le_of_ble_eq_true rfl) ⟨Nat.le_of_ble_eq_true rfl, Nat.le_of_ble_eq_true rfl⟩ dX6_flipSent_26 (fun S26 H locs hp26 hw => ?_)
          refine lv_iinc (v := (nI (i + 1))) (lv' := [(1, .int (nI (i + 1))), (0, .ref w)]) hx hb dX6_flipSent_29 hl (k := 0) rfl (nI_1 _) (by decide) rfl (fun ls hl => ?_)
          refine lv_goto (tgt := 2) hx hb dX6_flipSent_32 (by decide) ?_
          exact ih_1 (i + 1) S26 _ _ _ (by have := z_lt (n := 64) c16 (by omega) (by omega); omega) (by have := z_lt (n := 64) c16 (by omega) (by omega); omega) (hf.tr hp26.1) hw (lv_sub hl [0, 1] rfl)
  exact lp_2 _ 0 S _ _ _ (Nat.lt_succ_self _) (by omega) zFlp.rf hw (lv_sub hl [0, 1] rfl)

set_option maxHeartbeats 4000000 in
set_option maxRecDepth 100000 in
/-- X6_isHighAt -/
theorem c_X6_isHighAt (l : Launch) (D : va_G) (y : Nat → ClassId) (base : Nat) (S : zS) (w : Nat) (tk : Nat) (sn : Nat) (p0 : Int32) (hW : zWire S w tk sn) (h160 : zI S 160 w = 0) (h161 : zI S 161 w = 0) : zMi l yX6_isHighAt wsX6_isHighAt ({ frames := 1, cells := 0, slots := 0, locals := 23 }) [.ref w, .int p0] D y base S (fun (r : Int32) (S1 : zS) => r = 0 ∧ S1 = S) 0 0 := by
  refine zMet_of (cc := cX6_isHighAt) (maxL := 2) (ret := (some .boolean)) (own := RX6) (by decide +kernel) rfl rfl (Nat.le_of_ble_eq_true rfl) ?_
  intro p e s m args below meth c ls C hr hlocks hnm hw hl
  have hx := C.1
  have hb := C.2.1
  have hown := C.2.2.2.1
  have hts := C.2.2.2.2
  have hl : lv_has ls 2 [(0, .ref w), (1, .int p0)] := hl
  have in_X6 : ∀ w ∈ wsX60, w ∈ wsX6_isHighAt := by decide +kernel
  refine lv_aload_n hx hb dX6_isHighAt_0 rfl (lv_at hl 0 rfl) ?_
  refine g_Wire_isHighFirst (a := w) (v := 0) C hw hW.1 in_X6 (by decide +kernel) h160 dX6_isHighAt_1 ?_
  refine lv_aload_n hx hb dX6_isHighAt_4 rfl (lv_at hl 0 rfl) ?_
  refine lv_iload_n hx hb dX6_isHighAt_5 rfl (lv_at hl 1 rfl) ?_
  refine lv_iconst (v := 1) hx hb dX6_isHighAt_6 (by decide) ?_
  refine lv_iadd hx hb dX6_isHighAt_7 ?_
  refine zcV_i (As := [.int (p0 + 1)]) (rest := [.int 0]) (n9 := 1) (b := w) C hw (c_X6_countAhead l D y base S w tk sn (p0 + 1) hW) gX6_isHighAt_X6_countAhead rfl (by decide +kernel) ⟨⟨rfl, rfl⟩, Nat.le_of_ble_eq_true rfl, Nat.le_of_ble_eq_true rfl⟩ hW.1 ⟨by decide, by decide⟩ rfl rfl hl.1 rfl (Nat.le_of_ble_eq_true rfl) ⟨Nat.le_of_ble_eq_true rfl, Nat.le_of_ble_eq_true rfl⟩ dX6_isHighAt_8 (fun r8 S8 H locs hp8 hw => ?_)
  obtain ⟨⟨k8, rfl, hk8⟩, hS9⟩ := hp8
  have hS9 := hS9.symm
  subst hS9
  have hN0 : zwN S w = 0 := by show min (zI S 161 w).toNatClampNeg 364 = 0; rw [h161]; rfl
  have hk0 : k8 = 0 := by rw [hk8]; unfold zwC; rw [hN0]; rfl
  subst hk0
  refine lv_iconst (v := 2) hx hb dX6_isHighAt_11 (by decide) ?_
  refine lv_irem hx hb dX6_isHighAt_12 (by decide) ?_
  refine zrd (x := 0) (by decide) ?_
  refine lv_iconst (v := 1) hx hb dX6_isHighAt_13 (by decide) ?_
  refine lv_icmp_ne (tgt := 21) hx hb dX6_isHighAt_14 (by decide) (fun _ => ?_) (fun c14 => absurd c14 (by decide))
  refine lv_iconst (v := 0) hx hb dX6_isHighAt_21 (by decide) ?_
  refine lv_icmp_eq (tgt := 29) hx hb dX6_isHighAt_22 (by decide) (fun _ => ?_) (fun c22 => absurd c22 (by decide))
  refine lv_iconst (v := 0) hx hb dX6_isHighAt_29 (by decide) ?_
  exact zri C hw hr hlocks (by decide) (by first | exact ⟨rfl, rfl⟩ | exact rfl | (refine ⟨?_, rfl⟩; grind) | grind) ⟨Nat.le_of_ble_eq_true rfl, Nat.le_of_ble_eq_true rfl⟩ dX6_isHighAt_30
