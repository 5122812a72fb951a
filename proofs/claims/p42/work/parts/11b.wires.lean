set_option maxHeartbeats 4000000 in
set_option maxRecDepth 100000 in
/-- X6_flipSent -/
theorem c_X6_flipSent_g (l : Launch) (D : va_G) (y : Nat → ClassId) (base : Nat) (S : zS) (w : Nat) (tk : Nat) (sn : Nat) (k : Nat) (n0 : Nat) (hW : zWire S w tk sn) (h164 : zI S 164 w = nI k) (hk64 : k ≤ 64) (h0 : zRk S w tk n0) (hn0 : n0 + k ≤ 364) (hrg : ∀ j, j < k → 0 ≤ (zR S 22 sn j).toInt ∧ (zR S 22 sn j).toInt ≤ 9999) : zMv l yX6_flipSent wsX6_flipSent ({ frames := 3, cells := 0, slots := 0, locals := 66 }) [.ref w] D y base S (fun (S1 : zS) => zFlp S S1 w tk ∧ ∃ n, n ≤ n0 + k ∧ zRk S1 w tk n ∧ ∀ t, zod (zcu (zR S1 22 tk) n t) = xor (zod (zcu (zR S 22 tk) n0 t)) (zod (zcu (zR S 22 sn) k t))) 0 0 := by
  refine zMet_of (cc := cX6_flipSent) (maxL := 2) (ret := none) (own := RX6) (by decide +kernel) rfl rfl (Nat.le_of_ble_eq_true rfl) ?_
  intro p e s m args below meth c ls C hr hlocks hnm hw hl
  have hx := C.1
  have hb := C.2.1
  have hown := C.2.2.2.1
  have hts := C.2.2.2.2
  have hl : lv_has ls 2 [(0, .ref w)] := hl
  have in_X6 : ∀ w ∈ wsX60, w ∈ wsX6_flipSent := by decide +kernel
  have hts9 : tk ≠ sn := hW.2.2.2.2.2.2.2
  refine lv_iconst (v := 0) hx hb dX6_flipSent_0 (by decide) ?_
  refine lv_istore_n (lv' := [(1, .int 0), (0, .ref w)]) hx hb dX6_flipSent_1 rfl hl (by decide) rfl (fun ls hl => ?_)
  have lp_2 : ∀ (n9 : Nat) (i : Nat) (S2 : zS) (H : Heap) (locs : List Loc) (ls : Array Slot), 64 - i < n9 → (i ≤ k) → (zFlp S S2 w tk) → (∃ n, n ≤ n0 + i ∧ zRk S2 w tk n ∧ ∀ t, zod (zcu (zR S2 22 tk) n t) = xor (zod (zcu (zR S 22 tk) n0 t)) (zod (zcu (zR S 22 sn) i t))) → zW D y base S2 s H locs → lv_has ls 2 [(1, .int (nI i)), (0, .ref w)] → W p l e (headSpec wsX6_flipSent ({ frames := 3, cells := 0, slots := 0, locals := 66 })).room s m args below meth c H locs 0 0 (MQ below (va_Qv (fun (S1 : zS) => zFlp S S1 w tk ∧ ∃ n, n ≤ n0 + k ∧ zRk S1 w tk n ∧ ∀ t, zod (zcu (zR S1 22 tk) n t) = xor (zod (zcu (zR S 22 tk) n0 t)) (zod (zcu (zR S 22 sn) k t))) (zPost D y base) (zA base)) args s 0 0 (zA base)) (F0 m 2 ls []) := by
    intro n9
    induction n9 with
    | zero =>
      intro i S2 H locs ls hn9
      exact absurd hn9 (Nat.not_lt_zero _)
    | succ n9 ih_1 =>
      intro i S2 H locs ls hn9 hi hf h2 hw hl
      have hW2 : zWire S2 w tk sn := zWire.fix hf.1 hW
      have h164b : zI S2 164 w = nI k := (hf.2.1 164 w (Or.inr (by decide))).trans h164
      have hsn : zR S2 22 sn = zR S 22 sn := hf.2.2.1 22 sn (Or.inl (Ne.symm hts9))
      refine lv_iload_n hx hb dX6_flipSent_2 rfl (lv_at hl 0 rfl) ?_
      refine lv_aload_n hx hb dX6_flipSent_3 rfl (lv_at hl 1 rfl) ?_
      refine g_Wire_sentCount (a := w) (v := (nI k)) C hw hW2.1 in_X6 (by decide +kernel) h164b dX6_flipSent_4 ?_
      refine lv_icmp_ge (tgt := 35) hx hb dX6_flipSent_7 (by decide) (fun c7 => ?_) (fun c7 => ?_)
      · exact zrv C hw hr hlocks ⟨hf, (by rw [show k = i by (first | (have := z_ge (n := k) c7 (by omega) (by omega); omega) | (have := z_ge (n := 64) c16 (by omega) (by omega); omega))]; exact h2)⟩ ⟨Nat.le_of_ble_eq_true rfl, Nat.le_of_ble_eq_true rfl⟩ dX6_flipSent_35
      · refine lv_iload_n hx hb dX6_flipSent_10 rfl (lv_at hl 0 rfl) ?_
        refine lv_aload_n hx hb dX6_flipSent_11 rfl (lv_at hl 1 rfl) ?_
        refine g_Wire_sent (a := w) (v := sn) C hw hW2.1 in_X6 (by decide +kernel) hW2.2.2.1 dX6_flipSent_12 ?_
        refine zalen (a := sn) (v := 64) C hw hW2.2.2.2.2.2.1 (by decide) (t0 := 1) rfl (zlen hW2.2.2.2.2.2.2.1 rfl) dX6_flipSent_15 ?_
        refine lv_icmp_ge (tgt := 35) hx hb dX6_flipSent_16 (by decide) (fun c16 => ?_) (fun c16 => ?_)
        · exact zrv C hw hr hlocks ⟨hf, (by rw [show k = i by (first | (have := z_ge (n := k) c7 (by omega) (by omega); omega) | (have := z_ge (n := 64) c16 (by omega) (by omega); omega))]; exact h2)⟩ ⟨Nat.le_of_ble_eq_true rfl, Nat.le_of_ble_eq_true rfl⟩ dX6_flipSent_35
        · refine lv_aload_n hx hb dX6_flipSent_19 rfl (lv_at hl 1 rfl) ?_
          refine lv_aload_n hx hb dX6_flipSent_20 rfl (lv_at hl 1 rfl) ?_
          refine g_Wire_sent (a := w) (v := sn) C hw hW2.1 in_X6 (by decide +kernel) hW2.2.2.1 dX6_flipSent_21 ?_
          refine lv_iload_n hx hb dX6_flipSent_24 rfl (lv_at hl 0 rfl) ?_
          refine zald_I (a := sn) C hw hW2.2.2.2.2.2.1 hW2.2.2.2.2.2.2.1 (vp_in_nI (z_lt (n := 64) c16 (by omega) (by omega)) (by decide)) dX6_flipSent_25 ?_
          refine zcV_v (As := [.int (zR S2 22 sn ((nI i)).toNatClampNeg)]) (rest := []) (n9 := 1) (b := w) C hw (c_X6_flipAt l D y base S2 w tk sn (zR S2 22 sn ((nI i)).toNatClampNeg) hW2) gX6_flipSent_X6_flipAt rfl (by decide +kernel) ⟨⟨rfl, rfl⟩, Nat.le_of_ble_eq_true rfl, Nat.le_of_ble_eq_true rfl⟩ hW2.1 ⟨by decide, by decide⟩ rfl rfl hl.1 rfl (Nat.le_of_ble_eq_true rfl) ⟨Nat.le_of_ble_eq_true rfl, Nat.le_of_ble_eq_true rfl⟩ dX6_flipSent_26 (fun S26 H locs hp26 hw => ?_)
          refine lv_iinc (v := (nI (i + 1))) (lv' := [(1, .int (nI (i + 1))), (0, .ref w)]) hx hb dX6_flipSent_29 hl (k := 0) rfl (nI_1 _) (by decide) rfl (fun ls hl => ?_)
          refine lv_goto (tgt := 2) hx hb dX6_flipSent_32 (by decide) ?_
          have hik := z_lt (n := k) c7 (by omega) (by omega)
          rw [nI_clamp (by omega), hsn] at hp26
          obtain ⟨n, hn, hrk, hlv⟩ := h2
          obtain ⟨n2, hn2, hrk2, hlv2, -, -⟩ := hrk.flip (by omega) (hrg i hik) hp26.2
          exact ih_1 (i + 1) S26 _ _ _ (by omega) (by omega) (hf.tr hp26.1) ⟨n2, by omega, hrk2, fun t => by rw [hlv2, hlv, zod_cu, Bool.xor_assoc]⟩ hw (lv_sub hl [0, 1] rfl)
  exact lp_2 _ 0 S _ _ _ (Nat.lt_succ_self _) (Nat.zero_le _) zFlp.rf ⟨n0, Nat.le_refl _, h0, fun t => (Bool.xor_false _).symm⟩ hw (lv_sub hl [0, 1] rfl)

set_option maxHeartbeats 4000000 in
set_option maxRecDepth 100000 in
/-- X6_takesSent -/
theorem c_X6_takesSent_g (l : Launch) (D : va_G) (y : Nat → ClassId) (base : Nat) (S : zS) (w : Nat) (tk : Nat) (sn : Nat) (k : Nat) (n0 : Nat) (hW : zWire S w tk sn) (h164 : zI S 164 w = nI k) (hk64 : k ≤ 64) (h161 : zI S 161 w = nI n0) (hn0 : n0 ≤ 300) : zMi l yX6_takesSent wsX6_takesSent ({ frames := 2, cells := 0, slots := 0, locals := 45 }) [.ref w] D y base S (fun (r : Int32) (S1 : zS) => ((¬ r = 0 ↔ (∀ j, j < k → zR S 22 sn j ≤ 9999) ∧ (n0 : Int) + zsm (fun j => zwHas S w tk (zR S 22 sn j)) k ≤ 300) ∧ (r = 0 ∨ r = 1)) ∧ S1 = S) 0 0 := by
  refine zMet_of (cc := cX6_takesSent) (maxL := 3) (ret := (some .boolean)) (own := RX6) (by decide +kernel) rfl rfl (Nat.le_of_ble_eq_true rfl) ?_
  intro p e s m args below meth c ls C hr hlocks hnm hw hl
  have hx := C.1
  have hb := C.2.1
  have hown := C.2.2.2.1
  have hts := C.2.2.2.2
  have hl : lv_has ls 3 [(0, .ref w)] := hl
  have in_X6 : ∀ w ∈ wsX60, w ∈ wsX6_takesSent := by decide +kernel
  refine lv_aload_n hx hb dX6_takesSent_0 rfl (lv_at hl 0 rfl) ?_
  refine g_Wire_count (a := w) (v := (nI n0)) C hw hW.1 in_X6 (by decide +kernel) h161 dX6_takesSent_1 ?_
  refine lv_istore_n (lv' := [(1, .int (nI n0)), (0, .ref w)]) hx hb dX6_takesSent_4 rfl hl (by decide) rfl (fun ls hl => ?_)
  refine lv_iconst (v := 0) hx hb dX6_takesSent_5 (by decide) ?_
  refine lv_istore_n (lv' := [(2, .int 0), (1, .int (nI n0)), (0, .ref w)]) hx hb dX6_takesSent_6 rfl hl (by decide) rfl (fun ls hl => ?_)
  have lp_2 : ∀ (n9 : Nat) (i : Nat) (a : Int32) (H : Heap) (locs : List Loc) (ls : Array Slot), 64 - i < n9 → (i ≤ k) → (∀ j, j < i → zR S 22 sn j ≤ 9999) → (a.toInt = (n0 : Int) + zsm (fun j => zwHas S w tk (zR S 22 sn j)) i) → zW D y base S s H locs → lv_has ls 3 [(1, .int a), (2, .int (nI i)), (0, .ref w)] → W p l e (headSpec wsX6_takesSent ({ frames := 2, cells := 0, slots := 0, locals := 45 })).room s m args below meth c H locs 0 0 (MQ below (va_Qi (fun (r : Int32) (S1 : zS) => ((¬ r = 0 ↔ (∀ j, j < k → zR S 22 sn j ≤ 9999) ∧ (n0 : Int) + zsm (fun j => zwHas S w tk (zR S 22 sn j)) k ≤ 300) ∧ (r = 0 ∨ r = 1)) ∧ S1 = S) (zPost D y base) (zA base)) args s 0 0 (zA base)) (F0 m 7 ls []) := by
    intro n9
    induction n9 with
    | zero =>
      intro i a H locs ls hn9
      exact absurd hn9 (Nat.not_lt_zero _)
    | succ n9 ih_1 =>
      intro i a H locs ls hn9 hi hj ha hw hl
      refine lv_iload_n hx hb dX6_takesSent_7 rfl (lv_at hl 1 rfl) ?_
      refine lv_aload_n hx hb dX6_takesSent_8 rfl (lv_at hl 2 rfl) ?_
      refine g_Wire_sentCount (a := w) (v := (nI k)) C hw hW.1 in_X6 (by decide +kernel) h164 dX6_takesSent_9 ?_
      refine lv_icmp_ge (tgt := 65) hx hb dX6_takesSent_12 (by decide) (fun c12 => ?_) (fun c12 => ?_)
      · refine lv_iload_n hx hb dX6_takesSent_65 rfl (lv_at hl 0 rfl) ?_
        refine lv_sipush (v := 300) hx hb dX6_takesSent_66 (by decide) ?_
        refine lv_icmp_gt (tgt := 76) hx hb dX6_takesSent_69 (by decide) (fun c69 => ?_) (fun c69 => ?_)
        · refine lv_iconst (v := 0) hx hb dX6_takesSent_76 (by decide) ?_
          exact zri C hw hr hlocks (by decide) (by have e : i = k := (by have := z_ge (n := k) c12 (by omega) (by omega); omega); subst e; have h9 := c69; have e3 : (300 : Int32).toInt = 300 := rfl; simp only [gt_iff_lt, Int32.lt_iff_toInt_lt, Int32.le_iff_toInt_le] at h9; exact ⟨⟨⟨fun g => absurd rfl g, fun g => by have := g.2; omega⟩, Or.inl rfl⟩, rfl⟩) ⟨Nat.le_of_ble_eq_true rfl, Nat.le_of_ble_eq_true rfl⟩ dX6_takesSent_77
        · refine lv_iconst (v := 1) hx hb dX6_takesSent_72 (by decide) ?_
          refine lv_goto (tgt := 77) hx hb dX6_takesSent_73 (by decide) ?_
          exact zri C hw hr hlocks (by decide) (by have e : i = k := (by have := z_ge (n := k) c12 (by omega) (by omega); omega); subst e; have h9 := c69; have e3 : (300 : Int32).toInt = 300 := rfl; simp only [gt_iff_lt, Int32.lt_iff_toInt_lt, Int32.le_iff_toInt_le] at h9; exact ⟨⟨⟨fun _ => ⟨hj, by omega⟩, fun _ => by decide⟩, Or.inr rfl⟩, rfl⟩) ⟨Nat.le_of_ble_eq_true rfl, Nat.le_of_ble_eq_true rfl⟩ dX6_takesSent_77
      · refine lv_iload_n hx hb dX6_takesSent_15 rfl (lv_at hl 1 rfl) ?_
        refine lv_aload_n hx hb dX6_takesSent_16 rfl (lv_at hl 2 rfl) ?_
        refine g_Wire_sent (a := w) (v := sn) C hw hW.1 in_X6 (by decide +kernel) hW.2.2.1 dX6_takesSent_17 ?_
        refine zalen (a := sn) (v := 64) C hw hW.2.2.2.2.2.1 (by decide) (t0 := 1) rfl (zlen hW.2.2.2.2.2.2.1 rfl) dX6_takesSent_20 ?_
        refine lv_icmp_ge (tgt := 65) hx hb dX6_takesSent_21 (by decide) (fun c21 => (show False from (by have := z_lt (n := k) c12 (by omega) (by omega); have := z_ge (n := 64) c21 (by omega) (by omega); omega)).elim) (fun c21 => ?_)
        refine lv_aload_n hx hb dX6_takesSent_24 rfl (lv_at hl 2 rfl) ?_
        refine g_Wire_sent (a := w) (v := sn) C hw hW.1 in_X6 (by decide +kernel) hW.2.2.1 dX6_takesSent_25 ?_
        refine lv_iload_n hx hb dX6_takesSent_28 rfl (lv_at hl 1 rfl) ?_
        refine zald_I (a := sn) C hw hW.2.2.2.2.2.1 hW.2.2.2.2.2.2.1 (vp_in_nI (z_lt (n := 64) c21 (by omega) (by omega)) (by decide)) dX6_takesSent_29 ?_
        refine lv_sipush (v := 9999) hx hb dX6_takesSent_30 (by decide) ?_
        refine lv_icmp_le (tgt := 38) hx hb dX6_takesSent_33 (by decide) (fun c33 => ?_) (fun c33 => ?_)
        · refine lv_iload_n hx hb dX6_takesSent_38 rfl (lv_at hl 0 rfl) ?_
          refine lv_aload_n hx hb dX6_takesSent_39 rfl (lv_at hl 2 rfl) ?_
          refine lv_aload_n hx hb dX6_takesSent_40 rfl (lv_at hl 2 rfl) ?_
          refine g_Wire_sent (a := w) (v := sn) C hw hW.1 in_X6 (by decide +kernel) hW.2.2.1 dX6_takesSent_41 ?_
          refine lv_iload_n hx hb dX6_takesSent_44 rfl (lv_at hl 1 rfl) ?_
          refine zald_I (a := sn) C hw hW.2.2.2.2.2.1 hW.2.2.2.2.2.2.1 (vp_in_nI (z_lt (n := 64) c21 (by omega) (by omega)) (by decide)) dX6_takesSent_45 ?_
          refine zcV_i (As := [.int (zR S 22 sn ((nI i)).toNatClampNeg)]) (rest := [.int a]) (n9 := 1) (b := w) C hw (c_X6_hasFlip l D y base S w tk sn (zR S 22 sn ((nI i)).toNatClampNeg) hW) gX6_takesSent_X6_hasFlip rfl (by decide +kernel) ⟨⟨rfl, rfl⟩, Nat.le_of_ble_eq_true rfl, Nat.le_of_ble_eq_true rfl⟩ hW.1 ⟨by decide, by decide⟩ rfl rfl hl.1 rfl (Nat.le_of_ble_eq_true rfl) ⟨Nat.le_of_ble_eq_true rfl, Nat.le_of_ble_eq_true rfl⟩ dX6_takesSent_46 (fun r46 S46 H locs hp46 hw => ?_)
          obtain ⟨rfl, hS9⟩ := hp46
          have hS9 := hS9.symm
          subst hS9
          refine lv_if_eq (tgt := 56) hx hb dX6_takesSent_49 (by decide) (fun c49 => ?_) (fun c49 => ?_)
          · replace c49 := zb0.mp c49
            refine lv_iconst (v := 1) hx hb dX6_takesSent_56 (by decide) ?_
            refine lv_iadd hx hb dX6_takesSent_57 ?_
            refine lv_topi (fun x58 ex58 => ?_)
            refine lv_istore_n (lv' := [(1, .int x58), (2, .int (nI i)), (0, .ref w)]) hx hb dX6_takesSent_58 rfl hl (by decide) rfl (fun ls hl => ?_)
            refine lv_iinc (v := (nI (i + 1))) (lv' := [(2, .int (nI (i + 1))), (1, .int x58), (0, .ref w)]) hx hb dX6_takesSent_59 hl (k := 1) rfl (nI_1 _) (by decide) rfl (fun ls hl => ?_)
            refine lv_goto (tgt := 7) hx hb dX6_takesSent_62 (by decide) ?_
            have hik := z_lt (n := k) c12 (by omega) (by omega)
            rw [nI_clamp (by omega)] at c33 c49
            exact ih_1 (i + 1) (x58) _ _ _ (by omega) (by omega) (fun j h => by rcases Nat.lt_or_ge j i with q | q; exact hj j q; rw [show j = i by omega]; exact c33) (by rw [ex58]; exact zsm_no (p := (fun j => zwHas S w tk (zR S 22 sn j))) ha (by omega) (by omega) c49) hw (lv_sub hl [1, 0, 2] rfl)
          · replace c49 := zb1.mp c49
            refine lv_iconst (v := (-1)) hx hb dX6_takesSent_52 (by decide) ?_
            refine lv_goto (tgt := 57) hx hb dX6_takesSent_53 (by decide) ?_
            refine lv_iadd hx hb dX6_takesSent_57 ?_
            refine lv_topi (fun x58 ex58 => ?_)
            refine lv_istore_n (lv' := [(1, .int x58), (2, .int (nI i)), (0, .ref w)]) hx hb dX6_takesSent_58 rfl hl (by decide) rfl (fun ls hl => ?_)
            refine lv_iinc (v := (nI (i + 1))) (lv' := [(2, .int (nI (i + 1))), (1, .int x58), (0, .ref w)]) hx hb dX6_takesSent_59 hl (k := 1) rfl (nI_1 _) (by decide) rfl (fun ls hl => ?_)
            refine lv_goto (tgt := 7) hx hb dX6_takesSent_62 (by decide) ?_
            have hik := z_lt (n := k) c12 (by omega) (by omega)
            rw [nI_clamp (by omega)] at c33 c49
            exact ih_1 (i + 1) (x58) _ _ _ (by omega) (by omega) (fun j h => by rcases Nat.lt_or_ge j i with q | q; exact hj j q; rw [show j = i by omega]; exact c33) (by rw [ex58]; exact zsm_yes (p := (fun j => zwHas S w tk (zR S 22 sn j))) ha (by omega) (by omega) c49) hw (lv_sub hl [1, 0, 2] rfl)
        · refine lv_iconst (v := 0) hx hb dX6_takesSent_36 (by decide) ?_
          exact zri C hw hr hlocks (by decide) ⟨⟨⟨fun h => absurd rfl h, fun g => by have h9 := g.1 i (z_lt (n := k) c12 (by omega) (by omega)); rw [nI_clamp (by omega)] at c33; exact absurd h9 c33⟩, Or.inl rfl⟩, rfl⟩ ⟨Nat.le_of_ble_eq_true rfl, Nat.le_of_ble_eq_true rfl⟩ dX6_takesSent_37
  exact lp_2 _ 0 (nI n0) _ _ _ (Nat.lt_succ_self _) (Nat.zero_le _) (fun j h => absurd h (Nat.not_lt_zero j)) (by rw [nI_toInt (by omega)]; rfl) hw (lv_sub hl [1, 0, 2] rfl)

set_option maxHeartbeats 4000000 in
set_option maxRecDepth 100000 in
/-- X6_send -/
theorem c_X6_send_p (l : Launch) (D : va_G) (y : Nat → ClassId) (base : Nat) (S : zS) (w : Nat) (tk : Nat) (sn : Nat) (S0 : zS) (p0 : Int32) (p1 : Int32) (b : Bool) (P : Int → Bool) (cur : Int32) (lo : Int) (nxt : Int) (n : Nat) (hW : zWire S w tk sn) (hz : p0 = 0 ∨ p0 = 1) (hs : zSp S0 S w sn b P cur lo nxt n) (hn : n < 64) (ht : nxt ≤ p1.toInt) (hlo : lo ≤ p1.toInt) : zMv l yX6_send wsX6_send ({ frames := 1, cells := 0, slots := 0, locals := 22 }) [.ref w, .int p0, .int p1] D y base S (fun (S1 : zS) => zSp S0 S1 w sn b (fun t => if p1.toInt ≤ t then decide (p0 = 1) else P t) p0 lo (p1.toInt + 1) (n + 1) ∧ zChg S S1 w sn) 0 0 := by
  refine zMet_of (cc := cX6_send) (maxL := 3) (ret := none) (own := RX6) (by decide +kernel) rfl rfl (Nat.le_of_ble_eq_true rfl) ?_
  intro p e s m args below meth c ls C hr hlocks hnm hw hl
  have hx := C.1
  have hb := C.2.1
  have hown := C.2.2.2.1
  have hts := C.2.2.2.2
  have hl : lv_has ls 3 [(0, .ref w), (1, .int p0), (2, .int p1)] := hl
  have in_X6 : ∀ w ∈ wsX60, w ∈ wsX6_send := by decide +kernel
  have hcur : zI S 163 w = cur := hs.2.1
  obtain ⟨k, hkn, hk, hkl⟩ : ∃ k, k ≤ n ∧ zI S 164 w = nI k ∧ ∀ j, j < k → (zR S 22 sn j).toInt < nxt := by obtain ⟨-, -, -, -, k, h1, h2, -, h3⟩ := hs; exact ⟨k, h1, h2, fun j hj => (h3 j hj).2⟩
  refine lv_iload_n hx hb dX6_send_0 rfl (lv_at hl 1 rfl) ?_
  refine lv_aload_n hx hb dX6_send_1 rfl (lv_at hl 0 rfl) ?_
  refine g_Wire_isSentHigh (a := w) (v := cur) C hw hW.1 in_X6 (by decide +kernel) hcur dX6_send_2 ?_
  refine lv_icmp_eq (tgt := 18) hx hb dX6_send_5 (by decide) (fun c5 => ?_) (fun c5 => ?_)
  · exact zrv C hw hr hlocks ⟨by rw [c5]; exact hs.same ht, zChg.rf⟩ ⟨Nat.le_of_ble_eq_true rfl, Nat.le_of_ble_eq_true rfl⟩ dX6_send_18
  · refine lv_aload_n hx hb dX6_send_8 rfl (lv_at hl 0 rfl) ?_
    refine lv_iload_n hx hb dX6_send_9 rfl (lv_at hl 1 rfl) ?_
    refine p_Wire_isSentHigh (a := w) (v := p0) C hw hW.1 in_X6 (by decide +kernel) (z01_nf hz) dX6_send_10 (fun H locs hw => ?_)
    refine lv_aload_n hx hb dX6_send_13 rfl (lv_at hl 0 rfl) ?_
    refine lv_iload_n hx hb dX6_send_14 rfl (lv_at hl 2 rfl) ?_
    refine zcV_v (As := [.int p1]) (rest := []) (n9 := 1) (b := w) C hw (c_X6_addSent l D y base (zsI S 163 w p0) w tk sn p1 k hW (zI_t (by decide) hk) (by omega) (by rcases Nat.eq_zero_or_pos k with h | h; exact Or.inl h; right; intro e; have h2 := hkl (k - 1) (by omega); rw [show zR S 22 sn (k - 1) = p1 from e] at h2; omega)) gX6_send_X6_addSent rfl (by decide +kernel) ⟨⟨rfl, rfl⟩, Nat.le_of_ble_eq_true rfl, Nat.le_of_ble_eq_true rfl⟩ hW.1 ⟨by decide, by decide⟩ rfl rfl hl.1 rfl (Nat.le_of_ble_eq_true rfl) ⟨Nat.le_of_ble_eq_true rfl, Nat.le_of_ble_eq_true rfl⟩ dX6_send_15 (fun S15 H locs hp15 hw => ?_)
    obtain rfl := hp15
    exact zrv C hw hr hlocks ⟨hs.step hz c5 hk hkn hn ht hlo, zChg.tr (zChg.I (Or.inl rfl)) (zChg.tr zChg.R (zChg.I (Or.inr rfl)))⟩ ⟨Nat.le_of_ble_eq_true rfl, Nat.le_of_ble_eq_true rfl⟩ dX6_send_18

set_option maxHeartbeats 4000000 in
set_option maxRecDepth 100000 in
/-- X0_addLevel -/
theorem c_X0_addLevel (l : Launch) (D : va_G) (y : Nat → ClassId) (base : Nat) (S : zS) (c0 : Nat) (lv : Nat) (i : Nat) (p1 : Int32) (mm : Nat) (hC : zCap S c0 lv) (hm : zI S 64 c0 = nI mm) (hm4 : mm ≤ 400) (hin : i < mm) : zMv l yX0_addLevel wsX0_addLevel ({ frames := 1, cells := 0, slots := 0, locals := 21 }) [.ref c0, .int (nI i), .int p1] D y base S (fun (S1 : zS) => S1 = zsR S 22 lv (upd (zR S 22 lv) i (zR S 22 lv i ||| p1))) 0 0 := by
  refine zMet_of (cc := cX0_addLevel) (maxL := 3) (ret := none) (own := RX0) (by decide +kernel) rfl rfl (Nat.le_of_ble_eq_true rfl) ?_
  intro p e s m args below meth c ls C hr hlocks hnm hw hl
  have hx := C.1
  have hb := C.2.1
  have hown := C.2.2.2.1
  have hts := C.2.2.2.2
  have hl : lv_has ls 3 [(0, .ref c0), (1, .int (nI i)), (2, .int p1)] := hl
  have in_X0 : ∀ w ∈ wsX00, w ∈ wsX0_addLevel := by decide +kernel
  refine lv_aload_n hx hb dX0_addLevel_0 rfl (lv_at hl 0 rfl) ?_
  refine lv_iload_n hx hb dX0_addLevel_1 rfl (lv_at hl 1 rfl) ?_
  refine zcV_i (As := [.int (nI i)]) (rest := []) (n9 := 1) (b := c0) C hw (c_X0_has l D y base S c0 lv (nI i) hC) gX0_addLevel_X0_has rfl (by decide +kernel) ⟨⟨rfl, rfl⟩, Nat.le_of_ble_eq_true rfl, Nat.le_of_ble_eq_true rfl⟩ hC.1 ⟨by decide, by decide⟩ rfl rfl hl.1 rfl (Nat.le_of_ble_eq_true rfl) ⟨Nat.le_of_ble_eq_true rfl, Nat.le_of_ble_eq_true rfl⟩ dX0_addLevel_2 (fun r2 S2 H locs hp2 hw => ?_)
  obtain ⟨rfl, hS9⟩ := hp2
  have hS9 := hS9.symm
  subst hS9
  refine lv_if_eq (tgt := 18) hx hb dX0_addLevel_5 (by decide) (fun c5 => (show False from (zb0.mp c5 ⟨nI_pos' (by omega), (by rw [hm]; exact nI_lt (by omega) (by omega)), nI_lt (b := 400) (by omega) (by decide)⟩)).elim) (fun c5 => ?_)
  replace c5 := zb1.mp c5
  refine lv_aload_n hx hb dX0_addLevel_8 rfl (lv_at hl 0 rfl) ?_
  refine g_Cap_levels (a := c0) (v := lv) C hw hC.1 in_X0 (by decide +kernel) hC.2.1 dX0_addLevel_9 ?_
  refine lv_iload_n hx hb dX0_addLevel_12 rfl (lv_at hl 1 rfl) ?_
  refine lv_dup2_11 hx hb dX0_addLevel_13 rfl rfl ?_
  refine zald_I (a := lv) C hw hC.2.2.1 hC.2.2.2 (vp_in_nI (by omega) (by decide)) dX0_addLevel_14 ?_
  refine lv_iload_n hx hb dX0_addLevel_15 rfl (lv_at hl 2 rfl) ?_
  refine lv_ior hx hb dX0_addLevel_16 ?_
  refine zast_I (a := lv) C hw hC.2.2.1 hC.2.2.2 (vp_in_nI (by omega) (by decide)) dX0_addLevel_17 (fun H locs hw => ?_)
  exact zrv C hw hr hlocks (by rw [nI_clamp (by omega)]) ⟨Nat.le_of_ble_eq_true rfl, Nat.le_of_ble_eq_true rfl⟩ dX0_addLevel_18

set_option maxHeartbeats 4000000 in
set_option maxRecDepth 100000 in
/-- X0_isHighAt -/
theorem c_X0_isHighAt (l : Launch) (D : va_G) (y : Nat → ClassId) (base : Nat) (S : zS) (c0 : Nat) (lv : Nat) (mm : Nat) (M : Nat → Nat → Bool) (w : Nat) (i : Nat) (hC : zCap S c0 lv) (hM : zCp S c0 lv mm M) (hw4 : w < 4) (him : i < mm) : zMi l yX0_isHighAt wsX0_isHighAt ({ frames := 1, cells := 0, slots := 0, locals := 21 }) [.ref c0, .int (nI w), .int (nI i)] D y base S (fun (r : Int32) (S1 : zS) => r = zb (M w i = true) ∧ S1 = S) 0 0 := by
  refine zMet_of (cc := cX0_isHighAt) (maxL := 3) (ret := (some .boolean)) (own := RX0) (by decide +kernel) rfl rfl (Nat.le_of_ble_eq_true rfl) ?_
  intro p e s m args below meth c ls C hr hlocks hnm hw hl
  have hx := C.1
  have hb := C.2.1
  have hown := C.2.2.2.1
  have hts := C.2.2.2.2
  have hl : lv_has ls 3 [(0, .ref c0), (1, .int (nI w)), (2, .int (nI i))] := hl
  have in_X0 : ∀ w ∈ wsX00, w ∈ wsX0_isHighAt := by decide +kernel
  have hm4 := hM.2.1
  refine lv_aload_n hx hb dX0_isHighAt_0 rfl (lv_at hl 0 rfl) ?_
  refine lv_iload_n hx hb dX0_isHighAt_1 rfl (lv_at hl 2 rfl) ?_
  refine zcV_i (As := [.int (nI i)]) (rest := []) (n9 := 1) (b := c0) C hw (c_X0_has l D y base S c0 lv (nI i) hC) gX0_isHighAt_X0_has rfl (by decide +kernel) ⟨⟨rfl, rfl⟩, Nat.le_of_ble_eq_true rfl, Nat.le_of_ble_eq_true rfl⟩ hC.1 ⟨by decide, by decide⟩ rfl rfl hl.1 rfl (Nat.le_of_ble_eq_true rfl) ⟨Nat.le_of_ble_eq_true rfl, Nat.le_of_ble_eq_true rfl⟩ dX0_isHighAt_2 (fun r2 S2 H locs hp2 hw => ?_)
  obtain ⟨rfl, hS9⟩ := hp2
  have hS9 := hS9.symm
  subst hS9
  refine lv_if_eq (tgt := 26) hx hb dX0_isHighAt_5 (by decide) (fun c5 => (show False from (zb0.mp c5 ⟨nI_pos' (by omega), (by rw [hM.1]; exact nI_lt (by omega) (by omega)), nI_lt (b := 400) (by omega) (by decide)⟩)).elim) (fun c5 => ?_)
  replace c5 := zb1.mp c5
  refine lv_aload_n hx hb dX0_isHighAt_8 rfl (lv_at hl 0 rfl) ?_
  refine g_Cap_levels (a := c0) (v := lv) C hw hC.1 in_X0 (by decide +kernel) hC.2.1 dX0_isHighAt_9 ?_
  refine lv_iload_n hx hb dX0_isHighAt_12 rfl (lv_at hl 2 rfl) ?_
  refine zald_I (a := lv) C hw hC.2.2.1 hC.2.2.2 (vp_in_nI (by omega) (by decide)) dX0_isHighAt_13 ?_
  refine lv_iload_n hx hb dX0_isHighAt_14 rfl (lv_at hl 1 rfl) ?_
  refine lv_ishr hx hb dX0_isHighAt_15 ?_
  refine lv_iconst (v := 1) hx hb dX0_isHighAt_16 (by decide) ?_
  refine lv_iand hx hb dX0_isHighAt_17 ?_
  refine lv_iconst (v := 1) hx hb dX0_isHighAt_18 (by decide) ?_
  refine lv_icmp_ne (tgt := 26) hx hb dX0_isHighAt_19 (by decide) (fun c19 => ?_) (fun c19 => ?_)
  · refine lv_iconst (v := 0) hx hb dX0_isHighAt_26 (by decide) ?_
    exact zri C hw hr hlocks (by decide) ⟨zb_f (fun g => c19 ((hM.hi hw4 him).mpr g)), rfl⟩ ⟨Nat.le_of_ble_eq_true rfl, Nat.le_of_ble_eq_true rfl⟩ dX0_isHighAt_27
  · refine lv_iconst (v := 1) hx hb dX0_isHighAt_22 (by decide) ?_
    refine lv_goto (tgt := 27) hx hb dX0_isHighAt_23 (by decide) ?_
    exact zri C hw hr hlocks (by decide) ⟨zb_t ((hM.hi hw4 him).mp c19), rfl⟩ ⟨Nat.le_of_ble_eq_true rfl, Nat.le_of_ble_eq_true rfl⟩ dX0_isHighAt_27

set_option maxHeartbeats 4000000 in
set_option maxRecDepth 100000 in
/-- X0_risesAt -/
theorem c_X0_risesAt (l : Launch) (D : va_G) (y : Nat → ClassId) (base : Nat) (S : zS) (c0 : Nat) (lv : Nat) (mm : Nat) (M : Nat → Nat → Bool) (w : Nat) (i : Nat) (hC : zCap S c0 lv) (hM : zCp S c0 lv mm M) (hw4 : w < 4) (him : i < mm) (h1i : 1 ≤ i) : zMi l yX0_risesAt wsX0_risesAt ({ frames := 2, cells := 0, slots := 0, locals := 43 }) [.ref c0, .int (nI w), .int (nI i)] D y base S (fun (r : Int32) (S1 : zS) => r = zb (M w i = true ∧ M w (i - 1) = false) ∧ S1 = S) 0 0 := by
  refine zMet_of (cc := cX0_risesAt) (maxL := 3) (ret := (some .boolean)) (own := RX0) (by decide +kernel) rfl rfl (Nat.le_of_ble_eq_true rfl) ?_
  intro p e s m args below meth c ls C hr hlocks hnm hw hl
  have hx := C.1
  have hb := C.2.1
  have hown := C.2.2.2.1
  have hts := C.2.2.2.2
  have hl : lv_has ls 3 [(0, .ref c0), (1, .int (nI w)), (2, .int (nI i))] := hl
  have hm4 := hM.2.1
  refine lv_iload_n hx hb dX0_risesAt_0 rfl (lv_at hl 2 rfl) ?_
  refine lv_if_le (tgt := 28) hx hb dX0_risesAt_1 (by decide) (fun c1 => (show False from (nI_nle (by omega) (by omega) c1)).elim) (fun c1 => ?_)
  refine lv_aload_n hx hb dX0_risesAt_4 rfl (lv_at hl 0 rfl) ?_
  refine lv_iload_n hx hb dX0_risesAt_5 rfl (lv_at hl 1 rfl) ?_
  refine lv_iload_n hx hb dX0_risesAt_6 rfl (lv_at hl 2 rfl) ?_
  refine zcV_i (As := [.int (nI w), .int (nI i)]) (rest := []) (n9 := 2) (b := c0) C hw (c_X0_isHighAt l D y base S c0 lv _ _ w i hC (by first | assumption | decide | grind) (by first | assumption | decide | grind) (by first | assumption | decide | grind)) gX0_risesAt_X0_isHighAt rfl (by decide +kernel) ⟨⟨rfl, rfl⟩, Nat.le_of_ble_eq_true rfl, Nat.le_of_ble_eq_true rfl⟩ hC.1 ⟨by decide, by decide⟩ rfl rfl hl.1 rfl (Nat.le_of_ble_eq_true rfl) ⟨Nat.le_of_ble_eq_true rfl, Nat.le_of_ble_eq_true rfl⟩ dX0_risesAt_7 (fun r7 S7 H locs hp7 hw => ?_)
  obtain ⟨rfl, hS9⟩ := hp7
  have hS9 := hS9.symm
  subst hS9
  refine lv_if_eq (tgt := 28) hx hb dX0_risesAt_10 (by decide) (fun c10 => ?_) (fun c10 => ?_)
  · replace c10 := zb0.mp c10
    refine lv_iconst (v := 0) hx hb dX0_risesAt_28 (by decide) ?_
    exact zri C hw hr hlocks (by decide) ⟨zb_f (by grind), rfl⟩ ⟨Nat.le_of_ble_eq_true rfl, Nat.le_of_ble_eq_true rfl⟩ dX0_risesAt_29
  · replace c10 := zb1.mp c10
    refine lv_aload_n hx hb dX0_risesAt_13 rfl (lv_at hl 0 rfl) ?_
    refine lv_iload_n hx hb dX0_risesAt_14 rfl (lv_at hl 1 rfl) ?_
    refine lv_iload_n hx hb dX0_risesAt_15 rfl (lv_at hl 2 rfl) ?_
    refine lv_iconst (v := 1) hx hb dX0_risesAt_16 (by decide) ?_
    refine lv_isub hx hb dX0_risesAt_17 ?_
    refine zrd (x := (nI (i - 1))) (pk_sub (b := 1) (by omega)) ?_
    refine zcV_i (As := [.int (nI w), .int (nI (i - 1))]) (rest := []) (n9 := 2) (b := c0) C hw (c_X0_isHighAt l D y base S c0 lv _ _ w (i - 1) hC (by first | assumption | decide | grind) (by first | assumption | decide | grind) (by first | assumption | decide | grind)) gX0_risesAt_X0_isHighAt rfl (by decide +kernel) ⟨⟨rfl, rfl⟩, Nat.le_of_ble_eq_true rfl, Nat.le_of_ble_eq_true rfl⟩ hC.1 ⟨by decide, by decide⟩ rfl rfl hl.1 rfl (Nat.le_of_ble_eq_true rfl) ⟨Nat.le_of_ble_eq_true rfl, Nat.le_of_ble_eq_true rfl⟩ dX0_risesAt_18 (fun r18 S18 H locs hp18 hw => ?_)
    obtain ⟨rfl, hS9⟩ := hp18
    have hS9 := hS9.symm
    subst hS9
    refine lv_if_ne (tgt := 28) hx hb dX0_risesAt_21 (by decide) (fun c21 => ?_) (fun c21 => ?_)
    · replace c21 := zb1.mp c21
      refine lv_iconst (v := 0) hx hb dX0_risesAt_28 (by decide) ?_
      exact zri C hw hr hlocks (by decide) ⟨zb_f (by grind), rfl⟩ ⟨Nat.le_of_ble_eq_true rfl, Nat.le_of_ble_eq_true rfl⟩ dX0_risesAt_29
    · replace c21 := zb0.mp c21
      refine lv_iconst (v := 1) hx hb dX0_risesAt_24 (by decide) ?_
      refine lv_goto (tgt := 29) hx hb dX0_risesAt_25 (by decide) ?_
      exact zri C hw hr hlocks (by decide) ⟨zb_t (by grind), rfl⟩ ⟨Nat.le_of_ble_eq_true rfl, Nat.le_of_ble_eq_true rfl⟩ dX0_risesAt_29

set_option maxHeartbeats 4000000 in
set_option maxRecDepth 100000 in
/-- X0_fallsAt -/
theorem c_X0_fallsAt (l : Launch) (D : va_G) (y : Nat → ClassId) (base : Nat) (S : zS) (c0 : Nat) (lv : Nat) (mm : Nat) (M : Nat → Nat → Bool) (w : Nat) (i : Nat) (hC : zCap S c0 lv) (hM : zCp S c0 lv mm M) (hw4 : w < 4) (him : i < mm) (h1i : 1 ≤ i) : zMi l yX0_fallsAt wsX0_fallsAt ({ frames := 2, cells := 0, slots := 0, locals := 43 }) [.ref c0, .int (nI w), .int (nI i)] D y base S (fun (r : Int32) (S1 : zS) => r = zb (M w i = false ∧ M w (i - 1) = true) ∧ S1 = S) 0 0 := by
  refine zMet_of (cc := cX0_fallsAt) (maxL := 3) (ret := (some .boolean)) (own := RX0) (by decide +kernel) rfl rfl (Nat.le_of_ble_eq_true rfl) ?_
  intro p e s m args below meth c ls C hr hlocks hnm hw hl
  have hx := C.1
  have hb := C.2.1
  have hown := C.2.2.2.1
  have hts := C.2.2.2.2
  have hl : lv_has ls 3 [(0, .ref c0), (1, .int (nI w)), (2, .int (nI i))] := hl
  have hm4 := hM.2.1
  refine lv_iload_n hx hb dX0_fallsAt_0 rfl (lv_at hl 2 rfl) ?_
  refine lv_if_le (tgt := 28) hx hb dX0_fallsAt_1 (by decide) (fun c1 => (show False from (nI_nle (by omega) (by omega) c1)).elim) (fun c1 => ?_)
  refine lv_aload_n hx hb dX0_fallsAt_4 rfl (lv_at hl 0 rfl) ?_
  refine lv_iload_n hx hb dX0_fallsAt_5 rfl (lv_at hl 1 rfl) ?_
  refine lv_iload_n hx hb dX0_fallsAt_6 rfl (lv_at hl 2 rfl) ?_
  refine zcV_i (As := [.int (nI w), .int (nI i)]) (rest := []) (n9 := 2) (b := c0) C hw (c_X0_isHighAt l D y base S c0 lv _ _ w i hC (by first | assumption | decide | grind) (by first | assumption | decide | grind) (by first | assumption | decide | grind)) gX0_fallsAt_X0_isHighAt rfl (by decide +kernel) ⟨⟨rfl, rfl⟩, Nat.le_of_ble_eq_true rfl, Nat.le_of_ble_eq_true rfl⟩ hC.1 ⟨by decide, by decide⟩ rfl rfl hl.1 rfl (Nat.le_of_ble_eq_true rfl) ⟨Nat.le_of_ble_eq_true rfl, Nat.le_of_ble_eq_true rfl⟩ dX0_fallsAt_7 (fun r7 S7 H locs hp7 hw => ?_)
  obtain ⟨rfl, hS9⟩ := hp7
  have hS9 := hS9.symm
  subst hS9
  refine lv_if_ne (tgt := 28) hx hb dX0_fallsAt_10 (by decide) (fun c10 => ?_) (fun c10 => ?_)
  · replace c10 := zb1.mp c10
    refine lv_iconst (v := 0) hx hb dX0_fallsAt_28 (by decide) ?_
    exact zri C hw hr hlocks (by decide) ⟨zb_f (by grind), rfl⟩ ⟨Nat.le_of_ble_eq_true rfl, Nat.le_of_ble_eq_true rfl⟩ dX0_fallsAt_29
  · replace c10 := zb0.mp c10
    refine lv_aload_n hx hb dX0_fallsAt_13 rfl (lv_at hl 0 rfl) ?_
    refine lv_iload_n hx hb dX0_fallsAt_14 rfl (lv_at hl 1 rfl) ?_
    refine lv_iload_n hx hb dX0_fallsAt_15 rfl (lv_at hl 2 rfl) ?_
    refine lv_iconst (v := 1) hx hb dX0_fallsAt_16 (by decide) ?_
    refine lv_isub hx hb dX0_fallsAt_17 ?_
    refine zrd (x := (nI (i - 1))) (pk_sub (b := 1) (by omega)) ?_
    refine zcV_i (As := [.int (nI w), .int (nI (i - 1))]) (rest := []) (n9 := 2) (b := c0) C hw (c_X0_isHighAt l D y base S c0 lv _ _ w (i - 1) hC (by first | assumption | decide | grind) (by first | assumption | decide | grind) (by first | assumption | decide | grind)) gX0_fallsAt_X0_isHighAt rfl (by decide +kernel) ⟨⟨rfl, rfl⟩, Nat.le_of_ble_eq_true rfl, Nat.le_of_ble_eq_true rfl⟩ hC.1 ⟨by decide, by decide⟩ rfl rfl hl.1 rfl (Nat.le_of_ble_eq_true rfl) ⟨Nat.le_of_ble_eq_true rfl, Nat.le_of_ble_eq_true rfl⟩ dX0_fallsAt_18 (fun r18 S18 H locs hp18 hw => ?_)
    obtain ⟨rfl, hS9⟩ := hp18
    have hS9 := hS9.symm
    subst hS9
    refine lv_if_eq (tgt := 28) hx hb dX0_fallsAt_21 (by decide) (fun c21 => ?_) (fun c21 => ?_)
    · replace c21 := zb0.mp c21
      refine lv_iconst (v := 0) hx hb dX0_fallsAt_28 (by decide) ?_
      exact zri C hw hr hlocks (by decide) ⟨zb_f (by grind), rfl⟩ ⟨Nat.le_of_ble_eq_true rfl, Nat.le_of_ble_eq_true rfl⟩ dX0_fallsAt_29
    · replace c21 := zb1.mp c21
      refine lv_iconst (v := 1) hx hb dX0_fallsAt_24 (by decide) ?_
      refine lv_goto (tgt := 29) hx hb dX0_fallsAt_25 (by decide) ?_
      exact zri C hw hr hlocks (by decide) ⟨zb_t (by grind), rfl⟩ ⟨Nat.le_of_ble_eq_true rfl, Nat.le_of_ble_eq_true rfl⟩ dX0_fallsAt_29

set_option maxHeartbeats 4000000 in
set_option maxRecDepth 100000 in
/-- X0_changesAt -/
theorem c_X0_changesAt (l : Launch) (D : va_G) (y : Nat → ClassId) (base : Nat) (S : zS) (c0 : Nat) (lv : Nat) (mm : Nat) (M : Nat → Nat → Bool) (w : Nat) (i : Nat) (hC : zCap S c0 lv) (hM : zCp S c0 lv mm M) (hw4 : w < 4) (him : i < mm) : zMi l yX0_changesAt wsX0_changesAt ({ frames := 2, cells := 0, slots := 0, locals := 43 }) [.ref c0, .int (nI w), .int (nI i)] D y base S (fun (r : Int32) (S1 : zS) => r = zb (zcg M w i) ∧ S1 = S) 0 0 := by
  refine zMet_of (cc := cX0_changesAt) (maxL := 3) (ret := (some .boolean)) (own := RX0) (by decide +kernel) rfl rfl (Nat.le_of_ble_eq_true rfl) ?_
  intro p e s m args below meth c ls C hr hlocks hnm hw hl
  have hx := C.1
  have hb := C.2.1
  have hown := C.2.2.2.1
  have hts := C.2.2.2.2
  have hl : lv_has ls 3 [(0, .ref c0), (1, .int (nI w)), (2, .int (nI i))] := hl
  have hm4 := hM.2.1
  refine lv_iload_n hx hb dX0_changesAt_0 rfl (lv_at hl 2 rfl) ?_
  refine lv_if_le (tgt := 25) hx hb dX0_changesAt_1 (by decide) (fun c1 => ?_) (fun c1 => ?_)
  · refine lv_iconst (v := 0) hx hb dX0_changesAt_25 (by decide) ?_
    exact zri C hw hr hlocks (by decide) ⟨zb_f (by first | exact fun g => absurd c1 (nI_nle g.1 (by omega)) | exact fun g => g.2 (by have := zb_iff.mp c18; cases h : M w i <;> cases h2 : M w (i - 1) <;> simp_all)), rfl⟩ ⟨Nat.le_of_ble_eq_true rfl, Nat.le_of_ble_eq_true rfl⟩ dX0_changesAt_26
  · have h1i : 1 ≤ i := by rcases Nat.eq_zero_or_pos i with q | q; subst q; exact absurd (by decide) c1; exact q
    refine lv_aload_n hx hb dX0_changesAt_4 rfl (lv_at hl 0 rfl) ?_
    refine lv_iload_n hx hb dX0_changesAt_5 rfl (lv_at hl 1 rfl) ?_
    refine lv_iload_n hx hb dX0_changesAt_6 rfl (lv_at hl 2 rfl) ?_
    refine zcV_i (As := [.int (nI w), .int (nI i)]) (rest := []) (n9 := 2) (b := c0) C hw (c_X0_isHighAt l D y base S c0 lv _ _ w i hC (by first | assumption | decide | grind) (by first | assumption | decide | grind) (by first | assumption | decide | grind)) gX0_changesAt_X0_isHighAt rfl (by decide +kernel) ⟨⟨rfl, rfl⟩, Nat.le_of_ble_eq_true rfl, Nat.le_of_ble_eq_true rfl⟩ hC.1 ⟨by decide, by decide⟩ rfl rfl hl.1 rfl (Nat.le_of_ble_eq_true rfl) ⟨Nat.le_of_ble_eq_true rfl, Nat.le_of_ble_eq_true rfl⟩ dX0_changesAt_7 (fun r7 S7 H locs hp7 hw => ?_)
    obtain ⟨rfl, hS9⟩ := hp7
    have hS9 := hS9.symm
    subst hS9
    refine lv_aload_n hx hb dX0_changesAt_10 rfl (lv_at hl 0 rfl) ?_
    refine lv_iload_n hx hb dX0_changesAt_11 rfl (lv_at hl 1 rfl) ?_
    refine lv_iload_n hx hb dX0_changesAt_12 rfl (lv_at hl 2 rfl) ?_
    refine lv_iconst (v := 1) hx hb dX0_changesAt_13 (by decide) ?_
    refine lv_isub hx hb dX0_changesAt_14 ?_
    refine zrd (x := (nI (i - 1))) (pk_sub (b := 1) (by omega)) ?_
    refine zcV_i (As := [.int (nI w), .int (nI (i - 1))]) (rest := [.int (zb (M w i = true))]) (n9 := 2) (b := c0) C hw (c_X0_isHighAt l D y base S c0 lv _ _ w (i - 1) hC (by first | assumption | decide | grind) (by first | assumption | decide | grind) (by first | assumption | decide | grind)) gX0_changesAt_X0_isHighAt rfl (by decide +kernel) ⟨⟨rfl, rfl⟩, Nat.le_of_ble_eq_true rfl, Nat.le_of_ble_eq_true rfl⟩ hC.1 ⟨by decide, by decide⟩ rfl rfl hl.1 rfl (Nat.le_of_ble_eq_true rfl) ⟨Nat.le_of_ble_eq_true rfl, Nat.le_of_ble_eq_true rfl⟩ dX0_changesAt_15 (fun r15 S15 H locs hp15 hw => ?_)
    obtain ⟨rfl, hS9⟩ := hp15
    have hS9 := hS9.symm
    subst hS9
    refine lv_icmp_eq (tgt := 25) hx hb dX0_changesAt_18 (by decide) (fun c18 => ?_) (fun c18 => ?_)
    · refine lv_iconst (v := 0) hx hb dX0_changesAt_25 (by decide) ?_
      exact zri C hw hr hlocks (by decide) ⟨zb_f (by first | exact fun g => absurd c1 (nI_nle g.1 (by omega)) | exact fun g => g.2 (by have := zb_iff.mp c18; cases h : M w i <;> cases h2 : M w (i - 1) <;> simp_all)), rfl⟩ ⟨Nat.le_of_ble_eq_true rfl, Nat.le_of_ble_eq_true rfl⟩ dX0_changesAt_26
    · refine lv_iconst (v := 1) hx hb dX0_changesAt_21 (by decide) ?_
      refine lv_goto (tgt := 26) hx hb dX0_changesAt_22 (by decide) ?_
      exact zri C hw hr hlocks (by decide) ⟨zb_t ⟨h1i, fun g => c18 (zb_iff.mpr (by rw [g]))⟩, rfl⟩ ⟨Nat.le_of_ble_eq_true rfl, Nat.le_of_ble_eq_true rfl⟩ dX0_changesAt_26

set_option maxHeartbeats 4000000 in
set_option maxRecDepth 100000 in
/-- X6_showIn -/
theorem c_X6_showIn_g (l : Launch) (D : va_G) (y : Nat → ClassId) (base : Nat) (S : zS) (w : Nat) (tk : Nat) (sn : Nat) (c0 : Nat) (lv : Nat) (p0 : Int32) (fr : Nat) (sp : Nat) (n0 : Nat) (mm : Nat) (hW : zWire S w tk sn) (hC : zCap S c0 lv) (hrk : zRk S w tk n0) (hn0 : n0 ≤ 364) (h160 : zI S 160 w = 0 ∨ zI S 160 w = 1) (hm : zI S 64 c0 = nI mm) (hm4 : mm ≤ 400) (hlt : tk ≠ lv) (hfr : fr ≤ 9999) (hsp : sp ≤ 99) : zMv l yX6_showIn wsX6_showIn ({ frames := 2, cells := 0, slots := 0, locals := 43 }) [.ref w, .ref c0, .int p0, .int (nI fr), .int (nI sp)] D y base S (fun (S1 : zS) => S1 = zsR S 22 lv (zsg (zR S 22 lv) p0 (fun j => zlv S w tk n0 ((fr + j * sp : Nat) : Int)) mm)) 0 0 := by
  refine zMet_of (cc := cX6_showIn) (maxL := 9) (ret := none) (own := RX6) (by decide +kernel) rfl rfl (Nat.le_of_ble_eq_true rfl) ?_
  intro p e s m args below meth c ls C hr hlocks hnm hw hl
  have hx := C.1
  have hb := C.2.1
  have hown := C.2.2.2.1
  have hts := C.2.2.2.2
  have hl : lv_has ls 9 [(0, .ref w), (1, .ref c0), (2, .int p0), (3, .int (nI fr)), (4, .int (nI sp))] := hl
  have in_X0 : ∀ w ∈ wsX00, w ∈ wsX6_showIn := by decide +kernel
  have in_X6 : ∀ w ∈ wsX60, w ∈ wsX6_showIn := by decide +kernel
  refine lv_aload_n hx hb dX6_showIn_0 rfl (lv_at hl 0 rfl) ?_
  refine g_Wire_isHighFirst (a := w) (v := (zI S 160 w)) C hw hW.1 in_X6 (by decide +kernel) rfl dX6_showIn_1 ?_
  refine zrd (x := (zlb (zhl S w 0))) (zhl_0 h160) ?_
  refine lv_istore (lv' := [(5, .int (zlb (zhl S w 0))), (0, .ref w), (1, .ref c0), (2, .int p0), (3, .int (nI fr)), (4, .int (nI sp))]) hx hb dX6_showIn_4 hl (by decide) rfl (fun ls hl => ?_)
  refine lv_iconst (v := 0) hx hb dX6_showIn_6 (by decide) ?_
  refine lv_istore (lv' := [(6, .int 0), (5, .int (zlb (zhl S w 0))), (0, .ref w), (1, .ref c0), (2, .int p0), (3, .int (nI fr)), (4, .int (nI sp))]) hx hb dX6_showIn_7 hl (by decide) rfl (fun ls hl => ?_)
  refine lv_iconst (v := 0) hx hb dX6_showIn_9 (by decide) ?_
  refine lv_istore (lv' := [(7, .int 0), (6, .int 0), (5, .int (zlb (zhl S w 0))), (0, .ref w), (1, .ref c0), (2, .int p0), (3, .int (nI fr)), (4, .int (nI sp))]) hx hb dX6_showIn_10 hl (by decide) rfl (fun ls hl => ?_)
  rw [← zsR_self S 22 lv, ← zsg_0 (zR S 22 lv) p0 (fun j => zlv S w tk n0 ((fr + j * sp : Nat) : Int))] at hw
  have lp_2 : ∀ (n9 : Nat) (i : Nat) (nx : Nat) (H : Heap) (locs : List Loc) (ls : Array Slot), 401 - i < n9 → (i ≤ mm) → (nx ≤ n0) → (∀ j, j < nx → (zR S 22 tk j).toInt ≤ ((fr + i * sp : Nat) : Int)) → zW D y base (zsR S 22 lv (zsg (zR S 22 lv) p0 (fun j => zlv S w tk n0 ((fr + j * sp : Nat) : Int)) i)) s H locs → lv_has ls 9 [(7, .int (nI i)), (6, .int (nI nx)), (5, .int (zlb (zhl S w nx))), (0, .ref w), (1, .ref c0), (2, .int p0), (3, .int (nI fr)), (4, .int (nI sp))] → W p l e (headSpec wsX6_showIn ({ frames := 2, cells := 0, slots := 0, locals := 43 })).room s m args below meth c H locs 0 0 (MQ below (va_Qv (fun (S1 : zS) => S1 = zsR S 22 lv (zsg (zR S 22 lv) p0 (fun j => zlv S w tk n0 ((fr + j * sp : Nat) : Int)) mm)) (zPost D y base) (zA base)) args s 0 0 (zA base)) (F0 m 12 ls []) := by
    intro n9
    induction n9 with
    | zero =>
      intro i nx H locs ls hn9
      exact absurd hn9 (Nat.not_lt_zero _)
    | succ n9 ih_1 =>
      intro i nx H locs ls hn9 hi hnx hlo hw hl
      refine lv_iload hx hb dX6_showIn_12 (lv_at hl 0 rfl) ?_
      refine lv_aload_n hx hb dX6_showIn_14 rfl (lv_at hl 4 rfl) ?_
      refine g_Cap_count (a := c0) (v := (nI mm)) C hw hC.1 in_X0 (by decide +kernel) hm dX6_showIn_15 ?_
      refine lv_icmp_ge (tgt := 97) hx hb dX6_showIn_18 (by decide) (fun c18 => ?_) (fun c18 => ?_)
      · exact zrv C hw hr hlocks (by rw [show i = mm by have := z_ge (n := mm) c18 (by omega) (by omega); omega]) ⟨Nat.le_of_ble_eq_true rfl, Nat.le_of_ble_eq_true rfl⟩ dX6_showIn_97
      · have him := z_lt (n := mm) c18 (by omega) (by omega)
        have hT : fr + i * sp ≤ 9999 + 400 * 99 := Nat.add_le_add hfr (Nat.mul_le_mul (by omega) hsp)
        refine lv_iload_n hx hb dX6_showIn_21 rfl (lv_at hl 6 rfl) ?_
        refine lv_iload hx hb dX6_showIn_22 (lv_at hl 0 rfl) ?_
        refine lv_iload hx hb dX6_showIn_24 (lv_at hl 7 rfl) ?_
        refine lv_imul hx hb dX6_showIn_26 ?_
        refine lv_iadd hx hb dX6_showIn_27 ?_
        refine zrd (x := (nI (fr + i * sp))) (by rw [pk_mul, nI_add]) ?_
        refine lv_istore (lv' := [(8, .int (nI (fr + i * sp))), (7, .int (nI i)), (6, .int (nI nx)), (5, .int (zlb (zhl S w nx))), (0, .ref w), (1, .ref c0), (2, .int p0), (3, .int (nI fr)), (4, .int (nI sp))]) hx hb dX6_showIn_28 hl (by decide) rfl (fun ls hl => ?_)
        have lp_4 : ∀ (n9 : Nat) (nx : Nat) (H : Heap) (locs : List Loc) (ls : Array Slot), 365 - nx < n9 → (nx ≤ n0) → (∀ j, j < nx → (zR S 22 tk j).toInt ≤ ((fr + i * sp : Nat) : Int)) → zW D y base (zsR S 22 lv (zsg (zR S 22 lv) p0 (fun j => zlv S w tk n0 ((fr + j * sp : Nat) : Int)) i)) s H locs → lv_has ls 9 [(8, .int (nI (fr + i * sp))), (7, .int (nI i)), (6, .int (nI nx)), (5, .int (zlb (zhl S w nx))), (0, .ref w), (1, .ref c0), (2, .int p0), (3, .int (nI fr)), (4, .int (nI sp))] → W p l e (headSpec wsX6_showIn ({ frames := 2, cells := 0, slots := 0, locals := 43 })).room s m args below meth c H locs 0 0 (MQ below (va_Qv (fun (S1 : zS) => S1 = zsR S 22 lv (zsg (zR S 22 lv) p0 (fun j => zlv S w tk n0 ((fr + j * sp : Nat) : Int)) mm)) (zPost D y base) (zA base)) args s 0 0 (zA base)) (F0 m 30 ls []) := by
          intro n9
          induction n9 with
          | zero =>
            intro nx H locs ls hn9
            exact absurd hn9 (Nat.not_lt_zero _)
          | succ n9 ih_3 =>
            intro nx H locs ls hn9 hnx hlo hw hl
            refine lv_iload hx hb dX6_showIn_30 (lv_at hl 2 rfl) ?_
            refine lv_aload_n hx hb dX6_showIn_32 rfl (lv_at hl 4 rfl) ?_
            refine g_Wire_count (a := w) (v := (nI n0)) C hw hW.1 in_X6 (by decide +kernel) hrk.1 dX6_showIn_33 ?_
            refine lv_icmp_ge (tgt := 79) hx hb dX6_showIn_36 (by decide) (fun c36 => ?_) (fun c36 => ?_)
            · have hcu : nx = zcu (zR S 22 tk) n0 ((fr + i * sp : Nat) : Int) := (zcu_eq hnx hlo (fun j g1 g2 => by first | (have := z_ge (n := n0) c36 (by omega) (by omega); omega) | (have := z_ge (n := 364) c46 (by omega) (by omega); omega) | (rcases Nat.lt_or_ge nx j with q | q; have := hrk.2.1 nx j q g2; omega; rw [show j = nx by omega]; exact hc58))).symm
              have hlev : (fun j => zlv S w tk n0 ((fr + j * sp : Nat) : Int)) i = zhl S w nx := by show zlv S w tk n0 _ = _; unfold zlv zhl; rw [← hcu]
              refine lv_iload hx hb dX6_showIn_79 (lv_at hl 3 rfl) ?_
              refine lv_if_eq (tgt := 91) hx hb dX6_showIn_81 (by decide) (fun c81 => ?_) (fun c81 => ?_)
              · refine lv_iinc (v := (nI (i + 1))) (lv' := [(7, .int (nI (i + 1))), (8, .int (nI (fr + i * sp))), (6, .int (nI nx)), (5, .int (zlb (zhl S w nx))), (0, .ref w), (1, .ref c0), (2, .int p0), (3, .int (nI fr)), (4, .int (nI sp))]) hx hb dX6_showIn_91 hl (k := 1) rfl (nI_1 _) (by decide) rfl (fun ls hl => ?_)
                refine lv_goto (tgt := 12) hx hb dX6_showIn_94 (by decide) ?_
                rw [zsg_n (hlev.trans (zlb_f.mp c81))] at hw
                exact ih_1 (i + 1) nx _ _ _ (by omega) (by omega) hnx (fun j h => by have := hlo j h; have h9 : fr + i * sp ≤ fr + (i + 1) * sp := Nat.add_le_add_left (Nat.mul_le_mul_right _ (Nat.le_succ i)) _; omega) hw (lv_sub hl [0, 2, 3, 4, 5, 6, 7, 8] rfl)
              · refine lv_aload_n hx hb dX6_showIn_84 rfl (lv_at hl 5 rfl) ?_
                refine lv_iload hx hb dX6_showIn_85 (lv_at hl 1 rfl) ?_
                refine lv_iload_n hx hb dX6_showIn_87 rfl (lv_at hl 6 rfl) ?_
                refine zcV_v (As := [.int (nI i), .int p0]) (rest := []) (n9 := 2) (b := c0) C hw (c_X0_addLevel l D y base (zsR S 22 lv (zsg (zR S 22 lv) p0 (fun j => zlv S w tk n0 ((fr + j * sp : Nat) : Int)) i)) c0 lv i p0 mm hC hm hm4 him) gX6_showIn_X0_addLevel rfl (by decide +kernel) ⟨⟨rfl, rfl⟩, Nat.le_of_ble_eq_true rfl, Nat.le_of_ble_eq_true rfl⟩ hC.1 ⟨by decide, by decide⟩ rfl rfl hl.1 rfl (Nat.le_of_ble_eq_true rfl) ⟨Nat.le_of_ble_eq_true rfl, Nat.le_of_ble_eq_true rfl⟩ dX6_showIn_88 (fun S88 H locs hp88 hw => ?_)
                obtain rfl := hp88
                refine lv_iinc (v := (nI (i + 1))) (lv' := [(7, .int (nI (i + 1))), (8, .int (nI (fr + i * sp))), (6, .int (nI nx)), (5, .int (zlb (zhl S w nx))), (0, .ref w), (1, .ref c0), (2, .int p0), (3, .int (nI fr)), (4, .int (nI sp))]) hx hb dX6_showIn_91 hl (k := 1) rfl (nI_1 _) (by decide) rfl (fun ls hl => ?_)
                refine lv_goto (tgt := 12) hx hb dX6_showIn_94 (by decide) ?_
                rw [zR_s, zsR_zsR, zsg_y (hlev.trans (zlb_t.mp c81))] at hw
                exact ih_1 (i + 1) nx _ _ _ (by omega) (by omega) hnx (fun j h => by have := hlo j h; have h9 : fr + i * sp ≤ fr + (i + 1) * sp := Nat.add_le_add_left (Nat.mul_le_mul_right _ (Nat.le_succ i)) _; omega) hw (lv_sub hl [0, 2, 3, 4, 5, 6, 7, 8] rfl)
            · refine lv_iload hx hb dX6_showIn_39 (lv_at hl 2 rfl) ?_
              refine lv_aload_n hx hb dX6_showIn_41 rfl (lv_at hl 4 rfl) ?_
              refine g_Wire_ticks (a := w) (v := tk) C hw hW.1 in_X6 (by decide +kernel) hW.2.1 dX6_showIn_42 ?_
              refine zalen (a := tk) (v := 364) C hw hW.2.2.2.1 (by decide) (t0 := 1) rfl (zlen hW.2.2.2.2.1 rfl) dX6_showIn_45 ?_
              refine lv_icmp_ge (tgt := 79) hx hb dX6_showIn_46 (by decide) (fun c46 => ?_) (fun c46 => ?_)
              · have hcu : nx = zcu (zR S 22 tk) n0 ((fr + i * sp : Nat) : Int) := (zcu_eq hnx hlo (fun j g1 g2 => by first | (have := z_ge (n := n0) c36 (by omega) (by omega); omega) | (have := z_ge (n := 364) c46 (by omega) (by omega); omega) | (rcases Nat.lt_or_ge nx j with q | q; have := hrk.2.1 nx j q g2; omega; rw [show j = nx by omega]; exact hc58))).symm
                have hlev : (fun j => zlv S w tk n0 ((fr + j * sp : Nat) : Int)) i = zhl S w nx := by show zlv S w tk n0 _ = _; unfold zlv zhl; rw [← hcu]
                refine lv_iload hx hb dX6_showIn_79 (lv_at hl 3 rfl) ?_
                refine lv_if_eq (tgt := 91) hx hb dX6_showIn_81 (by decide) (fun c81 => ?_) (fun c81 => ?_)
                · refine lv_iinc (v := (nI (i + 1))) (lv' := [(7, .int (nI (i + 1))), (8, .int (nI (fr + i * sp))), (6, .int (nI nx)), (5, .int (zlb (zhl S w nx))), (0, .ref w), (1, .ref c0), (2, .int p0), (3, .int (nI fr)), (4, .int (nI sp))]) hx hb dX6_showIn_91 hl (k := 1) rfl (nI_1 _) (by decide) rfl (fun ls hl => ?_)
                  refine lv_goto (tgt := 12) hx hb dX6_showIn_94 (by decide) ?_
                  rw [zsg_n (hlev.trans (zlb_f.mp c81))] at hw
                  exact ih_1 (i + 1) nx _ _ _ (by omega) (by omega) hnx (fun j h => by have := hlo j h; have h9 : fr + i * sp ≤ fr + (i + 1) * sp := Nat.add_le_add_left (Nat.mul_le_mul_right _ (Nat.le_succ i)) _; omega) hw (lv_sub hl [0, 2, 3, 4, 5, 6, 7, 8] rfl)
                · refine lv_aload_n hx hb dX6_showIn_84 rfl (lv_at hl 5 rfl) ?_
                  refine lv_iload hx hb dX6_showIn_85 (lv_at hl 1 rfl) ?_
                  refine lv_iload_n hx hb dX6_showIn_87 rfl (lv_at hl 6 rfl) ?_
                  refine zcV_v (As := [.int (nI i), .int p0]) (rest := []) (n9 := 2) (b := c0) C hw (c_X0_addLevel l D y base (zsR S 22 lv (zsg (zR S 22 lv) p0 (fun j => zlv S w tk n0 ((fr + j * sp : Nat) : Int)) i)) c0 lv i p0 mm hC hm hm4 him) gX6_showIn_X0_addLevel rfl (by decide +kernel) ⟨⟨rfl, rfl⟩, Nat.le_of_ble_eq_true rfl, Nat.le_of_ble_eq_true rfl⟩ hC.1 ⟨by decide, by decide⟩ rfl rfl hl.1 rfl (Nat.le_of_ble_eq_true rfl) ⟨Nat.le_of_ble_eq_true rfl, Nat.le_of_ble_eq_true rfl⟩ dX6_showIn_88 (fun S88 H locs hp88 hw => ?_)
                  obtain rfl := hp88
                  refine lv_iinc (v := (nI (i + 1))) (lv' := [(7, .int (nI (i + 1))), (8, .int (nI (fr + i * sp))), (6, .int (nI nx)), (5, .int (zlb (zhl S w nx))), (0, .ref w), (1, .ref c0), (2, .int p0), (3, .int (nI fr)), (4, .int (nI sp))]) hx hb dX6_showIn_91 hl (k := 1) rfl (nI_1 _) (by decide) rfl (fun ls hl => ?_)
                  refine lv_goto (tgt := 12) hx hb dX6_showIn_94 (by decide) ?_
                  rw [zR_s, zsR_zsR, zsg_y (hlev.trans (zlb_t.mp c81))] at hw
                  exact ih_1 (i + 1) nx _ _ _ (by omega) (by omega) hnx (fun j h => by have := hlo j h; have h9 : fr + i * sp ≤ fr + (i + 1) * sp := Nat.add_le_add_left (Nat.mul_le_mul_right _ (Nat.le_succ i)) _; omega) hw (lv_sub hl [0, 2, 3, 4, 5, 6, 7, 8] rfl)
              · refine lv_aload_n hx hb dX6_showIn_49 rfl (lv_at hl 4 rfl) ?_
                refine g_Wire_ticks (a := w) (v := tk) C hw hW.1 in_X6 (by decide +kernel) hW.2.1 dX6_showIn_50 ?_
                refine lv_iload hx hb dX6_showIn_53 (lv_at hl 2 rfl) ?_
                refine zald_I (a := tk) C hw hW.2.2.2.1 hW.2.2.2.2.1 (vp_in_nI (by have := z_lt (n := n0) c36 (by omega) (by omega); omega) (by decide)) dX6_showIn_55 ?_
                refine zrd (x := (zR S 22 tk nx)) (by rw [nI_clamp (by omega)]; exact congrFun (zR_a hlt rfl) nx) ?_
                refine lv_iload hx hb dX6_showIn_56 (lv_at hl 0 rfl) ?_
                refine lv_icmp_gt (tgt := 79) hx hb dX6_showIn_58 (by decide) (fun c58 => ?_) (fun c58 => ?_)
                · rw [Int32.lt_iff_toInt_lt, nI_toInt (by omega)] at c58
                  have hc58 := c58
                  have hcu : nx = zcu (zR S 22 tk) n0 ((fr + i * sp : Nat) : Int) := (zcu_eq hnx hlo (fun j g1 g2 => by first | (have := z_ge (n := n0) c36 (by omega) (by omega); omega) | (have := z_ge (n := 364) c46 (by omega) (by omega); omega) | (rcases Nat.lt_or_ge nx j with q | q; have := hrk.2.1 nx j q g2; omega; rw [show j = nx by omega]; exact hc58))).symm
                  have hlev : (fun j => zlv S w tk n0 ((fr + j * sp : Nat) : Int)) i = zhl S w nx := by show zlv S w tk n0 _ = _; unfold zlv zhl; rw [← hcu]
                  refine lv_iload hx hb dX6_showIn_79 (lv_at hl 3 rfl) ?_
                  refine lv_if_eq (tgt := 91) hx hb dX6_showIn_81 (by decide) (fun c81 => ?_) (fun c81 => ?_)
                  · refine lv_iinc (v := (nI (i + 1))) (lv' := [(7, .int (nI (i + 1))), (8, .int (nI (fr + i * sp))), (6, .int (nI nx)), (5, .int (zlb (zhl S w nx))), (0, .ref w), (1, .ref c0), (2, .int p0), (3, .int (nI fr)), (4, .int (nI sp))]) hx hb dX6_showIn_91 hl (k := 1) rfl (nI_1 _) (by decide) rfl (fun ls hl => ?_)
                    refine lv_goto (tgt := 12) hx hb dX6_showIn_94 (by decide) ?_
                    rw [zsg_n (hlev.trans (zlb_f.mp c81))] at hw
                    exact ih_1 (i + 1) nx _ _ _ (by omega) (by omega) hnx (fun j h => by have := hlo j h; have h9 : fr + i * sp ≤ fr + (i + 1) * sp := Nat.add_le_add_left (Nat.mul_le_mul_right _ (Nat.le_succ i)) _; omega) hw (lv_sub hl [0, 2, 3, 4, 5, 6, 7, 8] rfl)
                  · refine lv_aload_n hx hb dX6_showIn_84 rfl (lv_at hl 5 rfl) ?_
                    refine lv_iload hx hb dX6_showIn_85 (lv_at hl 1 rfl) ?_
                    refine lv_iload_n hx hb dX6_showIn_87 rfl (lv_at hl 6 rfl) ?_
                    refine zcV_v (As := [.int (nI i), .int p0]) (rest := []) (n9 := 2) (b := c0) C hw (c_X0_addLevel l D y base (zsR S 22 lv (zsg (zR S 22 lv) p0 (fun j => zlv S w tk n0 ((fr + j * sp : Nat) : Int)) i)) c0 lv i p0 mm hC hm hm4 him) gX6_showIn_X0_addLevel rfl (by decide +kernel) ⟨⟨rfl, rfl⟩, Nat.le_of_ble_eq_true rfl, Nat.le_of_ble_eq_true rfl⟩ hC.1 ⟨by decide, by decide⟩ rfl rfl hl.1 rfl (Nat.le_of_ble_eq_true rfl) ⟨Nat.le_of_ble_eq_true rfl, Nat.le_of_ble_eq_true rfl⟩ dX6_showIn_88 (fun S88 H locs hp88 hw => ?_)
                    obtain rfl := hp88
                    refine lv_iinc (v := (nI (i + 1))) (lv' := [(7, .int (nI (i + 1))), (8, .int (nI (fr + i * sp))), (6, .int (nI nx)), (5, .int (zlb (zhl S w nx))), (0, .ref w), (1, .ref c0), (2, .int p0), (3, .int (nI fr)), (4, .int (nI sp))]) hx hb dX6_showIn_91 hl (k := 1) rfl (nI_1 _) (by decide) rfl (fun ls hl => ?_)
                    refine lv_goto (tgt := 12) hx hb dX6_showIn_94 (by decide) ?_
                    rw [zR_s, zsR_zsR, zsg_y (hlev.trans (zlb_t.mp c81))] at hw
                    exact ih_1 (i + 1) nx _ _ _ (by omega) (by omega) hnx (fun j h => by have := hlo j h; have h9 : fr + i * sp ≤ fr + (i + 1) * sp := Nat.add_le_add_left (Nat.mul_le_mul_right _ (Nat.le_succ i)) _; omega) hw (lv_sub hl [0, 2, 3, 4, 5, 6, 7, 8] rfl)
                · rw [Int32.lt_iff_toInt_lt, nI_toInt (by omega)] at c58
                  refine lv_iload hx hb dX6_showIn_61 (lv_at hl 3 rfl) ?_
                  refine lv_if_ne (tgt := 70) hx hb dX6_showIn_63 (by decide) (fun c63 => ?_) (fun c63 => ?_)
                  · refine lv_iconst (v := 0) hx hb dX6_showIn_70 (by decide) ?_
                    refine zrd (x := (zlb (zhl S w (nx + 1)))) (zhl_dn c63) ?_
                    refine lv_istore (lv' := [(5, .int (zlb (zhl S w (nx + 1)))), (8, .int (nI (fr + i * sp))), (7, .int (nI i)), (6, .int (nI nx)), (0, .ref w), (1, .ref c0), (2, .int p0), (3, .int (nI fr)), (4, .int (nI sp))]) hx hb dX6_showIn_71 hl (by decide) rfl (fun ls hl => ?_)
                    refine lv_iinc (v := (nI (nx + 1))) (lv' := [(6, .int (nI (nx + 1))), (5, .int (zlb (zhl S w (nx + 1)))), (8, .int (nI (fr + i * sp))), (7, .int (nI i)), (0, .ref w), (1, .ref c0), (2, .int p0), (3, .int (nI fr)), (4, .int (nI sp))]) hx hb dX6_showIn_73 hl (k := 3) rfl (nI_1 _) (by decide) rfl (fun ls hl => ?_)
                    refine lv_goto (tgt := 30) hx hb dX6_showIn_76 (by decide) ?_
                    exact ih_3 (nx + 1) _ _ _ (by have := z_lt (n := n0) c36 (by omega) (by omega); omega) (by have := z_lt (n := n0) c36 (by omega) (by omega); omega) (fun j h => by rcases Nat.lt_or_ge j nx with q | q; exact hlo j q; rw [show j = nx by omega]; omega) hw (lv_sub hl [2, 3, 0, 1, 4, 5, 6, 7, 8] rfl)
                  · refine lv_iconst (v := 1) hx hb dX6_showIn_66 (by decide) ?_
                    refine zrd (x := (zlb (zhl S w (nx + 1)))) (zhl_up c63) ?_
                    refine lv_goto (tgt := 71) hx hb dX6_showIn_67 (by decide) ?_
                    refine lv_istore (lv' := [(5, .int (zlb (zhl S w (nx + 1)))), (8, .int (nI (fr + i * sp))), (7, .int (nI i)), (6, .int (nI nx)), (0, .ref w), (1, .ref c0), (2, .int p0), (3, .int (nI fr)), (4, .int (nI sp))]) hx hb dX6_showIn_71 hl (by decide) rfl (fun ls hl => ?_)
                    refine lv_iinc (v := (nI (nx + 1))) (lv' := [(6, .int (nI (nx + 1))), (5, .int (zlb (zhl S w (nx + 1)))), (8, .int (nI (fr + i * sp))), (7, .int (nI i)), (0, .ref w), (1, .ref c0), (2, .int p0), (3, .int (nI fr)), (4, .int (nI sp))]) hx hb dX6_showIn_73 hl (k := 3) rfl (nI_1 _) (by decide) rfl (fun ls hl => ?_)
                    refine lv_goto (tgt := 30) hx hb dX6_showIn_76 (by decide) ?_
                    exact ih_3 (nx + 1) _ _ _ (by have := z_lt (n := n0) c36 (by omega) (by omega); omega) (by have := z_lt (n := n0) c36 (by omega) (by omega); omega) (fun j h => by rcases Nat.lt_or_ge j nx with q | q; exact hlo j q; rw [show j = nx by omega]; omega) hw (lv_sub hl [2, 3, 0, 1, 4, 5, 6, 7, 8] rfl)
        exact lp_4 _ nx _ _ _ (Nat.lt_succ_self _) hnx hlo hw (lv_sub hl [0, 1, 2, 3, 4, 5, 6, 7, 8] rfl)
  exact lp_2 _ 0 0 _ _ _ (Nat.lt_succ_self _) (Nat.zero_le _) (Nat.zero_le _) (fun j h => absurd h (Nat.not_lt_zero j)) hw (lv_sub hl [0, 1, 2, 3, 4, 5, 6, 7] rfl)

set_option maxHeartbeats 4000000 in
set_option maxRecDepth 100000 in
/-- X0_clearFor -/
theorem c_X0_clearFor_g (l : Launch) (D : va_G) (y : Nat → ClassId) (base : Nat) (S : zS) (c0 : Nat) (lv : Nat) (mm : Nat) (hC : zCap S c0 lv) (hm : mm ≤ 400) : zMv l yX0_clearFor wsX0_clearFor ({ frames := 1, cells := 0, slots := 0, locals := 23 }) [.ref c0, .int (nI mm)] D y base S (fun (S1 : zS) => S1 = zsI (zsR S 22 lv (fun j => if j < 400 then 0 else zR S 22 lv j)) 64 c0 (nI mm)) 0 0 := by
  refine zMet_of (cc := cX0_clearFor) (maxL := 2) (ret := none) (own := RX0) (by decide +kernel) rfl rfl (Nat.le_of_ble_eq_true rfl) ?_
  intro p e s m args below meth c ls C hr hlocks hnm hw hl
  have hx := C.1
  have hb := C.2.1
  have hown := C.2.2.2.1
  have hts := C.2.2.2.2
  have hl : lv_has ls 2 [(0, .ref c0), (1, .int (nI mm))] := hl
  have in_X0 : ∀ w ∈ wsX00, w ∈ wsX0_clearFor := by decide +kernel
  refine lv_aload_n hx hb dX0_clearFor_0 rfl (lv_at hl 0 rfl) ?_
  refine g_Cap_levels (a := c0) (v := lv) C hw hC.1 in_X0 (by decide +kernel) hC.2.1 dX0_clearFor_1 ?_
  refine lv_iconst (v := 0) hx hb dX0_clearFor_4 (by decide) ?_
  refine zcS_v (As := [.ref lv, .int 0]) (rest := []) (n9 := 2) C hw (c_J7_fill_53178 l D y base S lv 0 400 hC.2.2.1 hC.2.2.2 (by decide)) gX0_clearFor_J7_fill_53178 rfl (by decide +kernel) ⟨⟨rfl, rfl⟩, Nat.le_of_ble_eq_true rfl, Nat.le_of_ble_eq_true rfl⟩ rfl hl.1 rfl (Nat.le_of_ble_eq_true rfl) ⟨Nat.le_of_ble_eq_true rfl, Nat.le_of_ble_eq_true rfl⟩ dX0_clearFor_5 (fun S5 H locs hp5 hw => ?_)
  obtain rfl := hp5
  refine lv_aload_n hx hb dX0_clearFor_8 rfl (lv_at hl 0 rfl) ?_
  refine lv_iload_n hx hb dX0_clearFor_9 rfl (lv_at hl 1 rfl) ?_
  refine lv_aload_n hx hb dX0_clearFor_10 rfl (lv_at hl 0 rfl) ?_
  refine g_Cap_levels (a := c0) (v := lv) C hw hC.1 in_X0 (by decide +kernel) hC.2.1 dX0_clearFor_11 ?_
  refine zalen (a := lv) (v := 400) C hw hC.2.2.1 (by decide) (t0 := 1) rfl (zlen hC.2.2.2 rfl) dX0_clearFor_14 ?_
  refine va_mmin hx hb (C.2.2.1.trans hl.1.symm) hown (hts (.methodLink RX0 21 Lib.Math.min.name) (by decide +kernel)) (hts (.static Lib.Math.min.name) (by decide +kernel)) (hts (.initialized "java/lang/Math") (by decide +kernel)) (hts (.code Lib.Math.min.name Lib.Math.min.code 2 (some .int)) (by decide +kernel)) (Nat.le_of_ble_eq_true rfl) (Nat.le_of_ble_eq_true rfl) (Nat.le_of_ble_eq_true rfl) (Nat.le_of_ble_eq_true rfl) dX0_clearFor_15 ?_
  refine lv_topi (fun x18 ex18 => ?_)
  refine p_Cap_count (a := c0) (v := x18) C hw hC.1 in_X0 (by decide +kernel) dX0_clearFor_18 (fun H locs hw => ?_)
  exact zrv C hw hr hlocks (by rw [ex18, if_neg (nI_ge' hm)]) ⟨Nat.le_of_ble_eq_true rfl, Nat.le_of_ble_eq_true rfl⟩ dX0_clearFor_21

set_option maxHeartbeats 4000000 in
set_option maxRecDepth 100000 in
/-- X0_changeCount -/
theorem c_X0_changeCount_g (l : Launch) (D : va_G) (y : Nat → ClassId) (base : Nat) (S : zS) (c0 : Nat) (lv : Nat) (mm : Nat) (hC : zCap S c0 lv) (hm : zI S 64 c0 = nI mm) (hm4 : mm ≤ 400) : zMi l yX0_changeCount wsX0_changeCount ({ frames := 2, cells := 0, slots := 0, locals := 42 }) [.ref c0] D y base S (fun (r : Int32) (S1 : zS) => r = nI (zct (fun j => decide (¬ zR S 22 lv (j + 1) = zR S 22 lv j)) (mm - 1)) ∧ S1 = S) 0 0 := by
  refine zMet_of (cc := cX0_changeCount) (maxL := 3) (ret := (some .int)) (own := RX0) (by decide +kernel) rfl rfl (Nat.le_of_ble_eq_true rfl) ?_
  intro p e s m args below meth c ls C hr hlocks hnm hw hl
  have hx := C.1
  have hb := C.2.1
  have hown := C.2.2.2.1
  have hts := C.2.2.2.2
  have hl : lv_has ls 3 [(0, .ref c0)] := hl
  have in_X0 : ∀ w ∈ wsX00, w ∈ wsX0_changeCount := by decide +kernel
  refine lv_iconst (v := 0) hx hb dX0_changeCount_0 (by decide) ?_
  refine lv_istore_n (lv' := [(1, .int 0), (0, .ref c0)]) hx hb dX0_changeCount_1 rfl hl (by decide) rfl (fun ls hl => ?_)
  refine lv_iconst (v := 1) hx hb dX0_changeCount_2 (by decide) ?_
  refine lv_istore_n (lv' := [(2, .int 1), (1, .int 0), (0, .ref c0)]) hx hb dX0_changeCount_3 rfl hl (by decide) rfl (fun ls hl => ?_)
  have lp_2 : ∀ (n9 : Nat) (i : Nat) (k : Nat) (H : Heap) (locs : List Loc) (ls : Array Slot), 402 - i < n9 → (1 ≤ i ∧ (i ≤ mm ∨ i = 1)) → (k = zct (fun j => decide (¬ zR S 22 lv (j + 1) = zR S 22 lv j)) (i - 1)) → zW D y base S s H locs → lv_has ls 3 [(2, .int (nI i)), (1, .int (nI k)), (0, .ref c0)] → W p l e (headSpec wsX0_changeCount ({ frames := 2, cells := 0, slots := 0, locals := 42 })).room s m args below meth c H locs 0 0 (MQ below (va_Qi (fun (r : Int32) (S1 : zS) => r = nI (zct (fun j => decide (¬ zR S 22 lv (j + 1) = zR S 22 lv j)) (mm - 1)) ∧ S1 = S) (zPost D y base) (zA base)) args s 0 0 (zA base)) (F0 m 4 ls []) := by
    intro n9
    induction n9 with
    | zero =>
      intro i k H locs ls hn9
      exact absurd hn9 (Nat.not_lt_zero _)
    | succ n9 ih_1 =>
      intro i k H locs ls hn9 hi hk hw hl
      refine lv_iload_n hx hb dX0_changeCount_4 rfl (lv_at hl 0 rfl) ?_
      refine lv_aload_n hx hb dX0_changeCount_5 rfl (lv_at hl 2 rfl) ?_
      refine g_Cap_count (a := c0) (v := (nI mm)) C hw hC.1 in_X0 (by decide +kernel) hm dX0_changeCount_6 ?_
      refine lv_icmp_ge (tgt := 36) hx hb dX0_changeCount_9 (by decide) (fun c9 => ?_) (fun c9 => ?_)
      · refine lv_iload_n hx hb dX0_changeCount_36 rfl (lv_at hl 1 rfl) ?_
        exact zri C hw hr hlocks rfl ⟨(by rw [hk, show i - 1 = mm - 1 by have := z_ge (n := mm) c9 (by omega) (by omega); omega]), rfl⟩ ⟨Nat.le_of_ble_eq_true rfl, Nat.le_of_ble_eq_true rfl⟩ dX0_changeCount_37
      · have him := z_lt (n := mm) c9 (by omega) (by omega)
        refine lv_aload_n hx hb dX0_changeCount_12 rfl (lv_at hl 2 rfl) ?_
        refine lv_iload_n hx hb dX0_changeCount_13 rfl (lv_at hl 0 rfl) ?_
        refine zcV_i (As := [.int (nI i)]) (rest := []) (n9 := 1) (b := c0) C hw (c_X0_levelsAt l D y base S c0 lv (nI i) hC) gX0_changeCount_X0_levelsAt rfl (by decide +kernel) ⟨⟨rfl, rfl⟩, Nat.le_of_ble_eq_true rfl, Nat.le_of_ble_eq_true rfl⟩ hC.1 ⟨by decide, by decide⟩ rfl rfl hl.1 rfl (Nat.le_of_ble_eq_true rfl) ⟨Nat.le_of_ble_eq_true rfl, Nat.le_of_ble_eq_true rfl⟩ dX0_changeCount_14 (fun r14 S14 H locs hp14 hw => ?_)
        obtain ⟨hp14, hS9⟩ := hp14
        have hS9 := hS9.symm
        subst hS9
        refine lv_aload_n hx hb dX0_changeCount_17 rfl (lv_at hl 2 rfl) ?_
        refine lv_iload_n hx hb dX0_changeCount_18 rfl (lv_at hl 0 rfl) ?_
        refine lv_iconst (v := 1) hx hb dX0_changeCount_19 (by decide) ?_
        refine lv_isub hx hb dX0_changeCount_20 ?_
        refine zrd (x := (nI (i - 1))) (pk_sub (b := 1) (by omega)) ?_
        refine zcV_i (As := [.int (nI (i - 1))]) (rest := [.int r14]) (n9 := 1) (b := c0) C hw (c_X0_levelsAt l D y base S c0 lv (nI (i - 1)) hC) gX0_changeCount_X0_levelsAt rfl (by decide +kernel) ⟨⟨rfl, rfl⟩, Nat.le_of_ble_eq_true rfl, Nat.le_of_ble_eq_true rfl⟩ hC.1 ⟨by decide, by decide⟩ rfl rfl hl.1 rfl (Nat.le_of_ble_eq_true rfl) ⟨Nat.le_of_ble_eq_true rfl, Nat.le_of_ble_eq_true rfl⟩ dX0_changeCount_21 (fun r21 S21 H locs hp21 hw => ?_)
        obtain ⟨hp21, hS9⟩ := hp21
        have hS9 := hS9.symm
        subst hS9
        have hA : r14 = zR S 22 lv i := by rcases hp14 with ⟨_, h⟩ | ⟨g, _⟩; rw [h, nI_clamp (by omega)]; exact absurd ⟨nI_pos' (by omega), by rw [hm]; exact nI_lt him (by omega), nI_lt (b := 400) (by omega) (by decide)⟩ g
        have hB : r21 = zR S 22 lv (i - 1) := by rcases hp21 with ⟨_, h⟩ | ⟨g, _⟩; rw [h, nI_clamp (by omega)]; exact absurd ⟨nI_pos' (by omega), by rw [hm]; exact nI_lt (by omega) (by omega), nI_lt (b := 400) (by omega) (by decide)⟩ g
        refine lv_icmp_eq (tgt := 30) hx hb dX0_changeCount_24 (by decide) (fun c24 => ?_) (fun c24 => ?_)
        · refine lv_iinc (v := (nI (i + 1))) (lv' := [(2, .int (nI (i + 1))), (1, .int (nI k)), (0, .ref c0)]) hx hb dX0_changeCount_30 hl (k := 0) rfl (nI_1 _) (by decide) rfl (fun ls hl => ?_)
          refine lv_goto (tgt := 4) hx hb dX0_changeCount_33 (by decide) ?_
          exact ih_1 (i + 1) k _ _ _ (by omega) (by omega) (by rw [hk, show i + 1 - 1 = (i - 1) + 1 by omega]; exact (zct_f (p := (fun j => decide (¬ zR S 22 lv (j + 1) = zR S 22 lv j))) (by rw [decide_eq_true_eq, show i - 1 + 1 = i by omega]; rw [hA, hB] at c24; exact fun g => g c24)).symm) hw (lv_sub hl [0, 1, 2] rfl)
        · refine lv_iinc (v := (nI (k + 1))) (lv' := [(1, .int (nI (k + 1))), (2, .int (nI i)), (0, .ref c0)]) hx hb dX0_changeCount_27 hl (k := 1) rfl (nI_1 _) (by decide) rfl (fun ls hl => ?_)
          refine lv_iinc (v := (nI (i + 1))) (lv' := [(2, .int (nI (i + 1))), (1, .int (nI (k + 1))), (0, .ref c0)]) hx hb dX0_changeCount_30 hl (k := 1) rfl (nI_1 _) (by decide) rfl (fun ls hl => ?_)
          refine lv_goto (tgt := 4) hx hb dX0_changeCount_33 (by decide) ?_
          exact ih_1 (i + 1) (k + 1) _ _ _ (by omega) (by omega) (by rw [hk, show i + 1 - 1 = (i - 1) + 1 by omega]; exact (zct_t (p := (fun j => decide (¬ zR S 22 lv (j + 1) = zR S 22 lv j))) (decide_eq_true (by rw [show i - 1 + 1 = i by omega]; rw [hA, hB] at c24; exact c24))).symm) hw (lv_sub hl [0, 1, 2] rfl)
  exact lp_2 _ 1 0 _ _ _ (Nat.lt_succ_self _) (by omega) rfl hw (lv_sub hl [0, 1, 2] rfl)

