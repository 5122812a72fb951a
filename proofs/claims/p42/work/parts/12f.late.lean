set_option maxHeartbeats 4000000 in
set_option maxRecDepth 100000 in
/-- X6_takesSent -/
theorem c_X6_takesSent_n (l : Launch) (D : va_G) (y : Nat → ClassId) (base : Nat) (S : zS) (w : Nat) (tk : Nat) (sn : Nat) (S0 : zS) (b : Bool) (P : Int → Bool) (cur : Int32) (lo : Int) (nxt : Int) (n : Nat) (n0 : Nat) (hW : zWire S w tk sn) (hs : zSp S0 S w sn b P cur lo nxt n) (hn : n ≤ 64) (h161 : zI S 161 w = nI n0) (hbig : ∃ t : Int, 9999 ≤ t ∧ ¬ P t = P 9999) : zMi l yX6_takesSent wsX6_takesSent ({ frames := 2, cells := 0, slots := 0, locals := 45 }) [.ref w] D y base S (fun (r : Int32) (S1 : zS) => r = 0 ∧ S1 = S) 0 0 := by
  refine zMet_of (cc := cX6_takesSent) (maxL := 3) (ret := (some .boolean)) (own := RX6) (by decide +kernel) rfl rfl (Nat.le_of_ble_eq_true rfl) ?_
  intro p e s m args below meth c ls C hr hlocks hnm hw hl
  have hx := C.1
  have hb := C.2.1
  have hown := C.2.2.2.1
  have hts := C.2.2.2.2
  have hl : lv_has ls 3 [(0, .ref w)] := hl
  have in_X6 : ∀ w ∈ wsX60, w ∈ wsX6_takesSent := by decide +kernel
  obtain ⟨k, hkn, h164⟩ : ∃ k, k ≤ n ∧ zI S 164 w = nI k := by obtain ⟨-, -, -, -, k, h1, h2, -⟩ := hs; exact ⟨k, h1, h2⟩
  obtain ⟨t9, ht9, hP9⟩ := hbig
  refine lv_aload_n hx hb dX6_takesSent_0 rfl (lv_at hl 0 rfl) ?_
  refine g_Wire_count (a := w) (v := (nI n0)) C hw hW.1 in_X6 (by decide +kernel) h161 dX6_takesSent_1 ?_
  refine lv_istore_n (lv' := [(1, .int (nI n0)), (0, .ref w)]) hx hb dX6_takesSent_4 rfl hl (by decide) rfl (fun ls hl => ?_)
  refine lv_iconst (v := 0) hx hb dX6_takesSent_5 (by decide) ?_
  refine lv_istore_n (lv' := [(2, .int 0), (1, .int (nI n0)), (0, .ref w)]) hx hb dX6_takesSent_6 rfl hl (by decide) rfl (fun ls hl => ?_)
  have lp_2 : ∀ (n9 : Nat) (i : Nat) (q : Int32) (H : Heap) (locs : List Loc) (ls : Array Slot), 65 - i < n9 → (i ≤ k) → (∀ j, j < i → zR S 22 sn j ≤ 9999) → zW D y base S s H locs → lv_has ls 3 [(1, .int q), (2, .int (nI i)), (0, .ref w)] → W p l e (headSpec wsX6_takesSent ({ frames := 2, cells := 0, slots := 0, locals := 45 })).room s m args below meth c H locs 0 0 (MQ below (va_Qi (fun (r : Int32) (S1 : zS) => r = 0 ∧ S1 = S) (zPost D y base) (zA base)) args s 0 0 (zA base)) (F0 m 7 ls []) := by
    intro n9
    induction n9 with
    | zero =>
      intro i q H locs ls hn9
      exact absurd hn9 (Nat.not_lt_zero _)
    | succ n9 ih_1 =>
      intro i q H locs ls hn9 hi hj hw hl
      refine lv_iload_n hx hb dX6_takesSent_7 rfl (lv_at hl 1 rfl) ?_
      refine lv_aload_n hx hb dX6_takesSent_8 rfl (lv_at hl 2 rfl) ?_
      refine g_Wire_sentCount (a := w) (v := (nI k)) C hw hW.1 in_X6 (by decide +kernel) h164 dX6_takesSent_9 ?_
      refine lv_icmp_ge (tgt := 65) hx hb dX6_takesSent_12 (by decide) (fun c12 => (show False from hP9 (hs.late hn h164 (by omega) (fun j h => hj j (by have := z_ge (n := k) c12 (by omega) (by omega); omega)) ht9)).elim) (fun c12 => ?_)
      refine lv_iload_n hx hb dX6_takesSent_15 rfl (lv_at hl 1 rfl) ?_
      refine lv_aload_n hx hb dX6_takesSent_16 rfl (lv_at hl 2 rfl) ?_
      refine g_Wire_sent (a := w) (v := sn) C hw hW.1 in_X6 (by decide +kernel) hW.2.2.1 dX6_takesSent_17 ?_
      refine zalen (a := sn) (v := 64) C hw hW.2.2.2.2.2.1 (by decide) (t0 := 1) rfl (zlen hW.2.2.2.2.2.2.1 rfl) dX6_takesSent_20 ?_
      refine lv_icmp_ge (tgt := 65) hx hb dX6_takesSent_21 (by decide) (fun c21 => (show False from (by have := z_lt (n := k) c12 (by omega) (by omega); have := z_ge (n := 64) c21 (by omega) (by omega); omega)).elim) (fun c21 => ?_)
      refine lv_aload_n hx hb dX6_takesSent_24 rfl (lv_at hl 2 rfl) ?_
      refine g_Wire_sent (a := w) (v := sn) C hw hW.1 in_X6 (by decide +kernel) hW.2.2.1 dX6_takesSent_25 ?_
      refine lv_iload_n hx hb dX6_takesSent_28 rfl (lv_at hl 1 rfl) ?_
      refine zald_I (a := sn) C hw hW.2.2.2.2.2.1 hW.2.2.2.2.2.2.1 (vp_in_nI (z_lt (n := 64) c21 (by omega) (by omega)) (by decide)) dX6_takesSent_29 ?_
      refine lv_sipush (v := 9999) hx hb dX6_takesSent_30 (by decide) ?_
      refine lv_icmp_le (tgt := 38) hx hb dX6_takesSent_33 (by decide) (fun c33 => ?_) (fun c33 => ?_)
      · refine lv_iload_n hx hb dX6_takesSent_38 rfl (lv_at hl 0 rfl) ?_
        refine lv_aload_n hx hb dX6_takesSent_39 rfl (lv_at hl 2 rfl) ?_
        refine lv_aload_n hx hb dX6_takesSent_40 rfl (lv_at hl 2 rfl) ?_
        refine g_Wire_sent (a := w) (v := sn) C hw hW.1 in_X6 (by decide +kernel) hW.2.2.1 dX6_takesSent_41 ?_
        refine lv_iload_n hx hb dX6_takesSent_44 rfl (lv_at hl 1 rfl) ?_
        refine zald_I (a := sn) C hw hW.2.2.2.2.2.1 hW.2.2.2.2.2.2.1 (vp_in_nI (z_lt (n := 64) c21 (by omega) (by omega)) (by decide)) dX6_takesSent_45 ?_
        refine zcV_i (As := [.int (zR S 22 sn ((nI i)).toNatClampNeg)]) (rest := [.int q]) (n9 := 1) (b := w) C hw (c_X6_hasFlip l D y base S w tk sn (zR S 22 sn ((nI i)).toNatClampNeg) hW) gX6_takesSent_X6_hasFlip rfl (by decide +kernel) ⟨⟨rfl, rfl⟩, Nat.le_of_ble_eq_true rfl, Nat.le_of_ble_eq_true rfl⟩ hW.1 ⟨by decide, by decide⟩ rfl rfl hl.1 rfl (Nat.le_of_ble_eq_true rfl) ⟨Nat.le_of_ble_eq_true rfl, Nat.le_of_ble_eq_true rfl⟩ dX6_takesSent_46 (fun r46 S46 H locs hp46 hw => ?_)
        obtain ⟨rfl, hS9⟩ := hp46
        have hS9 := hS9.symm
        subst hS9
        refine lv_if_eq (tgt := 56) hx hb dX6_takesSent_49 (by decide) (fun c49 => ?_) (fun c49 => ?_)
        · replace c49 := zb0.mp c49
          refine lv_iconst (v := 1) hx hb dX6_takesSent_56 (by decide) ?_
          refine lv_iadd hx hb dX6_takesSent_57 ?_
          refine lv_topi (fun x58 ex58 => ?_)
          refine lv_istore_n (lv' := [(1, .int x58), (2, .int (nI i)), (0, .ref w)]) hx hb dX6_takesSent_58 rfl hl (by decide) rfl (fun ls hl => ?_)
          refine lv_iinc (v := (nI (i + 1))) (lv' := [(2, .int (nI (i + 1))), (1, .int x58), (0, .ref w)]) hx hb dX6_takesSent_59 hl (k := 1) rfl (nI_1 _) (by decide) rfl (fun ls hl => ?_)
          refine lv_goto (tgt := 7) hx hb dX6_takesSent_62 (by decide) ?_
          exact ih_1 (i + 1) x58 _ _ _ (by have := z_lt (n := k) c12 (by omega) (by omega); omega) (by have := z_lt (n := k) c12 (by omega) (by omega); omega) (fun j h => by rcases Nat.lt_or_ge j i with g | g; exact hj j g; rw [show j = i by omega]; rw [nI_clamp (by omega)] at c33; exact c33) hw (lv_sub hl [1, 0, 2] rfl)
        · replace c49 := zb1.mp c49
          refine lv_iconst (v := (-1)) hx hb dX6_takesSent_52 (by decide) ?_
          refine lv_goto (tgt := 57) hx hb dX6_takesSent_53 (by decide) ?_
          refine lv_iadd hx hb dX6_takesSent_57 ?_
          refine lv_topi (fun x58 ex58 => ?_)
          refine lv_istore_n (lv' := [(1, .int x58), (2, .int (nI i)), (0, .ref w)]) hx hb dX6_takesSent_58 rfl hl (by decide) rfl (fun ls hl => ?_)
          refine lv_iinc (v := (nI (i + 1))) (lv' := [(2, .int (nI (i + 1))), (1, .int x58), (0, .ref w)]) hx hb dX6_takesSent_59 hl (k := 1) rfl (nI_1 _) (by decide) rfl (fun ls hl => ?_)
          refine lv_goto (tgt := 7) hx hb dX6_takesSent_62 (by decide) ?_
          exact ih_1 (i + 1) x58 _ _ _ (by have := z_lt (n := k) c12 (by omega) (by omega); omega) (by have := z_lt (n := k) c12 (by omega) (by omega); omega) (fun j h => by rcases Nat.lt_or_ge j i with g | g; exact hj j g; rw [show j = i by omega]; rw [nI_clamp (by omega)] at c33; exact c33) hw (lv_sub hl [1, 0, 2] rfl)
      · refine lv_iconst (v := 0) hx hb dX6_takesSent_36 (by decide) ?_
        exact zri C hw hr hlocks (by decide) (by first | exact ⟨rfl, rfl⟩ | exact rfl | (refine ⟨?_, rfl⟩; grind) | grind) ⟨Nat.le_of_ble_eq_true rfl, Nat.le_of_ble_eq_true rfl⟩ dX6_takesSent_37
  exact lp_2 _ 0 (nI n0) _ _ _ (Nat.lt_succ_self _) (Nat.zero_le _) (fun j h => absurd h (Nat.not_lt_zero j)) hw (lv_sub hl [1, 0, 2] rfl)

set_option maxHeartbeats 4000000 in
set_option maxRecDepth 100000 in
/-- X7_serial -/
theorem c_X7_serial_n (l : Launch) (hst : l.stackTraces = false) (D : va_G) (y : Nat → ClassId) (base : Nat) (S : zS) (a : Nat → Nat) (w : Nat) (v : Nat) (ta : Nat) (bt : Nat) (pr : Int32) (F : Nat → Int → Bool) (N : Nat → Nat) (A1 : Int32) (A2 : Int32) (rg : Nat → Int32) (ns : Nat) (L : List zNt) (hX : zX S a) (hDs : zDs a) (hw4 : w < 4) (hv : v < 256) (hta : ta ≤ 9999) (hhb : 2 ≤ bt ∧ bt ≤ 50) (hpr : pr = 110 ∨ pr = 101 ∨ pr = 111) (hOb : zOb S a F N A1 A2 rg ns L) (hbig : ∃ t : Int, 9999 ≤ t ∧ ¬ (zpt 1 (zlS (nI v) pr) (ztk (nI ta) (nI bt)) (zsbN pr)) t = (zpt 1 (zlS (nI v) pr) (ztk (nI ta) (nI bt)) (zsbN pr)) 9999) : zXi l yX7_serial wsX7_serial ({ frames := 7, cells := 6, slots := 36, locals := 112 }) [.ref (a 0), .int (nI w), .int (nI v), .int (nI ta), .int (nI bt), .int pr] D y base S (fun (r : Int32) (S1 : zS) => False ∧ S1 = S) (fun (E : String) (S1 : zS) => E = "java/lang/IllegalStateException" ∧ zLate S S1 a) 6 36 := by
  refine zXet_of (cc := cX7_serial) (maxL := 10) (ret := (some .int)) (own := RX7) (by decide +kernel) rfl rfl (Nat.le_of_ble_eq_true rfl) ?_
  intro p e s m args below meth c ls C hr hlocks hx0 hw hl
  have hx := C.1
  have hb := C.2.1
  have hown := C.2.2.2.1
  have hts := C.2.2.2.2
  have hl : lv_has ls 10 [(0, .ref (a 0)), (1, .int (nI w)), (2, .int (nI v)), (3, .int (nI ta)), (4, .int (nI bt)), (5, .int pr)] := hl
  have in_X7 : ∀ w ∈ wsX70, w ∈ wsX7_serial := by decide +kernel
  refine lv_iload_n hx hb dX7_serial_0 rfl (lv_at hl 1 rfl) ?_
  refine zcS_xv (As := [.int (nI w)]) (rest := []) (n9 := 1) C hw (c_X7_checkWire l hst D y base S (nI w) ) gX7_serial_X7_checkWire rfl (by decide +kernel) ⟨⟨rfl, rfl⟩, Nat.le_of_ble_eq_true rfl, Nat.le_of_ble_eq_true rfl⟩ rfl hl.1 rfl (Nat.le_of_ble_eq_true rfl) ⟨Nat.le_of_ble_eq_true rfl, Nat.le_of_ble_eq_true rfl⟩ dX7_serial_1 (fun E ce q9 S1 H locs hx1 hw h1 h2 h3 => zxout hw hx0 hlocks h1 h2 h3 (by obtain ⟨rfl, hc9, rfl⟩ := hx1; exact absurd (zw4 w hw4) hc9) ⟨Nat.le_of_ble_eq_true rfl, Nat.le_of_ble_eq_true rfl⟩) (fun S1 H locs hp1 hw => ?_)
  obtain ⟨hp1, hS9⟩ := hp1
  have hS9 := hS9.symm
  subst hS9
  refine lv_iload_n hx hb dX7_serial_4 rfl (lv_at hl 2 rfl) ?_
  refine lv_iconst (v := 0) hx hb dX7_serial_5 (by decide) ?_
  refine lv_sipush (v := 255) hx hb dX7_serial_6 (by decide) ?_
  refine zcS_xv (As := [.int (nI v), .int 0, .int 255]) (rest := []) (n9 := 3) C hw (c_X7_checkRange l hst D y base S (nI v) 0 255 ) gX7_serial_X7_checkRange rfl (by decide +kernel) ⟨⟨rfl, rfl⟩, Nat.le_of_ble_eq_true rfl, Nat.le_of_ble_eq_true rfl⟩ rfl hl.1 rfl (Nat.le_of_ble_eq_true rfl) ⟨Nat.le_of_ble_eq_true rfl, Nat.le_of_ble_eq_true rfl⟩ dX7_serial_9 (fun E ce q9 S9 H locs hx9 hw h1 h2 h3 => zxout hw hx0 hlocks h1 h2 h3 (by obtain ⟨rfl, hc9, rfl⟩ := hx9; exact absurd (zrg (m := 255) (by omega) (by decide) rfl) hc9) ⟨Nat.le_of_ble_eq_true rfl, Nat.le_of_ble_eq_true rfl⟩) (fun S9 H locs hp9 hw => ?_)
  obtain ⟨hp9, hS9⟩ := hp9
  have hS9 := hS9.symm
  subst hS9
  refine lv_iload_n hx hb dX7_serial_12 rfl (lv_at hl 3 rfl) ?_
  refine lv_iconst (v := 0) hx hb dX7_serial_13 (by decide) ?_
  refine lv_sipush (v := 9999) hx hb dX7_serial_14 (by decide) ?_
  refine zcS_xv (As := [.int (nI ta), .int 0, .int 9999]) (rest := []) (n9 := 3) C hw (c_X7_checkRange l hst D y base S (nI ta) 0 9999 ) gX7_serial_X7_checkRange rfl (by decide +kernel) ⟨⟨rfl, rfl⟩, Nat.le_of_ble_eq_true rfl, Nat.le_of_ble_eq_true rfl⟩ rfl hl.1 rfl (Nat.le_of_ble_eq_true rfl) ⟨Nat.le_of_ble_eq_true rfl, Nat.le_of_ble_eq_true rfl⟩ dX7_serial_17 (fun E ce q9 S17 H locs hx17 hw h1 h2 h3 => zxout hw hx0 hlocks h1 h2 h3 (by obtain ⟨rfl, hc9, rfl⟩ := hx17; exact absurd (zrg (m := 9999) (by omega) (by decide) rfl) hc9) ⟨Nat.le_of_ble_eq_true rfl, Nat.le_of_ble_eq_true rfl⟩) (fun S17 H locs hp17 hw => ?_)
  obtain ⟨hp17, hS9⟩ := hp17
  have hS9 := hS9.symm
  subst hS9
  refine lv_iload hx hb dX7_serial_20 (lv_at hl 4 rfl) ?_
  refine lv_iconst (v := 2) hx hb dX7_serial_22 (by decide) ?_
  refine lv_bipush (v := 50) hx hb dX7_serial_23 (by decide) ?_
  refine zcS_xv (As := [.int (nI bt), .int 2, .int 50]) (rest := []) (n9 := 3) C hw (c_X7_checkRange l hst D y base S (nI bt) 2 50 ) gX7_serial_X7_checkRange rfl (by decide +kernel) ⟨⟨rfl, rfl⟩, Nat.le_of_ble_eq_true rfl, Nat.le_of_ble_eq_true rfl⟩ rfl hl.1 rfl (Nat.le_of_ble_eq_true rfl) ⟨Nat.le_of_ble_eq_true rfl, Nat.le_of_ble_eq_true rfl⟩ dX7_serial_25 (fun E ce q9 S25 H locs hx25 hw h1 h2 h3 => zxout hw hx0 hlocks h1 h2 h3 (by obtain ⟨rfl, hc9, rfl⟩ := hx25; exact absurd ⟨nI_le (a := 2) hhb.1 (by omega), nI_le (b := 50) hhb.2 (by decide)⟩ hc9) ⟨Nat.le_of_ble_eq_true rfl, Nat.le_of_ble_eq_true rfl⟩) (fun S25 H locs hp25 hw => ?_)
  obtain ⟨hp25, hS9⟩ := hp25
  have hS9 := hS9.symm
  subst hS9
  refine lv_iload hx hb dX7_serial_28 (lv_at hl 5 rfl) ?_
  refine zcS_xv (As := [.int pr]) (rest := []) (n9 := 1) C hw (c_X7_checkParity l hst D y base S pr ) gX7_serial_X7_checkParity rfl (by decide +kernel) ⟨⟨rfl, rfl⟩, Nat.le_of_ble_eq_true rfl, Nat.le_of_ble_eq_true rfl⟩ rfl hl.1 rfl (Nat.le_of_ble_eq_true rfl) ⟨Nat.le_of_ble_eq_true rfl, Nat.le_of_ble_eq_true rfl⟩ dX7_serial_30 (fun E ce q9 S30 H locs hx30 hw h1 h2 h3 => zxout hw hx0 hlocks h1 h2 h3 (by obtain ⟨rfl, hc9, rfl⟩ := hx30; exact absurd hpr hc9) ⟨Nat.le_of_ble_eq_true rfl, Nat.le_of_ble_eq_true rfl⟩) (fun S30 H locs hp30 hw => ?_)
  obtain ⟨hp30, hS9⟩ := hp30
  have hS9 := hS9.symm
  subst hS9
  have hwiw := zX.wi hX hw4
  refine lv_aload_n hx hb dX7_serial_33 rfl (lv_at hl 0 rfl) ?_
  refine g_Ph_wires (a := (a 0)) (v := (a 1)) C hw hX.1 in_X7 (by decide +kernel) hX.2.1 dX7_serial_34 ?_
  refine lv_iload_n hx hb dX7_serial_37 rfl (lv_at hl 1 rfl) ?_
  refine zald_P (a := (a 1)) (v := (a (10 + w))) C hw hX.2.2.2.2.2.2.1 (by decide) (t0 := 3) rfl rfl hX.2.2.2.2.2.2.2.1 (zin_of (N := 4) (by decide) (by grind) (by grind)) hwiw.1 dX7_serial_38 ?_
  refine lv_astore (lv' := [(6, .ref (a (10 + w))), (0, .ref (a 0)), (1, .int (nI w)), (2, .int (nI v)), (3, .int (nI ta)), (4, .int (nI bt)), (5, .int pr)]) hx hb dX7_serial_39 hl (by decide) rfl (fun ls hl => ?_)
  refine lv_iload hx hb dX7_serial_41 (lv_at hl 6 rfl) ?_
  refine zcS_i (As := [.int pr]) (rest := []) (n9 := 1) C hw (c_X7_serialBits l D y base S pr ) gX7_serial_X7_serialBits rfl (by decide +kernel) ⟨⟨rfl, rfl⟩, Nat.le_of_ble_eq_true rfl, Nat.le_of_ble_eq_true rfl⟩ rfl hl.1 rfl (Nat.le_of_ble_eq_true rfl) ⟨Nat.le_of_ble_eq_true rfl, Nat.le_of_ble_eq_true rfl⟩ dX7_serial_43 (fun r43 S43 H locs hp43 hw => ?_)
  obtain ⟨rfl, hS9⟩ := hp43
  have hS9 := hS9.symm
  subst hS9
  refine lv_istore (lv' := [(7, .int (nI (zsbN pr))), (6, .ref (a (10 + w))), (0, .ref (a 0)), (1, .int (nI w)), (2, .int (nI v)), (3, .int (nI ta)), (4, .int (nI bt)), (5, .int pr)]) hx hb dX7_serial_46 hl (by decide) rfl (fun ls hl => ?_)
  refine lv_iload_n hx hb dX7_serial_48 rfl (lv_at hl 4 rfl) ?_
  refine lv_iload hx hb dX7_serial_49 (lv_at hl 7 rfl) ?_
  refine zcS_i (As := [.int (nI v), .int pr]) (rest := []) (n9 := 2) C hw (c_X7_serialWord l D y base S (nI v) pr ) gX7_serial_X7_serialWord rfl (by decide +kernel) ⟨⟨rfl, rfl⟩, Nat.le_of_ble_eq_true rfl, Nat.le_of_ble_eq_true rfl⟩ rfl hl.1 rfl (Nat.le_of_ble_eq_true rfl) ⟨Nat.le_of_ble_eq_true rfl, Nat.le_of_ble_eq_true rfl⟩ dX7_serial_51 (fun r51 S51 H locs hp51 hw => ?_)
  obtain ⟨rfl, hS9⟩ := hp51
  have hS9 := hS9.symm
  subst hS9
  refine lv_istore (lv' := [(8, .int (zsw (nI v) pr)), (7, .int (nI (zsbN pr))), (6, .ref (a (10 + w))), (0, .ref (a 0)), (1, .int (nI w)), (2, .int (nI v)), (3, .int (nI ta)), (4, .int (nI bt)), (5, .int pr)]) hx hb dX7_serial_54 hl (by decide) rfl (fun ls hl => ?_)
  have hp : (0 : Int32) ≤ nI ta ∧ nI ta ≤ 9999 := zrg (m := 9999) (by omega) (by decide) rfl
  have hh : (1 : Int32) ≤ nI bt ∧ nI bt ≤ 50 := zrg1 (m := 50) (by omega) hhb.2 (by decide) rfl
  have hb11 : zsbN pr ≤ 11 := zsbN_le pr
  refine lv_aload hx hb dX7_serial_56 (lv_at hl 2 rfl) ?_
  refine lv_iconst (v := 1) hx hb dX7_serial_58 (by decide) ?_
  refine zcV_v (As := [.int 1]) (rest := []) (n9 := 1) (b := (a (10 + w))) C hw (c_X6_beginSending l D y base S (a (10 + w)) (a (20 + w)) (a (30 + w)) 1 hwiw.2 (Or.inr rfl)) gX7_serial_X6_beginSending rfl (by decide +kernel) ⟨⟨rfl, rfl⟩, Nat.le_of_ble_eq_true rfl, Nat.le_of_ble_eq_true rfl⟩ hwiw.2.1 ⟨by decide, by decide⟩ rfl rfl hl.1 rfl (Nat.le_of_ble_eq_true rfl) ⟨Nat.le_of_ble_eq_true rfl, Nat.le_of_ble_eq_true rfl⟩ dX7_serial_59 (fun S59 H locs hp59 hw => ?_)
  obtain rfl := hp59
  refine lv_iconst (v := 0) hx hb dX7_serial_62 (by decide) ?_
  refine lv_istore (lv' := [(9, .int 0), (8, .int (zsw (nI v) pr)), (7, .int (nI (zsbN pr))), (6, .ref (a (10 + w))), (0, .ref (a 0)), (1, .int (nI w)), (2, .int (nI v)), (3, .int (nI ta)), (4, .int (nI bt)), (5, .int pr)]) hx hb dX7_serial_63 hl (by decide) rfl (fun ls hl => ?_)
  have lp_2 : ∀ (n9 : Nat) (i : Nat) (S2 : zS) (H : Heap) (locs : List Loc) (ls : Array Slot), 12 - i < n9 → (i ≤ zsbN pr) → (zSp S S2 (a (10 + w)) (a (30 + w)) true (zpt 1 (zlS (nI v) pr) (ztk (nI ta) (nI bt)) i) ((zlS (nI v) pr) i) 0 (znx (nI ta) (nI bt) i) i) → zW D y base S2 s H locs → lv_has ls 10 [(9, .int (nI i)), (0, .ref (a 0)), (1, .int (nI w)), (2, .int (nI v)), (3, .int (nI ta)), (4, .int (nI bt)), (5, .int pr), (6, .ref (a (10 + w))), (7, .int (nI (zsbN pr))), (8, .int (zsw (nI v) pr))] → W p l e (headSpec wsX7_serial ({ frames := 7, cells := 6, slots := 36, locals := 112 })).room s m args below meth c H locs 5 30 (vx_MQ below (va_Qi (fun (r : Int32) (S1 : zS) => False ∧ S1 = S) (zPost D y base) (zA base)) (zXC (fun (E : String) (S1 : zS) => E = "java/lang/IllegalStateException" ∧ zLate S S1 a) D y base) args s 6 36 (zA base)) (F0 m 65 ls []) := by
    intro n9
    induction n9 with
    | zero =>
      intro i S2 H locs ls hn9
      exact absurd hn9 (Nat.not_lt_zero _)
    | succ n9 ih_1 =>
      intro i S2 H locs ls hn9 hi hs hw hl
      have hOb2 := hOb.snd hDs (zSp.fr hw4 hs)
      have hW2 := (zX.wi hOb2.1 hw4).2
      refine lv_iload hx hb dX7_serial_65 (lv_at hl 0 rfl) ?_
      refine lv_iload hx hb dX7_serial_67 (lv_at hl 8 rfl) ?_
      refine lv_icmp_ge (tgt := 100) hx hb dX7_serial_69 (by decide) (fun c69 => ?_) (fun c69 => ?_)
      · have hie : i = zsbN pr := by have := z_ge (n := zsbN pr) c69 (by omega) (by omega); omega
        rw [hie] at hs
        refine lv_aload hx hb dX7_serial_100 (lv_at hl 7 rfl) ?_
        refine zcV_i (As := []) (rest := []) (n9 := 0) (b := (a (10 + w))) C hw (c_X6_takesSent_n l D y base S2 (a (10 + w)) (a (20 + w)) (a (30 + w)) S true (zpt 1 (zlS (nI v) pr) (ztk (nI ta) (nI bt)) (zsbN pr)) ((zlS (nI v) pr) (zsbN pr)) 0 (znx (nI ta) (nI bt) (zsbN pr)) (zsbN pr) (N w) hW2 hs (by omega) (hOb2.2.2.1 w hw4).2.1.1 hbig) gX7_serial_X6_takesSent rfl (by decide +kernel) ⟨⟨rfl, rfl⟩, Nat.le_of_ble_eq_true rfl, Nat.le_of_ble_eq_true rfl⟩ hW2.1 ⟨by decide, by decide⟩ rfl rfl hl.1 rfl (Nat.le_of_ble_eq_true rfl) ⟨Nat.le_of_ble_eq_true rfl, Nat.le_of_ble_eq_true rfl⟩ dX7_serial_102 (fun r102 S102 H locs hp102 hw => ?_)
        obtain ⟨rfl, hS9⟩ := hp102
        have hS9 := hS9.symm
        subst hS9
        refine zcS_xv (As := [.int 0]) (rest := []) (n9 := 1) C hw (c_X7_checkFlips l hst D y base S2 0 ) gX7_serial_X7_checkFlips rfl (by decide +kernel) ⟨⟨rfl, rfl⟩, Nat.le_of_ble_eq_true rfl, Nat.le_of_ble_eq_true rfl⟩ rfl hl.1 rfl (Nat.le_of_ble_eq_true rfl) ⟨Nat.le_of_ble_eq_true rfl, Nat.le_of_ble_eq_true rfl⟩ dX7_serial_105 (fun E ce q9 S105 H locs hx105 hw h1 h2 h3 => zxout hw hx0 hlocks h1 h2 h3 ⟨hx105.1, hx105.2.2 ▸ zSp.fr hw4 hs⟩ ⟨Nat.le_of_ble_eq_true rfl, Nat.le_of_ble_eq_true rfl⟩) (fun S105 H locs hp105 hw => ?_)
        obtain ⟨hp105, hS9⟩ := hp105
        have hS9 := hS9.symm
        subst hS9
        exact (show False from (hp105 rfl)).elim
      · refine lv_aload hx hb dX7_serial_72 (lv_at hl 7 rfl) ?_
        refine lv_iload hx hb dX7_serial_74 (lv_at hl 9 rfl) ?_
        refine lv_iload hx hb dX7_serial_76 (lv_at hl 0 rfl) ?_
        refine zcS_i (As := [.int (zsw (nI v) pr), .int (nI i)]) (rest := [.ref (a (10 + w))]) (n9 := 2) C hw (c_X7_hasBit l D y base S2 (zsw (nI v) pr) (nI i) ) gX7_serial_X7_hasBit rfl (by decide +kernel) ⟨⟨rfl, rfl⟩, Nat.le_of_ble_eq_true rfl, Nat.le_of_ble_eq_true rfl⟩ rfl hl.1 rfl (Nat.le_of_ble_eq_true rfl) ⟨Nat.le_of_ble_eq_true rfl, Nat.le_of_ble_eq_true rfl⟩ dX7_serial_78 (fun r78 S78 H locs hp78 hw => ?_)
        obtain ⟨rfl, hS9⟩ := hp78
        have hS9 := hS9.symm
        subst hS9
        refine lv_aload_n hx hb dX7_serial_81 rfl (lv_at hl 1 rfl) ?_
        refine lv_iload_n hx hb dX7_serial_82 rfl (lv_at hl 4 rfl) ?_
        refine lv_iload hx hb dX7_serial_83 (lv_at hl 0 rfl) ?_
        refine lv_iload hx hb dX7_serial_85 (lv_at hl 5 rfl) ?_
        refine lv_imul hx hb dX7_serial_87 ?_
        refine zcV_i (As := [.int (nI ta), .int ((nI i) * (nI bt))]) (rest := [.int (zbv (zsw (nI v) pr) (nI i)), .ref (a (10 + w))]) (n9 := 2) (b := (a 0)) C hw (c_X7_tickBehind l D y base S2 (a 0) (nI ta) ((nI i) * (nI bt)) hOb2.1.1 hOb2.2.2.2.1) gX7_serial_X7_tickBehind rfl (by decide +kernel) ⟨⟨rfl, rfl⟩, Nat.le_of_ble_eq_true rfl, Nat.le_of_ble_eq_true rfl⟩ hOb2.1.1 ⟨by decide, by decide⟩ rfl rfl hl.1 rfl (Nat.le_of_ble_eq_true rfl) ⟨Nat.le_of_ble_eq_true rfl, Nat.le_of_ble_eq_true rfl⟩ dX7_serial_88 (fun r88 S88 H locs hp88 hw => ?_)
        obtain ⟨rfl, hS9⟩ := hp88
        have hS9 := hS9.symm
        subst hS9
        refine zcV_v (As := [.int (zbv (zsw (nI v) pr) (nI i)), .int ((nI ta) + ((nI i) * (nI bt)))]) (rest := []) (n9 := 2) (b := (a (10 + w))) C hw (c_X6_send_p l D y base S2 (a (10 + w)) (a (20 + w)) (a (30 + w)) S (zbv (zsw (nI v) pr) (nI i)) ((nI ta) + ((nI i) * (nI bt))) true (zpt 1 (zlS (nI v) pr) (ztk (nI ta) (nI bt)) i) ((zlS (nI v) pr) i) 0 (znx (nI ta) (nI bt) i) i hW2 (zbv_01 _ _) hs (by have := z_lt (n := zsbN pr) c69 (by omega) (by omega); omega) (Int.le_of_eq (ztk_i hp hh (by omega)).symm) (ztk_lo hp hh (by omega))) gX7_serial_X6_send rfl (by decide +kernel) ⟨⟨rfl, rfl⟩, Nat.le_of_ble_eq_true rfl, Nat.le_of_ble_eq_true rfl⟩ hW2.1 ⟨by decide, by decide⟩ rfl rfl hl.1 rfl (Nat.le_of_ble_eq_true rfl) ⟨Nat.le_of_ble_eq_true rfl, Nat.le_of_ble_eq_true rfl⟩ dX7_serial_91 (fun S91 H locs hp91 hw => ?_)
        refine lv_iinc (v := (nI (i + 1))) (lv' := [(9, .int (nI (i + 1))), (0, .ref (a 0)), (1, .int (nI w)), (2, .int (nI v)), (3, .int (nI ta)), (4, .int (nI bt)), (5, .int pr), (6, .ref (a (10 + w))), (7, .int (nI (zsbN pr))), (8, .int (zsw (nI v) pr))]) hx hb dX7_serial_94 hl (k := 0) rfl (nI_1 _) (by decide) rfl (fun ls hl => ?_)
        refine lv_goto (tgt := 65) hx hb dX7_serial_97 (by decide) ?_
        exact ih_1 (i + 1) S91 _ _ _ (by have := z_lt (n := zsbN pr) c69 (by omega) (by omega); omega) (by have := z_lt (n := zsbN pr) c69 (by omega) (by omega); omega) (hp91.1.weak (zpt_s rfl rfl) (Nat.le_refl _) (ztk_nx hp hh (by omega) (Nat.lt_succ_self i))) hw (lv_sub hl [0, 1, 2, 3, 4, 5, 6, 7, 8, 9] rfl)
  exact lp_2 _ 0 (zsI (zsI S 163 (a (10 + w)) 1) 164 (a (10 + w)) 0) _ _ _ (Nat.lt_succ_self _) (Nat.zero_le _) (zSp.begin (Or.inr rfl) 0 _) hw (lv_sub hl [0, 4, 5, 6, 7, 8, 9, 3, 2, 1] rfl)

set_option maxHeartbeats 4000000 in
set_option maxRecDepth 100000 in
/-- X7_twoWires -/
theorem c_X7_twoWires_n (l : Launch) (hst : l.stackTraces = false) (D : va_G) (y : Nat → ClassId) (base : Nat) (S : zS) (a : Nat → Nat) (c0 : Nat) (d0 : Nat) (ad : Nat) (rd : Bool) (ri : Nat) (v : Nat) (ta : Nat) (bt : Nat) (F : Nat → Int → Bool) (N : Nat → Nat) (A1 : Int32) (A2 : Int32) (rg : Nat → Int32) (ns : Nat) (L : List zNt) (hX : zX S a) (hDs : zDs a) (hc04 : c0 < 4) (hd04 : d0 < 4) (hne : c0 ≠ d0) (had : ad < 128) (hri : ri < 16) (hv : v < 256) (hta : ta ≤ 9999) (hbt : 1 ≤ bt ∧ bt ≤ 50) (hOb : zOb S a F N A1 A2 rg ns L) (hbig : ∃ t : Int, 9999 ≤ t ∧ ¬ (zpt 1 zlC (fun j => ztk (nI ta) (nI bt) (zmC j)) 56) t = (zpt 1 zlC (fun j => ztk (nI ta) (nI bt) (zmC j)) 56) 9999) : zXi l yX7_twoWires wsX7_twoWires ({ frames := 7, cells := 9, slots := 54, locals := 112 }) [.ref (a 0), .int (nI c0), .int (nI d0), .int (nI ad), .int (zb (rd = true)), .int (nI ri), .int (nI v), .int (nI ta), .int (nI bt)] D y base S (fun (r : Int32) (S1 : zS) => False ∧ S1 = S) (fun (E : String) (S1 : zS) => E = "java/lang/IllegalStateException" ∧ zLate S S1 a) 9 54 := by
  refine zXet_of (cc := cX7_twoWires) (maxL := 10) (ret := (some .int)) (own := RX7) (by decide +kernel) rfl rfl (Nat.le_of_ble_eq_true rfl) ?_
  intro p e s m args below meth c ls C hr hlocks hx0 hw hl
  have hx := C.1
  have hb := C.2.1
  have hown := C.2.2.2.1
  have hts := C.2.2.2.2
  have hl : lv_has ls 10 [(0, .ref (a 0)), (1, .int (nI c0)), (2, .int (nI d0)), (3, .int (nI ad)), (4, .int (zb (rd = true))), (5, .int (nI ri)), (6, .int (nI v)), (7, .int (nI ta)), (8, .int (nI bt))] := hl
  have in_X7 : ∀ w ∈ wsX70, w ∈ wsX7_twoWires := by decide +kernel
  refine lv_iload_n hx hb dX7_twoWires_0 rfl (lv_at hl 1 rfl) ?_
  refine zcS_xv (As := [.int (nI c0)]) (rest := []) (n9 := 1) C hw (c_X7_checkWire l hst D y base S (nI c0) ) gX7_twoWires_X7_checkWire rfl (by decide +kernel) ⟨⟨rfl, rfl⟩, Nat.le_of_ble_eq_true rfl, Nat.le_of_ble_eq_true rfl⟩ rfl hl.1 rfl (Nat.le_of_ble_eq_true rfl) ⟨Nat.le_of_ble_eq_true rfl, Nat.le_of_ble_eq_true rfl⟩ dX7_twoWires_1 (fun E ce q9 S1 H locs hx1 hw h1 h2 h3 => zxout hw hx0 hlocks h1 h2 h3 (by obtain ⟨rfl, hc9, rfl⟩ := hx1; exact absurd (zw4 c0 hc04) hc9) ⟨Nat.le_of_ble_eq_true rfl, Nat.le_of_ble_eq_true rfl⟩) (fun S1 H locs hp1 hw => ?_)
  obtain ⟨hp1, hS9⟩ := hp1
  have hS9 := hS9.symm
  subst hS9
  refine lv_iload_n hx hb dX7_twoWires_4 rfl (lv_at hl 2 rfl) ?_
  refine zcS_xv (As := [.int (nI d0)]) (rest := []) (n9 := 1) C hw (c_X7_checkWire l hst D y base S (nI d0) ) gX7_twoWires_X7_checkWire rfl (by decide +kernel) ⟨⟨rfl, rfl⟩, Nat.le_of_ble_eq_true rfl, Nat.le_of_ble_eq_true rfl⟩ rfl hl.1 rfl (Nat.le_of_ble_eq_true rfl) ⟨Nat.le_of_ble_eq_true rfl, Nat.le_of_ble_eq_true rfl⟩ dX7_twoWires_5 (fun E ce q9 S5 H locs hx5 hw h1 h2 h3 => zxout hw hx0 hlocks h1 h2 h3 (by obtain ⟨rfl, hc9, rfl⟩ := hx5; exact absurd (zw4 d0 hd04) hc9) ⟨Nat.le_of_ble_eq_true rfl, Nat.le_of_ble_eq_true rfl⟩) (fun S5 H locs hp5 hw => ?_)
  obtain ⟨hp5, hS9⟩ := hp5
  have hS9 := hS9.symm
  subst hS9
  refine lv_iload_n hx hb dX7_twoWires_8 rfl (lv_at hl 3 rfl) ?_
  refine lv_iconst (v := 0) hx hb dX7_twoWires_9 (by decide) ?_
  refine lv_bipush (v := 127) hx hb dX7_twoWires_10 (by decide) ?_
  refine zcS_xv (As := [.int (nI ad), .int 0, .int 127]) (rest := []) (n9 := 3) C hw (c_X7_checkRange l hst D y base S (nI ad) 0 127 ) gX7_twoWires_X7_checkRange rfl (by decide +kernel) ⟨⟨rfl, rfl⟩, Nat.le_of_ble_eq_true rfl, Nat.le_of_ble_eq_true rfl⟩ rfl hl.1 rfl (Nat.le_of_ble_eq_true rfl) ⟨Nat.le_of_ble_eq_true rfl, Nat.le_of_ble_eq_true rfl⟩ dX7_twoWires_12 (fun E ce q9 S12 H locs hx12 hw h1 h2 h3 => zxout hw hx0 hlocks h1 h2 h3 (by obtain ⟨rfl, hc9, rfl⟩ := hx12; exact absurd (zrg (m := 127) (by omega) (by decide) rfl) hc9) ⟨Nat.le_of_ble_eq_true rfl, Nat.le_of_ble_eq_true rfl⟩) (fun S12 H locs hp12 hw => ?_)
  obtain ⟨hp12, hS9⟩ := hp12
  have hS9 := hS9.symm
  subst hS9
  refine lv_iload hx hb dX7_twoWires_15 (lv_at hl 5 rfl) ?_
  refine lv_iconst (v := 0) hx hb dX7_twoWires_17 (by decide) ?_
  refine lv_bipush (v := 15) hx hb dX7_twoWires_18 (by decide) ?_
  refine zcS_xv (As := [.int (nI ri), .int 0, .int 15]) (rest := []) (n9 := 3) C hw (c_X7_checkRange l hst D y base S (nI ri) 0 15 ) gX7_twoWires_X7_checkRange rfl (by decide +kernel) ⟨⟨rfl, rfl⟩, Nat.le_of_ble_eq_true rfl, Nat.le_of_ble_eq_true rfl⟩ rfl hl.1 rfl (Nat.le_of_ble_eq_true rfl) ⟨Nat.le_of_ble_eq_true rfl, Nat.le_of_ble_eq_true rfl⟩ dX7_twoWires_20 (fun E ce q9 S20 H locs hx20 hw h1 h2 h3 => zxout hw hx0 hlocks h1 h2 h3 (by obtain ⟨rfl, hc9, rfl⟩ := hx20; exact absurd (zrg (m := 15) (by omega) (by decide) rfl) hc9) ⟨Nat.le_of_ble_eq_true rfl, Nat.le_of_ble_eq_true rfl⟩) (fun S20 H locs hp20 hw => ?_)
  obtain ⟨hp20, hS9⟩ := hp20
  have hS9 := hS9.symm
  subst hS9
  refine lv_iload hx hb dX7_twoWires_23 (lv_at hl 6 rfl) ?_
  refine lv_iconst (v := 0) hx hb dX7_twoWires_25 (by decide) ?_
  refine lv_sipush (v := 255) hx hb dX7_twoWires_26 (by decide) ?_
  refine zcS_xv (As := [.int (nI v), .int 0, .int 255]) (rest := []) (n9 := 3) C hw (c_X7_checkRange l hst D y base S (nI v) 0 255 ) gX7_twoWires_X7_checkRange rfl (by decide +kernel) ⟨⟨rfl, rfl⟩, Nat.le_of_ble_eq_true rfl, Nat.le_of_ble_eq_true rfl⟩ rfl hl.1 rfl (Nat.le_of_ble_eq_true rfl) ⟨Nat.le_of_ble_eq_true rfl, Nat.le_of_ble_eq_true rfl⟩ dX7_twoWires_29 (fun E ce q9 S29 H locs hx29 hw h1 h2 h3 => zxout hw hx0 hlocks h1 h2 h3 (by obtain ⟨rfl, hc9, rfl⟩ := hx29; exact absurd (zrg (m := 255) (by omega) (by decide) rfl) hc9) ⟨Nat.le_of_ble_eq_true rfl, Nat.le_of_ble_eq_true rfl⟩) (fun S29 H locs hp29 hw => ?_)
  obtain ⟨hp29, hS9⟩ := hp29
  have hS9 := hS9.symm
  subst hS9
  refine lv_iload hx hb dX7_twoWires_32 (lv_at hl 7 rfl) ?_
  refine lv_iconst (v := 0) hx hb dX7_twoWires_34 (by decide) ?_
  refine lv_sipush (v := 9999) hx hb dX7_twoWires_35 (by decide) ?_
  refine zcS_xv (As := [.int (nI ta), .int 0, .int 9999]) (rest := []) (n9 := 3) C hw (c_X7_checkRange l hst D y base S (nI ta) 0 9999 ) gX7_twoWires_X7_checkRange rfl (by decide +kernel) ⟨⟨rfl, rfl⟩, Nat.le_of_ble_eq_true rfl, Nat.le_of_ble_eq_true rfl⟩ rfl hl.1 rfl (Nat.le_of_ble_eq_true rfl) ⟨Nat.le_of_ble_eq_true rfl, Nat.le_of_ble_eq_true rfl⟩ dX7_twoWires_38 (fun E ce q9 S38 H locs hx38 hw h1 h2 h3 => zxout hw hx0 hlocks h1 h2 h3 (by obtain ⟨rfl, hc9, rfl⟩ := hx38; exact absurd (zrg (m := 9999) (by omega) (by decide) rfl) hc9) ⟨Nat.le_of_ble_eq_true rfl, Nat.le_of_ble_eq_true rfl⟩) (fun S38 H locs hp38 hw => ?_)
  obtain ⟨hp38, hS9⟩ := hp38
  have hS9 := hS9.symm
  subst hS9
  refine lv_iload hx hb dX7_twoWires_41 (lv_at hl 8 rfl) ?_
  refine lv_iconst (v := 1) hx hb dX7_twoWires_43 (by decide) ?_
  refine lv_bipush (v := 50) hx hb dX7_twoWires_44 (by decide) ?_
  refine zcS_xv (As := [.int (nI bt), .int 1, .int 50]) (rest := []) (n9 := 3) C hw (c_X7_checkRange l hst D y base S (nI bt) 1 50 ) gX7_twoWires_X7_checkRange rfl (by decide +kernel) ⟨⟨rfl, rfl⟩, Nat.le_of_ble_eq_true rfl, Nat.le_of_ble_eq_true rfl⟩ rfl hl.1 rfl (Nat.le_of_ble_eq_true rfl) ⟨Nat.le_of_ble_eq_true rfl, Nat.le_of_ble_eq_true rfl⟩ dX7_twoWires_46 (fun E ce q9 S46 H locs hx46 hw h1 h2 h3 => zxout hw hx0 hlocks h1 h2 h3 (by obtain ⟨rfl, hc9, rfl⟩ := hx46; exact absurd (zrg1 (m := 50) hbt.1 hbt.2 (by decide) rfl) hc9) ⟨Nat.le_of_ble_eq_true rfl, Nat.le_of_ble_eq_true rfl⟩) (fun S46 H locs hp46 hw => ?_)
  obtain ⟨hp46, hS9⟩ := hp46
  have hS9 := hS9.symm
  subst hS9
  refine lv_iload_n hx hb dX7_twoWires_49 rfl (lv_at hl 1 rfl) ?_
  refine lv_iload_n hx hb dX7_twoWires_50 rfl (lv_at hl 2 rfl) ?_
  refine zcS_xv (As := [.int (nI c0), .int (nI d0)]) (rest := []) (n9 := 2) C hw (c_X7_checkApart l hst D y base S (nI c0) (nI d0) ) gX7_twoWires_X7_checkApart rfl (by decide +kernel) ⟨⟨rfl, rfl⟩, Nat.le_of_ble_eq_true rfl, Nat.le_of_ble_eq_true rfl⟩ rfl hl.1 rfl (Nat.le_of_ble_eq_true rfl) ⟨Nat.le_of_ble_eq_true rfl, Nat.le_of_ble_eq_true rfl⟩ dX7_twoWires_51 (fun E ce q9 S51 H locs hx51 hw h1 h2 h3 => zxout hw hx0 hlocks h1 h2 h3 (by obtain ⟨rfl, hc9, rfl⟩ := hx51; exact absurd (fun e => hne ((nI_eq (by omega) (by omega)).mp e)) hc9) ⟨Nat.le_of_ble_eq_true rfl, Nat.le_of_ble_eq_true rfl⟩) (fun S51 H locs hp51 hw => ?_)
  obtain ⟨hp51, hS9⟩ := hp51
  have hS9 := hS9.symm
  subst hS9
  refine lv_iload_n hx hb dX7_twoWires_54 rfl (lv_at hl 3 rfl) ?_
  refine lv_iconst (v := 2) hx hb dX7_twoWires_55 (by decide) ?_
  refine lv_imul hx hb dX7_twoWires_56 ?_
  refine lv_iload hx hb dX7_twoWires_57 (lv_at hl 4 rfl) ?_
  have jn_1 : ∀ (rx_2 : Int32) (H : Heap) (locs : List Loc) (ls : Array Slot), zW D y base S s H locs → lv_has ls 10 [(0, .ref (a 0)), (1, .int (nI c0)), (2, .int (nI d0)), (3, .int (nI ad)), (4, .int (zb (rd = true))), (5, .int (nI ri)), (6, .int (nI v)), (7, .int (nI ta)), (8, .int (nI bt))] → (rx_2 = zb (rd = true)) → W p l e (headSpec wsX7_twoWires ({ frames := 7, cells := 9, slots := 54, locals := 112 })).room s m args below meth c H locs 8 48 (vx_MQ below (va_Qi (fun (r : Int32) (S1 : zS) => False ∧ S1 = S) (zPost D y base) (zA base)) (zXC (fun (E : String) (S1 : zS) => E = "java/lang/IllegalStateException" ∧ zLate S S1 a) D y base) args s 9 54 (zA base)) (F0 m 67 ls [.int rx_2, .int ((nI ad) * 2)]) := by
    intro rx_2 H locs ls hw hl f_3
    subst f_3
    refine lv_iadd hx hb dX7_twoWires_67 ?_
    refine lv_aload_n hx hb dX7_twoWires_68 rfl (lv_at hl 0 rfl) ?_
    refine g_Ph_isAddressAnswered (a := (a 0)) (v := A1) C hw hX.1 in_X7 (by decide +kernel) hOb.2.2.2.2.1 dX7_twoWires_69 ?_
    refine zcS_i (As := [.int (((nI ad) * 2) + (zb (rd = true))), .int A1]) (rest := []) (n9 := 2) C hw (c_X7_answeredByte l D y base S (((nI ad) * 2) + (zb (rd = true))) A1 ) gX7_twoWires_X7_answeredByte rfl (by decide +kernel) ⟨⟨rfl, rfl⟩, Nat.le_of_ble_eq_true rfl, Nat.le_of_ble_eq_true rfl⟩ rfl hl.1 rfl (Nat.le_of_ble_eq_true rfl) ⟨Nat.le_of_ble_eq_true rfl, Nat.le_of_ble_eq_true rfl⟩ dX7_twoWires_72 (fun r72 S72 H locs hp72 hw => ?_)
    obtain ⟨rfl, hS9⟩ := hp72
    have hS9 := hS9.symm
    subst hS9
    refine lv_istore (lv' := [(9, .int (zan (((nI ad) * 2) + (zb (rd = true))) A1)), (0, .ref (a 0)), (1, .int (nI c0)), (2, .int (nI d0)), (3, .int (nI ad)), (4, .int (zb (rd = true))), (5, .int (nI ri)), (6, .int (nI v)), (7, .int (nI ta)), (8, .int (nI bt))]) hx hb dX7_twoWires_75 hl (by decide) rfl (fun ls hl => ?_)
    refine lv_iload hx hb dX7_twoWires_77 (lv_at hl 0 rfl) ?_
    refine lv_bipush (v := 9) hx hb dX7_twoWires_79 (by decide) ?_
    refine lv_ishl hx hb dX7_twoWires_81 ?_
    refine lv_iload hx hb dX7_twoWires_82 (lv_at hl 6 rfl) ?_
    refine lv_aload_n hx hb dX7_twoWires_84 rfl (lv_at hl 1 rfl) ?_
    refine g_Ph_areOthersAnswered (a := (a 0)) (v := A2) C hw hX.1 in_X7 (by decide +kernel) hOb.2.2.2.2.2.1 dX7_twoWires_85 ?_
    refine zcS_i (As := [.int (nI ri), .int A2]) (rest := [.int ((zan (((nI ad) * 2) + (zb (rd = true))) A1) <<< (9 &&& 31))]) (n9 := 2) C hw (c_X7_answeredByte l D y base S (nI ri) A2 ) gX7_twoWires_X7_answeredByte rfl (by decide +kernel) ⟨⟨rfl, rfl⟩, Nat.le_of_ble_eq_true rfl, Nat.le_of_ble_eq_true rfl⟩ rfl hl.1 rfl (Nat.le_of_ble_eq_true rfl) ⟨Nat.le_of_ble_eq_true rfl, Nat.le_of_ble_eq_true rfl⟩ dX7_twoWires_88 (fun r88 S88 H locs hp88 hw => ?_)
    obtain ⟨rfl, hS9⟩ := hp88
    have hS9 := hS9.symm
    subst hS9
    refine lv_ior hx hb dX7_twoWires_91 ?_
    refine lv_istore (lv' := [(9, .int (((zan (((nI ad) * 2) + (zb (rd = true))) A1) <<< (9 &&& 31)) ||| (zan (nI ri) A2))), (0, .ref (a 0)), (1, .int (nI c0)), (2, .int (nI d0)), (3, .int (nI ad)), (4, .int (zb (rd = true))), (5, .int (nI ri)), (6, .int (nI v)), (7, .int (nI ta)), (8, .int (nI bt))]) hx hb dX7_twoWires_92 hl (by decide) rfl (fun ls hl => ?_)
    refine lv_iload hx hb dX7_twoWires_94 (lv_at hl 0 rfl) ?_
    refine lv_bipush (v := 9) hx hb dX7_twoWires_96 (by decide) ?_
    refine lv_ishl hx hb dX7_twoWires_98 ?_
    refine lv_iload hx hb dX7_twoWires_99 (lv_at hl 7 rfl) ?_
    refine lv_aload_n hx hb dX7_twoWires_101 rfl (lv_at hl 1 rfl) ?_
    refine g_Ph_areOthersAnswered (a := (a 0)) (v := A2) C hw hX.1 in_X7 (by decide +kernel) hOb.2.2.2.2.2.1 dX7_twoWires_102 ?_
    refine zcS_i (As := [.int (nI v), .int A2]) (rest := [.int ((((zan (((nI ad) * 2) + (zb (rd = true))) A1) <<< (9 &&& 31)) ||| (zan (nI ri) A2)) <<< (9 &&& 31))]) (n9 := 2) C hw (c_X7_answeredByte l D y base S (nI v) A2 ) gX7_twoWires_X7_answeredByte rfl (by decide +kernel) ⟨⟨rfl, rfl⟩, Nat.le_of_ble_eq_true rfl, Nat.le_of_ble_eq_true rfl⟩ rfl hl.1 rfl (Nat.le_of_ble_eq_true rfl) ⟨Nat.le_of_ble_eq_true rfl, Nat.le_of_ble_eq_true rfl⟩ dX7_twoWires_105 (fun r105 S105 H locs hp105 hw => ?_)
    obtain ⟨rfl, hS9⟩ := hp105
    have hS9 := hS9.symm
    subst hS9
    refine lv_ior hx hb dX7_twoWires_108 ?_
    refine zrd (x := (zwg A1 A2 rd ad ri v)) rfl ?_
    refine lv_istore (lv' := [(9, .int (zwg A1 A2 rd ad ri v)), (0, .ref (a 0)), (1, .int (nI c0)), (2, .int (nI d0)), (3, .int (nI ad)), (4, .int (zb (rd = true))), (5, .int (nI ri)), (6, .int (nI v)), (7, .int (nI ta)), (8, .int (nI bt))]) hx hb dX7_twoWires_109 hl (by decide) rfl (fun ls hl => ?_)
    have hp : (0 : Int32) ≤ nI ta ∧ nI ta ≤ 9999 := zrg (m := 9999) (by omega) (by decide) rfl
    have hh : (1 : Int32) ≤ nI bt ∧ nI bt ≤ 50 := zrg1 (m := 50) (by omega) hbt.2 (by decide) rfl
    have hwi_c0_hOb := zX.wi hOb.1 hc04
    have hwi_d0_hOb := zX.wi hOb.1 hd04
    refine lv_aload_n hx hb dX7_twoWires_111 rfl (lv_at hl 1 rfl) ?_
    refine lv_aload_n hx hb dX7_twoWires_112 rfl (lv_at hl 1 rfl) ?_
    refine g_Ph_wires (a := (a 0)) (v := (a 1)) C hw hX.1 in_X7 (by decide +kernel) hX.2.1 dX7_twoWires_113 ?_
    refine lv_iload_n hx hb dX7_twoWires_116 rfl (lv_at hl 2 rfl) ?_
    refine zald_P (a := (a 1)) (v := (a (10 + c0))) C hw hX.2.2.2.2.2.2.1 (by decide) (t0 := 3) rfl rfl hX.2.2.2.2.2.2.2.1 (zin_of (N := 4) (by decide) (by grind) (by grind)) hwi_c0_hOb.1 dX7_twoWires_117 ?_
    refine lv_aload_n hx hb dX7_twoWires_118 rfl (lv_at hl 1 rfl) ?_
    refine g_Ph_wires (a := (a 0)) (v := (a 1)) C hw hX.1 in_X7 (by decide +kernel) hX.2.1 dX7_twoWires_119 ?_
    refine lv_iload_n hx hb dX7_twoWires_122 rfl (lv_at hl 3 rfl) ?_
    refine zald_P (a := (a 1)) (v := (a (10 + d0))) C hw hX.2.2.2.2.2.2.1 (by decide) (t0 := 3) rfl rfl hX.2.2.2.2.2.2.2.1 (zin_of (N := 4) (by decide) (by grind) (by grind)) hwi_d0_hOb.1 dX7_twoWires_123 ?_
    refine lv_iload hx hb dX7_twoWires_124 (lv_at hl 0 rfl) ?_
    refine lv_iload hx hb dX7_twoWires_126 (lv_at hl 8 rfl) ?_
    refine lv_iload hx hb dX7_twoWires_128 (lv_at hl 9 rfl) ?_
    refine zcV_v (As := [.ref (a (10 + c0)), .ref (a (10 + d0)), .int (zwg A1 A2 rd ad ri v), .int (nI ta), .int (nI bt)]) (rest := []) (n9 := 5) (b := (a 0)) C hw (c_X7_planTwoWires_p l D y base S (a 0) (a (10 + c0)) (a (20 + c0)) (a (30 + c0)) (a (10 + d0)) (a (20 + d0)) (a (30 + d0)) (zwg A1 A2 rd ad ri v) (nI ta) (nI bt) hwi_c0_hOb.2 hwi_d0_hOb.2 hX.1 hOb.2.2.2.1 (hX.wd hc04 hd04 hne) hp hh) gX7_twoWires_X7_planTwoWires rfl (by decide +kernel) ⟨⟨rfl, rfl⟩, Nat.le_of_ble_eq_true rfl, Nat.le_of_ble_eq_true rfl⟩ hX.1 ⟨by decide, by decide⟩ rfl rfl hl.1 rfl (Nat.le_of_ble_eq_true rfl) ⟨Nat.le_of_ble_eq_true rfl, Nat.le_of_ble_eq_true rfl⟩ dX7_twoWires_130 (fun S130 H locs hp130 hw => ?_)
    have hOb2 := hOb.snd hDs (hp130.1.mono (fun _ _ g => g) (fun k x g => ⟨g.1, g.2.elim (fun e => ⟨c0, hc04, e⟩) (fun e => ⟨d0, hd04, e⟩)⟩))
    have hwi_c0_hOb2 := zX.wi hOb2.1 hc04
    have hwi_d0_hOb2 := zX.wi hOb2.1 hd04
    have hw3 := hOb2.2.2.1 c0 hc04
    have hLt : zLate S S130 a := hp130.1.mono (fun _ _ g => g) (fun k x g => ⟨g.1, g.2.elim (fun e => ⟨c0, hc04, e⟩) (fun e => ⟨d0, hd04, e⟩)⟩)
    refine lv_aload_n hx hb dX7_twoWires_133 rfl (lv_at hl 1 rfl) ?_
    refine g_Ph_wires (a := (a 0)) (v := (a 1)) C hw hOb2.1.1 in_X7 (by decide +kernel) hOb2.1.2.1 dX7_twoWires_134 ?_
    refine lv_iload_n hx hb dX7_twoWires_137 rfl (lv_at hl 2 rfl) ?_
    refine zald_P (a := (a 1)) (v := (a (10 + c0))) C hw hOb2.1.2.2.2.2.2.2.1 (by decide) (t0 := 3) rfl rfl hOb2.1.2.2.2.2.2.2.2.1 (zin_of (N := 4) (by decide) (by grind) (by grind)) hwi_c0_hOb2.1 dX7_twoWires_138 ?_
    refine zcV_i (As := []) (rest := []) (n9 := 0) (b := (a (10 + c0))) C hw (c_X6_takesSent_n l D y base S130 (a (10 + c0)) (a (20 + c0)) (a (30 + c0)) S130 true (zpt 1 zlC (fun j => ztk (nI ta) (nI bt) (zmC j)) 56) 1 0 (znx (nI ta) (nI bt) 58) 56 (N c0) hwi_c0_hOb2.2 hp130.2.1 (by omega) (hOb2.2.2.1 c0 hc04).2.1.1 hbig) gX7_twoWires_X6_takesSent rfl (by decide +kernel) ⟨⟨rfl, rfl⟩, Nat.le_of_ble_eq_true rfl, Nat.le_of_ble_eq_true rfl⟩ hwi_c0_hOb2.2.1 ⟨by decide, by decide⟩ rfl rfl hl.1 rfl (Nat.le_of_ble_eq_true rfl) ⟨Nat.le_of_ble_eq_true rfl, Nat.le_of_ble_eq_true rfl⟩ dX7_twoWires_139 (fun r139 S139 H locs hp139 hw => ?_)
    obtain ⟨rfl, hS9⟩ := hp139
    have hS9 := hS9.symm
    subst hS9
    refine lv_if_eq (tgt := 161) hx hb dX7_twoWires_142 (by decide) (fun _ => ?_) (fun c142 => absurd c142 (by decide))
    refine lv_iconst (v := 0) hx hb dX7_twoWires_161 (by decide) ?_
    refine zcS_xv (As := [.int 0]) (rest := []) (n9 := 1) C hw (c_X7_checkFlips l hst D y base S130 0 ) gX7_twoWires_X7_checkFlips rfl (by decide +kernel) ⟨⟨rfl, rfl⟩, Nat.le_of_ble_eq_true rfl, Nat.le_of_ble_eq_true rfl⟩ rfl hl.1 rfl (Nat.le_of_ble_eq_true rfl) ⟨Nat.le_of_ble_eq_true rfl, Nat.le_of_ble_eq_true rfl⟩ dX7_twoWires_162 (fun E ce q9 S162 H locs hx162 hw h1 h2 h3 => zxout hw hx0 hlocks h1 h2 h3 ⟨hx162.1, hx162.2.2 ▸ hLt⟩ ⟨Nat.le_of_ble_eq_true rfl, Nat.le_of_ble_eq_true rfl⟩) (fun S162 H locs hp162 hw => ?_)
    obtain ⟨hp162, hS9⟩ := hp162
    have hS9 := hS9.symm
    subst hS9
    exact (show False from (hp162 rfl)).elim
  refine lv_if_eq (tgt := 66) hx hb dX7_twoWires_59 (by decide) (fun c59 => ?_) (fun c59 => ?_)
  · replace c59 := zb0.mp c59
    refine lv_iconst (v := 0) hx hb dX7_twoWires_66 (by decide) ?_
    exact jn_1 0 _ _ _ hw (lv_sub hl [0, 1, 2, 3, 4, 5, 6, 7, 8] rfl) (by first | exact zb_t c59 | exact zb_f c59)
  · replace c59 := zb1.mp c59
    refine lv_iconst (v := 1) hx hb dX7_twoWires_62 (by decide) ?_
    refine lv_goto (tgt := 67) hx hb dX7_twoWires_63 (by decide) ?_
    exact jn_1 1 _ _ _ hw (lv_sub hl [0, 1, 2, 3, 4, 5, 6, 7, 8] rfl) (by first | exact zb_t c59 | exact zb_f c59)

set_option maxHeartbeats 4000000 in
set_option maxRecDepth 100000 in
/-- X7_fourWires -/
theorem c_X7_fourWires_n (l : Launch) (hst : l.stackTraces = false) (D : va_G) (y : Nat → ClassId) (base : Nat) (S : zS) (a : Nat → Nat) (c0 : Nat) (d0 : Nat) (z0 : Nat) (v : Nat) (ta : Nat) (bt : Nat) (md : Nat) (F : Nat → Int → Bool) (N : Nat → Nat) (A1 : Int32) (A2 : Int32) (rg : Nat → Int32) (ns : Nat) (L : List zNt) (hX : zX S a) (hDs : zDs a) (hc04 : c0 < 4) (hd04 : d0 < 4) (hz04 : z0 < 4) (hne : c0 ≠ d0 ∧ c0 ≠ z0 ∧ d0 ≠ z0) (hv : v < 256) (hta : ta ≤ 9999) (hbt : 1 ≤ bt ∧ bt ≤ 50) (hmd : md < 4) (hOb : zOb S a F N A1 A2 rg ns L) (hbig : ∃ t : Int, 9999 ≤ t ∧ ¬ (zpt (zge2 (nI md)) (zlF (zge2 (nI md))) (fun j => ztk (nI ta) (nI bt) (j + 1)) 16) t = (zpt (zge2 (nI md)) (zlF (zge2 (nI md))) (fun j => ztk (nI ta) (nI bt) (j + 1)) 16) 9999) : zXi l yX7_fourWires wsX7_fourWires ({ frames := 8, cells := 11, slots := 66, locals := 133 }) [.ref (a 0), .int (nI c0), .int (nI d0), .int (nI z0), .int (nI v), .int (nI ta), .int (nI bt), .int (nI md)] D y base S (fun (r : Int32) (S1 : zS) => False ∧ S1 = S) (fun (E : String) (S1 : zS) => E = "java/lang/IllegalStateException" ∧ zLate S S1 a) 11 66 := by
  refine zXet_of (cc := cX7_fourWires) (maxL := 9) (ret := (some .int)) (own := RX7) (by decide +kernel) rfl rfl (Nat.le_of_ble_eq_true rfl) ?_
  intro p e s m args below meth c ls C hr hlocks hx0 hw hl
  have hx := C.1
  have hb := C.2.1
  have hown := C.2.2.2.1
  have hts := C.2.2.2.2
  have hl : lv_has ls 9 [(0, .ref (a 0)), (1, .int (nI c0)), (2, .int (nI d0)), (3, .int (nI z0)), (4, .int (nI v)), (5, .int (nI ta)), (6, .int (nI bt)), (7, .int (nI md))] := hl
  have in_X7 : ∀ w ∈ wsX70, w ∈ wsX7_fourWires := by decide +kernel
  refine lv_iload_n hx hb dX7_fourWires_0 rfl (lv_at hl 1 rfl) ?_
  refine zcS_xv (As := [.int (nI c0)]) (rest := []) (n9 := 1) C hw (c_X7_checkWire l hst D y base S (nI c0) ) gX7_fourWires_X7_checkWire rfl (by decide +kernel) ⟨⟨rfl, rfl⟩, Nat.le_of_ble_eq_true rfl, Nat.le_of_ble_eq_true rfl⟩ rfl hl.1 rfl (Nat.le_of_ble_eq_true rfl) ⟨Nat.le_of_ble_eq_true rfl, Nat.le_of_ble_eq_true rfl⟩ dX7_fourWires_1 (fun E ce q9 S1 H locs hx1 hw h1 h2 h3 => zxout hw hx0 hlocks h1 h2 h3 (by obtain ⟨rfl, hc9, rfl⟩ := hx1; exact absurd (zw4 c0 hc04) hc9) ⟨Nat.le_of_ble_eq_true rfl, Nat.le_of_ble_eq_true rfl⟩) (fun S1 H locs hp1 hw => ?_)
  obtain ⟨hp1, hS9⟩ := hp1
  have hS9 := hS9.symm
  subst hS9
  refine lv_iload_n hx hb dX7_fourWires_4 rfl (lv_at hl 2 rfl) ?_
  refine zcS_xv (As := [.int (nI d0)]) (rest := []) (n9 := 1) C hw (c_X7_checkWire l hst D y base S (nI d0) ) gX7_fourWires_X7_checkWire rfl (by decide +kernel) ⟨⟨rfl, rfl⟩, Nat.le_of_ble_eq_true rfl, Nat.le_of_ble_eq_true rfl⟩ rfl hl.1 rfl (Nat.le_of_ble_eq_true rfl) ⟨Nat.le_of_ble_eq_true rfl, Nat.le_of_ble_eq_true rfl⟩ dX7_fourWires_5 (fun E ce q9 S5 H locs hx5 hw h1 h2 h3 => zxout hw hx0 hlocks h1 h2 h3 (by obtain ⟨rfl, hc9, rfl⟩ := hx5; exact absurd (zw4 d0 hd04) hc9) ⟨Nat.le_of_ble_eq_true rfl, Nat.le_of_ble_eq_true rfl⟩) (fun S5 H locs hp5 hw => ?_)
  obtain ⟨hp5, hS9⟩ := hp5
  have hS9 := hS9.symm
  subst hS9
  refine lv_iload_n hx hb dX7_fourWires_8 rfl (lv_at hl 3 rfl) ?_
  refine zcS_xv (As := [.int (nI z0)]) (rest := []) (n9 := 1) C hw (c_X7_checkWire l hst D y base S (nI z0) ) gX7_fourWires_X7_checkWire rfl (by decide +kernel) ⟨⟨rfl, rfl⟩, Nat.le_of_ble_eq_true rfl, Nat.le_of_ble_eq_true rfl⟩ rfl hl.1 rfl (Nat.le_of_ble_eq_true rfl) ⟨Nat.le_of_ble_eq_true rfl, Nat.le_of_ble_eq_true rfl⟩ dX7_fourWires_9 (fun E ce q9 S9 H locs hx9 hw h1 h2 h3 => zxout hw hx0 hlocks h1 h2 h3 (by obtain ⟨rfl, hc9, rfl⟩ := hx9; exact absurd (zw4 z0 hz04) hc9) ⟨Nat.le_of_ble_eq_true rfl, Nat.le_of_ble_eq_true rfl⟩) (fun S9 H locs hp9 hw => ?_)
  obtain ⟨hp9, hS9⟩ := hp9
  have hS9 := hS9.symm
  subst hS9
  refine lv_iload hx hb dX7_fourWires_12 (lv_at hl 4 rfl) ?_
  refine lv_iconst (v := 0) hx hb dX7_fourWires_14 (by decide) ?_
  refine lv_sipush (v := 255) hx hb dX7_fourWires_15 (by decide) ?_
  refine zcS_xv (As := [.int (nI v), .int 0, .int 255]) (rest := []) (n9 := 3) C hw (c_X7_checkRange l hst D y base S (nI v) 0 255 ) gX7_fourWires_X7_checkRange rfl (by decide +kernel) ⟨⟨rfl, rfl⟩, Nat.le_of_ble_eq_true rfl, Nat.le_of_ble_eq_true rfl⟩ rfl hl.1 rfl (Nat.le_of_ble_eq_true rfl) ⟨Nat.le_of_ble_eq_true rfl, Nat.le_of_ble_eq_true rfl⟩ dX7_fourWires_18 (fun E ce q9 S18 H locs hx18 hw h1 h2 h3 => zxout hw hx0 hlocks h1 h2 h3 (by obtain ⟨rfl, hc9, rfl⟩ := hx18; exact absurd (zrg (m := 255) (by omega) (by decide) rfl) hc9) ⟨Nat.le_of_ble_eq_true rfl, Nat.le_of_ble_eq_true rfl⟩) (fun S18 H locs hp18 hw => ?_)
  obtain ⟨hp18, hS9⟩ := hp18
  have hS9 := hS9.symm
  subst hS9
  refine lv_iload hx hb dX7_fourWires_21 (lv_at hl 5 rfl) ?_
  refine lv_iconst (v := 0) hx hb dX7_fourWires_23 (by decide) ?_
  refine lv_sipush (v := 9999) hx hb dX7_fourWires_24 (by decide) ?_
  refine zcS_xv (As := [.int (nI ta), .int 0, .int 9999]) (rest := []) (n9 := 3) C hw (c_X7_checkRange l hst D y base S (nI ta) 0 9999 ) gX7_fourWires_X7_checkRange rfl (by decide +kernel) ⟨⟨rfl, rfl⟩, Nat.le_of_ble_eq_true rfl, Nat.le_of_ble_eq_true rfl⟩ rfl hl.1 rfl (Nat.le_of_ble_eq_true rfl) ⟨Nat.le_of_ble_eq_true rfl, Nat.le_of_ble_eq_true rfl⟩ dX7_fourWires_27 (fun E ce q9 S27 H locs hx27 hw h1 h2 h3 => zxout hw hx0 hlocks h1 h2 h3 (by obtain ⟨rfl, hc9, rfl⟩ := hx27; exact absurd (zrg (m := 9999) (by omega) (by decide) rfl) hc9) ⟨Nat.le_of_ble_eq_true rfl, Nat.le_of_ble_eq_true rfl⟩) (fun S27 H locs hp27 hw => ?_)
  obtain ⟨hp27, hS9⟩ := hp27
  have hS9 := hS9.symm
  subst hS9
  refine lv_iload hx hb dX7_fourWires_30 (lv_at hl 6 rfl) ?_
  refine lv_iconst (v := 1) hx hb dX7_fourWires_32 (by decide) ?_
  refine lv_bipush (v := 50) hx hb dX7_fourWires_33 (by decide) ?_
  refine zcS_xv (As := [.int (nI bt), .int 1, .int 50]) (rest := []) (n9 := 3) C hw (c_X7_checkRange l hst D y base S (nI bt) 1 50 ) gX7_fourWires_X7_checkRange rfl (by decide +kernel) ⟨⟨rfl, rfl⟩, Nat.le_of_ble_eq_true rfl, Nat.le_of_ble_eq_true rfl⟩ rfl hl.1 rfl (Nat.le_of_ble_eq_true rfl) ⟨Nat.le_of_ble_eq_true rfl, Nat.le_of_ble_eq_true rfl⟩ dX7_fourWires_35 (fun E ce q9 S35 H locs hx35 hw h1 h2 h3 => zxout hw hx0 hlocks h1 h2 h3 (by obtain ⟨rfl, hc9, rfl⟩ := hx35; exact absurd (zrg1 (m := 50) hbt.1 hbt.2 (by decide) rfl) hc9) ⟨Nat.le_of_ble_eq_true rfl, Nat.le_of_ble_eq_true rfl⟩) (fun S35 H locs hp35 hw => ?_)
  obtain ⟨hp35, hS9⟩ := hp35
  have hS9 := hS9.symm
  subst hS9
  refine lv_iload hx hb dX7_fourWires_38 (lv_at hl 7 rfl) ?_
  refine lv_iconst (v := 0) hx hb dX7_fourWires_40 (by decide) ?_
  refine lv_iconst (v := 3) hx hb dX7_fourWires_41 (by decide) ?_
  refine zcS_xv (As := [.int (nI md), .int 0, .int 3]) (rest := []) (n9 := 3) C hw (c_X7_checkRange l hst D y base S (nI md) 0 3 ) gX7_fourWires_X7_checkRange rfl (by decide +kernel) ⟨⟨rfl, rfl⟩, Nat.le_of_ble_eq_true rfl, Nat.le_of_ble_eq_true rfl⟩ rfl hl.1 rfl (Nat.le_of_ble_eq_true rfl) ⟨Nat.le_of_ble_eq_true rfl, Nat.le_of_ble_eq_true rfl⟩ dX7_fourWires_42 (fun E ce q9 S42 H locs hx42 hw h1 h2 h3 => zxout hw hx0 hlocks h1 h2 h3 (by obtain ⟨rfl, hc9, rfl⟩ := hx42; exact absurd (zrg (m := 3) (by omega) (by decide) rfl) hc9) ⟨Nat.le_of_ble_eq_true rfl, Nat.le_of_ble_eq_true rfl⟩) (fun S42 H locs hp42 hw => ?_)
  obtain ⟨hp42, hS9⟩ := hp42
  have hS9 := hS9.symm
  subst hS9
  refine lv_iload_n hx hb dX7_fourWires_45 rfl (lv_at hl 1 rfl) ?_
  refine lv_iload_n hx hb dX7_fourWires_46 rfl (lv_at hl 2 rfl) ?_
  refine lv_iload_n hx hb dX7_fourWires_47 rfl (lv_at hl 3 rfl) ?_
  refine zcS_xv (As := [.int (nI c0), .int (nI d0), .int (nI z0)]) (rest := []) (n9 := 3) C hw (c_X7_checkThreeApart l hst D y base S (nI c0) (nI d0) (nI z0) ) gX7_fourWires_X7_checkThreeApart rfl (by decide +kernel) ⟨⟨rfl, rfl⟩, Nat.le_of_ble_eq_true rfl, Nat.le_of_ble_eq_true rfl⟩ rfl hl.1 rfl (Nat.le_of_ble_eq_true rfl) ⟨Nat.le_of_ble_eq_true rfl, Nat.le_of_ble_eq_true rfl⟩ dX7_fourWires_48 (fun E ce q9 S48 H locs hx48 hw h1 h2 h3 => zxout hw hx0 hlocks h1 h2 h3 (by obtain ⟨rfl, hc9, rfl⟩ := hx48; exact absurd ⟨(fun e => hne.1 ((nI_eq (by omega) (by omega)).mp e)), (fun e => hne.2.1 ((nI_eq (by omega) (by omega)).mp e)), (fun e => hne.2.2 ((nI_eq (by omega) (by omega)).mp e))⟩ hc9) ⟨Nat.le_of_ble_eq_true rfl, Nat.le_of_ble_eq_true rfl⟩) (fun S48 H locs hp48 hw => ?_)
  obtain ⟨hp48, hS9⟩ := hp48
  have hS9 := hS9.symm
  subst hS9
  refine lv_aload_n hx hb dX7_fourWires_51 rfl (lv_at hl 0 rfl) ?_
  refine lv_iload hx hb dX7_fourWires_52 (lv_at hl 5 rfl) ?_
  refine lv_bipush (v := 17) hx hb dX7_fourWires_54 (by decide) ?_
  refine lv_iload hx hb dX7_fourWires_56 (lv_at hl 6 rfl) ?_
  refine lv_imul hx hb dX7_fourWires_58 ?_
  refine zcV_i (As := [.int (nI ta), .int (17 * (nI bt))]) (rest := []) (n9 := 2) (b := (a 0)) C hw (c_X7_tickBehind l D y base S (a 0) (nI ta) (17 * (nI bt)) hX.1 hOb.2.2.2.1) gX7_fourWires_X7_tickBehind rfl (by decide +kernel) ⟨⟨rfl, rfl⟩, Nat.le_of_ble_eq_true rfl, Nat.le_of_ble_eq_true rfl⟩ hX.1 ⟨by decide, by decide⟩ rfl rfl hl.1 rfl (Nat.le_of_ble_eq_true rfl) ⟨Nat.le_of_ble_eq_true rfl, Nat.le_of_ble_eq_true rfl⟩ dX7_fourWires_59 (fun r59 S59 H locs hp59 hw => ?_)
  obtain ⟨rfl, hS9⟩ := hp59
  have hS9 := hS9.symm
  subst hS9
  refine zrd (x := (ztk (nI ta) (nI bt) 17)) rfl ?_
  refine lv_istore (lv' := [(8, .int (ztk (nI ta) (nI bt) 17)), (0, .ref (a 0)), (1, .int (nI c0)), (2, .int (nI d0)), (3, .int (nI z0)), (4, .int (nI v)), (5, .int (nI ta)), (6, .int (nI bt)), (7, .int (nI md))]) hx hb dX7_fourWires_62 hl (by decide) rfl (fun ls hl => ?_)
  have hp : (0 : Int32) ≤ nI ta ∧ nI ta ≤ 9999 := zrg (m := 9999) (by omega) (by decide) rfl
  have hh : (1 : Int32) ≤ nI bt ∧ nI bt ≤ 50 := zrg1 (m := 50) (by omega) hbt.2 (by decide) rfl
  have hwi_z0_hOb := zX.wi hOb.1 hz04
  refine lv_aload_n hx hb dX7_fourWires_64 rfl (lv_at hl 1 rfl) ?_
  refine g_Ph_wires (a := (a 0)) (v := (a 1)) C hw hX.1 in_X7 (by decide +kernel) hX.2.1 dX7_fourWires_65 ?_
  refine lv_iload_n hx hb dX7_fourWires_68 rfl (lv_at hl 4 rfl) ?_
  refine zald_P (a := (a 1)) (v := (a (10 + z0))) C hw hX.2.2.2.2.2.2.1 (by decide) (t0 := 3) rfl rfl hX.2.2.2.2.2.2.2.1 (zin_of (N := 4) (by decide) (by grind) (by grind)) hwi_z0_hOb.1 dX7_fourWires_69 ?_
  refine lv_iload hx hb dX7_fourWires_70 (lv_at hl 6 rfl) ?_
  refine lv_iload hx hb dX7_fourWires_72 (lv_at hl 0 rfl) ?_
  refine zcS_v (As := [.ref (a (10 + z0)), .int (nI ta), .int (ztk (nI ta) (nI bt) 17)]) (rest := []) (n9 := 3) C hw (c_X7_planSelect_p l D y base S (a (10 + z0)) (a (20 + z0)) (a (30 + z0)) (nI ta) (ztk (nI ta) (nI bt) 17) (nI bt) hwi_z0_hOb.2 hp hh rfl) gX7_fourWires_X7_planSelect rfl (by decide +kernel) ⟨⟨rfl, rfl⟩, Nat.le_of_ble_eq_true rfl, Nat.le_of_ble_eq_true rfl⟩ rfl hl.1 rfl (Nat.le_of_ble_eq_true rfl) ⟨Nat.le_of_ble_eq_true rfl, Nat.le_of_ble_eq_true rfl⟩ dX7_fourWires_74 (fun S74 H locs hp74 hw => ?_)
  have hOb74 := hOb.snd hDs (zSp.fr hz04 hp74)
  have hwi_c0_hOb74 := zX.wi hOb74.1 hc04
  refine lv_aload_n hx hb dX7_fourWires_77 rfl (lv_at hl 1 rfl) ?_
  refine lv_aload_n hx hb dX7_fourWires_78 rfl (lv_at hl 1 rfl) ?_
  refine g_Ph_wires (a := (a 0)) (v := (a 1)) C hw hOb74.1.1 in_X7 (by decide +kernel) hOb74.1.2.1 dX7_fourWires_79 ?_
  refine lv_iload_n hx hb dX7_fourWires_82 rfl (lv_at hl 2 rfl) ?_
  refine zald_P (a := (a 1)) (v := (a (10 + c0))) C hw hOb74.1.2.2.2.2.2.2.1 (by decide) (t0 := 3) rfl rfl hOb74.1.2.2.2.2.2.2.2.1 (zin_of (N := 4) (by decide) (by grind) (by grind)) hwi_c0_hOb74.1 dX7_fourWires_83 ?_
  refine lv_iload hx hb dX7_fourWires_84 (lv_at hl 6 rfl) ?_
  refine lv_iload hx hb dX7_fourWires_86 (lv_at hl 7 rfl) ?_
  refine lv_iload hx hb dX7_fourWires_88 (lv_at hl 8 rfl) ?_
  refine lv_iconst (v := 2) hx hb dX7_fourWires_90 (by decide) ?_
  have jn_1 : ∀ (ih_2 : Int32) (H : Heap) (locs : List Loc) (ls : Array Slot), zW D y base S74 s H locs → lv_has ls 9 [(8, .int (ztk (nI ta) (nI bt) 17)), (0, .ref (a 0)), (1, .int (nI c0)), (2, .int (nI d0)), (3, .int (nI z0)), (4, .int (nI v)), (5, .int (nI ta)), (6, .int (nI bt)), (7, .int (nI md))] → (ih_2 = (zge2 (nI md))) → W p l e (headSpec wsX7_fourWires ({ frames := 8, cells := 11, slots := 66, locals := 133 })).room s m args below meth c H locs 10 60 (vx_MQ below (va_Qi (fun (r : Int32) (S1 : zS) => False ∧ S1 = S) (zPost D y base) (zA base)) (zXC (fun (E : String) (S1 : zS) => E = "java/lang/IllegalStateException" ∧ zLate S S1 a) D y base) args s 11 66 (zA base)) (F0 m 99 ls [.int ih_2, .int (nI bt), .int (nI ta), .ref (a (10 + c0)), .ref (a 0)]) := by
    intro ih_2 H locs ls hw hl f_3
    subst f_3
    refine zcV_v (As := [.ref (a (10 + c0)), .int (nI ta), .int (nI bt), .int (zge2 (nI md))]) (rest := []) (n9 := 4) (b := (a 0)) C hw (c_X7_planFourClock_p l D y base S74 (a 0) (a (10 + c0)) (a (20 + c0)) (a (30 + c0)) (nI ta) (nI bt) (zge2 (nI md)) hwi_c0_hOb74.2 hOb74.1.1 hOb74.2.2.2.1 (zge2_01 _) hp hh) gX7_fourWires_X7_planFourClock rfl (by decide +kernel) ⟨⟨rfl, rfl⟩, Nat.le_of_ble_eq_true rfl, Nat.le_of_ble_eq_true rfl⟩ hOb74.1.1 ⟨by decide, by decide⟩ rfl rfl hl.1 rfl (Nat.le_of_ble_eq_true rfl) ⟨Nat.le_of_ble_eq_true rfl, Nat.le_of_ble_eq_true rfl⟩ dX7_fourWires_99 (fun S99 H locs hp99 hw => ?_)
    have hOb99 := hOb74.snd hDs (zSp.fr hc04 hp99)
    have hwi_d0_hOb99 := zX.wi hOb99.1 hd04
    refine lv_aload_n hx hb dX7_fourWires_102 rfl (lv_at hl 1 rfl) ?_
    refine lv_aload_n hx hb dX7_fourWires_103 rfl (lv_at hl 1 rfl) ?_
    refine g_Ph_wires (a := (a 0)) (v := (a 1)) C hw hOb99.1.1 in_X7 (by decide +kernel) hOb99.1.2.1 dX7_fourWires_104 ?_
    refine lv_iload_n hx hb dX7_fourWires_107 rfl (lv_at hl 3 rfl) ?_
    refine zald_P (a := (a 1)) (v := (a (10 + d0))) C hw hOb99.1.2.2.2.2.2.2.1 (by decide) (t0 := 3) rfl rfl hOb99.1.2.2.2.2.2.2.2.1 (zin_of (N := 4) (by decide) (by grind) (by grind)) hwi_d0_hOb99.1 dX7_fourWires_108 ?_
    refine lv_iload hx hb dX7_fourWires_109 (lv_at hl 5 rfl) ?_
    refine lv_iload hx hb dX7_fourWires_111 (lv_at hl 6 rfl) ?_
    refine lv_iload hx hb dX7_fourWires_113 (lv_at hl 7 rfl) ?_
    refine lv_iload hx hb dX7_fourWires_115 (lv_at hl 8 rfl) ?_
    refine lv_iconst (v := 2) hx hb dX7_fourWires_117 (by decide) ?_
    refine lv_irem hx hb dX7_fourWires_118 (by decide) ?_
    refine lv_iconst (v := 1) hx hb dX7_fourWires_119 (by decide) ?_
    have jn_4 : ∀ (lt9_5 : Int32) (H : Heap) (locs : List Loc) (ls : Array Slot), zW D y base S99 s H locs → lv_has ls 9 [(8, .int (ztk (nI ta) (nI bt) 17)), (0, .ref (a 0)), (1, .int (nI c0)), (2, .int (nI d0)), (3, .int (nI z0)), (4, .int (nI v)), (5, .int (nI ta)), (6, .int (nI bt)), (7, .int (nI md))] → (lt9_5 = zlt2 (nI md)) → W p l e (headSpec wsX7_fourWires ({ frames := 8, cells := 11, slots := 66, locals := 133 })).room s m args below meth c H locs 10 60 (vx_MQ below (va_Qi (fun (r : Int32) (S1 : zS) => False ∧ S1 = S) (zPost D y base) (zA base)) (zXC (fun (E : String) (S1 : zS) => E = "java/lang/IllegalStateException" ∧ zLate S S1 a) D y base) args s 11 66 (zA base)) (F0 m 128 ls [.int lt9_5, .int (nI bt), .int (nI ta), .int (nI v), .ref (a (10 + d0)), .ref (a 0)]) := by
      intro lt9_5 H locs ls hw hl f_6
      subst f_6
      refine zcV_v (As := [.ref (a (10 + d0)), .int (nI v), .int (nI ta), .int (nI bt), .int (zlt2 (nI md))]) (rest := []) (n9 := 5) (b := (a 0)) C hw (c_X7_planFourData_p l D y base S99 (a 0) (a (10 + d0)) (a (20 + d0)) (a (30 + d0)) (nI v) (nI ta) (nI bt) (zlt2 (nI md)) hwi_d0_hOb99.2 hOb99.1.1 hOb99.2.2.2.1 hp hh) gX7_fourWires_X7_planFourData rfl (by decide +kernel) ⟨⟨rfl, rfl⟩, Nat.le_of_ble_eq_true rfl, Nat.le_of_ble_eq_true rfl⟩ hOb99.1.1 ⟨by decide, by decide⟩ rfl rfl hl.1 rfl (Nat.le_of_ble_eq_true rfl) ⟨Nat.le_of_ble_eq_true rfl, Nat.le_of_ble_eq_true rfl⟩ dX7_fourWires_128 (fun S128 H locs hp128 hw => ?_)
      have hOb2 := hOb99.snd hDs (zSp.fr hd04 hp128)
      have hwi_c0_hOb2 := zX.wi hOb2.1 hc04
      have hwi_d0_hOb2 := zX.wi hOb2.1 hd04
      have hwi_z0_hOb2 := zX.wi hOb2.1 hz04
      have hT1 := (zSp.self hp99).frame hp128.1 (hX.wd hc04 hd04 hne.1).1 (hX.wd hc04 hd04 hne.1).2
      have hT2 := zSp.self hp128
      have hT3 := ((zSp.self hp74).frame hp99.1 (hX.wd hz04 hc04 (Ne.symm hne.2.1)).1 (hX.wd hz04 hc04 (Ne.symm hne.2.1)).2).frame hp128.1 (hX.wd hz04 hd04 (Ne.symm hne.2.2)).1 (hX.wd hz04 hd04 (Ne.symm hne.2.2)).2
      have hw3 := hOb2.2.2.1 c0 hc04
      have hLt : zLate S S128 a := ((zSp.fr hz04 hp74).tr (zSp.fr hc04 hp99)).tr (zSp.fr hd04 hp128)
      refine lv_aload_n hx hb dX7_fourWires_131 rfl (lv_at hl 1 rfl) ?_
      refine g_Ph_wires (a := (a 0)) (v := (a 1)) C hw hOb2.1.1 in_X7 (by decide +kernel) hOb2.1.2.1 dX7_fourWires_132 ?_
      refine lv_iload_n hx hb dX7_fourWires_135 rfl (lv_at hl 2 rfl) ?_
      refine zald_P (a := (a 1)) (v := (a (10 + c0))) C hw hOb2.1.2.2.2.2.2.2.1 (by decide) (t0 := 3) rfl rfl hOb2.1.2.2.2.2.2.2.2.1 (zin_of (N := 4) (by decide) (by grind) (by grind)) hwi_c0_hOb2.1 dX7_fourWires_136 ?_
      refine zcV_i (As := []) (rest := []) (n9 := 0) (b := (a (10 + c0))) C hw (c_X6_takesSent_n l D y base S128 (a (10 + c0)) (a (20 + c0)) (a (30 + c0)) S128 (decide ((zge2 (nI md)) = 1)) (zpt (zge2 (nI md)) (zlF (zge2 (nI md))) (fun j => ztk (nI ta) (nI bt) (j + 1)) 16) (zge2 (nI md)) 0 (znx (nI ta) (nI bt) 17) 16 (N c0) hwi_c0_hOb2.2 hT1 (by omega) (hOb2.2.2.1 c0 hc04).2.1.1 hbig) gX7_fourWires_X6_takesSent rfl (by decide +kernel) ⟨⟨rfl, rfl⟩, Nat.le_of_ble_eq_true rfl, Nat.le_of_ble_eq_true rfl⟩ hwi_c0_hOb2.2.1 ⟨by decide, by decide⟩ rfl rfl hl.1 rfl (Nat.le_of_ble_eq_true rfl) ⟨Nat.le_of_ble_eq_true rfl, Nat.le_of_ble_eq_true rfl⟩ dX7_fourWires_137 (fun r137 S137 H locs hp137 hw => ?_)
      obtain ⟨rfl, hS9⟩ := hp137
      have hS9 := hS9.symm
      subst hS9
      refine lv_if_eq (tgt := 171) hx hb dX7_fourWires_140 (by decide) (fun _ => ?_) (fun c140 => absurd c140 (by decide))
      refine lv_iconst (v := 0) hx hb dX7_fourWires_171 (by decide) ?_
      refine zcS_xv (As := [.int 0]) (rest := []) (n9 := 1) C hw (c_X7_checkFlips l hst D y base S128 0 ) gX7_fourWires_X7_checkFlips rfl (by decide +kernel) ⟨⟨rfl, rfl⟩, Nat.le_of_ble_eq_true rfl, Nat.le_of_ble_eq_true rfl⟩ rfl hl.1 rfl (Nat.le_of_ble_eq_true rfl) ⟨Nat.le_of_ble_eq_true rfl, Nat.le_of_ble_eq_true rfl⟩ dX7_fourWires_172 (fun E ce q9 S172 H locs hx172 hw h1 h2 h3 => zxout hw hx0 hlocks h1 h2 h3 ⟨hx172.1, hx172.2.2 ▸ hLt⟩ ⟨Nat.le_of_ble_eq_true rfl, Nat.le_of_ble_eq_true rfl⟩) (fun S172 H locs hp172 hw => ?_)
      obtain ⟨hp172, hS9⟩ := hp172
      have hS9 := hS9.symm
      subst hS9
      exact (show False from (hp172 rfl)).elim
    refine lv_icmp_ne (tgt := 127) hx hb dX7_fourWires_120 (by decide) (fun c120 => ?_) (fun c120 => ?_)
    · refine lv_iconst (v := 0) hx hb dX7_fourWires_127 (by decide) ?_
      exact jn_4 0 _ _ _ hw (lv_sub hl [0, 1, 2, 3, 4, 5, 6, 7, 8] rfl) (by unfold zlt2; first | rw [if_pos c120] | rw [if_neg c120])
    · refine lv_iconst (v := 1) hx hb dX7_fourWires_123 (by decide) ?_
      refine lv_goto (tgt := 128) hx hb dX7_fourWires_124 (by decide) ?_
      exact jn_4 1 _ _ _ hw (lv_sub hl [0, 1, 2, 3, 4, 5, 6, 7, 8] rfl) (by unfold zlt2; first | rw [if_pos c120] | rw [if_neg c120])
  refine lv_icmp_lt (tgt := 98) hx hb dX7_fourWires_91 (by decide) (fun c91 => ?_) (fun c91 => ?_)
  · refine lv_iconst (v := 0) hx hb dX7_fourWires_98 (by decide) ?_
    exact jn_1 0 _ _ _ hw (lv_sub hl [0, 1, 2, 3, 4, 5, 6, 7, 8] rfl) (by unfold zge2; first | rw [if_pos c91] | rw [if_neg c91])
  · refine lv_iconst (v := 1) hx hb dX7_fourWires_94 (by decide) ?_
    refine lv_goto (tgt := 99) hx hb dX7_fourWires_95 (by decide) ?_
    exact jn_1 1 _ _ _ hw (lv_sub hl [0, 1, 2, 3, 4, 5, 6, 7, 8] rfl) (by unfold zge2; first | rw [if_pos c91] | rw [if_neg c91])

