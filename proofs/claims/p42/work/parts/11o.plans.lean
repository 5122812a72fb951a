set_option maxHeartbeats 4000000 in
set_option maxRecDepth 100000 in
/-- X6_takesSent -/
theorem c_X6_takesSent_p (l : Launch) (D : va_G) (y : Nat → ClassId) (base : Nat) (S : zS) (w : Nat) (tk : Nat) (sn : Nat) (S0 : zS) (b : Bool) (P : Int → Bool) (cur : Int32) (lo : Int) (nxt : Int) (n : Nat) (n0 : Nat) (hW : zWire S w tk sn) (hs : zSp S0 S w sn b P cur lo nxt n) (hn : n ≤ 64) (hnx : nxt ≤ 10000) (h161 : zI S 161 w = nI n0) (hn0 : n0 + n ≤ 300) : zMi l yX6_takesSent wsX6_takesSent ({ frames := 2, cells := 0, slots := 0, locals := 45 }) [.ref w] D y base S (fun (r : Int32) (S1 : zS) => r = 1 ∧ S1 = S) 0 0 := by
  refine zMet_of (cc := cX6_takesSent) (maxL := 3) (ret := (some .boolean)) (own := RX6) (by decide +kernel) rfl rfl (Nat.le_of_ble_eq_true rfl) ?_
  intro p e s m args below meth c ls C hr hlocks hnm hw hl
  have hx := C.1
  have hb := C.2.1
  have hown := C.2.2.2.1
  have hts := C.2.2.2.2
  have hl : lv_has ls 3 [(0, .ref w)] := hl
  have in_X6 : ∀ w ∈ wsX60, w ∈ wsX6_takesSent := by decide +kernel
  obtain ⟨k, hkn, h164, hrg⟩ : ∃ k, k ≤ n ∧ zI S 164 w = nI k ∧ ∀ j, j < k → (zR S 22 sn j).toInt < nxt := by obtain ⟨-, -, -, -, k, h1, h2, -, h3⟩ := hs; exact ⟨k, h1, h2, fun j hj => (h3 j hj).2⟩
  refine lv_aload_n hx hb dX6_takesSent_0 rfl (lv_at hl 0 rfl) ?_
  refine g_Wire_count (a := w) (v := (nI n0)) C hw hW.1 in_X6 (by decide +kernel) h161 dX6_takesSent_1 ?_
  refine lv_istore_n (lv' := [(1, .int (nI n0)), (0, .ref w)]) hx hb dX6_takesSent_4 rfl hl (by decide) rfl (fun ls hl => ?_)
  refine lv_iconst (v := 0) hx hb dX6_takesSent_5 (by decide) ?_
  refine lv_istore_n (lv' := [(2, .int 0), (1, .int (nI n0)), (0, .ref w)]) hx hb dX6_takesSent_6 rfl hl (by decide) rfl (fun ls hl => ?_)
  have lp_2 : ∀ (n9 : Nat) (i : Nat) (q : Int32) (H : Heap) (locs : List Loc) (ls : Array Slot), 65 - i < n9 → (i ≤ k) → (q.toInt = (n0 : Int) + zsm (fun j => zwHas S w tk (zR S 22 sn j)) i) → zW D y base S s H locs → lv_has ls 3 [(1, .int q), (2, .int (nI i)), (0, .ref w)] → W p l e (headSpec wsX6_takesSent ({ frames := 2, cells := 0, slots := 0, locals := 45 })).room s m args below meth c H locs 0 0 (MQ below (va_Qi (fun (r : Int32) (S1 : zS) => r = 1 ∧ S1 = S) (zPost D y base) (zA base)) args s 0 0 (zA base)) (F0 m 7 ls []) := by
    intro n9
    induction n9 with
    | zero =>
      intro i q H locs ls hn9
      exact absurd hn9 (Nat.not_lt_zero _)
    | succ n9 ih_1 =>
      intro i q H locs ls hn9 hi ha hw hl
      refine lv_iload_n hx hb dX6_takesSent_7 rfl (lv_at hl 1 rfl) ?_
      refine lv_aload_n hx hb dX6_takesSent_8 rfl (lv_at hl 2 rfl) ?_
      refine g_Wire_sentCount (a := w) (v := (nI k)) C hw hW.1 in_X6 (by decide +kernel) h164 dX6_takesSent_9 ?_
      refine lv_icmp_ge (tgt := 65) hx hb dX6_takesSent_12 (by decide) (fun c12 => ?_) (fun c12 => ?_)
      · refine lv_iload_n hx hb dX6_takesSent_65 rfl (lv_at hl 0 rfl) ?_
        refine lv_sipush (v := 300) hx hb dX6_takesSent_66 (by decide) ?_
        refine lv_icmp_gt (tgt := 76) hx hb dX6_takesSent_69 (by decide) (fun c69 => (show False from (by have h9 := c69; have e3 : (300 : Int32).toInt = 300 := rfl; have h8 := zsm_rg (fun j => zwHas S w tk (zR S 22 sn j)) i; simp only [gt_iff_lt, Int32.lt_iff_toInt_lt, Int32.le_iff_toInt_le] at h9; omega)).elim) (fun c69 => ?_)
        refine lv_iconst (v := 1) hx hb dX6_takesSent_72 (by decide) ?_
        refine lv_goto (tgt := 77) hx hb dX6_takesSent_73 (by decide) ?_
        exact zri C hw hr hlocks (by decide) (by first | exact ⟨rfl, rfl⟩ | exact rfl | (refine ⟨?_, rfl⟩; grind) | grind) ⟨Nat.le_of_ble_eq_true rfl, Nat.le_of_ble_eq_true rfl⟩ dX6_takesSent_77
      · refine lv_iload_n hx hb dX6_takesSent_15 rfl (lv_at hl 1 rfl) ?_
        refine lv_aload_n hx hb dX6_takesSent_16 rfl (lv_at hl 2 rfl) ?_
        refine g_Wire_sent (a := w) (v := sn) C hw hW.1 in_X6 (by decide +kernel) hW.2.2.1 dX6_takesSent_17 ?_
        refine zalen (a := sn) (v := 64) C hw hW.2.2.2.2.2.1 (by decide) (t0 := 1) rfl (zlen hW.2.2.2.2.2.2.1 rfl) dX6_takesSent_20 ?_
        refine lv_icmp_ge (tgt := 65) hx hb dX6_takesSent_21 (by decide) (fun c21 => (show False from (by have := z_lt (n := k) c12 (by omega) (by omega); have := z_ge (n := 64) c21 (by omega) (by omega); omega)).elim) (fun c21 => ?_)
        refine lv_aload_n hx hb dX6_takesSent_24 rfl (lv_at hl 2 rfl) ?_
        refine g_Wire_sent (a := w) (v := sn) C hw hW.1 in_X6 (by decide +kernel) hW.2.2.1 dX6_takesSent_25 ?_
        refine lv_iload_n hx hb dX6_takesSent_28 rfl (lv_at hl 1 rfl) ?_
        refine zald_I (a := sn) C hw hW.2.2.2.2.2.1 hW.2.2.2.2.2.2.1 (vp_in_nI (z_lt (n := 64) c21 (by omega) (by omega)) (by decide)) dX6_takesSent_29 ?_
        refine lv_sipush (v := 9999) hx hb dX6_takesSent_30 (by decide) ?_
        refine lv_icmp_le (tgt := 38) hx hb dX6_takesSent_33 (by decide) (fun c33 => ?_) (fun c33 => (show False from (by have h9 := hrg i (z_lt (n := k) c12 (by omega) (by omega)); rw [nI_clamp (by omega)] at c33; apply c33; rw [Int32.le_iff_toInt_le]; have : (9999 : Int32).toInt = 9999 := rfl; omega)).elim)
        refine lv_iload_n hx hb dX6_takesSent_38 rfl (lv_at hl 0 rfl) ?_
        refine lv_aload_n hx hb dX6_takesSent_39 rfl (lv_at hl 2 rfl) ?_
        refine lv_aload_n hx hb dX6_takesSent_40 rfl (lv_at hl 2 rfl) ?_
        refine g_Wire_sent (a := w) (v := sn) C hw hW.1 in_X6 (by decide +kernel) hW.2.2.1 dX6_takesSent_41 ?_
        refine lv_iload_n hx hb dX6_takesSent_44 rfl (lv_at hl 1 rfl) ?_
        refine zald_I (a := sn) C hw hW.2.2.2.2.2.1 hW.2.2.2.2.2.2.1 (vp_in_nI (z_lt (n := 64) c21 (by omega) (by omega)) (by decide)) dX6_takesSent_45 ?_
        refine zcV_i (As := [.int (zR S 22 sn ((nI i)).toNatClampNeg)]) (rest := [.int q]) (n9 := 1) (b := w) C hw (c_X6_hasFlip l D y base S w tk sn (zR S 22 sn ((nI i)).toNatClampNeg) hW) gX6_takesSent_X6_hasFlip rfl (by decide +kernel) ⟨⟨rfl, rfl⟩, Nat.le_of_ble_eq_true rfl, Nat.le_of_ble_eq_true rfl⟩ hW.1 ⟨by decide, by decide⟩ rfl rfl hl.1 rfl (Nat.le_of_ble_eq_true rfl) ⟨Nat.le_of_ble_eq_true rfl, Nat.le_of_ble_eq_true rfl⟩ dX6_takesSent_46 (fun r46 S46 H locs hp46 hw => ?_)
        obtain ⟨rfl, hS9⟩ := hp46
        have hS9 := hS9.symm
        subst hS9
        refine lv_if_eq (tgt := 56) hx hb dX6_takesSent_49 (by decide) (fun c49 => ?_) (fun c49 => ?_)
        · replace c49 := zb0.mp c49
          refine lv_iconst (v := 1) hx hb dX6_takesSent_56 (by decide) ?_
          refine lv_iadd hx hb dX6_takesSent_57 ?_
          refine lv_topi (fun x58 ex58 => ?_)
          refine lv_istore_n (lv' := [(1, .int x58), (2, .int (nI i)), (0, .ref w)]) hx hb dX6_takesSent_58 rfl hl (by decide) rfl (fun ls hl => ?_)
          refine lv_iinc (v := (nI (i + 1))) (lv' := [(2, .int (nI (i + 1))), (1, .int x58), (0, .ref w)]) hx hb dX6_takesSent_59 hl (k := 1) rfl (nI_1 _) (by decide) rfl (fun ls hl => ?_)
          refine lv_goto (tgt := 7) hx hb dX6_takesSent_62 (by decide) ?_
          have hik := z_lt (n := k) c12 (by omega) (by omega)
          rw [nI_clamp (by omega)] at c49
          exact ih_1 (i + 1) x58 _ _ _ (by omega) (by omega) (by rw [ex58]; exact zsm_no (p := (fun j => zwHas S w tk (zR S 22 sn j))) ha (by omega) (by omega) c49) hw (lv_sub hl [1, 0, 2] rfl)
        · replace c49 := zb1.mp c49
          refine lv_iconst (v := (-1)) hx hb dX6_takesSent_52 (by decide) ?_
          refine lv_goto (tgt := 57) hx hb dX6_takesSent_53 (by decide) ?_
          refine lv_iadd hx hb dX6_takesSent_57 ?_
          refine lv_topi (fun x58 ex58 => ?_)
          refine lv_istore_n (lv' := [(1, .int x58), (2, .int (nI i)), (0, .ref w)]) hx hb dX6_takesSent_58 rfl hl (by decide) rfl (fun ls hl => ?_)
          refine lv_iinc (v := (nI (i + 1))) (lv' := [(2, .int (nI (i + 1))), (1, .int x58), (0, .ref w)]) hx hb dX6_takesSent_59 hl (k := 1) rfl (nI_1 _) (by decide) rfl (fun ls hl => ?_)
          refine lv_goto (tgt := 7) hx hb dX6_takesSent_62 (by decide) ?_
          have hik := z_lt (n := k) c12 (by omega) (by omega)
          rw [nI_clamp (by omega)] at c49
          exact ih_1 (i + 1) x58 _ _ _ (by omega) (by omega) (by rw [ex58]; exact zsm_yes (p := (fun j => zwHas S w tk (zR S 22 sn j))) ha (by omega) (by omega) c49) hw (lv_sub hl [1, 0, 2] rfl)
  exact lp_2 _ 0 (nI n0) _ _ _ (Nat.lt_succ_self _) (Nat.zero_le _) (by rw [nI_toInt (by omega)]; rfl) hw (lv_sub hl [1, 0, 2] rfl)

set_option maxHeartbeats 4000000 in
set_option maxRecDepth 100000 in
/-- X7_planSelect -/
theorem c_X7_planSelect_p (l : Launch) (D : va_G) (y : Nat → ClassId) (base : Nat) (S : zS) (w : Nat) (tk : Nat) (sn : Nat) (p0 : Int32) (p1 : Int32) (h : Int32) (hW : zWire S w tk sn) (hp : 0 ≤ p0 ∧ p0 ≤ 9999) (hh : 1 ≤ h ∧ h ≤ 50) (he : p1 = ztk p0 h 17) : zMv l yX7_planSelect wsX7_planSelect ({ frames := 2, cells := 0, slots := 0, locals := 44 }) [.ref w, .int p0, .int p1] D y base S (fun (S1 : zS) => zSp S S1 w sn true (zpt 1 zlL (fun j => ztk p0 h (zmL j)) 2) 1 0 (p1.toInt + 1) 2) 0 0 := by
  refine zMet_of (cc := cX7_planSelect) (maxL := 3) (ret := none) (own := RX7) (by decide +kernel) rfl rfl (Nat.le_of_ble_eq_true rfl) ?_
  intro p e s m args below meth c ls C hr hlocks hnm hw hl
  have hx := C.1
  have hb := C.2.1
  have hown := C.2.2.2.1
  have hts := C.2.2.2.2
  have hl : lv_has ls 3 [(0, .ref w), (1, .int p0), (2, .int p1)] := hl
  refine lv_aload_n hx hb dX7_planSelect_0 rfl (lv_at hl 0 rfl) ?_
  refine lv_iconst (v := 1) hx hb dX7_planSelect_1 (by decide) ?_
  refine zcV_v (As := [.int 1]) (rest := []) (n9 := 1) (b := w) C hw (c_X6_beginSending l D y base S w tk sn 1 hW (Or.inr rfl)) gX7_planSelect_X6_beginSending rfl (by decide +kernel) ⟨⟨rfl, rfl⟩, Nat.le_of_ble_eq_true rfl, Nat.le_of_ble_eq_true rfl⟩ hW.1 ⟨by decide, by decide⟩ rfl rfl hl.1 rfl (Nat.le_of_ble_eq_true rfl) ⟨Nat.le_of_ble_eq_true rfl, Nat.le_of_ble_eq_true rfl⟩ dX7_planSelect_2 (fun S2 H locs hp2 hw => ?_)
  obtain rfl := hp2
  refine lv_aload_n hx hb dX7_planSelect_5 rfl (lv_at hl 0 rfl) ?_
  refine lv_iconst (v := 0) hx hb dX7_planSelect_6 (by decide) ?_
  refine lv_iload_n hx hb dX7_planSelect_7 rfl (lv_at hl 1 rfl) ?_
  refine zcV_v (As := [.int 0, .int p0]) (rest := []) (n9 := 2) (b := w) C hw (c_X6_send_p l D y base (zsI (zsI S 163 w 1) 164 w 0) w tk sn S 0 p0 true (zpt 1 zlL (fun j => ztk p0 h (zmL j)) 0) 1 0 p0.toInt 0 hW (Or.inl rfl) (zSp.begin (Or.inr rfl) 0 _) (by decide) (Int.le_refl _) (zp_lo hp.1)) gX7_planSelect_X6_send rfl (by decide +kernel) ⟨⟨rfl, rfl⟩, Nat.le_of_ble_eq_true rfl, Nat.le_of_ble_eq_true rfl⟩ hW.1 ⟨by decide, by decide⟩ rfl rfl hl.1 rfl (Nat.le_of_ble_eq_true rfl) ⟨Nat.le_of_ble_eq_true rfl, Nat.le_of_ble_eq_true rfl⟩ dX7_planSelect_8 (fun S8 H locs hp8 hw => ?_)
  have hW8_w := zWire.fix hp8.2.1 hW
  refine lv_aload_n hx hb dX7_planSelect_11 rfl (lv_at hl 0 rfl) ?_
  refine lv_iconst (v := 1) hx hb dX7_planSelect_12 (by decide) ?_
  refine lv_iload_n hx hb dX7_planSelect_13 rfl (lv_at hl 2 rfl) ?_
  refine zcV_v (As := [.int 1, .int p1]) (rest := []) (n9 := 2) (b := w) C hw (c_X6_send_p l D y base S8 w tk sn S 1 p1 true (zpt 1 zlL (fun j => ztk p0 h (zmL j)) 1) 0 0 (p0.toInt + 1) 1 hW8_w (Or.inr rfl) (hp8.1.weak (zpL0 p0 h) (Nat.le_refl _) (Int.le_refl _)) (by decide) (zsel hp hh he) (by rw [he]; exact ztk_lo hp hh (by decide))) gX7_planSelect_X6_send rfl (by decide +kernel) ⟨⟨rfl, rfl⟩, Nat.le_of_ble_eq_true rfl, Nat.le_of_ble_eq_true rfl⟩ hW8_w.1 ⟨by decide, by decide⟩ rfl rfl hl.1 rfl (Nat.le_of_ble_eq_true rfl) ⟨Nat.le_of_ble_eq_true rfl, Nat.le_of_ble_eq_true rfl⟩ dX7_planSelect_14 (fun S14 H locs hp14 hw => ?_)
  exact zrv C hw hr hlocks (hp14.1.weak (zpL he) (Nat.le_refl _) (Int.le_refl _)) ⟨Nat.le_of_ble_eq_true rfl, Nat.le_of_ble_eq_true rfl⟩ dX7_planSelect_17

set_option maxHeartbeats 4000000 in
set_option maxRecDepth 100000 in
/-- X7_planFourClock -/
theorem c_X7_planFourClock_p (l : Launch) (D : va_G) (y : Nat → ClassId) (base : Nat) (S : zS) (x0 : Nat) (w : Nat) (tk : Nat) (sn : Nat) (p0 : Int32) (p1 : Int32) (p2 : Int32) (hW : zWire S w tk sn) (hk : zK S x0 = 11) (h181 : zI S 181 x0 = 0) (hz : p2 = 0 ∨ p2 = 1) (hp : 0 ≤ p0 ∧ p0 ≤ 9999) (hh : 1 ≤ p1 ∧ p1 ≤ 50) : zMv l yX7_planFourClock wsX7_planFourClock ({ frames := 2, cells := 0, slots := 0, locals := 44 }) [.ref x0, .ref w, .int p0, .int p1, .int p2] D y base S (fun (S1 : zS) => zSp S S1 w sn (decide (p2 = 1)) (zpt p2 (zlF p2) (fun j => ztk p0 p1 (j + 1)) (16)) p2 0 (znx p0 p1 17) 16) 0 0 := by
  refine zMet_of (cc := cX7_planFourClock) (maxL := 6) (ret := none) (own := RX7) (by decide +kernel) rfl rfl (Nat.le_of_ble_eq_true rfl) ?_
  intro p e s m args below meth c ls C hr hlocks hnm hw hl
  have hx := C.1
  have hb := C.2.1
  have hown := C.2.2.2.1
  have hts := C.2.2.2.2
  have hl : lv_has ls 6 [(0, .ref x0), (1, .ref w), (2, .int p0), (3, .int p1), (4, .int p2)] := hl
  refine lv_aload_n hx hb dX7_planFourClock_0 rfl (lv_at hl 1 rfl) ?_
  refine lv_iload hx hb dX7_planFourClock_1 (lv_at hl 4 rfl) ?_
  refine zcV_v (As := [.int p2]) (rest := []) (n9 := 1) (b := w) C hw (c_X6_beginSending l D y base S w tk sn p2 hW hz) gX7_planFourClock_X6_beginSending rfl (by decide +kernel) ⟨⟨rfl, rfl⟩, Nat.le_of_ble_eq_true rfl, Nat.le_of_ble_eq_true rfl⟩ hW.1 ⟨by decide, by decide⟩ rfl rfl hl.1 rfl (Nat.le_of_ble_eq_true rfl) ⟨Nat.le_of_ble_eq_true rfl, Nat.le_of_ble_eq_true rfl⟩ dX7_planFourClock_3 (fun S3 H locs hp3 hw => ?_)
  obtain rfl := hp3
  refine lv_iconst (v := 0) hx hb dX7_planFourClock_6 (by decide) ?_
  refine lv_istore (lv' := [(5, .int 0), (0, .ref x0), (1, .ref w), (2, .int p0), (3, .int p1), (4, .int p2)]) hx hb dX7_planFourClock_7 hl (by decide) rfl (fun ls hl => ?_)
  have lp_2 : ∀ (n9 : Nat) (i : Nat) (S2 : zS) (H : Heap) (locs : List Loc) (ls : Array Slot), 8 - i < n9 → (i ≤ 8) → (zSp S S2 w sn (decide (p2 = 1)) (zpt p2 (zlF p2) (fun j => ztk p0 p1 (j + 1)) (2 * i)) p2 0 (znx p0 p1 (2 * i + 1)) (2 * i)) → zW D y base S2 s H locs → lv_has ls 6 [(5, .int (nI i)), (0, .ref x0), (1, .ref w), (2, .int p0), (3, .int p1), (4, .int p2)] → W p l e (headSpec wsX7_planFourClock ({ frames := 2, cells := 0, slots := 0, locals := 44 })).room s m args below meth c H locs 0 0 (MQ below (va_Qv (fun (S1 : zS) => zSp S S1 w sn (decide (p2 = 1)) (zpt p2 (zlF p2) (fun j => ztk p0 p1 (j + 1)) (16)) p2 0 (znx p0 p1 17) 16) (zPost D y base) (zA base)) args s 0 0 (zA base)) (F0 m 9 ls []) := by
    intro n9
    induction n9 with
    | zero =>
      intro i S2 H locs ls hn9
      exact absurd hn9 (Nat.not_lt_zero _)
    | succ n9 ih_1 =>
      intro i S2 H locs ls hn9 hi hs hw hl
      have hW2 : zWire S2 w tk sn := zWire.fix hs.1.1 hW
      have hk2 : zK S2 x0 = 11 := (congrFun hs.1.1.1 x0).trans hk
      have h2 : zI S2 181 x0 = 0 := (hs.1.2.1 181 x0 (Or.inr (by decide))).trans h181
      refine lv_iload hx hb dX7_planFourClock_9 (lv_at hl 0 rfl) ?_
      refine lv_bipush (v := 8) hx hb dX7_planFourClock_11 (by decide) ?_
      refine lv_icmp_ge (tgt := 68) hx hb dX7_planFourClock_13 (by decide) (fun c13 => ?_) (fun c13 => ?_)
      · exact zrv C hw hr hlocks (by have hie : i = 8 := (by have := z_ge (n := 8) c13 (by omega) (by omega); omega); rw [hie] at hs; exact hs) ⟨Nat.le_of_ble_eq_true rfl, Nat.le_of_ble_eq_true rfl⟩ dX7_planFourClock_68
      · have hi8 := z_lt (n := 8) c13 (by omega) (by omega)
        refine lv_aload_n hx hb dX7_planFourClock_16 rfl (lv_at hl 2 rfl) ?_
        refine lv_iload hx hb dX7_planFourClock_17 (lv_at hl 5 rfl) ?_
        refine lv_if_ne (tgt := 26) hx hb dX7_planFourClock_19 (by decide) (fun c19 => ?_) (fun c19 => ?_)
        · refine lv_iconst (v := 0) hx hb dX7_planFourClock_26 (by decide) ?_
          refine zrd (x := (zno p2)) (by unfold zno; rw [if_neg c19]) ?_
          refine lv_aload_n hx hb dX7_planFourClock_27 rfl (lv_at hl 1 rfl) ?_
          refine lv_iload_n hx hb dX7_planFourClock_28 rfl (lv_at hl 3 rfl) ?_
          refine lv_iconst (v := 2) hx hb dX7_planFourClock_29 (by decide) ?_
          refine lv_iload hx hb dX7_planFourClock_30 (lv_at hl 0 rfl) ?_
          refine lv_imul hx hb dX7_planFourClock_32 ?_
          refine lv_iconst (v := 1) hx hb dX7_planFourClock_33 (by decide) ?_
          refine lv_iadd hx hb dX7_planFourClock_34 ?_
          refine zrd (x := (nI (2 * i + 1))) (z2i1 i) ?_
          refine lv_iload_n hx hb dX7_planFourClock_35 rfl (lv_at hl 4 rfl) ?_
          refine lv_imul hx hb dX7_planFourClock_36 ?_
          refine zcV_i (As := [.int p0, .int ((nI (2 * i + 1)) * p1)]) (rest := [.int (zno p2), .ref w]) (n9 := 2) (b := x0) C hw (c_X7_tickBehind l D y base S2 x0 p0 ((nI (2 * i + 1)) * p1) hk2 h2) gX7_planFourClock_X7_tickBehind rfl (by decide +kernel) ⟨⟨rfl, rfl⟩, Nat.le_of_ble_eq_true rfl, Nat.le_of_ble_eq_true rfl⟩ hk2 ⟨by decide, by decide⟩ rfl rfl hl.1 rfl (Nat.le_of_ble_eq_true rfl) ⟨Nat.le_of_ble_eq_true rfl, Nat.le_of_ble_eq_true rfl⟩ dX7_planFourClock_37 (fun r37 S37 H locs hp37 hw => ?_)
          obtain ⟨rfl, hS9⟩ := hp37
          have hS9 := hS9.symm
          subst hS9
          refine zcV_v (As := [.int (zno p2), .int (p0 + ((nI (2 * i + 1)) * p1))]) (rest := []) (n9 := 2) (b := w) C hw (c_X6_send_p l D y base S2 w tk sn S (zno p2) (p0 + ((nI (2 * i + 1)) * p1)) (decide (p2 = 1)) (zpt p2 (zlF p2) (fun j => ztk p0 p1 (j + 1)) (2 * i)) p2 0 (znx p0 p1 (2 * i + 1)) (2 * i) hW2 (zno_01 _) hs (by omega) (Int.le_of_eq (ztk_i (m := 2 * i + 1) hp hh (by omega)).symm) (ztk_lo (m := 2 * i + 1) hp hh (by omega))) gX7_planFourClock_X6_send rfl (by decide +kernel) ⟨⟨rfl, rfl⟩, Nat.le_of_ble_eq_true rfl, Nat.le_of_ble_eq_true rfl⟩ hW2.1 ⟨by decide, by decide⟩ rfl rfl hl.1 rfl (Nat.le_of_ble_eq_true rfl) ⟨Nat.le_of_ble_eq_true rfl, Nat.le_of_ble_eq_true rfl⟩ dX7_planFourClock_40 (fun S40 H locs hp40 hw => ?_)
          have hW40_w := zWire.fix hp40.2.1 hW2
          have hk40 := (congrFun hp40.2.1.1 x0).trans hk2
          have h40 := (hp40.2.2.1 181 x0 (Or.inr (by decide))).trans h2
          have hq40 : zSp S S40 w sn (decide (p2 = 1)) (zpt p2 (zlF p2) (fun j => ztk p0 p1 (j + 1)) (2 * i + 1)) (zno p2) 0 (znx p0 p1 (2 * i + 2)) (2 * i + 1) := hp40.1.weak (zpF1 p2 p0 p1 i) (Nat.le_refl _) (ztk_nx (m := 2 * i + 1) hp hh (by omega) (Nat.lt_succ_self _))
          refine lv_aload_n hx hb dX7_planFourClock_43 rfl (lv_at hl 2 rfl) ?_
          refine lv_iload hx hb dX7_planFourClock_44 (lv_at hl 5 rfl) ?_
          refine lv_aload_n hx hb dX7_planFourClock_46 rfl (lv_at hl 1 rfl) ?_
          refine lv_iload_n hx hb dX7_planFourClock_47 rfl (lv_at hl 3 rfl) ?_
          refine lv_iconst (v := 2) hx hb dX7_planFourClock_48 (by decide) ?_
          refine lv_iload hx hb dX7_planFourClock_49 (lv_at hl 0 rfl) ?_
          refine lv_imul hx hb dX7_planFourClock_51 ?_
          refine lv_iconst (v := 2) hx hb dX7_planFourClock_52 (by decide) ?_
          refine lv_iadd hx hb dX7_planFourClock_53 ?_
          refine zrd (x := (nI (2 * i + 2))) (z2i2 i) ?_
          refine lv_iload_n hx hb dX7_planFourClock_54 rfl (lv_at hl 4 rfl) ?_
          refine lv_imul hx hb dX7_planFourClock_55 ?_
          refine zcV_i (As := [.int p0, .int ((nI (2 * i + 2)) * p1)]) (rest := [.int p2, .ref w]) (n9 := 2) (b := x0) C hw (c_X7_tickBehind l D y base S40 x0 p0 ((nI (2 * i + 2)) * p1) hk40 h40) gX7_planFourClock_X7_tickBehind rfl (by decide +kernel) ⟨⟨rfl, rfl⟩, Nat.le_of_ble_eq_true rfl, Nat.le_of_ble_eq_true rfl⟩ hk40 ⟨by decide, by decide⟩ rfl rfl hl.1 rfl (Nat.le_of_ble_eq_true rfl) ⟨Nat.le_of_ble_eq_true rfl, Nat.le_of_ble_eq_true rfl⟩ dX7_planFourClock_56 (fun r56 S56 H locs hp56 hw => ?_)
          obtain ⟨rfl, hS9⟩ := hp56
          have hS9 := hS9.symm
          subst hS9
          refine zcV_v (As := [.int p2, .int (p0 + ((nI (2 * i + 2)) * p1))]) (rest := []) (n9 := 2) (b := w) C hw (c_X6_send_p l D y base S40 w tk sn S p2 (p0 + ((nI (2 * i + 2)) * p1)) (decide (p2 = 1)) (zpt p2 (zlF p2) (fun j => ztk p0 p1 (j + 1)) (2 * i + 1)) (zno p2) 0 (znx p0 p1 (2 * i + 2)) (2 * i + 1) hW40_w hz hq40 (by omega) (Int.le_of_eq (ztk_i (m := 2 * i + 2) hp hh (by omega)).symm) (ztk_lo (m := 2 * i + 2) hp hh (by omega))) gX7_planFourClock_X6_send rfl (by decide +kernel) ⟨⟨rfl, rfl⟩, Nat.le_of_ble_eq_true rfl, Nat.le_of_ble_eq_true rfl⟩ hW40_w.1 ⟨by decide, by decide⟩ rfl rfl hl.1 rfl (Nat.le_of_ble_eq_true rfl) ⟨Nat.le_of_ble_eq_true rfl, Nat.le_of_ble_eq_true rfl⟩ dX7_planFourClock_59 (fun S59 H locs hp59 hw => ?_)
          refine lv_iinc (v := (nI (i + 1))) (lv' := [(5, .int (nI (i + 1))), (0, .ref x0), (1, .ref w), (2, .int p0), (3, .int p1), (4, .int p2)]) hx hb dX7_planFourClock_62 hl (k := 0) rfl (nI_1 _) (by decide) rfl (fun ls hl => ?_)
          refine lv_goto (tgt := 9) hx hb dX7_planFourClock_65 (by decide) ?_
          exact ih_1 (i + 1) S59 _ _ _ (by omega) (by omega) (hp59.1.weak (zpF2 p2 p0 p1 i) (by omega) (ztk_nx (m := 2 * i + 2) hp hh (by omega) (by omega))) hw (lv_sub hl [0, 1, 2, 3, 4, 5] rfl)
        · refine lv_iconst (v := 1) hx hb dX7_planFourClock_22 (by decide) ?_
          refine zrd (x := (zno p2)) (by unfold zno; rw [if_pos c19]) ?_
          refine lv_goto (tgt := 27) hx hb dX7_planFourClock_23 (by decide) ?_
          refine lv_aload_n hx hb dX7_planFourClock_27 rfl (lv_at hl 1 rfl) ?_
          refine lv_iload_n hx hb dX7_planFourClock_28 rfl (lv_at hl 3 rfl) ?_
          refine lv_iconst (v := 2) hx hb dX7_planFourClock_29 (by decide) ?_
          refine lv_iload hx hb dX7_planFourClock_30 (lv_at hl 0 rfl) ?_
          refine lv_imul hx hb dX7_planFourClock_32 ?_
          refine lv_iconst (v := 1) hx hb dX7_planFourClock_33 (by decide) ?_
          refine lv_iadd hx hb dX7_planFourClock_34 ?_
          refine zrd (x := (nI (2 * i + 1))) (z2i1 i) ?_
          refine lv_iload_n hx hb dX7_planFourClock_35 rfl (lv_at hl 4 rfl) ?_
          refine lv_imul hx hb dX7_planFourClock_36 ?_
          refine zcV_i (As := [.int p0, .int ((nI (2 * i + 1)) * p1)]) (rest := [.int (zno p2), .ref w]) (n9 := 2) (b := x0) C hw (c_X7_tickBehind l D y base S2 x0 p0 ((nI (2 * i + 1)) * p1) hk2 h2) gX7_planFourClock_X7_tickBehind rfl (by decide +kernel) ⟨⟨rfl, rfl⟩, Nat.le_of_ble_eq_true rfl, Nat.le_of_ble_eq_true rfl⟩ hk2 ⟨by decide, by decide⟩ rfl rfl hl.1 rfl (Nat.le_of_ble_eq_true rfl) ⟨Nat.le_of_ble_eq_true rfl, Nat.le_of_ble_eq_true rfl⟩ dX7_planFourClock_37 (fun r37 S37 H locs hp37 hw => ?_)
          obtain ⟨rfl, hS9⟩ := hp37
          have hS9 := hS9.symm
          subst hS9
          refine zcV_v (As := [.int (zno p2), .int (p0 + ((nI (2 * i + 1)) * p1))]) (rest := []) (n9 := 2) (b := w) C hw (c_X6_send_p l D y base S2 w tk sn S (zno p2) (p0 + ((nI (2 * i + 1)) * p1)) (decide (p2 = 1)) (zpt p2 (zlF p2) (fun j => ztk p0 p1 (j + 1)) (2 * i)) p2 0 (znx p0 p1 (2 * i + 1)) (2 * i) hW2 (zno_01 _) hs (by omega) (Int.le_of_eq (ztk_i (m := 2 * i + 1) hp hh (by omega)).symm) (ztk_lo (m := 2 * i + 1) hp hh (by omega))) gX7_planFourClock_X6_send rfl (by decide +kernel) ⟨⟨rfl, rfl⟩, Nat.le_of_ble_eq_true rfl, Nat.le_of_ble_eq_true rfl⟩ hW2.1 ⟨by decide, by decide⟩ rfl rfl hl.1 rfl (Nat.le_of_ble_eq_true rfl) ⟨Nat.le_of_ble_eq_true rfl, Nat.le_of_ble_eq_true rfl⟩ dX7_planFourClock_40 (fun S40 H locs hp40 hw => ?_)
          have hW40_w := zWire.fix hp40.2.1 hW2
          have hk40 := (congrFun hp40.2.1.1 x0).trans hk2
          have h40 := (hp40.2.2.1 181 x0 (Or.inr (by decide))).trans h2
          have hq40 : zSp S S40 w sn (decide (p2 = 1)) (zpt p2 (zlF p2) (fun j => ztk p0 p1 (j + 1)) (2 * i + 1)) (zno p2) 0 (znx p0 p1 (2 * i + 2)) (2 * i + 1) := hp40.1.weak (zpF1 p2 p0 p1 i) (Nat.le_refl _) (ztk_nx (m := 2 * i + 1) hp hh (by omega) (Nat.lt_succ_self _))
          refine lv_aload_n hx hb dX7_planFourClock_43 rfl (lv_at hl 2 rfl) ?_
          refine lv_iload hx hb dX7_planFourClock_44 (lv_at hl 5 rfl) ?_
          refine lv_aload_n hx hb dX7_planFourClock_46 rfl (lv_at hl 1 rfl) ?_
          refine lv_iload_n hx hb dX7_planFourClock_47 rfl (lv_at hl 3 rfl) ?_
          refine lv_iconst (v := 2) hx hb dX7_planFourClock_48 (by decide) ?_
          refine lv_iload hx hb dX7_planFourClock_49 (lv_at hl 0 rfl) ?_
          refine lv_imul hx hb dX7_planFourClock_51 ?_
          refine lv_iconst (v := 2) hx hb dX7_planFourClock_52 (by decide) ?_
          refine lv_iadd hx hb dX7_planFourClock_53 ?_
          refine zrd (x := (nI (2 * i + 2))) (z2i2 i) ?_
          refine lv_iload_n hx hb dX7_planFourClock_54 rfl (lv_at hl 4 rfl) ?_
          refine lv_imul hx hb dX7_planFourClock_55 ?_
          refine zcV_i (As := [.int p0, .int ((nI (2 * i + 2)) * p1)]) (rest := [.int p2, .ref w]) (n9 := 2) (b := x0) C hw (c_X7_tickBehind l D y base S40 x0 p0 ((nI (2 * i + 2)) * p1) hk40 h40) gX7_planFourClock_X7_tickBehind rfl (by decide +kernel) ⟨⟨rfl, rfl⟩, Nat.le_of_ble_eq_true rfl, Nat.le_of_ble_eq_true rfl⟩ hk40 ⟨by decide, by decide⟩ rfl rfl hl.1 rfl (Nat.le_of_ble_eq_true rfl) ⟨Nat.le_of_ble_eq_true rfl, Nat.le_of_ble_eq_true rfl⟩ dX7_planFourClock_56 (fun r56 S56 H locs hp56 hw => ?_)
          obtain ⟨rfl, hS9⟩ := hp56
          have hS9 := hS9.symm
          subst hS9
          refine zcV_v (As := [.int p2, .int (p0 + ((nI (2 * i + 2)) * p1))]) (rest := []) (n9 := 2) (b := w) C hw (c_X6_send_p l D y base S40 w tk sn S p2 (p0 + ((nI (2 * i + 2)) * p1)) (decide (p2 = 1)) (zpt p2 (zlF p2) (fun j => ztk p0 p1 (j + 1)) (2 * i + 1)) (zno p2) 0 (znx p0 p1 (2 * i + 2)) (2 * i + 1) hW40_w hz hq40 (by omega) (Int.le_of_eq (ztk_i (m := 2 * i + 2) hp hh (by omega)).symm) (ztk_lo (m := 2 * i + 2) hp hh (by omega))) gX7_planFourClock_X6_send rfl (by decide +kernel) ⟨⟨rfl, rfl⟩, Nat.le_of_ble_eq_true rfl, Nat.le_of_ble_eq_true rfl⟩ hW40_w.1 ⟨by decide, by decide⟩ rfl rfl hl.1 rfl (Nat.le_of_ble_eq_true rfl) ⟨Nat.le_of_ble_eq_true rfl, Nat.le_of_ble_eq_true rfl⟩ dX7_planFourClock_59 (fun S59 H locs hp59 hw => ?_)
          refine lv_iinc (v := (nI (i + 1))) (lv' := [(5, .int (nI (i + 1))), (0, .ref x0), (1, .ref w), (2, .int p0), (3, .int p1), (4, .int p2)]) hx hb dX7_planFourClock_62 hl (k := 0) rfl (nI_1 _) (by decide) rfl (fun ls hl => ?_)
          refine lv_goto (tgt := 9) hx hb dX7_planFourClock_65 (by decide) ?_
          exact ih_1 (i + 1) S59 _ _ _ (by omega) (by omega) (hp59.1.weak (zpF2 p2 p0 p1 i) (by omega) (ztk_nx (m := 2 * i + 2) hp hh (by omega) (by omega))) hw (lv_sub hl [0, 1, 2, 3, 4, 5] rfl)
  exact lp_2 _ 0 (zsI (zsI S 163 w p2) 164 w 0) _ _ _ (Nat.lt_succ_self _) (Nat.zero_le _) (zSp.begin hz 0 _) hw (lv_sub hl [0, 1, 2, 3, 4, 5] rfl)

set_option maxHeartbeats 4000000 in
set_option maxRecDepth 100000 in
/-- X7_planFourData -/
theorem c_X7_planFourData_p (l : Launch) (D : va_G) (y : Nat → ClassId) (base : Nat) (S : zS) (x0 : Nat) (w : Nat) (tk : Nat) (sn : Nat) (p0 : Int32) (p1 : Int32) (p2 : Int32) (p3 : Int32) (hW : zWire S w tk sn) (hk : zK S x0 = 11) (h181 : zI S 181 x0 = 0) (hp : 0 ≤ p1 ∧ p1 ≤ 9999) (hh : 1 ≤ p2 ∧ p2 ≤ 50) : zMv l yX7_planFourData wsX7_planFourData ({ frames := 2, cells := 0, slots := 0, locals := 44 }) [.ref x0, .ref w, .int p0, .int p1, .int p2, .int p3] D y base S (fun (S1 : zS) => zSp S S1 w sn false (zpt 0 (zlG p0) (fun j => ztk p1 p2 (zmG p3 j)) 9) 0 0 (znx p1 p2 18) 9) 0 0 := by
  refine zMet_of (cc := cX7_planFourData) (maxL := 7) (ret := none) (own := RX7) (by decide +kernel) rfl rfl (Nat.le_of_ble_eq_true rfl) ?_
  intro p e s m args below meth c ls C hr hlocks hnm hw hl
  have hx := C.1
  have hb := C.2.1
  have hown := C.2.2.2.1
  have hts := C.2.2.2.2
  have hl : lv_has ls 7 [(0, .ref x0), (1, .ref w), (2, .int p0), (3, .int p1), (4, .int p2), (5, .int p3)] := hl
  refine lv_aload_n hx hb dX7_planFourData_0 rfl (lv_at hl 1 rfl) ?_
  refine lv_iconst (v := 0) hx hb dX7_planFourData_1 (by decide) ?_
  refine zcV_v (As := [.int 0]) (rest := []) (n9 := 1) (b := w) C hw (c_X6_beginSending l D y base S w tk sn 0 hW (Or.inl rfl)) gX7_planFourData_X6_beginSending rfl (by decide +kernel) ⟨⟨rfl, rfl⟩, Nat.le_of_ble_eq_true rfl, Nat.le_of_ble_eq_true rfl⟩ hW.1 ⟨by decide, by decide⟩ rfl rfl hl.1 rfl (Nat.le_of_ble_eq_true rfl) ⟨Nat.le_of_ble_eq_true rfl, Nat.le_of_ble_eq_true rfl⟩ dX7_planFourData_2 (fun S2 H locs hp2 hw => ?_)
  obtain rfl := hp2
  refine lv_iconst (v := 0) hx hb dX7_planFourData_5 (by decide) ?_
  refine lv_istore (lv' := [(6, .int 0), (0, .ref x0), (1, .ref w), (2, .int p0), (3, .int p1), (4, .int p2), (5, .int p3)]) hx hb dX7_planFourData_6 hl (by decide) rfl (fun ls hl => ?_)
  have lp_2 : ∀ (n9 : Nat) (i : Nat) (S2 : zS) (H : Heap) (locs : List Loc) (ls : Array Slot), 8 - i < n9 → (i ≤ 8) → (zSp S S2 w sn false (zpt 0 (zlG p0) (fun j => ztk p1 p2 (zmG p3 j)) i) (zlG p0 i) 0 (znx p1 p2 (2 * i)) i) → zW D y base S2 s H locs → lv_has ls 7 [(6, .int (nI i)), (0, .ref x0), (1, .ref w), (2, .int p0), (3, .int p1), (4, .int p2), (5, .int p3)] → W p l e (headSpec wsX7_planFourData ({ frames := 2, cells := 0, slots := 0, locals := 44 })).room s m args below meth c H locs 0 0 (MQ below (va_Qv (fun (S1 : zS) => zSp S S1 w sn false (zpt 0 (zlG p0) (fun j => ztk p1 p2 (zmG p3 j)) 9) 0 0 (znx p1 p2 18) 9) (zPost D y base) (zA base)) args s 0 0 (zA base)) (F0 m 8 ls []) := by
    intro n9
    induction n9 with
    | zero =>
      intro i S2 H locs ls hn9
      exact absurd hn9 (Nat.not_lt_zero _)
    | succ n9 ih_1 =>
      intro i S2 H locs ls hn9 hi hs hw hl
      have hW2 : zWire S2 w tk sn := zWire.fix hs.1.1 hW
      have hk2 : zK S2 x0 = 11 := (congrFun hs.1.1.1 x0).trans hk
      have h2 : zI S2 181 x0 = 0 := (hs.1.2.1 181 x0 (Or.inr (by decide))).trans h181
      refine lv_iload hx hb dX7_planFourData_8 (lv_at hl 0 rfl) ?_
      refine lv_bipush (v := 8) hx hb dX7_planFourData_10 (by decide) ?_
      refine lv_icmp_ge (tgt := 60) hx hb dX7_planFourData_12 (by decide) (fun c12 => ?_) (fun c12 => ?_)
      · have hie : i = 8 := by have := z_ge (n := 8) c12 (by omega) (by omega); omega
        rw [hie] at hs
        refine lv_aload_n hx hb dX7_planFourData_60 rfl (lv_at hl 2 rfl) ?_
        refine lv_iconst (v := 0) hx hb dX7_planFourData_61 (by decide) ?_
        refine lv_aload_n hx hb dX7_planFourData_62 rfl (lv_at hl 1 rfl) ?_
        refine lv_iload_n hx hb dX7_planFourData_63 rfl (lv_at hl 4 rfl) ?_
        refine lv_bipush (v := 17) hx hb dX7_planFourData_64 (by decide) ?_
        refine lv_iload hx hb dX7_planFourData_66 (lv_at hl 5 rfl) ?_
        refine lv_imul hx hb dX7_planFourData_68 ?_
        refine zcV_i (As := [.int p1, .int (17 * p2)]) (rest := [.int 0, .ref w]) (n9 := 2) (b := x0) C hw (c_X7_tickBehind l D y base S2 x0 p1 (17 * p2) hk2 h2) gX7_planFourData_X7_tickBehind rfl (by decide +kernel) ⟨⟨rfl, rfl⟩, Nat.le_of_ble_eq_true rfl, Nat.le_of_ble_eq_true rfl⟩ hk2 ⟨by decide, by decide⟩ rfl rfl hl.1 rfl (Nat.le_of_ble_eq_true rfl) ⟨Nat.le_of_ble_eq_true rfl, Nat.le_of_ble_eq_true rfl⟩ dX7_planFourData_69 (fun r69 S69 H locs hp69 hw => ?_)
        obtain ⟨rfl, hS9⟩ := hp69
        have hS9 := hS9.symm
        subst hS9
        refine zcV_v (As := [.int 0, .int (p1 + (17 * p2))]) (rest := []) (n9 := 2) (b := w) C hw (c_X6_send_p l D y base S2 w tk sn S 0 (p1 + (17 * p2)) false (zpt 0 (zlG p0) (fun j => ztk p1 p2 (zmG p3 j)) 8) (zlG p0 8) 0 (znx p1 p2 16) 8 hW2 (Or.inl rfl) hs (by decide) (Int.le_trans (znx_le hh.1 (m' := 17) (by decide)) (Int.le_of_eq (ztk_i (m := 17) hp hh (by decide)).symm)) (ztk_lo (m := 17) hp hh (by decide))) gX7_planFourData_X6_send rfl (by decide +kernel) ⟨⟨rfl, rfl⟩, Nat.le_of_ble_eq_true rfl, Nat.le_of_ble_eq_true rfl⟩ hW2.1 ⟨by decide, by decide⟩ rfl rfl hl.1 rfl (Nat.le_of_ble_eq_true rfl) ⟨Nat.le_of_ble_eq_true rfl, Nat.le_of_ble_eq_true rfl⟩ dX7_planFourData_72 (fun S72 H locs hp72 hw => ?_)
        exact zrv C hw hr hlocks (hp72.1.weak (zpG8 p0 p3 p1 p2) (Nat.le_refl _) (ztk_nx (m := 17) hp hh (by decide) (by decide))) ⟨Nat.le_of_ble_eq_true rfl, Nat.le_of_ble_eq_true rfl⟩ dX7_planFourData_75
      · have hi8 := z_lt (n := 8) c12 (by omega) (by omega)
        refine lv_aload_n hx hb dX7_planFourData_15 rfl (lv_at hl 2 rfl) ?_
        refine lv_iload_n hx hb dX7_planFourData_16 rfl (lv_at hl 3 rfl) ?_
        refine lv_bipush (v := 7) hx hb dX7_planFourData_17 (by decide) ?_
        refine lv_iload hx hb dX7_planFourData_19 (lv_at hl 0 rfl) ?_
        refine lv_isub hx hb dX7_planFourData_21 ?_
        refine zcS_i (As := [.int p0, .int (7 - (nI i))]) (rest := [.ref w]) (n9 := 2) C hw (c_X7_hasBit l D y base S2 p0 (7 - (nI i)) ) gX7_planFourData_X7_hasBit rfl (by decide +kernel) ⟨⟨rfl, rfl⟩, Nat.le_of_ble_eq_true rfl, Nat.le_of_ble_eq_true rfl⟩ rfl hl.1 rfl (Nat.le_of_ble_eq_true rfl) ⟨Nat.le_of_ble_eq_true rfl, Nat.le_of_ble_eq_true rfl⟩ dX7_planFourData_22 (fun r22 S22 H locs hp22 hw => ?_)
        obtain ⟨rfl, hS9⟩ := hp22
        have hS9 := hS9.symm
        subst hS9
        refine zrd (x := (zlG p0 (i + 1))) (zlG_s hi8).symm ?_
        refine lv_aload_n hx hb dX7_planFourData_25 rfl (lv_at hl 1 rfl) ?_
        refine lv_iload_n hx hb dX7_planFourData_26 rfl (lv_at hl 4 rfl) ?_
        refine lv_iload hx hb dX7_planFourData_27 (lv_at hl 6 rfl) ?_
        refine lv_if_eq (tgt := 41) hx hb dX7_planFourData_29 (by decide) (fun c29 => ?_) (fun c29 => ?_)
        · refine lv_iconst (v := 2) hx hb dX7_planFourData_41 (by decide) ?_
          refine lv_iload hx hb dX7_planFourData_42 (lv_at hl 0 rfl) ?_
          refine lv_imul hx hb dX7_planFourData_44 ?_
          refine zrd (x := (nI (zmG p3 i))) (zmG_0 hi8 c29) ?_
          refine lv_iload hx hb dX7_planFourData_45 (lv_at hl 5 rfl) ?_
          refine lv_imul hx hb dX7_planFourData_47 ?_
          refine zcV_i (As := [.int p1, .int ((nI (zmG p3 i)) * p2)]) (rest := [.int (zlG p0 (i + 1)), .ref w]) (n9 := 2) (b := x0) C hw (c_X7_tickBehind l D y base S2 x0 p1 ((nI (zmG p3 i)) * p2) hk2 h2) gX7_planFourData_X7_tickBehind rfl (by decide +kernel) ⟨⟨rfl, rfl⟩, Nat.le_of_ble_eq_true rfl, Nat.le_of_ble_eq_true rfl⟩ hk2 ⟨by decide, by decide⟩ rfl rfl hl.1 rfl (Nat.le_of_ble_eq_true rfl) ⟨Nat.le_of_ble_eq_true rfl, Nat.le_of_ble_eq_true rfl⟩ dX7_planFourData_48 (fun r48 S48 H locs hp48 hw => ?_)
          obtain ⟨rfl, hS9⟩ := hp48
          have hS9 := hS9.symm
          subst hS9
          refine zcV_v (As := [.int (zlG p0 (i + 1)), .int (p1 + ((nI (zmG p3 i)) * p2))]) (rest := []) (n9 := 2) (b := w) C hw (c_X6_send_p l D y base S2 w tk sn S (zlG p0 (i + 1)) (p1 + ((nI (zmG p3 i)) * p2)) false (zpt 0 (zlG p0) (fun j => ztk p1 p2 (zmG p3 j)) i) (zlG p0 i) 0 (znx p1 p2 (2 * i)) i hW2 (by rw [zlG_s hi8]; exact zbv_01 _ _) hs (by omega) (Int.le_trans (znx_le hh.1 (zmG_b (lt := p3) hi8).1) (Int.le_of_eq (ztk_i (m := zmG p3 i) hp hh (by have := (zmG_b (lt := p3) hi8).2; omega)).symm)) (ztk_lo (m := zmG p3 i) hp hh (by have := (zmG_b (lt := p3) hi8).2; omega))) gX7_planFourData_X6_send rfl (by decide +kernel) ⟨⟨rfl, rfl⟩, Nat.le_of_ble_eq_true rfl, Nat.le_of_ble_eq_true rfl⟩ hW2.1 ⟨by decide, by decide⟩ rfl rfl hl.1 rfl (Nat.le_of_ble_eq_true rfl) ⟨Nat.le_of_ble_eq_true rfl, Nat.le_of_ble_eq_true rfl⟩ dX7_planFourData_51 (fun S51 H locs hp51 hw => ?_)
          refine lv_iinc (v := (nI (i + 1))) (lv' := [(6, .int (nI (i + 1))), (0, .ref x0), (1, .ref w), (2, .int p0), (3, .int p1), (4, .int p2), (5, .int p3)]) hx hb dX7_planFourData_54 hl (k := 0) rfl (nI_1 _) (by decide) rfl (fun ls hl => ?_)
          refine lv_goto (tgt := 8) hx hb dX7_planFourData_57 (by decide) ?_
          exact ih_1 (i + 1) S51 _ _ _ (by omega) (by omega) (hp51.1.weak (zpG hi8) (Nat.le_refl _) (ztk_nx (m := zmG p3 i) hp hh (by have := (zmG_b (lt := p3) hi8).2; omega) (zmG_b hi8).2)) hw (lv_sub hl [0, 1, 2, 3, 4, 5, 6] rfl)
        · refine lv_iconst (v := 2) hx hb dX7_planFourData_32 (by decide) ?_
          refine lv_iload hx hb dX7_planFourData_33 (lv_at hl 0 rfl) ?_
          refine lv_imul hx hb dX7_planFourData_35 ?_
          refine lv_iconst (v := 1) hx hb dX7_planFourData_36 (by decide) ?_
          refine lv_iadd hx hb dX7_planFourData_37 ?_
          refine zrd (x := (nI (zmG p3 i))) (zmG_1 hi8 c29) ?_
          refine lv_goto (tgt := 45) hx hb dX7_planFourData_38 (by decide) ?_
          refine lv_iload hx hb dX7_planFourData_45 (lv_at hl 5 rfl) ?_
          refine lv_imul hx hb dX7_planFourData_47 ?_
          refine zcV_i (As := [.int p1, .int ((nI (zmG p3 i)) * p2)]) (rest := [.int (zlG p0 (i + 1)), .ref w]) (n9 := 2) (b := x0) C hw (c_X7_tickBehind l D y base S2 x0 p1 ((nI (zmG p3 i)) * p2) hk2 h2) gX7_planFourData_X7_tickBehind rfl (by decide +kernel) ⟨⟨rfl, rfl⟩, Nat.le_of_ble_eq_true rfl, Nat.le_of_ble_eq_true rfl⟩ hk2 ⟨by decide, by decide⟩ rfl rfl hl.1 rfl (Nat.le_of_ble_eq_true rfl) ⟨Nat.le_of_ble_eq_true rfl, Nat.le_of_ble_eq_true rfl⟩ dX7_planFourData_48 (fun r48 S48 H locs hp48 hw => ?_)
          obtain ⟨rfl, hS9⟩ := hp48
          have hS9 := hS9.symm
          subst hS9
          refine zcV_v (As := [.int (zlG p0 (i + 1)), .int (p1 + ((nI (zmG p3 i)) * p2))]) (rest := []) (n9 := 2) (b := w) C hw (c_X6_send_p l D y base S2 w tk sn S (zlG p0 (i + 1)) (p1 + ((nI (zmG p3 i)) * p2)) false (zpt 0 (zlG p0) (fun j => ztk p1 p2 (zmG p3 j)) i) (zlG p0 i) 0 (znx p1 p2 (2 * i)) i hW2 (by rw [zlG_s hi8]; exact zbv_01 _ _) hs (by omega) (Int.le_trans (znx_le hh.1 (zmG_b (lt := p3) hi8).1) (Int.le_of_eq (ztk_i (m := zmG p3 i) hp hh (by have := (zmG_b (lt := p3) hi8).2; omega)).symm)) (ztk_lo (m := zmG p3 i) hp hh (by have := (zmG_b (lt := p3) hi8).2; omega))) gX7_planFourData_X6_send rfl (by decide +kernel) ⟨⟨rfl, rfl⟩, Nat.le_of_ble_eq_true rfl, Nat.le_of_ble_eq_true rfl⟩ hW2.1 ⟨by decide, by decide⟩ rfl rfl hl.1 rfl (Nat.le_of_ble_eq_true rfl) ⟨Nat.le_of_ble_eq_true rfl, Nat.le_of_ble_eq_true rfl⟩ dX7_planFourData_51 (fun S51 H locs hp51 hw => ?_)
          refine lv_iinc (v := (nI (i + 1))) (lv' := [(6, .int (nI (i + 1))), (0, .ref x0), (1, .ref w), (2, .int p0), (3, .int p1), (4, .int p2), (5, .int p3)]) hx hb dX7_planFourData_54 hl (k := 0) rfl (nI_1 _) (by decide) rfl (fun ls hl => ?_)
          refine lv_goto (tgt := 8) hx hb dX7_planFourData_57 (by decide) ?_
          exact ih_1 (i + 1) S51 _ _ _ (by omega) (by omega) (hp51.1.weak (zpG hi8) (Nat.le_refl _) (ztk_nx (m := zmG p3 i) hp hh (by have := (zmG_b (lt := p3) hi8).2; omega) (zmG_b hi8).2)) hw (lv_sub hl [0, 1, 2, 3, 4, 5, 6] rfl)
  exact lp_2 _ 0 (zsI (zsI S 163 w 0) 164 w 0) _ _ _ (Nat.lt_succ_self _) (Nat.zero_le _) (zSp.begin (Or.inl rfl) 0 _) hw (lv_sub hl [0, 1, 2, 3, 4, 5, 6] rfl)

set_option maxHeartbeats 4000000 in
set_option maxRecDepth 100000 in
/-- X7_planTwoWires -/
theorem c_X7_planTwoWires_p (l : Launch) (D : va_G) (y : Nat → ClassId) (base : Nat) (S : zS) (x0 : Nat) (w1 : Nat) (t1 : Nat) (n1 : Nat) (w2 : Nat) (t2 : Nat) (n2 : Nat) (p0 : Int32) (p1 : Int32) (p2 : Int32) (hW1 : zWire S w1 t1 n1) (hW2 : zWire S w2 t2 n2) (hk : zK S x0 = 11) (h181 : zI S 181 x0 = 0) (hd : w1 ≠ w2 ∧ n1 ≠ n2) (hp : 0 ≤ p1 ∧ p1 ≤ 9999) (hh : 1 ≤ p2 ∧ p2 ≤ 50) : zMv l yX7_planTwoWires wsX7_planTwoWires ({ frames := 2, cells := 0, slots := 0, locals := 44 }) [.ref x0, .ref w1, .ref w2, .int p0, .int p1, .int p2] D y base S (fun (S1 : zS) => zTwp S S1 w1 n1 w2 n2 (zpt 1 zlC (fun j => ztk p1 p2 (zmC j)) (56)) 1 (znx p1 p2 (58)) (56) (zpt 1 (zlD p0) (fun j => ztk p1 p2 (zmD j)) (30)) 1 (znx p1 p2 (58)) (30)) 0 0 := by
  refine zMet_of (cc := cX7_planTwoWires) (maxL := 8) (ret := none) (own := RX7) (by decide +kernel) rfl rfl (Nat.le_of_ble_eq_true rfl) ?_
  intro p e s m args below meth c ls C hr hlocks hnm hw hl
  have hx := C.1
  have hb := C.2.1
  have hown := C.2.2.2.1
  have hts := C.2.2.2.2
  have hl : lv_has ls 8 [(0, .ref x0), (1, .ref w1), (2, .ref w2), (3, .int p0), (4, .int p1), (5, .int p2)] := hl
  refine lv_aload_n hx hb dX7_planTwoWires_0 rfl (lv_at hl 1 rfl) ?_
  refine lv_iconst (v := 1) hx hb dX7_planTwoWires_1 (by decide) ?_
  refine zcV_v (As := [.int 1]) (rest := []) (n9 := 1) (b := w1) C hw (c_X6_beginSending l D y base S w1 t1 n1 1 hW1 (Or.inr rfl)) gX7_planTwoWires_X6_beginSending rfl (by decide +kernel) ⟨⟨rfl, rfl⟩, Nat.le_of_ble_eq_true rfl, Nat.le_of_ble_eq_true rfl⟩ hW1.1 ⟨by decide, by decide⟩ rfl rfl hl.1 rfl (Nat.le_of_ble_eq_true rfl) ⟨Nat.le_of_ble_eq_true rfl, Nat.le_of_ble_eq_true rfl⟩ dX7_planTwoWires_2 (fun S2 H locs hp2 hw => ?_)
  obtain rfl := hp2
  refine lv_aload_n hx hb dX7_planTwoWires_5 rfl (lv_at hl 2 rfl) ?_
  refine lv_iconst (v := 1) hx hb dX7_planTwoWires_6 (by decide) ?_
  refine zcV_v (As := [.int 1]) (rest := []) (n9 := 1) (b := w2) C hw (c_X6_beginSending l D y base (zsI (zsI S 163 w1 1) 164 w1 0) w2 t2 n2 1 hW2 (Or.inr rfl)) gX7_planTwoWires_X6_beginSending rfl (by decide +kernel) ⟨⟨rfl, rfl⟩, Nat.le_of_ble_eq_true rfl, Nat.le_of_ble_eq_true rfl⟩ hW2.1 ⟨by decide, by decide⟩ rfl rfl hl.1 rfl (Nat.le_of_ble_eq_true rfl) ⟨Nat.le_of_ble_eq_true rfl, Nat.le_of_ble_eq_true rfl⟩ dX7_planTwoWires_7 (fun S7 H locs hp7 hw => ?_)
  obtain rfl := hp7
  have hB10 : zTwp S (zsI (zsI (zsI (zsI S 163 w1 1) 164 w1 0) 163 w2 1) 164 w2 0) w1 n1 w2 n2 (zpt 1 zlC (fun j => ztk p1 p2 (zmC j)) (0)) 1 (znx p1 p2 (1)) (0) (zpt 1 (zlD p0) (fun j => ztk p1 p2 (zmD j)) (0)) 1 (znx p1 p2 (0)) (0) := ⟨zFr.tr (S1 := zsI (zsI S 163 w1 1) 164 w1 0) (zChg.fr (zChg.tr (zChg.I (Or.inl rfl)) (zChg.I (Or.inr rfl))) (fun _ g => g) ⟨rfl, Or.inl rfl⟩) (zChg.fr (zChg.tr (zChg.I (Or.inl rfl)) (zChg.I (Or.inr rfl))) (fun _ g => g) ⟨rfl, Or.inr rfl⟩), ((zSp.begin (sn := n1) (Or.inr rfl) 0 _).self).frame (w' := w2) (sn' := n2) (zChg.tr (zChg.I (Or.inl rfl)) (zChg.I (Or.inr rfl))) hd.1 hd.2, (zSp.begin (Or.inr rfl) 0 _).self⟩
  refine lv_aload_n hx hb dX7_planTwoWires_10 rfl (lv_at hl 2 rfl) ?_
  refine lv_iconst (v := 0) hx hb dX7_planTwoWires_11 (by decide) ?_
  refine lv_iload hx hb dX7_planTwoWires_12 (lv_at hl 4 rfl) ?_
  refine zrd (x := (ztk p1 p2 0)) (ztk_0 _ _).symm ?_
  refine zcV_v (As := [.int 0, .int (ztk p1 p2 0)]) (rest := []) (n9 := 2) (b := w2) C hw (c_X6_send_p l D y base (zsI (zsI (zsI (zsI S 163 w1 1) 164 w1 0) 163 w2 1) 164 w2 0) w2 t2 n2 (zsI (zsI (zsI (zsI S 163 w1 1) 164 w1 0) 163 w2 1) 164 w2 0) 0 (ztk p1 p2 0) true (zpt 1 (zlD p0) (fun j => ztk p1 p2 (zmD j)) (0)) 1 0 (znx p1 p2 (0)) (0) hW2 (Or.inl rfl) hB10.2.2 (by omega) (Int.le_of_eq (ztk_i (m := 0) hp hh (by omega)).symm) (ztk_lo (m := 0) hp hh (by omega))) gX7_planTwoWires_X6_send rfl (by decide +kernel) ⟨⟨rfl, rfl⟩, Nat.le_of_ble_eq_true rfl, Nat.le_of_ble_eq_true rfl⟩ hW2.1 ⟨by decide, by decide⟩ rfl rfl hl.1 rfl (Nat.le_of_ble_eq_true rfl) ⟨Nat.le_of_ble_eq_true rfl, Nat.le_of_ble_eq_true rfl⟩ dX7_planTwoWires_14 (fun S14 H locs hp14 hw => ?_)
  have hB14 : zTwp S S14 w1 n1 w2 n2 (zpt 1 zlC (fun j => ztk p1 p2 (zmC j)) (0)) 1 (znx p1 p2 (1)) (0) (zpt 1 (zlD p0) (fun j => ztk p1 p2 (zmD j)) (1)) 0 (znx p1 p2 (1)) (1) := zTwp.two hB10 hd hp14 (zpt_s (n := 0) rfl rfl) (ztk_nx (m := 0) hp hh (by omega) (by omega))
  have hW1_14 := zWire.fix hB14.1.1 hW1
  have hW2_14 := zWire.fix hB14.1.1 hW2
  have hk_14 := (congrFun hB14.1.1.1 x0).trans hk
  have h181_14 := (hB14.1.2.1 181 x0 (show ¬ ((181 : Nat) = 163 ∨ (181 : Nat) = 164) by decide)).trans h181
  refine lv_aload_n hx hb dX7_planTwoWires_17 rfl (lv_at hl 1 rfl) ?_
  refine lv_iconst (v := 0) hx hb dX7_planTwoWires_18 (by decide) ?_
  refine lv_aload_n hx hb dX7_planTwoWires_19 rfl (lv_at hl 0 rfl) ?_
  refine lv_iload hx hb dX7_planTwoWires_20 (lv_at hl 4 rfl) ?_
  refine lv_iload hx hb dX7_planTwoWires_22 (lv_at hl 5 rfl) ?_
  refine zcV_i (As := [.int p1, .int p2]) (rest := [.int 0, .ref w1]) (n9 := 2) (b := x0) C hw (c_X7_tickBehind l D y base S14 x0 p1 p2 hk_14 h181_14) gX7_planTwoWires_X7_tickBehind rfl (by decide +kernel) ⟨⟨rfl, rfl⟩, Nat.le_of_ble_eq_true rfl, Nat.le_of_ble_eq_true rfl⟩ hk_14 ⟨by decide, by decide⟩ rfl rfl hl.1 rfl (Nat.le_of_ble_eq_true rfl) ⟨Nat.le_of_ble_eq_true rfl, Nat.le_of_ble_eq_true rfl⟩ dX7_planTwoWires_24 (fun r24 S24 H locs hp24 hw => ?_)
  obtain ⟨rfl, hS9⟩ := hp24
  have hS9 := hS9.symm
  subst hS9
  refine zrd (x := (ztk p1 p2 1)) (ztk_1 _ _) ?_
  refine zcV_v (As := [.int 0, .int (ztk p1 p2 1)]) (rest := []) (n9 := 2) (b := w1) C hw (c_X6_send_p l D y base S14 w1 t1 n1 S14 0 (ztk p1 p2 1) true (zpt 1 zlC (fun j => ztk p1 p2 (zmC j)) (0)) 1 0 (znx p1 p2 (1)) (0) hW1_14 (Or.inl rfl) hB14.2.1 (by omega) (Int.le_of_eq (ztk_i (m := 1) hp hh (by omega)).symm) (ztk_lo (m := 1) hp hh (by omega))) gX7_planTwoWires_X6_send rfl (by decide +kernel) ⟨⟨rfl, rfl⟩, Nat.le_of_ble_eq_true rfl, Nat.le_of_ble_eq_true rfl⟩ hW1_14.1 ⟨by decide, by decide⟩ rfl rfl hl.1 rfl (Nat.le_of_ble_eq_true rfl) ⟨Nat.le_of_ble_eq_true rfl, Nat.le_of_ble_eq_true rfl⟩ dX7_planTwoWires_27 (fun S27 H locs hp27 hw => ?_)
  have hB27 : zTwp S S27 w1 n1 w2 n2 (zpt 1 zlC (fun j => ztk p1 p2 (zmC j)) (1)) 0 (znx p1 p2 (2)) (1) (zpt 1 (zlD p0) (fun j => ztk p1 p2 (zmD j)) (1)) 0 (znx p1 p2 (1)) (1) := zTwp.one hB14 hd hp27 (zpt_s (n := 0) rfl rfl) (ztk_nx (m := 1) hp hh (by omega) (by omega))
  have hW1_27 := zWire.fix hB27.1.1 hW1
  have hW2_27 := zWire.fix hB27.1.1 hW2
  have hk_27 := (congrFun hB27.1.1.1 x0).trans hk
  have h181_27 := (hB27.1.2.1 181 x0 (show ¬ ((181 : Nat) = 163 ∨ (181 : Nat) = 164) by decide)).trans h181
  refine lv_iconst (v := 0) hx hb dX7_planTwoWires_30 (by decide) ?_
  refine lv_istore (lv' := [(6, .int 0), (0, .ref x0), (1, .ref w1), (2, .ref w2), (3, .int p0), (4, .int p1), (5, .int p2)]) hx hb dX7_planTwoWires_31 hl (by decide) rfl (fun ls hl => ?_)
  have lp_2 : ∀ (n9 : Nat) (i : Nat) (S2 : zS) (H : Heap) (locs : List Loc) (ls : Array Slot), 27 - i < n9 → (i ≤ 27) → (zTwp S S2 w1 n1 w2 n2 (zpt 1 zlC (fun j => ztk p1 p2 (zmC j)) (2 * i + 1)) 0 (znx p1 p2 (2 * i + 2)) (2 * i + 1) (zpt 1 (zlD p0) (fun j => ztk p1 p2 (zmD j)) (i + 1)) (zlD p0 (i + 1)) (znx p1 p2 (2 * i + 1)) (i + 1)) → zW D y base S2 s H locs → lv_has ls 8 [(6, .int (nI i)), (0, .ref x0), (1, .ref w1), (2, .ref w2), (3, .int p0), (4, .int p1), (5, .int p2)] → W p l e (headSpec wsX7_planTwoWires ({ frames := 2, cells := 0, slots := 0, locals := 44 })).room s m args below meth c H locs 0 0 (MQ below (va_Qv (fun (S1 : zS) => zTwp S S1 w1 n1 w2 n2 (zpt 1 zlC (fun j => ztk p1 p2 (zmC j)) (56)) 1 (znx p1 p2 (58)) (56) (zpt 1 (zlD p0) (fun j => ztk p1 p2 (zmD j)) (30)) 1 (znx p1 p2 (58)) (30)) (zPost D y base) (zA base)) args s 0 0 (zA base)) (F0 m 33 ls []) := by
    intro n9
    induction n9 with
    | zero =>
      intro i S2 H locs ls hn9
      exact absurd hn9 (Nat.not_lt_zero _)
    | succ n9 ih_1 =>
      intro i S2 H locs ls hn9 hi hB2 hw hl
      have hW1_2 := zWire.fix hB2.1.1 hW1
      have hW2_2 := zWire.fix hB2.1.1 hW2
      have hk_2 := (congrFun hB2.1.1.1 x0).trans hk
      have h181_2 := (hB2.1.2.1 181 x0 (show ¬ ((181 : Nat) = 163 ∨ (181 : Nat) = 164) by decide)).trans h181
      refine lv_iload hx hb dX7_planTwoWires_33 (lv_at hl 0 rfl) ?_
      refine lv_bipush (v := 27) hx hb dX7_planTwoWires_35 (by decide) ?_
      refine lv_icmp_ge (tgt := 112) hx hb dX7_planTwoWires_37 (by decide) (fun c37 => ?_) (fun c37 => ?_)
      · have hie : i = 27 := by have := z_ge (n := 27) c37 (by omega) (by omega); omega
        rw [hie] at hB2
        refine lv_bipush (v := 55) hx hb dX7_planTwoWires_112 (by decide) ?_
        refine lv_iload hx hb dX7_planTwoWires_114 (lv_at hl 6 rfl) ?_
        refine lv_imul hx hb dX7_planTwoWires_116 ?_
        refine lv_istore (lv' := [(6, .int (55 * p2)), (0, .ref x0), (1, .ref w1), (2, .ref w2), (3, .int p0), (4, .int p1), (5, .int p2)]) hx hb dX7_planTwoWires_117 hl (by decide) rfl (fun ls hl => ?_)
        refine lv_aload_n hx hb dX7_planTwoWires_119 rfl (lv_at hl 3 rfl) ?_
        refine lv_iconst (v := 0) hx hb dX7_planTwoWires_120 (by decide) ?_
        refine lv_aload_n hx hb dX7_planTwoWires_121 rfl (lv_at hl 1 rfl) ?_
        refine lv_iload hx hb dX7_planTwoWires_122 (lv_at hl 5 rfl) ?_
        refine lv_iload hx hb dX7_planTwoWires_124 (lv_at hl 0 rfl) ?_
        refine zcV_i (As := [.int p1, .int (55 * p2)]) (rest := [.int 0, .ref w2]) (n9 := 2) (b := x0) C hw (c_X7_tickBehind l D y base S2 x0 p1 (55 * p2) hk_2 h181_2) gX7_planTwoWires_X7_tickBehind rfl (by decide +kernel) ⟨⟨rfl, rfl⟩, Nat.le_of_ble_eq_true rfl, Nat.le_of_ble_eq_true rfl⟩ hk_2 ⟨by decide, by decide⟩ rfl rfl hl.1 rfl (Nat.le_of_ble_eq_true rfl) ⟨Nat.le_of_ble_eq_true rfl, Nat.le_of_ble_eq_true rfl⟩ dX7_planTwoWires_126 (fun r126 S126 H locs hp126 hw => ?_)
        obtain ⟨rfl, hS9⟩ := hp126
        have hS9 := hS9.symm
        subst hS9
        refine zrd (x := (ztk p1 p2 55)) rfl ?_
        refine zcV_v (As := [.int 0, .int (ztk p1 p2 55)]) (rest := []) (n9 := 2) (b := w2) C hw (c_X6_send_p l D y base S2 w2 t2 n2 S2 0 (ztk p1 p2 55) true (zpt 1 (zlD p0) (fun j => ztk p1 p2 (zmD j)) (28)) (zlD p0 28) 0 (znx p1 p2 (55)) (28) hW2_2 (Or.inl rfl) hB2.2.2 (by omega) (Int.le_of_eq (ztk_i (m := 55) hp hh (by omega)).symm) (ztk_lo (m := 55) hp hh (by omega))) gX7_planTwoWires_X6_send rfl (by decide +kernel) ⟨⟨rfl, rfl⟩, Nat.le_of_ble_eq_true rfl, Nat.le_of_ble_eq_true rfl⟩ hW2_2.1 ⟨by decide, by decide⟩ rfl rfl hl.1 rfl (Nat.le_of_ble_eq_true rfl) ⟨Nat.le_of_ble_eq_true rfl, Nat.le_of_ble_eq_true rfl⟩ dX7_planTwoWires_129 (fun S129 H locs hp129 hw => ?_)
        have hB129 : zTwp S S129 w1 n1 w2 n2 (zpt 1 zlC (fun j => ztk p1 p2 (zmC j)) (55)) 0 (znx p1 p2 (56)) (55) (zpt 1 (zlD p0) (fun j => ztk p1 p2 (zmD j)) (29)) 0 (znx p1 p2 (57)) (29) := zTwp.two hB2 hd hp129 (zpD28 p0 p1 p2) (ztk_nx (m := 55) hp hh (by omega) (by omega))
        have hW1_129 := zWire.fix hB129.1.1 hW1
        have hW2_129 := zWire.fix hB129.1.1 hW2
        have hk_129 := (congrFun hB129.1.1.1 x0).trans hk
        have h181_129 := (hB129.1.2.1 181 x0 (show ¬ ((181 : Nat) = 163 ∨ (181 : Nat) = 164) by decide)).trans h181
        refine lv_aload_n hx hb dX7_planTwoWires_132 rfl (lv_at hl 2 rfl) ?_
        refine lv_iconst (v := 1) hx hb dX7_planTwoWires_133 (by decide) ?_
        refine lv_aload_n hx hb dX7_planTwoWires_134 rfl (lv_at hl 1 rfl) ?_
        refine lv_iload hx hb dX7_planTwoWires_135 (lv_at hl 5 rfl) ?_
        refine lv_iload hx hb dX7_planTwoWires_137 (lv_at hl 0 rfl) ?_
        refine lv_iload hx hb dX7_planTwoWires_139 (lv_at hl 6 rfl) ?_
        refine lv_iadd hx hb dX7_planTwoWires_141 ?_
        refine zcV_i (As := [.int p1, .int ((55 * p2) + p2)]) (rest := [.int 1, .ref w1]) (n9 := 2) (b := x0) C hw (c_X7_tickBehind l D y base S129 x0 p1 ((55 * p2) + p2) hk_129 h181_129) gX7_planTwoWires_X7_tickBehind rfl (by decide +kernel) ⟨⟨rfl, rfl⟩, Nat.le_of_ble_eq_true rfl, Nat.le_of_ble_eq_true rfl⟩ hk_129 ⟨by decide, by decide⟩ rfl rfl hl.1 rfl (Nat.le_of_ble_eq_true rfl) ⟨Nat.le_of_ble_eq_true rfl, Nat.le_of_ble_eq_true rfl⟩ dX7_planTwoWires_142 (fun r142 S142 H locs hp142 hw => ?_)
        obtain ⟨rfl, hS9⟩ := hp142
        have hS9 := hS9.symm
        subst hS9
        refine zrd (x := (ztk p1 p2 56)) (ztk_a1 p1 p2 55) ?_
        refine zcV_v (As := [.int 1, .int (ztk p1 p2 56)]) (rest := []) (n9 := 2) (b := w1) C hw (c_X6_send_p l D y base S129 w1 t1 n1 S129 1 (ztk p1 p2 56) true (zpt 1 zlC (fun j => ztk p1 p2 (zmC j)) (55)) 0 0 (znx p1 p2 (56)) (55) hW1_129 (Or.inr rfl) hB129.2.1 (by omega) (Int.le_of_eq (ztk_i (m := 56) hp hh (by omega)).symm) (ztk_lo (m := 56) hp hh (by omega))) gX7_planTwoWires_X6_send rfl (by decide +kernel) ⟨⟨rfl, rfl⟩, Nat.le_of_ble_eq_true rfl, Nat.le_of_ble_eq_true rfl⟩ hW1_129.1 ⟨by decide, by decide⟩ rfl rfl hl.1 rfl (Nat.le_of_ble_eq_true rfl) ⟨Nat.le_of_ble_eq_true rfl, Nat.le_of_ble_eq_true rfl⟩ dX7_planTwoWires_145 (fun S145 H locs hp145 hw => ?_)
        have hB145 : zTwp S S145 w1 n1 w2 n2 (zpt 1 zlC (fun j => ztk p1 p2 (zmC j)) (56)) 1 (znx p1 p2 (58)) (56) (zpt 1 (zlD p0) (fun j => ztk p1 p2 (zmD j)) (29)) 0 (znx p1 p2 (57)) (29) := zTwp.one hB129 hd hp145 (zpC1 p1 p2 27) (ztk_nx (m := 56) hp hh (by omega) (by omega))
        have hW1_145 := zWire.fix hB145.1.1 hW1
        have hW2_145 := zWire.fix hB145.1.1 hW2
        have hk_145 := (congrFun hB145.1.1.1 x0).trans hk
        have h181_145 := (hB145.1.2.1 181 x0 (show ¬ ((181 : Nat) = 163 ∨ (181 : Nat) = 164) by decide)).trans h181
        refine lv_aload_n hx hb dX7_planTwoWires_148 rfl (lv_at hl 3 rfl) ?_
        refine lv_iconst (v := 1) hx hb dX7_planTwoWires_149 (by decide) ?_
        refine lv_aload_n hx hb dX7_planTwoWires_150 rfl (lv_at hl 1 rfl) ?_
        refine lv_iload hx hb dX7_planTwoWires_151 (lv_at hl 5 rfl) ?_
        refine lv_iload hx hb dX7_planTwoWires_153 (lv_at hl 0 rfl) ?_
        refine lv_iconst (v := 2) hx hb dX7_planTwoWires_155 (by decide) ?_
        refine lv_iload hx hb dX7_planTwoWires_156 (lv_at hl 6 rfl) ?_
        refine lv_imul hx hb dX7_planTwoWires_158 ?_
        refine lv_iadd hx hb dX7_planTwoWires_159 ?_
        refine zcV_i (As := [.int p1, .int ((55 * p2) + (2 * p2))]) (rest := [.int 1, .ref w2]) (n9 := 2) (b := x0) C hw (c_X7_tickBehind l D y base S145 x0 p1 ((55 * p2) + (2 * p2)) hk_145 h181_145) gX7_planTwoWires_X7_tickBehind rfl (by decide +kernel) ⟨⟨rfl, rfl⟩, Nat.le_of_ble_eq_true rfl, Nat.le_of_ble_eq_true rfl⟩ hk_145 ⟨by decide, by decide⟩ rfl rfl hl.1 rfl (Nat.le_of_ble_eq_true rfl) ⟨Nat.le_of_ble_eq_true rfl, Nat.le_of_ble_eq_true rfl⟩ dX7_planTwoWires_160 (fun r160 S160 H locs hp160 hw => ?_)
        obtain ⟨rfl, hS9⟩ := hp160
        have hS9 := hS9.symm
        subst hS9
        refine zrd (x := (ztk p1 p2 57)) (ztk_a2 p1 p2 55) ?_
        refine zcV_v (As := [.int 1, .int (ztk p1 p2 57)]) (rest := []) (n9 := 2) (b := w2) C hw (c_X6_send_p l D y base S145 w2 t2 n2 S145 1 (ztk p1 p2 57) true (zpt 1 (zlD p0) (fun j => ztk p1 p2 (zmD j)) (29)) 0 0 (znx p1 p2 (57)) (29) hW2_145 (Or.inr rfl) hB145.2.2 (by omega) (Int.le_of_eq (ztk_i (m := 57) hp hh (by omega)).symm) (ztk_lo (m := 57) hp hh (by omega))) gX7_planTwoWires_X6_send rfl (by decide +kernel) ⟨⟨rfl, rfl⟩, Nat.le_of_ble_eq_true rfl, Nat.le_of_ble_eq_true rfl⟩ hW2_145.1 ⟨by decide, by decide⟩ rfl rfl hl.1 rfl (Nat.le_of_ble_eq_true rfl) ⟨Nat.le_of_ble_eq_true rfl, Nat.le_of_ble_eq_true rfl⟩ dX7_planTwoWires_163 (fun S163 H locs hp163 hw => ?_)
        have hB163 : zTwp S S163 w1 n1 w2 n2 (zpt 1 zlC (fun j => ztk p1 p2 (zmC j)) (56)) 1 (znx p1 p2 (58)) (56) (zpt 1 (zlD p0) (fun j => ztk p1 p2 (zmD j)) (30)) 1 (znx p1 p2 (58)) (30) := zTwp.two hB145 hd hp163 (zpD29 p0 p1 p2) (ztk_nx (m := 57) hp hh (by omega) (by omega))
        have hW1_163 := zWire.fix hB163.1.1 hW1
        have hW2_163 := zWire.fix hB163.1.1 hW2
        have hk_163 := (congrFun hB163.1.1.1 x0).trans hk
        have h181_163 := (hB163.1.2.1 181 x0 (show ¬ ((181 : Nat) = 163 ∨ (181 : Nat) = 164) by decide)).trans h181
        exact zrv C hw hr hlocks hB163 ⟨Nat.le_of_ble_eq_true rfl, Nat.le_of_ble_eq_true rfl⟩ dX7_planTwoWires_166
      · have hi27 := z_lt (n := 27) c37 (by omega) (by omega)
        refine lv_iconst (v := 2) hx hb dX7_planTwoWires_40 (by decide) ?_
        refine lv_iload hx hb dX7_planTwoWires_41 (lv_at hl 0 rfl) ?_
        refine lv_imul hx hb dX7_planTwoWires_43 ?_
        refine lv_iconst (v := 1) hx hb dX7_planTwoWires_44 (by decide) ?_
        refine lv_iadd hx hb dX7_planTwoWires_45 ?_
        refine zrd (x := (nI (2 * i + 1))) (z2i1 i) ?_
        refine lv_iload hx hb dX7_planTwoWires_46 (lv_at hl 6 rfl) ?_
        refine lv_imul hx hb dX7_planTwoWires_48 ?_
        refine lv_istore (lv' := [(7, .int ((nI (2 * i + 1)) * p2)), (6, .int (nI i)), (0, .ref x0), (1, .ref w1), (2, .ref w2), (3, .int p0), (4, .int p1), (5, .int p2)]) hx hb dX7_planTwoWires_49 hl (by decide) rfl (fun ls hl => ?_)
        refine lv_aload_n hx hb dX7_planTwoWires_51 rfl (lv_at hl 4 rfl) ?_
        refine lv_iload_n hx hb dX7_planTwoWires_52 rfl (lv_at hl 5 rfl) ?_
        refine lv_bipush (v := 26) hx hb dX7_planTwoWires_53 (by decide) ?_
        refine lv_iload hx hb dX7_planTwoWires_55 (lv_at hl 1 rfl) ?_
        refine lv_isub hx hb dX7_planTwoWires_57 ?_
        refine zcS_i (As := [.int p0, .int (26 - (nI i))]) (rest := [.ref w2]) (n9 := 2) C hw (c_X7_hasBit l D y base S2 p0 (26 - (nI i)) ) gX7_planTwoWires_X7_hasBit rfl (by decide +kernel) ⟨⟨rfl, rfl⟩, Nat.le_of_ble_eq_true rfl, Nat.le_of_ble_eq_true rfl⟩ rfl hl.1 rfl (Nat.le_of_ble_eq_true rfl) ⟨Nat.le_of_ble_eq_true rfl, Nat.le_of_ble_eq_true rfl⟩ dX7_planTwoWires_58 (fun r58 S58 H locs hp58 hw => ?_)
        obtain ⟨rfl, hS9⟩ := hp58
        have hS9 := hS9.symm
        subst hS9
        refine zrd (x := (zlD p0 (i + 2))) (zlD_s hi27).symm ?_
        refine lv_aload_n hx hb dX7_planTwoWires_61 rfl (lv_at hl 2 rfl) ?_
        refine lv_iload hx hb dX7_planTwoWires_62 (lv_at hl 6 rfl) ?_
        refine lv_iload hx hb dX7_planTwoWires_64 (lv_at hl 0 rfl) ?_
        refine zcV_i (As := [.int p1, .int ((nI (2 * i + 1)) * p2)]) (rest := [.int (zlD p0 (i + 2)), .ref w2]) (n9 := 2) (b := x0) C hw (c_X7_tickBehind l D y base S2 x0 p1 ((nI (2 * i + 1)) * p2) hk_2 h181_2) gX7_planTwoWires_X7_tickBehind rfl (by decide +kernel) ⟨⟨rfl, rfl⟩, Nat.le_of_ble_eq_true rfl, Nat.le_of_ble_eq_true rfl⟩ hk_2 ⟨by decide, by decide⟩ rfl rfl hl.1 rfl (Nat.le_of_ble_eq_true rfl) ⟨Nat.le_of_ble_eq_true rfl, Nat.le_of_ble_eq_true rfl⟩ dX7_planTwoWires_66 (fun r66 S66 H locs hp66 hw => ?_)
        obtain ⟨rfl, hS9⟩ := hp66
        have hS9 := hS9.symm
        subst hS9
        refine zrd (x := (ztk p1 p2 (2 * i + 1))) rfl ?_
        refine zcV_v (As := [.int (zlD p0 (i + 2)), .int (ztk p1 p2 (2 * i + 1))]) (rest := []) (n9 := 2) (b := w2) C hw (c_X6_send_p l D y base S2 w2 t2 n2 S2 (zlD p0 (i + 2)) (ztk p1 p2 (2 * i + 1)) true (zpt 1 (zlD p0) (fun j => ztk p1 p2 (zmD j)) (i + 1)) (zlD p0 (i + 1)) 0 (znx p1 p2 (2 * i + 1)) (i + 1) hW2_2 (by rw [zlD_s hi27]; exact zbv_01 _ _) hB2.2.2 (by omega) (Int.le_of_eq (ztk_i (m := 2 * i + 1) hp hh (by omega)).symm) (ztk_lo (m := 2 * i + 1) hp hh (by omega))) gX7_planTwoWires_X6_send rfl (by decide +kernel) ⟨⟨rfl, rfl⟩, Nat.le_of_ble_eq_true rfl, Nat.le_of_ble_eq_true rfl⟩ hW2_2.1 ⟨by decide, by decide⟩ rfl rfl hl.1 rfl (Nat.le_of_ble_eq_true rfl) ⟨Nat.le_of_ble_eq_true rfl, Nat.le_of_ble_eq_true rfl⟩ dX7_planTwoWires_69 (fun S69 H locs hp69 hw => ?_)
        have hB69 : zTwp S S69 w1 n1 w2 n2 (zpt 1 zlC (fun j => ztk p1 p2 (zmC j)) (2 * i + 1)) 0 (znx p1 p2 (2 * i + 2)) (2 * i + 1) (zpt 1 (zlD p0) (fun j => ztk p1 p2 (zmD j)) (i + 2)) (zlD p0 (i + 2)) (znx p1 p2 (2 * i + 3)) (i + 2) := zTwp.two hB2 hd hp69 (zpD hi27) (ztk_nx (m := 2 * i + 1) hp hh (by omega) (by omega))
        have hW1_69 := zWire.fix hB69.1.1 hW1
        have hW2_69 := zWire.fix hB69.1.1 hW2
        have hk_69 := (congrFun hB69.1.1.1 x0).trans hk
        have h181_69 := (hB69.1.2.1 181 x0 (show ¬ ((181 : Nat) = 163 ∨ (181 : Nat) = 164) by decide)).trans h181
        refine lv_aload_n hx hb dX7_planTwoWires_72 rfl (lv_at hl 3 rfl) ?_
        refine lv_iconst (v := 1) hx hb dX7_planTwoWires_73 (by decide) ?_
        refine lv_aload_n hx hb dX7_planTwoWires_74 rfl (lv_at hl 2 rfl) ?_
        refine lv_iload hx hb dX7_planTwoWires_75 (lv_at hl 6 rfl) ?_
        refine lv_iload hx hb dX7_planTwoWires_77 (lv_at hl 0 rfl) ?_
        refine lv_iload hx hb dX7_planTwoWires_79 (lv_at hl 7 rfl) ?_
        refine lv_iadd hx hb dX7_planTwoWires_81 ?_
        refine zcV_i (As := [.int p1, .int (((nI (2 * i + 1)) * p2) + p2)]) (rest := [.int 1, .ref w1]) (n9 := 2) (b := x0) C hw (c_X7_tickBehind l D y base S69 x0 p1 (((nI (2 * i + 1)) * p2) + p2) hk_69 h181_69) gX7_planTwoWires_X7_tickBehind rfl (by decide +kernel) ⟨⟨rfl, rfl⟩, Nat.le_of_ble_eq_true rfl, Nat.le_of_ble_eq_true rfl⟩ hk_69 ⟨by decide, by decide⟩ rfl rfl hl.1 rfl (Nat.le_of_ble_eq_true rfl) ⟨Nat.le_of_ble_eq_true rfl, Nat.le_of_ble_eq_true rfl⟩ dX7_planTwoWires_82 (fun r82 S82 H locs hp82 hw => ?_)
        obtain ⟨rfl, hS9⟩ := hp82
        have hS9 := hS9.symm
        subst hS9
        refine zrd (x := (ztk p1 p2 (2 * i + 2))) (ztk_a1 p1 p2 (2 * i + 1)) ?_
        refine zcV_v (As := [.int 1, .int (ztk p1 p2 (2 * i + 2))]) (rest := []) (n9 := 2) (b := w1) C hw (c_X6_send_p l D y base S69 w1 t1 n1 S69 1 (ztk p1 p2 (2 * i + 2)) true (zpt 1 zlC (fun j => ztk p1 p2 (zmC j)) (2 * i + 1)) 0 0 (znx p1 p2 (2 * i + 2)) (2 * i + 1) hW1_69 (Or.inr rfl) hB69.2.1 (by omega) (Int.le_of_eq (ztk_i (m := 2 * i + 2) hp hh (by omega)).symm) (ztk_lo (m := 2 * i + 2) hp hh (by omega))) gX7_planTwoWires_X6_send rfl (by decide +kernel) ⟨⟨rfl, rfl⟩, Nat.le_of_ble_eq_true rfl, Nat.le_of_ble_eq_true rfl⟩ hW1_69.1 ⟨by decide, by decide⟩ rfl rfl hl.1 rfl (Nat.le_of_ble_eq_true rfl) ⟨Nat.le_of_ble_eq_true rfl, Nat.le_of_ble_eq_true rfl⟩ dX7_planTwoWires_85 (fun S85 H locs hp85 hw => ?_)
        have hB85 : zTwp S S85 w1 n1 w2 n2 (zpt 1 zlC (fun j => ztk p1 p2 (zmC j)) (2 * i + 2)) 1 (znx p1 p2 (2 * i + 3)) (2 * i + 2) (zpt 1 (zlD p0) (fun j => ztk p1 p2 (zmD j)) (i + 2)) (zlD p0 (i + 2)) (znx p1 p2 (2 * i + 3)) (i + 2) := zTwp.one hB69 hd hp85 (zpC1 p1 p2 i) (ztk_nx (m := 2 * i + 2) hp hh (by omega) (by omega))
        have hW1_85 := zWire.fix hB85.1.1 hW1
        have hW2_85 := zWire.fix hB85.1.1 hW2
        have hk_85 := (congrFun hB85.1.1.1 x0).trans hk
        have h181_85 := (hB85.1.2.1 181 x0 (show ¬ ((181 : Nat) = 163 ∨ (181 : Nat) = 164) by decide)).trans h181
        refine lv_aload_n hx hb dX7_planTwoWires_88 rfl (lv_at hl 3 rfl) ?_
        refine lv_iconst (v := 0) hx hb dX7_planTwoWires_89 (by decide) ?_
        refine lv_aload_n hx hb dX7_planTwoWires_90 rfl (lv_at hl 2 rfl) ?_
        refine lv_iload hx hb dX7_planTwoWires_91 (lv_at hl 6 rfl) ?_
        refine lv_iload hx hb dX7_planTwoWires_93 (lv_at hl 0 rfl) ?_
        refine lv_iconst (v := 2) hx hb dX7_planTwoWires_95 (by decide) ?_
        refine lv_iload hx hb dX7_planTwoWires_96 (lv_at hl 7 rfl) ?_
        refine lv_imul hx hb dX7_planTwoWires_98 ?_
        refine lv_iadd hx hb dX7_planTwoWires_99 ?_
        refine zcV_i (As := [.int p1, .int (((nI (2 * i + 1)) * p2) + (2 * p2))]) (rest := [.int 0, .ref w1]) (n9 := 2) (b := x0) C hw (c_X7_tickBehind l D y base S85 x0 p1 (((nI (2 * i + 1)) * p2) + (2 * p2)) hk_85 h181_85) gX7_planTwoWires_X7_tickBehind rfl (by decide +kernel) ⟨⟨rfl, rfl⟩, Nat.le_of_ble_eq_true rfl, Nat.le_of_ble_eq_true rfl⟩ hk_85 ⟨by decide, by decide⟩ rfl rfl hl.1 rfl (Nat.le_of_ble_eq_true rfl) ⟨Nat.le_of_ble_eq_true rfl, Nat.le_of_ble_eq_true rfl⟩ dX7_planTwoWires_100 (fun r100 S100 H locs hp100 hw => ?_)
        obtain ⟨rfl, hS9⟩ := hp100
        have hS9 := hS9.symm
        subst hS9
        refine zrd (x := (ztk p1 p2 (2 * i + 3))) (ztk_a2 p1 p2 (2 * i + 1)) ?_
        refine zcV_v (As := [.int 0, .int (ztk p1 p2 (2 * i + 3))]) (rest := []) (n9 := 2) (b := w1) C hw (c_X6_send_p l D y base S85 w1 t1 n1 S85 0 (ztk p1 p2 (2 * i + 3)) true (zpt 1 zlC (fun j => ztk p1 p2 (zmC j)) (2 * i + 2)) 1 0 (znx p1 p2 (2 * i + 3)) (2 * i + 2) hW1_85 (Or.inl rfl) hB85.2.1 (by omega) (Int.le_of_eq (ztk_i (m := 2 * i + 3) hp hh (by omega)).symm) (ztk_lo (m := 2 * i + 3) hp hh (by omega))) gX7_planTwoWires_X6_send rfl (by decide +kernel) ⟨⟨rfl, rfl⟩, Nat.le_of_ble_eq_true rfl, Nat.le_of_ble_eq_true rfl⟩ hW1_85.1 ⟨by decide, by decide⟩ rfl rfl hl.1 rfl (Nat.le_of_ble_eq_true rfl) ⟨Nat.le_of_ble_eq_true rfl, Nat.le_of_ble_eq_true rfl⟩ dX7_planTwoWires_103 (fun S103 H locs hp103 hw => ?_)
        have hB103 : zTwp S S103 w1 n1 w2 n2 (zpt 1 zlC (fun j => ztk p1 p2 (zmC j)) (2 * i + 3)) 0 (znx p1 p2 (2 * i + 4)) (2 * i + 3) (zpt 1 (zlD p0) (fun j => ztk p1 p2 (zmD j)) (i + 2)) (zlD p0 (i + 2)) (znx p1 p2 (2 * i + 3)) (i + 2) := zTwp.one hB85 hd hp103 (zpC2 p1 p2 i) (ztk_nx (m := 2 * i + 3) hp hh (by omega) (by omega))
        have hW1_103 := zWire.fix hB103.1.1 hW1
        have hW2_103 := zWire.fix hB103.1.1 hW2
        have hk_103 := (congrFun hB103.1.1.1 x0).trans hk
        have h181_103 := (hB103.1.2.1 181 x0 (show ¬ ((181 : Nat) = 163 ∨ (181 : Nat) = 164) by decide)).trans h181
        refine lv_iinc (v := (nI (i + 1))) (lv' := [(6, .int (nI (i + 1))), (7, .int ((nI (2 * i + 1)) * p2)), (0, .ref x0), (1, .ref w1), (2, .ref w2), (3, .int p0), (4, .int p1), (5, .int p2)]) hx hb dX7_planTwoWires_106 hl (k := 1) rfl (nI_1 _) (by decide) rfl (fun ls hl => ?_)
        refine lv_goto (tgt := 33) hx hb dX7_planTwoWires_109 (by decide) ?_
        exact ih_1 (i + 1) S103 _ _ _ (by omega) (by omega) (by rw [show 2 * (i + 1) = 2 * i + 2 by omega]; exact hB103) hw (lv_sub hl [0, 2, 3, 4, 5, 6, 7] rfl)
  exact lp_2 _ 0 S27 _ _ _ (Nat.lt_succ_self _) (Nat.zero_le _) hB27 hw (lv_sub hl [0, 1, 2, 3, 4, 5, 6] rfl)

