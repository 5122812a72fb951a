set_option maxHeartbeats 4000000 in
set_option maxRecDepth 100000 in
/-- X7_serial -/
theorem c_X7_serial_g (l : Launch) (hst : l.stackTraces = false) (D : va_G) (y : Nat → ClassId) (base : Nat) (S : zS) (a : Nat → Nat) (w : Nat) (v : Nat) (ta : Nat) (bt : Nat) (pr : Int32) (F : Nat → Int → Bool) (N : Nat → Nat) (A1 : Int32) (A2 : Int32) (rg : Nat → Int32) (ns : Nat) (L : List zNt) (hX : zX S a) (hDs : zDs a) (hw4 : w < 4) (hv : v < 256) (hta : ta + 12 * bt ≤ 9999) (hhb : 2 ≤ bt ∧ bt ≤ 50) (hpr : pr = 110 ∨ pr = 101 ∨ pr = 111) (hOb : zOb S a F N A1 A2 rg ns L) (hN : N w + 11 ≤ 300) : zXi l yX7_serial wsX7_serial ({ frames := 7, cells := 6, slots := 36, locals := 112 }) [.ref (a 0), .int (nI w), .int (nI v), .int (nI ta), .int (nI bt), .int pr] D y base S (fun (r : Int32) (S1 : zS) => r = nI (ta + zsbN pr * bt) ∧ ∃ n9, n9 ≤ N w + zsbN pr ∧ zOb S1 a (zup F w (fun t => xor (F w t) (xor true ((zpt 1 (zlS (nI v) pr) (ztk (nI ta) (nI bt)) (zsbN pr)) t)))) (zup N w n9) A1 A2 rg ns L) (fun (E : String) (S1 : zS) => False ∧ S1 = S) 6 36 := by
  refine zXet_of (cc := cX7_serial) (maxL := 10) (ret := (some .int)) (own := RX7) (by decide +kernel) rfl rfl (Nat.le_of_ble_eq_true rfl) ?_
  intro p e s m args below meth c ls C hr hlocks hx0 hw hl
  have hx := C.1
  have hb := C.2.1
  have hown := C.2.2.2.1
  have hts := C.2.2.2.2
  have hl : lv_has ls 10 [(0, .ref (a 0)), (1, .int (nI w)), (2, .int (nI v)), (3, .int (nI ta)), (4, .int (nI bt)), (5, .int pr)] := hl
  have in_X7 : ∀ w ∈ wsX70, w ∈ wsX7_serial := by decide +kernel
  refine lv_iload_n hx hb dX7_serial_0 rfl (lv_at hl 1 rfl) ?_
  refine zcS_xv (As := [.int (nI w)]) (rest := []) (n9 := 1) C hw (c_X7_checkWire l hst D y base S (nI w) ) gX7_serial_X7_checkWire rfl (by decide +kernel) ⟨⟨rfl, rfl⟩, Nat.le_of_ble_eq_true rfl, Nat.le_of_ble_eq_true rfl⟩ rfl hl.1 rfl (Nat.le_of_ble_eq_true rfl) ⟨Nat.le_of_ble_eq_true rfl, Nat.le_of_ble_eq_true rfl⟩ dX7_serial_1 (fun E ce q9 S1 H locs hx1 hw h1 h2 h3 => zxout hw hx0 hlocks h1 h2 h3 (by obtain ⟨rfl, hc9, rfl⟩ := hx1; exact absurd (zw4 w hw4) hc9) ⟨Nat.le_of_ble_eq_true rfl, Nat.le_of_ble_eq_true rfl⟩) (fun S1 H locs hp1 hw => ?_)
  obtain ⟨hp1, hS9⟩ := hp1
  have hS9 := hS9.symm
  subst hS9
  refine lv_iload_n hx hb dX7_serial_4 rfl (lv_at hl 2 rfl) ?_
  refine lv_iconst (v := 0) hx hb dX7_serial_5 (by decide) ?_
  refine lv_sipush (v := 255) hx hb dX7_serial_6 (by decide) ?_
  refine zcS_xv (As := [.int (nI v), .int 0, .int 255]) (rest := []) (n9 := 3) C hw (c_X7_checkRange l hst D y base S (nI v) 0 255 ) gX7_serial_X7_checkRange rfl (by decide +kernel) ⟨⟨rfl, rfl⟩, Nat.le_of_ble_eq_true rfl, Nat.le_of_ble_eq_true rfl⟩ rfl hl.1 rfl (Nat.le_of_ble_eq_true rfl) ⟨Nat.le_of_ble_eq_true rfl, Nat.le_of_ble_eq_true rfl⟩ dX7_serial_9 (fun E ce q9 S9 H locs hx9 hw h1 h2 h3 => zxout hw hx0 hlocks h1 h2 h3 (by obtain ⟨rfl, hc9, rfl⟩ := hx9; exact absurd (zrg (m := 255) (by omega) (by decide) rfl) hc9) ⟨Nat.le_of_ble_eq_true rfl, Nat.le_of_ble_eq_true rfl⟩) (fun S9 H locs hp9 hw => ?_)
  obtain ⟨hp9, hS9⟩ := hp9
  have hS9 := hS9.symm
  subst hS9
  refine lv_iload_n hx hb dX7_serial_12 rfl (lv_at hl 3 rfl) ?_
  refine lv_iconst (v := 0) hx hb dX7_serial_13 (by decide) ?_
  refine lv_sipush (v := 9999) hx hb dX7_serial_14 (by decide) ?_
  refine zcS_xv (As := [.int (nI ta), .int 0, .int 9999]) (rest := []) (n9 := 3) C hw (c_X7_checkRange l hst D y base S (nI ta) 0 9999 ) gX7_serial_X7_checkRange rfl (by decide +kernel) ⟨⟨rfl, rfl⟩, Nat.le_of_ble_eq_true rfl, Nat.le_of_ble_eq_true rfl⟩ rfl hl.1 rfl (Nat.le_of_ble_eq_true rfl) ⟨Nat.le_of_ble_eq_true rfl, Nat.le_of_ble_eq_true rfl⟩ dX7_serial_17 (fun E ce q9 S17 H locs hx17 hw h1 h2 h3 => zxout hw hx0 hlocks h1 h2 h3 (by obtain ⟨rfl, hc9, rfl⟩ := hx17; exact absurd (zrg (m := 9999) (by omega) (by decide) rfl) hc9) ⟨Nat.le_of_ble_eq_true rfl, Nat.le_of_ble_eq_true rfl⟩) (fun S17 H locs hp17 hw => ?_)
  obtain ⟨hp17, hS9⟩ := hp17
  have hS9 := hS9.symm
  subst hS9
  refine lv_iload hx hb dX7_serial_20 (lv_at hl 4 rfl) ?_
  refine lv_iconst (v := 2) hx hb dX7_serial_22 (by decide) ?_
  refine lv_bipush (v := 50) hx hb dX7_serial_23 (by decide) ?_
  refine zcS_xv (As := [.int (nI bt), .int 2, .int 50]) (rest := []) (n9 := 3) C hw (c_X7_checkRange l hst D y base S (nI bt) 2 50 ) gX7_serial_X7_checkRange rfl (by decide +kernel) ⟨⟨rfl, rfl⟩, Nat.le_of_ble_eq_true rfl, Nat.le_of_ble_eq_true rfl⟩ rfl hl.1 rfl (Nat.le_of_ble_eq_true rfl) ⟨Nat.le_of_ble_eq_true rfl, Nat.le_of_ble_eq_true rfl⟩ dX7_serial_25 (fun E ce q9 S25 H locs hx25 hw h1 h2 h3 => zxout hw hx0 hlocks h1 h2 h3 (by obtain ⟨rfl, hc9, rfl⟩ := hx25; exact absurd ⟨nI_le (a := 2) hhb.1 (by omega), nI_le (b := 50) hhb.2 (by decide)⟩ hc9) ⟨Nat.le_of_ble_eq_true rfl, Nat.le_of_ble_eq_true rfl⟩) (fun S25 H locs hp25 hw => ?_)
  obtain ⟨hp25, hS9⟩ := hp25
  have hS9 := hS9.symm
  subst hS9
  refine lv_iload hx hb dX7_serial_28 (lv_at hl 5 rfl) ?_
  refine zcS_xv (As := [.int pr]) (rest := []) (n9 := 1) C hw (c_X7_checkParity l hst D y base S pr ) gX7_serial_X7_checkParity rfl (by decide +kernel) ⟨⟨rfl, rfl⟩, Nat.le_of_ble_eq_true rfl, Nat.le_of_ble_eq_true rfl⟩ rfl hl.1 rfl (Nat.le_of_ble_eq_true rfl) ⟨Nat.le_of_ble_eq_true rfl, Nat.le_of_ble_eq_true rfl⟩ dX7_serial_30 (fun E ce q9 S30 H locs hx30 hw h1 h2 h3 => zxout hw hx0 hlocks h1 h2 h3 (by obtain ⟨rfl, hc9, rfl⟩ := hx30; exact absurd hpr hc9) ⟨Nat.le_of_ble_eq_true rfl, Nat.le_of_ble_eq_true rfl⟩) (fun S30 H locs hp30 hw => ?_)
  obtain ⟨hp30, hS9⟩ := hp30
  have hS9 := hS9.symm
  subst hS9
  have hwiw := zX.wi hX hw4
  refine lv_aload_n hx hb dX7_serial_33 rfl (lv_at hl 0 rfl) ?_
  refine g_Ph_wires (a := (a 0)) (v := (a 1)) C hw hX.1 in_X7 (by decide +kernel) hX.2.1 dX7_serial_34 ?_
  refine lv_iload_n hx hb dX7_serial_37 rfl (lv_at hl 1 rfl) ?_
  refine zald_P (a := (a 1)) (v := (a (10 + w))) C hw hX.2.2.2.2.2.2.1 (by decide) (t0 := 3) rfl rfl hX.2.2.2.2.2.2.2.1 (zin_of (N := 4) (by decide) (by grind) (by grind)) hwiw.1 dX7_serial_38 ?_
  refine lv_astore (lv' := [(6, .ref (a (10 + w))), (0, .ref (a 0)), (1, .int (nI w)), (2, .int (nI v)), (3, .int (nI ta)), (4, .int (nI bt)), (5, .int pr)]) hx hb dX7_serial_39 hl (by decide) rfl (fun ls hl => ?_)
  refine lv_iload hx hb dX7_serial_41 (lv_at hl 6 rfl) ?_
  refine zcS_i (As := [.int pr]) (rest := []) (n9 := 1) C hw (c_X7_serialBits l D y base S pr ) gX7_serial_X7_serialBits rfl (by decide +kernel) ⟨⟨rfl, rfl⟩, Nat.le_of_ble_eq_true rfl, Nat.le_of_ble_eq_true rfl⟩ rfl hl.1 rfl (Nat.le_of_ble_eq_true rfl) ⟨Nat.le_of_ble_eq_true rfl, Nat.le_of_ble_eq_true rfl⟩ dX7_serial_43 (fun r43 S43 H locs hp43 hw => ?_)
  obtain ⟨rfl, hS9⟩ := hp43
  have hS9 := hS9.symm
  subst hS9
  refine lv_istore (lv' := [(7, .int (nI (zsbN pr))), (6, .ref (a (10 + w))), (0, .ref (a 0)), (1, .int (nI w)), (2, .int (nI v)), (3, .int (nI ta)), (4, .int (nI bt)), (5, .int pr)]) hx hb dX7_serial_46 hl (by decide) rfl (fun ls hl => ?_)
  refine lv_iload_n hx hb dX7_serial_48 rfl (lv_at hl 4 rfl) ?_
  refine lv_iload hx hb dX7_serial_49 (lv_at hl 7 rfl) ?_
  refine zcS_i (As := [.int (nI v), .int pr]) (rest := []) (n9 := 2) C hw (c_X7_serialWord l D y base S (nI v) pr ) gX7_serial_X7_serialWord rfl (by decide +kernel) ⟨⟨rfl, rfl⟩, Nat.le_of_ble_eq_true rfl, Nat.le_of_ble_eq_true rfl⟩ rfl hl.1 rfl (Nat.le_of_ble_eq_true rfl) ⟨Nat.le_of_ble_eq_true rfl, Nat.le_of_ble_eq_true rfl⟩ dX7_serial_51 (fun r51 S51 H locs hp51 hw => ?_)
  obtain ⟨rfl, hS9⟩ := hp51
  have hS9 := hS9.symm
  subst hS9
  refine lv_istore (lv' := [(8, .int (zsw (nI v) pr)), (7, .int (nI (zsbN pr))), (6, .ref (a (10 + w))), (0, .ref (a 0)), (1, .int (nI w)), (2, .int (nI v)), (3, .int (nI ta)), (4, .int (nI bt)), (5, .int pr)]) hx hb dX7_serial_54 hl (by decide) rfl (fun ls hl => ?_)
  have hp : (0 : Int32) ≤ nI ta ∧ nI ta ≤ 9999 := zrg (m := 9999) (by omega) (by decide) rfl
  have hh : (1 : Int32) ≤ nI bt ∧ nI bt ≤ 50 := zrg1 (m := 50) (by omega) hhb.2 (by decide) rfl
  have hb11 : zsbN pr ≤ 11 := zsbN_le pr
  refine lv_aload hx hb dX7_serial_56 (lv_at hl 2 rfl) ?_
  refine lv_iconst (v := 1) hx hb dX7_serial_58 (by decide) ?_
  refine zcV_v (As := [.int 1]) (rest := []) (n9 := 1) (b := (a (10 + w))) C hw (c_X6_beginSending l D y base S (a (10 + w)) (a (20 + w)) (a (30 + w)) 1 hwiw.2 (Or.inr rfl)) gX7_serial_X6_beginSending rfl (by decide +kernel) ⟨⟨rfl, rfl⟩, Nat.le_of_ble_eq_true rfl, Nat.le_of_ble_eq_true rfl⟩ hwiw.2.1 ⟨by decide, by decide⟩ rfl rfl hl.1 rfl (Nat.le_of_ble_eq_true rfl) ⟨Nat.le_of_ble_eq_true rfl, Nat.le_of_ble_eq_true rfl⟩ dX7_serial_59 (fun S59 H locs hp59 hw => ?_)
  obtain rfl := hp59
  refine lv_iconst (v := 0) hx hb dX7_serial_62 (by decide) ?_
  refine lv_istore (lv' := [(9, .int 0), (8, .int (zsw (nI v) pr)), (7, .int (nI (zsbN pr))), (6, .ref (a (10 + w))), (0, .ref (a 0)), (1, .int (nI w)), (2, .int (nI v)), (3, .int (nI ta)), (4, .int (nI bt)), (5, .int pr)]) hx hb dX7_serial_63 hl (by decide) rfl (fun ls hl => ?_)
  have lp_2 : ∀ (n9 : Nat) (i : Nat) (S2 : zS) (H : Heap) (locs : List Loc) (ls : Array Slot), 12 - i < n9 → (i ≤ zsbN pr) → (zSp S S2 (a (10 + w)) (a (30 + w)) true (zpt 1 (zlS (nI v) pr) (ztk (nI ta) (nI bt)) i) ((zlS (nI v) pr) i) 0 (znx (nI ta) (nI bt) i) i) → zW D y base S2 s H locs → lv_has ls 10 [(9, .int (nI i)), (0, .ref (a 0)), (1, .int (nI w)), (2, .int (nI v)), (3, .int (nI ta)), (4, .int (nI bt)), (5, .int pr), (6, .ref (a (10 + w))), (7, .int (nI (zsbN pr))), (8, .int (zsw (nI v) pr))] → W p l e (headSpec wsX7_serial ({ frames := 7, cells := 6, slots := 36, locals := 112 })).room s m args below meth c H locs 5 30 (vx_MQ below (va_Qi (fun (r : Int32) (S1 : zS) => r = nI (ta + zsbN pr * bt) ∧ ∃ n9, n9 ≤ N w + zsbN pr ∧ zOb S1 a (zup F w (fun t => xor (F w t) (xor true ((zpt 1 (zlS (nI v) pr) (ztk (nI ta) (nI bt)) (zsbN pr)) t)))) (zup N w n9) A1 A2 rg ns L) (zPost D y base) (zA base)) (zXC (fun (E : String) (S1 : zS) => False ∧ S1 = S) D y base) args s 6 36 (zA base)) (F0 m 65 ls []) := by
    intro n9
    induction n9 with
    | zero =>
      intro i S2 H locs ls hn9
      exact absurd hn9 (Nat.not_lt_zero _)
    | succ n9 ih_1 =>
      intro i S2 H locs ls hn9 hi hs hw hl
      have hOb2 := hOb.snd hDs (zSp.fr hw4 hs)
      have hW2 := (zX.wi hOb2.1 hw4).2
      have hs2 := zSp.self hs
      refine lv_iload hx hb dX7_serial_65 (lv_at hl 0 rfl) ?_
      refine lv_iload hx hb dX7_serial_67 (lv_at hl 8 rfl) ?_
      refine lv_icmp_ge (tgt := 100) hx hb dX7_serial_69 (by decide) (fun c69 => ?_) (fun c69 => ?_)
      · have hie : i = zsbN pr := by have := z_ge (n := zsbN pr) c69 (by omega) (by omega); omega
        rw [hie] at hs
        have hbm : zsbN pr * bt ≤ 11 * bt := Nat.mul_le_mul_right _ hb11
        refine lv_aload hx hb dX7_serial_100 (lv_at hl 7 rfl) ?_
        refine zcV_i (As := []) (rest := []) (n9 := 0) (b := (a (10 + w))) C hw (c_X6_takesSent_p l D y base S2 (a (10 + w)) (a (20 + w)) (a (30 + w)) S true (zpt 1 (zlS (nI v) pr) (ztk (nI ta) (nI bt)) (zsbN pr)) ((zlS (nI v) pr) (zsbN pr)) 0 (znx (nI ta) (nI bt) (zsbN pr)) (zsbN pr) (N w) hW2 hs (by omega) (by rw [znx_nI (by omega) (by omega)]; omega) (hOb2.2.2.1 w hw4).2.1.1 (by omega)) gX7_serial_X6_takesSent rfl (by decide +kernel) ⟨⟨rfl, rfl⟩, Nat.le_of_ble_eq_true rfl, Nat.le_of_ble_eq_true rfl⟩ hW2.1 ⟨by decide, by decide⟩ rfl rfl hl.1 rfl (Nat.le_of_ble_eq_true rfl) ⟨Nat.le_of_ble_eq_true rfl, Nat.le_of_ble_eq_true rfl⟩ dX7_serial_102 (fun r102 S102 H locs hp102 hw => ?_)
        obtain ⟨rfl, hS9⟩ := hp102
        have hS9 := hS9.symm
        subst hS9
        refine zcS_xv (As := [.int 1]) (rest := []) (n9 := 1) C hw (c_X7_checkFlips l hst D y base S2 1 ) gX7_serial_X7_checkFlips rfl (by decide +kernel) ⟨⟨rfl, rfl⟩, Nat.le_of_ble_eq_true rfl, Nat.le_of_ble_eq_true rfl⟩ rfl hl.1 rfl (Nat.le_of_ble_eq_true rfl) ⟨Nat.le_of_ble_eq_true rfl, Nat.le_of_ble_eq_true rfl⟩ dX7_serial_105 (fun E ce q9 S105 H locs hx105 hw h1 h2 h3 => zxout hw hx0 hlocks h1 h2 h3 (by obtain ⟨rfl, hc9, rfl⟩ := hx105; exact absurd (by decide) hc9) ⟨Nat.le_of_ble_eq_true rfl, Nat.le_of_ble_eq_true rfl⟩) (fun S105 H locs hp105 hw => ?_)
        obtain ⟨hp105, hS9⟩ := hp105
        have hS9 := hS9.symm
        subst hS9
        obtain ⟨k9, hk9n, hk9, -, hrg9⟩ := hs.2.2.2.2
        refine lv_aload hx hb dX7_serial_108 (lv_at hl 7 rfl) ?_
        refine zcV_v (As := []) (rest := []) (n9 := 0) (b := (a (10 + w))) C hw (c_X6_flipSent_g l D y base S2 (a (10 + w)) (a (20 + w)) (a (30 + w)) k9 (N w) hW2 hk9 (by omega) (hOb2.2.2.1 w hw4).2.1 (by omega) (fun j hj => by have h9 := hrg9 j hj; rw [znx_nI (by omega) (by omega)] at h9; omega)) gX7_serial_X6_flipSent rfl (by decide +kernel) ⟨⟨rfl, rfl⟩, Nat.le_of_ble_eq_true rfl, Nat.le_of_ble_eq_true rfl⟩ hW2.1 ⟨by decide, by decide⟩ rfl rfl hl.1 rfl (Nat.le_of_ble_eq_true rfl) ⟨Nat.le_of_ble_eq_true rfl, Nat.le_of_ble_eq_true rfl⟩ dX7_serial_110 (fun S110 H locs hp110 hw => ?_)
        obtain ⟨n9, g1, g2, g3⟩ := hs.flip hk9 (by omega) (by omega) ((hOb2.2.2.1 w hw4).2.2.2) hp110
        have hOb3 := hOb2.flp hDs hw4 hp110.1 g2 (by omega) g3
        refine lv_aload_n hx hb dX7_serial_113 rfl (lv_at hl 1 rfl) ?_
        refine lv_iload_n hx hb dX7_serial_114 rfl (lv_at hl 4 rfl) ?_
        refine lv_iload hx hb dX7_serial_115 (lv_at hl 8 rfl) ?_
        refine lv_iload hx hb dX7_serial_117 (lv_at hl 5 rfl) ?_
        refine lv_imul hx hb dX7_serial_119 ?_
        refine zcV_i (As := [.int (nI ta), .int ((nI (zsbN pr)) * (nI bt))]) (rest := []) (n9 := 2) (b := (a 0)) C hw (c_X7_tickBehind l D y base S110 (a 0) (nI ta) ((nI (zsbN pr)) * (nI bt)) hOb3.1.1 hOb3.2.2.2.1) gX7_serial_X7_tickBehind rfl (by decide +kernel) ⟨⟨rfl, rfl⟩, Nat.le_of_ble_eq_true rfl, Nat.le_of_ble_eq_true rfl⟩ hOb3.1.1 ⟨by decide, by decide⟩ rfl rfl hl.1 rfl (Nat.le_of_ble_eq_true rfl) ⟨Nat.le_of_ble_eq_true rfl, Nat.le_of_ble_eq_true rfl⟩ dX7_serial_120 (fun r120 S120 H locs hp120 hw => ?_)
        obtain ⟨rfl, hS9⟩ := hp120
        have hS9 := hS9.symm
        subst hS9
        refine zrd (x := (nI (ta + zsbN pr * bt))) (by rw [pk_mul, nI_add]) ?_
        exact vx_ret (zri C hw hr hlocks rfl ⟨rfl, n9, g1, hOb3⟩ ⟨Nat.le_of_ble_eq_true rfl, Nat.le_of_ble_eq_true rfl⟩ dX7_serial_123)
      · refine lv_aload hx hb dX7_serial_72 (lv_at hl 7 rfl) ?_
        refine lv_iload hx hb dX7_serial_74 (lv_at hl 9 rfl) ?_
        refine lv_iload hx hb dX7_serial_76 (lv_at hl 0 rfl) ?_
        refine zcS_i (As := [.int (zsw (nI v) pr), .int (nI i)]) (rest := [.ref (a (10 + w))]) (n9 := 2) C hw (c_X7_hasBit l D y base S2 (zsw (nI v) pr) (nI i) ) gX7_serial_X7_hasBit rfl (by decide +kernel) ⟨⟨rfl, rfl⟩, Nat.le_of_ble_eq_true rfl, Nat.le_of_ble_eq_true rfl⟩ rfl hl.1 rfl (Nat.le_of_ble_eq_true rfl) ⟨Nat.le_of_ble_eq_true rfl, Nat.le_of_ble_eq_true rfl⟩ dX7_serial_78 (fun r78 S78 H locs hp78 hw => ?_)
        obtain ⟨rfl, hS9⟩ := hp78
        have hS9 := hS9.symm
        subst hS9
        refine lv_aload_n hx hb dX7_serial_81 rfl (lv_at hl 1 rfl) ?_
        refine lv_iload_n hx hb dX7_serial_82 rfl (lv_at hl 4 rfl) ?_
        refine lv_iload hx hb dX7_serial_83 (lv_at hl 0 rfl) ?_
        refine lv_iload hx hb dX7_serial_85 (lv_at hl 5 rfl) ?_
        refine lv_imul hx hb dX7_serial_87 ?_
        refine zcV_i (As := [.int (nI ta), .int ((nI i) * (nI bt))]) (rest := [.int (zbv (zsw (nI v) pr) (nI i)), .ref (a (10 + w))]) (n9 := 2) (b := (a 0)) C hw (c_X7_tickBehind l D y base S2 (a 0) (nI ta) ((nI i) * (nI bt)) hOb2.1.1 hOb2.2.2.2.1) gX7_serial_X7_tickBehind rfl (by decide +kernel) ⟨⟨rfl, rfl⟩, Nat.le_of_ble_eq_true rfl, Nat.le_of_ble_eq_true rfl⟩ hOb2.1.1 ⟨by decide, by decide⟩ rfl rfl hl.1 rfl (Nat.le_of_ble_eq_true rfl) ⟨Nat.le_of_ble_eq_true rfl, Nat.le_of_ble_eq_true rfl⟩ dX7_serial_88 (fun r88 S88 H locs hp88 hw => ?_)
        obtain ⟨rfl, hS9⟩ := hp88
        have hS9 := hS9.symm
        subst hS9
        refine zcV_v (As := [.int (zbv (zsw (nI v) pr) (nI i)), .int ((nI ta) + ((nI i) * (nI bt)))]) (rest := []) (n9 := 2) (b := (a (10 + w))) C hw (c_X6_send_p l D y base S2 (a (10 + w)) (a (20 + w)) (a (30 + w)) S (zbv (zsw (nI v) pr) (nI i)) ((nI ta) + ((nI i) * (nI bt))) true (zpt 1 (zlS (nI v) pr) (ztk (nI ta) (nI bt)) i) ((zlS (nI v) pr) i) 0 (znx (nI ta) (nI bt) i) i hW2 (zbv_01 _ _) hs (by have := z_lt (n := zsbN pr) c69 (by omega) (by omega); omega) (Int.le_of_eq (ztk_i hp hh (by omega)).symm) (ztk_lo hp hh (by omega))) gX7_serial_X6_send rfl (by decide +kernel) ⟨⟨rfl, rfl⟩, Nat.le_of_ble_eq_true rfl, Nat.le_of_ble_eq_true rfl⟩ hW2.1 ⟨by decide, by decide⟩ rfl rfl hl.1 rfl (Nat.le_of_ble_eq_true rfl) ⟨Nat.le_of_ble_eq_true rfl, Nat.le_of_ble_eq_true rfl⟩ dX7_serial_91 (fun S91 H locs hp91 hw => ?_)
        refine lv_iinc (v := (nI (i + 1))) (lv' := [(9, .int (nI (i + 1))), (0, .ref (a 0)), (1, .int (nI w)), (2, .int (nI v)), (3, .int (nI ta)), (4, .int (nI bt)), (5, .int pr), (6, .ref (a (10 + w))), (7, .int (nI (zsbN pr))), (8, .int (zsw (nI v) pr))]) hx hb dX7_serial_94 hl (k := 0) rfl (nI_1 _) (by decide) rfl (fun ls hl => ?_)
        refine lv_goto (tgt := 65) hx hb dX7_serial_97 (by decide) ?_
        exact ih_1 (i + 1) S91 _ _ _ (by have := z_lt (n := zsbN pr) c69 (by omega) (by omega); omega) (by have := z_lt (n := zsbN pr) c69 (by omega) (by omega); omega) (hp91.1.weak (zpt_s rfl rfl) (Nat.le_refl _) (ztk_nx hp hh (by omega) (Nat.lt_succ_self i))) hw (lv_sub hl [0, 1, 2, 3, 4, 5, 6, 7, 8, 9] rfl)
  exact lp_2 _ 0 (zsI (zsI S 163 (a (10 + w)) 1) 164 (a (10 + w)) 0) _ _ _ (Nat.lt_succ_self _) (Nat.zero_le _) (zSp.begin (Or.inr rfl) 0 _) hw (lv_sub hl [0, 4, 5, 6, 7, 8, 9, 3, 2, 1] rfl)

