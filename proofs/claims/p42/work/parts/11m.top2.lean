set_option maxHeartbeats 4000000 in
set_option maxRecDepth 100000 in
/-- X7_decodeFour -/
theorem c_X7_decodeFour_g (l : Launch) (hst : l.stackTraces = false) (D : va_G) (y : Nat → ClassId) (base : Nat) (S : zS) (a : Nat → Nat) (q : Nat) (w : Nat) (v : Nat) (z : Nat) (md : Nat) (mm : Nat) (M : Nat → Nat → Bool) (hX : zX S a) (hNts : zNts S (a 4) (a 60) (a 61) (a 62) (a 63) (a 64)) (hDs : zDs a) (hq2 : q < 2) (hw4 : w < 4) (hv4 : v < 4) (hz4 : z < 4) (hmd : md < 4) (hne : w ≠ v ∧ w ≠ z ∧ v ≠ z) (hM : zCp S (a (40 + q)) (a (50 + q)) mm M) (hmm : 1 ≤ mm ∧ mm ≤ 200) : zXi l yX7_decodeFour wsX7_decodeFour ({ frames := 8, cells := 9, slots := 52, locals := 133 }) [.ref (a 0), .int (nI q), .int (nI w), .int (nI v), .int (nI z), .int (nI md)] D y base S (fun (r : Int32) (S1 : zS) => r = nI (zFR (M z) (M w) (M v) (decide (md = 0 ∨ md = 3)) (mm - 1)).2.2.length ∧ zNo S1 (a 4) (a 60) (a 61) (a 62) (a 63) (a 64) (zFR (M z) (M w) (M v) (decide (md = 0 ∨ md = 3)) (mm - 1)).2.2 ∧ zDc S S1 a) (fun (E : String) (S1 : zS) => False ∧ S1 = S) 9 52 := by
  refine zXet_of (cc := cX7_decodeFour) (maxL := 10) (ret := (some .int)) (own := RX7) (by decide +kernel) rfl rfl (Nat.le_of_ble_eq_true rfl) ?_
  intro p e s m args below meth c ls C hr hlocks hx0 hw hl
  have hx := C.1
  have hb := C.2.1
  have hown := C.2.2.2.1
  have hts := C.2.2.2.2
  have hl : lv_has ls 10 [(0, .ref (a 0)), (1, .int (nI q)), (2, .int (nI w)), (3, .int (nI v)), (4, .int (nI z)), (5, .int (nI md))] := hl
  have in_X0 : ∀ w ∈ wsX00, w ∈ wsX7_decodeFour := by decide +kernel
  have in_X2 : ∀ w ∈ wsX20, w ∈ wsX7_decodeFour := by decide +kernel
  have in_X3 : ∀ w ∈ wsX30, w ∈ wsX7_decodeFour := by decide +kernel
  have in_X7 : ∀ w ∈ wsX70, w ∈ wsX7_decodeFour := by decide +kernel
  refine lv_iload_n hx hb dX7_decodeFour_0 rfl (lv_at hl 1 rfl) ?_
  refine zcS_xv (As := [.int (nI q)]) (rest := []) (n9 := 1) C hw (c_X7_checkCapture l hst D y base S (nI q) ) gX7_decodeFour_X7_checkCapture rfl (by decide +kernel) ⟨⟨rfl, rfl⟩, Nat.le_of_ble_eq_true rfl, Nat.le_of_ble_eq_true rfl⟩ rfl hl.1 rfl (Nat.le_of_ble_eq_true rfl) ⟨Nat.le_of_ble_eq_true rfl, Nat.le_of_ble_eq_true rfl⟩ dX7_decodeFour_1 (fun E ce q9 S1 H locs hx1 hw h1 h2 h3 => zxout hw hx0 hlocks h1 h2 h3 (by obtain ⟨rfl, hc9, rfl⟩ := hx1; exact absurd (zc2 q hq2) hc9) ⟨Nat.le_of_ble_eq_true rfl, Nat.le_of_ble_eq_true rfl⟩) (fun S1 H locs hp1 hw => ?_)
  obtain ⟨hp1, hS9⟩ := hp1
  have hS9 := hS9.symm
  subst hS9
  refine lv_iload_n hx hb dX7_decodeFour_4 rfl (lv_at hl 2 rfl) ?_
  refine zcS_xv (As := [.int (nI w)]) (rest := []) (n9 := 1) C hw (c_X7_checkWire l hst D y base S (nI w) ) gX7_decodeFour_X7_checkWire rfl (by decide +kernel) ⟨⟨rfl, rfl⟩, Nat.le_of_ble_eq_true rfl, Nat.le_of_ble_eq_true rfl⟩ rfl hl.1 rfl (Nat.le_of_ble_eq_true rfl) ⟨Nat.le_of_ble_eq_true rfl, Nat.le_of_ble_eq_true rfl⟩ dX7_decodeFour_5 (fun E ce q9 S5 H locs hx5 hw h1 h2 h3 => zxout hw hx0 hlocks h1 h2 h3 (by obtain ⟨rfl, hc9, rfl⟩ := hx5; exact absurd (zw4 w hw4) hc9) ⟨Nat.le_of_ble_eq_true rfl, Nat.le_of_ble_eq_true rfl⟩) (fun S5 H locs hp5 hw => ?_)
  obtain ⟨hp5, hS9⟩ := hp5
  have hS9 := hS9.symm
  subst hS9
  refine lv_iload_n hx hb dX7_decodeFour_8 rfl (lv_at hl 3 rfl) ?_
  refine zcS_xv (As := [.int (nI v)]) (rest := []) (n9 := 1) C hw (c_X7_checkWire l hst D y base S (nI v) ) gX7_decodeFour_X7_checkWire rfl (by decide +kernel) ⟨⟨rfl, rfl⟩, Nat.le_of_ble_eq_true rfl, Nat.le_of_ble_eq_true rfl⟩ rfl hl.1 rfl (Nat.le_of_ble_eq_true rfl) ⟨Nat.le_of_ble_eq_true rfl, Nat.le_of_ble_eq_true rfl⟩ dX7_decodeFour_9 (fun E ce q9 S9 H locs hx9 hw h1 h2 h3 => zxout hw hx0 hlocks h1 h2 h3 (by obtain ⟨rfl, hc9, rfl⟩ := hx9; exact absurd (zw4 v hv4) hc9) ⟨Nat.le_of_ble_eq_true rfl, Nat.le_of_ble_eq_true rfl⟩) (fun S9 H locs hp9 hw => ?_)
  obtain ⟨hp9, hS9⟩ := hp9
  have hS9 := hS9.symm
  subst hS9
  refine lv_iload hx hb dX7_decodeFour_12 (lv_at hl 4 rfl) ?_
  refine zcS_xv (As := [.int (nI z)]) (rest := []) (n9 := 1) C hw (c_X7_checkWire l hst D y base S (nI z) ) gX7_decodeFour_X7_checkWire rfl (by decide +kernel) ⟨⟨rfl, rfl⟩, Nat.le_of_ble_eq_true rfl, Nat.le_of_ble_eq_true rfl⟩ rfl hl.1 rfl (Nat.le_of_ble_eq_true rfl) ⟨Nat.le_of_ble_eq_true rfl, Nat.le_of_ble_eq_true rfl⟩ dX7_decodeFour_14 (fun E ce q9 S14 H locs hx14 hw h1 h2 h3 => zxout hw hx0 hlocks h1 h2 h3 (by obtain ⟨rfl, hc9, rfl⟩ := hx14; exact absurd (zw4 z hz4) hc9) ⟨Nat.le_of_ble_eq_true rfl, Nat.le_of_ble_eq_true rfl⟩) (fun S14 H locs hp14 hw => ?_)
  obtain ⟨hp14, hS9⟩ := hp14
  have hS9 := hS9.symm
  subst hS9
  refine lv_iload_n hx hb dX7_decodeFour_17 rfl (lv_at hl 2 rfl) ?_
  refine lv_iload_n hx hb dX7_decodeFour_18 rfl (lv_at hl 3 rfl) ?_
  refine lv_iload hx hb dX7_decodeFour_19 (lv_at hl 4 rfl) ?_
  refine zcS_xv (As := [.int (nI w), .int (nI v), .int (nI z)]) (rest := []) (n9 := 3) C hw (c_X7_checkThreeApart l hst D y base S (nI w) (nI v) (nI z) ) gX7_decodeFour_X7_checkThreeApart rfl (by decide +kernel) ⟨⟨rfl, rfl⟩, Nat.le_of_ble_eq_true rfl, Nat.le_of_ble_eq_true rfl⟩ rfl hl.1 rfl (Nat.le_of_ble_eq_true rfl) ⟨Nat.le_of_ble_eq_true rfl, Nat.le_of_ble_eq_true rfl⟩ dX7_decodeFour_21 (fun E ce q9 S21 H locs hx21 hw h1 h2 h3 => zxout hw hx0 hlocks h1 h2 h3 (by obtain ⟨rfl, hc9, rfl⟩ := hx21; exact absurd ⟨(fun e => hne.1 ((nI_eq (by omega) (by omega)).mp e)), (fun e => hne.2.1 ((nI_eq (by omega) (by omega)).mp e)), (fun e => hne.2.2 ((nI_eq (by omega) (by omega)).mp e))⟩ hc9) ⟨Nat.le_of_ble_eq_true rfl, Nat.le_of_ble_eq_true rfl⟩) (fun S21 H locs hp21 hw => ?_)
  obtain ⟨hp21, hS9⟩ := hp21
  have hS9 := hS9.symm
  subst hS9
  refine lv_iload hx hb dX7_decodeFour_24 (lv_at hl 5 rfl) ?_
  refine lv_iconst (v := 0) hx hb dX7_decodeFour_26 (by decide) ?_
  refine lv_iconst (v := 3) hx hb dX7_decodeFour_27 (by decide) ?_
  refine zcS_xv (As := [.int (nI md), .int 0, .int 3]) (rest := []) (n9 := 3) C hw (c_X7_checkRange l hst D y base S (nI md) 0 3 ) gX7_decodeFour_X7_checkRange rfl (by decide +kernel) ⟨⟨rfl, rfl⟩, Nat.le_of_ble_eq_true rfl, Nat.le_of_ble_eq_true rfl⟩ rfl hl.1 rfl (Nat.le_of_ble_eq_true rfl) ⟨Nat.le_of_ble_eq_true rfl, Nat.le_of_ble_eq_true rfl⟩ dX7_decodeFour_28 (fun E ce q9 S28 H locs hx28 hw h1 h2 h3 => zxout hw hx0 hlocks h1 h2 h3 (by obtain ⟨rfl, hc9, rfl⟩ := hx28; exact absurd (zrg (m := 3) (by omega) (by decide) rfl) hc9) ⟨Nat.le_of_ble_eq_true rfl, Nat.le_of_ble_eq_true rfl⟩) (fun S28 H locs hp28 hw => ?_)
  obtain ⟨hp28, hS9⟩ := hp28
  have hS9 := hS9.symm
  subst hS9
  refine lv_aload_n hx hb dX7_decodeFour_31 rfl (lv_at hl 0 rfl) ?_
  refine g_Ph_told (a := (a 0)) (v := (a 4)) C hw hX.1 in_X7 (by decide +kernel) hX.2.2.2.2.1 dX7_decodeFour_32 ?_
  refine lv_iconst (v := 0) hx hb dX7_decodeFour_35 (by decide) ?_
  refine p_Notes_count (a := (a 4)) (v := 0) C hw hNts.1 in_X3 (by decide +kernel) dX7_decodeFour_36 (fun H locs hw => ?_)
  refine lv_aload_n hx hb dX7_decodeFour_39 rfl (lv_at hl 0 rfl) ?_
  have hci := zX.ci hX hq2
  refine g_Ph_captures (a := (a 0)) (v := (a 2)) C hw hX.1 in_X7 (by decide +kernel) hX.2.2.1 dX7_decodeFour_40 ?_
  refine lv_iload_n hx hb dX7_decodeFour_43 rfl (lv_at hl 1 rfl) ?_
  refine zald_P (a := (a 2)) (v := (a (40 + q))) C hw hX.2.2.2.2.2.2.2.2.1 (by decide) (t0 := 2) rfl rfl hX.2.2.2.2.2.2.2.2.2.1 (zin_of (N := 2) (by decide) (by grind) (by grind)) hci.1 dX7_decodeFour_44 ?_
  refine lv_astore (lv' := [(6, .ref (a (40 + q))), (0, .ref (a 0)), (1, .int (nI q)), (2, .int (nI w)), (3, .int (nI v)), (4, .int (nI z)), (5, .int (nI md))]) hx hb dX7_decodeFour_45 hl (by decide) rfl (fun ls hl => ?_)
  have jn_1 : ∀ (ux_2 : Int32) (H : Heap) (locs : List Loc) (ls : Array Slot), zW D y base (zsI S 112 (a 4) 0) s H locs → lv_has ls 10 [(6, .ref (a (40 + q))), (0, .ref (a 0)), (1, .int (nI q)), (2, .int (nI w)), (3, .int (nI v)), (4, .int (nI z)), (5, .int (nI md))] → (ux_2 = zb ((decide (md = 0 ∨ md = 3)) = true)) → W p l e (headSpec wsX7_decodeFour ({ frames := 8, cells := 9, slots := 52, locals := 133 })).room s m args below meth c H locs 8 48 (vx_MQ below (va_Qi (fun (r : Int32) (S1 : zS) => r = nI (zFR (M z) (M w) (M v) (decide (md = 0 ∨ md = 3)) (mm - 1)).2.2.length ∧ zNo S1 (a 4) (a 60) (a 61) (a 62) (a 63) (a 64) (zFR (M z) (M w) (M v) (decide (md = 0 ∨ md = 3)) (mm - 1)).2.2 ∧ zDc S S1 a) (zPost D y base) (zA base)) (zXC (fun (E : String) (S1 : zS) => False ∧ S1 = S) D y base) args s 9 52 (zA base)) (F0 m 63 ls [.int ux_2]) := by
    intro ux_2 H locs ls hw hl f_3
    subst f_3
    refine lv_istore (lv' := [(7, .int (zb ((decide (md = 0 ∨ md = 3)) = true))), (6, .ref (a (40 + q))), (0, .ref (a 0)), (1, .int (nI q)), (2, .int (nI w)), (3, .int (nI v)), (4, .int (nI z)), (5, .int (nI md))]) hx hb dX7_decodeFour_63 hl (by decide) rfl (fun ls hl => ?_)
    refine znew (k := 6) (Cn := RX2) (T := TX2) (N := 4) C hw (by decide) (by decide) rfl in_X2 tyX2 tyX2_ok (by decide +kernel) (by decide +kernel) (by decide +kernel) (zdfX2) (Nat.le_of_ble_eq_true rfl) (Nat.le_of_ble_eq_true rfl) dX7_decodeFour_65 (fun q65 H kq65 hw => ?_)
    refine lv_dup hx hb dX7_decodeFour_68 rfl ?_
    refine lv_aload_n hx hb dX7_decodeFour_69 rfl (lv_at hl 2 rfl) ?_
    refine g_Ph_told (a := (a 0)) (v := (a 4)) C hw (zK_nO (k := 6) (zne kq65 (fun e9 => absurd (Eq.trans (Eq.symm hX.1) e9) (by decide))) hX.1) in_X7 (by decide +kernel) (zQ_nO (k := 6) (zne kq65 (fun e9 => absurd (Eq.trans (Eq.symm hX.1) e9) (by decide))) hX.2.2.2.2.1) dX7_decodeFour_70 ?_
    refine zcI_v (As := [.ref (a 4)]) (rest := [.ref q65]) (n9 := 1) (b := q65) C hw (c_X2_init l D y base (znO (zsI S 112 (a 4) 0) q65 6) q65 (a 4) (zK_nOs _ _ _)) gX7_decodeFour_X2_init rfl (by decide +kernel) (by decide +kernel) (by decide +kernel) rfl (by decide +kernel) ⟨⟨rfl, rfl⟩, Nat.le_of_ble_eq_true rfl, Nat.le_of_ble_eq_true rfl⟩ rfl hl.1 rfl (Nat.le_of_ble_eq_true rfl) ⟨Nat.le_of_ble_eq_true rfl, Nat.le_of_ble_eq_true rfl⟩ dX7_decodeFour_73 (fun S73 H locs hp73 hw => ?_)
    obtain rfl := hp73
    refine lv_astore (lv' := [(8, .ref q65), (7, .int (zb ((decide (md = 0 ∨ md = 3)) = true))), (6, .ref (a (40 + q))), (0, .ref (a 0)), (1, .int (nI q)), (2, .int (nI w)), (3, .int (nI v)), (4, .int (nI z)), (5, .int (nI md))]) hx hb dX7_decodeFour_76 hl (by decide) rfl (fun ls hl => ?_)
    have hG9 : zGw (zsI S 112 (a 4) 0) (zsQ (znO (zsI S 112 (a 4) 0) q65 6) 96 q65 (some (a 4))) := (zGw.nO kq65).Q kq65
    have hdA : zDc S (zsI S 112 (a 4) 0) a := zDc.fr hX hNts (zFr.I (TI := zNI (a 4)) (TR := fun _ _ => False) ⟨rfl, rfl⟩) (fun i hi g => absurd g.1 (by decide)) (fun _ _ g => g)
    have hd9 : zDc S (zsQ (znO (zsI S 112 (a 4) 0) q65 6) 96 q65 (some (a 4))) a := hdA.tr (zDc.gw hdA.1 hdA.2.1 hG9)
    have hNo9 : zNo (zsQ (znO (zsI S 112 (a 4) 0) q65 6) 96 q65 (some (a 4))) (a 4) (a 60) (a 61) (a 62) (a 63) (a 64) [] := zNo.gw hG9 hdA.2.1 ⟨zI_s _ _ _ _, Nat.zero_le _, fun j x hx => absurd hx (by simp)⟩
    have hK9 : zK (zsQ (znO (zsI S 112 (a 4) 0) q65 6) 96 q65 (some (a 4))) q65 = 6 := zK_nOs _ _ _
    have hFP : zFP (zsQ (znO (zsI S 112 (a 4) 0) q65 6) 96 q65 (some (a 4))) q65 (a 4) (a 60) (a 61) (a 62) (a 63) (a 64) (zFR (M z) (M w) (M v) (decide (md = 0 ∨ md = 3)) 0) := ⟨⟨hK9, zQ_s _ _ _ _, (zI_nOs (zsI S 112 (a 4) 0) q65 6 97), (fun h9 => absurd rfl h9)⟩, hNo9⟩
    clear hNo9 hG9
    generalize hS9 : (zsQ (znO (zsI S 112 (a 4) 0) q65 6) 96 q65 (some (a 4))) = S9 at hw hd9 hFP hK9
    refine lv_iconst (v := 1) hx hb dX7_decodeFour_78 (by decide) ?_
    refine lv_istore (lv' := [(9, .int 1), (8, .ref q65), (7, .int (zb ((decide (md = 0 ∨ md = 3)) = true))), (6, .ref (a (40 + q))), (0, .ref (a 0)), (1, .int (nI q)), (2, .int (nI w)), (3, .int (nI v)), (4, .int (nI z)), (5, .int (nI md))]) hx hb dX7_decodeFour_79 hl (by decide) rfl (fun ls hl => ?_)
    have lp_5 : ∀ (n9 : Nat) (k : Nat) (S2 : zS) (H : Heap) (locs : List Loc) (ls : Array Slot), mm - k < n9 → (k + 1 ≤ mm) → (zFr S9 S2 (zWI q65 (a 4)) (zNR (a 60) (a 61) (a 62) (a 63) (a 64))) → (zFP S2 q65 (a 4) (a 60) (a 61) (a 62) (a 63) (a 64) (zFR (M z) (M w) (M v) (decide (md = 0 ∨ md = 3)) k)) → zW D y base S2 s H locs → lv_has ls 10 [(9, .int (nI (k + 1))), (0, .ref (a 0)), (1, .int (nI q)), (2, .int (nI w)), (3, .int (nI v)), (4, .int (nI z)), (5, .int (nI md)), (6, .ref (a (40 + q))), (7, .int (zb ((decide (md = 0 ∨ md = 3)) = true))), (8, .ref q65)] → W p l e (headSpec wsX7_decodeFour ({ frames := 8, cells := 9, slots := 52, locals := 133 })).room s m args below meth c H locs 9 52 (vx_MQ below (va_Qi (fun (r : Int32) (S1 : zS) => r = nI (zFR (M z) (M w) (M v) (decide (md = 0 ∨ md = 3)) (mm - 1)).2.2.length ∧ zNo S1 (a 4) (a 60) (a 61) (a 62) (a 63) (a 64) (zFR (M z) (M w) (M v) (decide (md = 0 ∨ md = 3)) (mm - 1)).2.2 ∧ zDc S S1 a) (zPost D y base) (zA base)) (zXC (fun (E : String) (S1 : zS) => False ∧ S1 = S) D y base) args s 9 52 (zA base)) (F0 m 81 ls []) := by
      intro n9
      induction n9 with
      | zero =>
        intro k S2 H locs ls hn9
        exact absurd hn9 (Nat.not_lt_zero _)
      | succ n9 ih_4 =>
        intro k S2 H locs ls hn9 hi hf hFP hw hl
        have hX2 := zX.fix hf.1 hd9.1
        have hN2 := zNts.fix hf.1 hd9.2.1
        have hdc : zDc S S2 a := hd9.tr (zDc.fr hd9.1 hd9.2.1 hf (fun i hi g => by rcases g with g | g; have h9 := (zX.ci hd9.1 hi).2.1; rw [g, hK9] at h9; exact absurd h9 (by decide); exact absurd g.1 (by decide)) (zNR.cap hDs))
        have hM2 := hdc.cp hq2 hM
        have hC2 := (zX.ci hX2 hq2).2
        obtain ⟨hk1, hk2⟩ := zFR_ok (M z) (M w) (M v) (decide (md = 0 ∨ md = 3)) k
        refine lv_iload hx hb dX7_decodeFour_81 (lv_at hl 0 rfl) ?_
        refine lv_aload hx hb dX7_decodeFour_83 (lv_at hl 7 rfl) ?_
        refine g_Cap_count (a := (a (40 + q))) (v := (nI mm)) C hw hC2.1 in_X0 (by decide +kernel) hM2.1 dX7_decodeFour_85 ?_
        refine lv_icmp_ge (tgt := 190) hx hb dX7_decodeFour_88 (by decide) (fun c88 => ?_) (fun c88 => ?_)
        · refine lv_aload_n hx hb dX7_decodeFour_190 rfl (lv_at hl 1 rfl) ?_
          refine g_Ph_told (a := (a 0)) (v := (a 4)) C hw hX2.1 in_X7 (by decide +kernel) hX2.2.2.2.2.1 dX7_decodeFour_191 ?_
          refine g_Notes_count (a := (a 4)) (v := (nI (((zFR (M z) (M w) (M v) (decide (md = 0 ∨ md = 3)) k).2.2)).length)) C hw hN2.1 in_X3 (by decide +kernel) hFP.2.1 dX7_decodeFour_194 ?_
          exact vx_ret (zri C hw hr hlocks rfl (by have hk9 : mm - 1 = k := (by have := z_ge (n := mm) c88 (by omega) (by omega); omega); rw [hk9]; exact ⟨rfl, hFP.2, hdc⟩) ⟨Nat.le_of_ble_eq_true rfl, Nat.le_of_ble_eq_true rfl⟩ dX7_decodeFour_197)
        · have him := z_lt (n := mm) c88 (by omega) (by omega)
          refine lv_aload hx hb dX7_decodeFour_91 (lv_at hl 7 rfl) ?_
          refine lv_iload hx hb dX7_decodeFour_93 (lv_at hl 5 rfl) ?_
          refine lv_iload hx hb dX7_decodeFour_95 (lv_at hl 0 rfl) ?_
          refine zcV_i (As := [.int (nI z), .int (nI (k + 1))]) (rest := []) (n9 := 2) (b := (a (40 + q))) C hw (c_X0_risesAt l D y base S2 (a (40 + q)) (a (50 + q)) mm M z (k + 1) hC2 hM2 hz4 him (by omega)) gX7_decodeFour_X0_risesAt rfl (by decide +kernel) ⟨⟨rfl, rfl⟩, Nat.le_of_ble_eq_true rfl, Nat.le_of_ble_eq_true rfl⟩ hC2.1 ⟨by decide, by decide⟩ rfl rfl hl.1 rfl (Nat.le_of_ble_eq_true rfl) ⟨Nat.le_of_ble_eq_true rfl, Nat.le_of_ble_eq_true rfl⟩ dX7_decodeFour_97 (fun r97 S97 H locs hp97 hw => ?_)
          obtain ⟨rfl, hS9⟩ := hp97
          have hS9 := hS9.symm
          subst hS9
          refine lv_if_eq (tgt := 113) hx hb dX7_decodeFour_100 (by decide) (fun c100 => ?_) (fun c100 => ?_)
          · replace c100 := zb0.mp c100
            refine lv_aload hx hb dX7_decodeFour_113 (lv_at hl 7 rfl) ?_
            refine lv_iload hx hb dX7_decodeFour_115 (lv_at hl 5 rfl) ?_
            refine lv_iload hx hb dX7_decodeFour_117 (lv_at hl 0 rfl) ?_
            refine zcV_i (As := [.int (nI z), .int (nI (k + 1))]) (rest := []) (n9 := 2) (b := (a (40 + q))) C hw (c_X0_isHighAt l D y base S2 (a (40 + q)) (a (50 + q)) mm M z (k + 1) hC2 hM2 hz4 him) gX7_decodeFour_X0_isHighAt rfl (by decide +kernel) ⟨⟨rfl, rfl⟩, Nat.le_of_ble_eq_true rfl, Nat.le_of_ble_eq_true rfl⟩ hC2.1 ⟨by decide, by decide⟩ rfl rfl hl.1 rfl (Nat.le_of_ble_eq_true rfl) ⟨Nat.le_of_ble_eq_true rfl, Nat.le_of_ble_eq_true rfl⟩ dX7_decodeFour_119 (fun r119 S119 H locs hp119 hw => ?_)
            obtain ⟨rfl, hS9⟩ := hp119
            have hS9 := hS9.symm
            subst hS9
            refine lv_if_ne (tgt := 184) hx hb dX7_decodeFour_122 (by decide) (fun c122 => ?_) (fun c122 => ?_)
            · replace c122 := zb1.mp c122
              refine lv_iinc (v := (nI ((k + 1) + 1))) (lv' := [(9, .int (nI ((k + 1) + 1))), (0, .ref (a 0)), (1, .int (nI q)), (2, .int (nI w)), (3, .int (nI v)), (4, .int (nI z)), (5, .int (nI md)), (6, .ref (a (40 + q))), (7, .int (zb ((decide (md = 0 ∨ md = 3)) = true))), (8, .ref q65)]) hx hb dX7_decodeFour_184 hl (k := 0) rfl (nI_1 _) (by decide) rfl (fun ls hl => ?_)
              refine lv_goto (tgt := 81) hx hb dX7_decodeFour_187 (by decide) ?_
              have hn9 : ¬ (M z (k + 1) = false ∧ M z k = false ∧ (((decide (md = 0 ∨ md = 3)) = true ∧ M w (k + 1) = true ∧ M w k = false) ∨ ((decide (md = 0 ∨ md = 3)) = false ∧ M w (k + 1) = false ∧ M w k = true))) := fun g => by rw [c122] at g; exact absurd g.1 (by decide)
              exact ih_4 (k + 1) S2 _ _ _ (by omega) (by omega) hf (by rw [zFR_n c100 hn9]; exact hFP) hw (lv_sub hl [0, 1, 2, 3, 4, 5, 6, 7, 8, 9] rfl)
            · replace c122 := zb0.mp c122
              refine lv_aload hx hb dX7_decodeFour_125 (lv_at hl 7 rfl) ?_
              refine lv_iload hx hb dX7_decodeFour_127 (lv_at hl 5 rfl) ?_
              refine lv_iload hx hb dX7_decodeFour_129 (lv_at hl 0 rfl) ?_
              refine lv_iconst (v := 1) hx hb dX7_decodeFour_131 (by decide) ?_
              refine lv_isub hx hb dX7_decodeFour_132 ?_
              refine zrd (x := (nI k)) (pk_sub (b := 1) (by omega)) ?_
              refine zcV_i (As := [.int (nI z), .int (nI k)]) (rest := []) (n9 := 2) (b := (a (40 + q))) C hw (c_X0_isHighAt l D y base S2 (a (40 + q)) (a (50 + q)) mm M z k hC2 hM2 hz4 (by omega)) gX7_decodeFour_X0_isHighAt rfl (by decide +kernel) ⟨⟨rfl, rfl⟩, Nat.le_of_ble_eq_true rfl, Nat.le_of_ble_eq_true rfl⟩ hC2.1 ⟨by decide, by decide⟩ rfl rfl hl.1 rfl (Nat.le_of_ble_eq_true rfl) ⟨Nat.le_of_ble_eq_true rfl, Nat.le_of_ble_eq_true rfl⟩ dX7_decodeFour_133 (fun r133 S133 H locs hp133 hw => ?_)
              obtain ⟨rfl, hS9⟩ := hp133
              have hS9 := hS9.symm
              subst hS9
              refine lv_if_ne (tgt := 184) hx hb dX7_decodeFour_136 (by decide) (fun c136 => ?_) (fun c136 => ?_)
              · replace c136 := zb1.mp c136
                refine lv_iinc (v := (nI ((k + 1) + 1))) (lv' := [(9, .int (nI ((k + 1) + 1))), (0, .ref (a 0)), (1, .int (nI q)), (2, .int (nI w)), (3, .int (nI v)), (4, .int (nI z)), (5, .int (nI md)), (6, .ref (a (40 + q))), (7, .int (zb ((decide (md = 0 ∨ md = 3)) = true))), (8, .ref q65)]) hx hb dX7_decodeFour_184 hl (k := 0) rfl (nI_1 _) (by decide) rfl (fun ls hl => ?_)
                refine lv_goto (tgt := 81) hx hb dX7_decodeFour_187 (by decide) ?_
                have hn9 : ¬ (M z (k + 1) = false ∧ M z k = false ∧ (((decide (md = 0 ∨ md = 3)) = true ∧ M w (k + 1) = true ∧ M w k = false) ∨ ((decide (md = 0 ∨ md = 3)) = false ∧ M w (k + 1) = false ∧ M w k = true))) := fun g => by rw [c136] at g; exact absurd g.2.1 (by decide)
                exact ih_4 (k + 1) S2 _ _ _ (by omega) (by omega) hf (by rw [zFR_n c100 hn9]; exact hFP) hw (lv_sub hl [0, 1, 2, 3, 4, 5, 6, 7, 8, 9] rfl)
              · replace c136 := zb0.mp c136
                refine lv_iload hx hb dX7_decodeFour_139 (lv_at hl 8 rfl) ?_
                refine lv_if_eq (tgt := 158) hx hb dX7_decodeFour_141 (by decide) (fun c141 => ?_) (fun c141 => ?_)
                · replace c141 := zb0.mp c141
                  refine lv_aload hx hb dX7_decodeFour_158 (lv_at hl 7 rfl) ?_
                  refine lv_iload_n hx hb dX7_decodeFour_160 rfl (lv_at hl 3 rfl) ?_
                  refine lv_iload hx hb dX7_decodeFour_161 (lv_at hl 0 rfl) ?_
                  refine zcV_i (As := [.int (nI w), .int (nI (k + 1))]) (rest := []) (n9 := 2) (b := (a (40 + q))) C hw (c_X0_fallsAt l D y base S2 (a (40 + q)) (a (50 + q)) mm M w (k + 1) hC2 hM2 hw4 him (by omega)) gX7_decodeFour_X0_fallsAt rfl (by decide +kernel) ⟨⟨rfl, rfl⟩, Nat.le_of_ble_eq_true rfl, Nat.le_of_ble_eq_true rfl⟩ hC2.1 ⟨by decide, by decide⟩ rfl rfl hl.1 rfl (Nat.le_of_ble_eq_true rfl) ⟨Nat.le_of_ble_eq_true rfl, Nat.le_of_ble_eq_true rfl⟩ dX7_decodeFour_163 (fun r163 S163 H locs hp163 hw => ?_)
                  obtain ⟨rfl, hS9⟩ := hp163
                  have hS9 := hS9.symm
                  subst hS9
                  refine lv_if_eq (tgt := 184) hx hb dX7_decodeFour_166 (by decide) (fun c166 => ?_) (fun c166 => ?_)
                  · replace c166 := zb0.mp c166
                    refine lv_iinc (v := (nI ((k + 1) + 1))) (lv' := [(9, .int (nI ((k + 1) + 1))), (0, .ref (a 0)), (1, .int (nI q)), (2, .int (nI w)), (3, .int (nI v)), (4, .int (nI z)), (5, .int (nI md)), (6, .ref (a (40 + q))), (7, .int (zb ((decide (md = 0 ∨ md = 3)) = true))), (8, .ref q65)]) hx hb dX7_decodeFour_184 hl (k := 0) rfl (nI_1 _) (by decide) rfl (fun ls hl => ?_)
                    refine lv_goto (tgt := 81) hx hb dX7_decodeFour_187 (by decide) ?_
                    have hn9 : ¬ (M z (k + 1) = false ∧ M z k = false ∧ (((decide (md = 0 ∨ md = 3)) = true ∧ M w (k + 1) = true ∧ M w k = false) ∨ ((decide (md = 0 ∨ md = 3)) = false ∧ M w (k + 1) = false ∧ M w k = true))) := fun g => g.2.2.elim (fun q => c141 q.1) (fun q => c166 q.2)
                    exact ih_4 (k + 1) S2 _ _ _ (by omega) (by omega) hf (by rw [zFR_n c100 hn9]; exact hFP) hw (lv_sub hl [0, 1, 2, 3, 4, 5, 6, 7, 8, 9] rfl)
                  · replace c166 := zb1.mp c166
                    refine lv_aload hx hb dX7_decodeFour_169 (lv_at hl 9 rfl) ?_
                    refine lv_aload hx hb dX7_decodeFour_171 (lv_at hl 7 rfl) ?_
                    refine lv_iload_n hx hb dX7_decodeFour_173 rfl (lv_at hl 4 rfl) ?_
                    refine lv_iload hx hb dX7_decodeFour_174 (lv_at hl 0 rfl) ?_
                    refine zcV_i (As := [.int (nI v), .int (nI (k + 1))]) (rest := [.ref q65]) (n9 := 2) (b := (a (40 + q))) C hw (c_X0_isHighAt l D y base S2 (a (40 + q)) (a (50 + q)) mm M v (k + 1) hC2 hM2 hv4 him) gX7_decodeFour_X0_isHighAt rfl (by decide +kernel) ⟨⟨rfl, rfl⟩, Nat.le_of_ble_eq_true rfl, Nat.le_of_ble_eq_true rfl⟩ hC2.1 ⟨by decide, by decide⟩ rfl rfl hl.1 rfl (Nat.le_of_ble_eq_true rfl) ⟨Nat.le_of_ble_eq_true rfl, Nat.le_of_ble_eq_true rfl⟩ dX7_decodeFour_176 (fun r176 S176 H locs hp176 hw => ?_)
                    obtain ⟨rfl, hS9⟩ := hp176
                    have hS9 := hS9.symm
                    subst hS9
                    refine lv_iload hx hb dX7_decodeFour_179 (lv_at hl 0 rfl) ?_
                    refine zcV_v (As := [.int (zb (M v (k + 1) = true)), .int (nI (k + 1))]) (rest := []) (n9 := 2) (b := q65) C hw (c_X2_takeBit l D y base S2 q65 (a 4) (a 60) (a 61) (a 62) (a 63) (a 64) ((zFR (M z) (M w) (M v) (decide (md = 0 ∨ md = 3)) k).1) ((zFR (M z) (M w) (M v) (decide (md = 0 ∨ md = 3)) k).2.1) ((zFR (M z) (M w) (M v) (decide (md = 0 ∨ md = 3)) k).2.2) (M v (k + 1)) (k + 1) hN2 hFP.1 hFP.2 hDs.nd (by omega) hk1) gX7_decodeFour_X2_takeBit rfl (by decide +kernel) ⟨⟨rfl, rfl⟩, Nat.le_of_ble_eq_true rfl, Nat.le_of_ble_eq_true rfl⟩ hFP.1.1 ⟨by decide, by decide⟩ rfl rfl hl.1 rfl (Nat.le_of_ble_eq_true rfl) ⟨Nat.le_of_ble_eq_true rfl, Nat.le_of_ble_eq_true rfl⟩ dX7_decodeFour_181 (fun S181 H locs hp181 hw => ?_)
                    refine lv_iinc (v := (nI ((k + 1) + 1))) (lv' := [(9, .int (nI ((k + 1) + 1))), (0, .ref (a 0)), (1, .int (nI q)), (2, .int (nI w)), (3, .int (nI v)), (4, .int (nI z)), (5, .int (nI md)), (6, .ref (a (40 + q))), (7, .int (zb ((decide (md = 0 ∨ md = 3)) = true))), (8, .ref q65)]) hx hb dX7_decodeFour_184 hl (k := 0) rfl (nI_1 _) (by decide) rfl (fun ls hl => ?_)
                    refine lv_goto (tgt := 81) hx hb dX7_decodeFour_187 (by decide) ?_
                    have hb9 : M z (k + 1) = false ∧ M z k = false ∧ (((decide (md = 0 ∨ md = 3)) = true ∧ M w (k + 1) = true ∧ M w k = false) ∨ ((decide (md = 0 ∨ md = 3)) = false ∧ M w (k + 1) = false ∧ M w k = true)) := ⟨Bool.eq_false_iff.mpr c122, Bool.eq_false_iff.mpr c136, Or.inr ⟨Bool.eq_false_iff.mpr c141, c166.1, c166.2⟩⟩
                    exact ih_4 (k + 1) S181 _ _ _ (by omega) (by omega) (hf.tr hp181.2) (by rw [zFR_b hb9]; exact hp181.1) hw (lv_sub hl [0, 1, 2, 3, 4, 5, 6, 7, 8, 9] rfl)
                · replace c141 := zb1.mp c141
                  refine lv_aload hx hb dX7_decodeFour_144 (lv_at hl 7 rfl) ?_
                  refine lv_iload_n hx hb dX7_decodeFour_146 rfl (lv_at hl 3 rfl) ?_
                  refine lv_iload hx hb dX7_decodeFour_147 (lv_at hl 0 rfl) ?_
                  refine zcV_i (As := [.int (nI w), .int (nI (k + 1))]) (rest := []) (n9 := 2) (b := (a (40 + q))) C hw (c_X0_risesAt l D y base S2 (a (40 + q)) (a (50 + q)) mm M w (k + 1) hC2 hM2 hw4 him (by omega)) gX7_decodeFour_X0_risesAt rfl (by decide +kernel) ⟨⟨rfl, rfl⟩, Nat.le_of_ble_eq_true rfl, Nat.le_of_ble_eq_true rfl⟩ hC2.1 ⟨by decide, by decide⟩ rfl rfl hl.1 rfl (Nat.le_of_ble_eq_true rfl) ⟨Nat.le_of_ble_eq_true rfl, Nat.le_of_ble_eq_true rfl⟩ dX7_decodeFour_149 (fun r149 S149 H locs hp149 hw => ?_)
                  obtain ⟨rfl, hS9⟩ := hp149
                  have hS9 := hS9.symm
                  subst hS9
                  refine lv_if_eq (tgt := 184) hx hb dX7_decodeFour_152 (by decide) (fun c152 => ?_) (fun c152 => ?_)
                  · replace c152 := zb0.mp c152
                    refine lv_iinc (v := (nI ((k + 1) + 1))) (lv' := [(9, .int (nI ((k + 1) + 1))), (0, .ref (a 0)), (1, .int (nI q)), (2, .int (nI w)), (3, .int (nI v)), (4, .int (nI z)), (5, .int (nI md)), (6, .ref (a (40 + q))), (7, .int (zb ((decide (md = 0 ∨ md = 3)) = true))), (8, .ref q65)]) hx hb dX7_decodeFour_184 hl (k := 0) rfl (nI_1 _) (by decide) rfl (fun ls hl => ?_)
                    refine lv_goto (tgt := 81) hx hb dX7_decodeFour_187 (by decide) ?_
                    have hn9 : ¬ (M z (k + 1) = false ∧ M z k = false ∧ (((decide (md = 0 ∨ md = 3)) = true ∧ M w (k + 1) = true ∧ M w k = false) ∨ ((decide (md = 0 ∨ md = 3)) = false ∧ M w (k + 1) = false ∧ M w k = true))) := fun g => g.2.2.elim (fun q => c152 q.2) (fun q => by rw [c141] at q; exact absurd q.1 (by decide))
                    exact ih_4 (k + 1) S2 _ _ _ (by omega) (by omega) hf (by rw [zFR_n c100 hn9]; exact hFP) hw (lv_sub hl [0, 1, 2, 3, 4, 5, 6, 7, 8, 9] rfl)
                  · replace c152 := zb1.mp c152
                    refine lv_goto (tgt := 169) hx hb dX7_decodeFour_155 (by decide) ?_
                    refine lv_aload hx hb dX7_decodeFour_169 (lv_at hl 9 rfl) ?_
                    refine lv_aload hx hb dX7_decodeFour_171 (lv_at hl 7 rfl) ?_
                    refine lv_iload_n hx hb dX7_decodeFour_173 rfl (lv_at hl 4 rfl) ?_
                    refine lv_iload hx hb dX7_decodeFour_174 (lv_at hl 0 rfl) ?_
                    refine zcV_i (As := [.int (nI v), .int (nI (k + 1))]) (rest := [.ref q65]) (n9 := 2) (b := (a (40 + q))) C hw (c_X0_isHighAt l D y base S2 (a (40 + q)) (a (50 + q)) mm M v (k + 1) hC2 hM2 hv4 him) gX7_decodeFour_X0_isHighAt rfl (by decide +kernel) ⟨⟨rfl, rfl⟩, Nat.le_of_ble_eq_true rfl, Nat.le_of_ble_eq_true rfl⟩ hC2.1 ⟨by decide, by decide⟩ rfl rfl hl.1 rfl (Nat.le_of_ble_eq_true rfl) ⟨Nat.le_of_ble_eq_true rfl, Nat.le_of_ble_eq_true rfl⟩ dX7_decodeFour_176 (fun r176 S176 H locs hp176 hw => ?_)
                    obtain ⟨rfl, hS9⟩ := hp176
                    have hS9 := hS9.symm
                    subst hS9
                    refine lv_iload hx hb dX7_decodeFour_179 (lv_at hl 0 rfl) ?_
                    refine zcV_v (As := [.int (zb (M v (k + 1) = true)), .int (nI (k + 1))]) (rest := []) (n9 := 2) (b := q65) C hw (c_X2_takeBit l D y base S2 q65 (a 4) (a 60) (a 61) (a 62) (a 63) (a 64) ((zFR (M z) (M w) (M v) (decide (md = 0 ∨ md = 3)) k).1) ((zFR (M z) (M w) (M v) (decide (md = 0 ∨ md = 3)) k).2.1) ((zFR (M z) (M w) (M v) (decide (md = 0 ∨ md = 3)) k).2.2) (M v (k + 1)) (k + 1) hN2 hFP.1 hFP.2 hDs.nd (by omega) hk1) gX7_decodeFour_X2_takeBit rfl (by decide +kernel) ⟨⟨rfl, rfl⟩, Nat.le_of_ble_eq_true rfl, Nat.le_of_ble_eq_true rfl⟩ hFP.1.1 ⟨by decide, by decide⟩ rfl rfl hl.1 rfl (Nat.le_of_ble_eq_true rfl) ⟨Nat.le_of_ble_eq_true rfl, Nat.le_of_ble_eq_true rfl⟩ dX7_decodeFour_181 (fun S181 H locs hp181 hw => ?_)
                    refine lv_iinc (v := (nI ((k + 1) + 1))) (lv' := [(9, .int (nI ((k + 1) + 1))), (0, .ref (a 0)), (1, .int (nI q)), (2, .int (nI w)), (3, .int (nI v)), (4, .int (nI z)), (5, .int (nI md)), (6, .ref (a (40 + q))), (7, .int (zb ((decide (md = 0 ∨ md = 3)) = true))), (8, .ref q65)]) hx hb dX7_decodeFour_184 hl (k := 0) rfl (nI_1 _) (by decide) rfl (fun ls hl => ?_)
                    refine lv_goto (tgt := 81) hx hb dX7_decodeFour_187 (by decide) ?_
                    have hb9 : M z (k + 1) = false ∧ M z k = false ∧ (((decide (md = 0 ∨ md = 3)) = true ∧ M w (k + 1) = true ∧ M w k = false) ∨ ((decide (md = 0 ∨ md = 3)) = false ∧ M w (k + 1) = false ∧ M w k = true)) := ⟨Bool.eq_false_iff.mpr c122, Bool.eq_false_iff.mpr c136, Or.inl ⟨c141, c152.1, c152.2⟩⟩
                    exact ih_4 (k + 1) S181 _ _ _ (by omega) (by omega) (hf.tr hp181.2) (by rw [zFR_b hb9]; exact hp181.1) hw (lv_sub hl [0, 1, 2, 3, 4, 5, 6, 7, 8, 9] rfl)
          · replace c100 := zb1.mp c100
            refine lv_aload hx hb dX7_decodeFour_103 (lv_at hl 9 rfl) ?_
            refine lv_iload hx hb dX7_decodeFour_105 (lv_at hl 0 rfl) ?_
            refine zcV_v (As := [.int (nI (k + 1))]) (rest := []) (n9 := 1) (b := q65) C hw (c_X2_takeSelectRise l D y base S2 q65 (a 4) (a 60) (a 61) (a 62) (a 63) (a 64) ((zFR (M z) (M w) (M v) (decide (md = 0 ∨ md = 3)) k).1) ((zFR (M z) (M w) (M v) (decide (md = 0 ∨ md = 3)) k).2.1) ((zFR (M z) (M w) (M v) (decide (md = 0 ∨ md = 3)) k).2.2) (k + 1) hN2 hFP.1 hFP.2 hDs.nd (by omega) hk1) gX7_decodeFour_X2_takeSelectRise rfl (by decide +kernel) ⟨⟨rfl, rfl⟩, Nat.le_of_ble_eq_true rfl, Nat.le_of_ble_eq_true rfl⟩ hFP.1.1 ⟨by decide, by decide⟩ rfl rfl hl.1 rfl (Nat.le_of_ble_eq_true rfl) ⟨Nat.le_of_ble_eq_true rfl, Nat.le_of_ble_eq_true rfl⟩ dX7_decodeFour_107 (fun S107 H locs hp107 hw => ?_)
            refine lv_goto (tgt := 184) hx hb dX7_decodeFour_110 (by decide) ?_
            refine lv_iinc (v := (nI ((k + 1) + 1))) (lv' := [(9, .int (nI ((k + 1) + 1))), (0, .ref (a 0)), (1, .int (nI q)), (2, .int (nI w)), (3, .int (nI v)), (4, .int (nI z)), (5, .int (nI md)), (6, .ref (a (40 + q))), (7, .int (zb ((decide (md = 0 ∨ md = 3)) = true))), (8, .ref q65)]) hx hb dX7_decodeFour_184 hl (k := 0) rfl (nI_1 _) (by decide) rfl (fun ls hl => ?_)
            refine lv_goto (tgt := 81) hx hb dX7_decodeFour_187 (by decide) ?_
            exact ih_4 (k + 1) S107 _ _ _ (by omega) (by omega) (hf.tr hp107.2) (by rw [zFR_r c100]; exact hp107.1) hw (lv_sub hl [0, 1, 2, 3, 4, 5, 6, 7, 8, 9] rfl)
    exact lp_5 _ 0 S9 _ _ _ (Nat.lt_succ_self _) hmm.1 zFr.rf hFP hw (lv_sub hl [0, 4, 5, 6, 7, 8, 9, 3, 2, 1] rfl)
  refine lv_iload hx hb dX7_decodeFour_47 (lv_at hl 6 rfl) ?_
  refine lv_if_eq (tgt := 58) hx hb dX7_decodeFour_49 (by decide) (fun c49 => ?_) (fun c49 => ?_)
  · refine lv_iconst (v := 1) hx hb dX7_decodeFour_58 (by decide) ?_
    refine lv_goto (tgt := 63) hx hb dX7_decodeFour_59 (by decide) ?_
    exact jn_1 1 _ _ _ hw (lv_sub hl [0, 1, 2, 3, 4, 5, 6] rfl) (by first | exact zb_t (decide_eq_true (Or.inl ((nI_eq (b := 0) (by omega) (by decide)).mp c49))) | exact zb_t (decide_eq_true (Or.inr ((nI_eq (b := 3) (by omega) (by decide)).mp c55))) | exact zb_f (fun g => (of_decide_eq_true g).elim (fun e => c49 (by rw [e]; rfl)) (fun e => c55 (by rw [e]; rfl))))
  · refine lv_iload hx hb dX7_decodeFour_52 (lv_at hl 6 rfl) ?_
    refine lv_iconst (v := 3) hx hb dX7_decodeFour_54 (by decide) ?_
    refine lv_icmp_ne (tgt := 62) hx hb dX7_decodeFour_55 (by decide) (fun c55 => ?_) (fun c55 => ?_)
    · refine lv_iconst (v := 0) hx hb dX7_decodeFour_62 (by decide) ?_
      exact jn_1 0 _ _ _ hw (lv_sub hl [0, 1, 2, 3, 4, 5, 6] rfl) (by first | exact zb_t (decide_eq_true (Or.inl ((nI_eq (b := 0) (by omega) (by decide)).mp c49))) | exact zb_t (decide_eq_true (Or.inr ((nI_eq (b := 3) (by omega) (by decide)).mp c55))) | exact zb_f (fun g => (of_decide_eq_true g).elim (fun e => c49 (by rw [e]; rfl)) (fun e => c55 (by rw [e]; rfl))))
    · refine lv_iconst (v := 1) hx hb dX7_decodeFour_58 (by decide) ?_
      refine lv_goto (tgt := 63) hx hb dX7_decodeFour_59 (by decide) ?_
      exact jn_1 1 _ _ _ hw (lv_sub hl [0, 1, 2, 3, 4, 5, 6] rfl) (by first | exact zb_t (decide_eq_true (Or.inl ((nI_eq (b := 0) (by omega) (by decide)).mp c49))) | exact zb_t (decide_eq_true (Or.inr ((nI_eq (b := 3) (by omega) (by decide)).mp c55))) | exact zb_f (fun g => (of_decide_eq_true g).elim (fun e => c49 (by rw [e]; rfl)) (fun e => c55 (by rw [e]; rfl))))

set_option maxHeartbeats 4000000 in
set_option maxRecDepth 100000 in
/-- X7_trigger -/
theorem c_X7_trigger_t (l : Launch) (hst : l.stackTraces = false) (D : va_G) (y : Nat → ClassId) (base : Nat) (S : zS) (a : Nat → Nat) (q : Nat) (n : Nat) (hX : zX S a) (hDs : zDs a) (hq2 : q < 2) (hSt : zSt S (a 3) (a 7) (a 9) 400 n) (hn1 : 1 ≤ n ∧ n ≤ 6) (hm : zI S 64 (a (40 + q)) = nI 400) : zXi l yX7_trigger wsX7_trigger ({ frames := 7, cells := 3, slots := 18, locals := 110 }) [.ref (a 0), .int (nI q)] D y base S (fun (r : Int32) (S1 : zS) => (n = 1 ∧ r = 399) ∧ S1 = S) (fun (E : String) (S1 : zS) => (E = "java/util/NoSuchElementException" ∧ ¬ n = 1) ∧ S1 = S) 3 18 := by
  refine zXet_of (cc := cX7_trigger) (maxL := 3) (ret := (some .int)) (own := RX7) (by decide +kernel) rfl rfl (Nat.le_of_ble_eq_true rfl) ?_
  intro p e s m args below meth c ls C hr hlocks hx0 hw hl
  have hx := C.1
  have hb := C.2.1
  have hown := C.2.2.2.1
  have hts := C.2.2.2.2
  have hl : lv_has ls 3 [(0, .ref (a 0)), (1, .int (nI q))] := hl
  have in_X4 : ∀ w ∈ wsX40, w ∈ wsX7_trigger := by decide +kernel
  have in_X7 : ∀ w ∈ wsX70, w ∈ wsX7_trigger := by decide +kernel
  refine lv_iload_n hx hb dX7_trigger_0 rfl (lv_at hl 1 rfl) ?_
  refine zcS_xv (As := [.int (nI q)]) (rest := []) (n9 := 1) C hw (c_X7_checkCapture l hst D y base S (nI q) ) gX7_trigger_X7_checkCapture rfl (by decide +kernel) ⟨⟨rfl, rfl⟩, Nat.le_of_ble_eq_true rfl, Nat.le_of_ble_eq_true rfl⟩ rfl hl.1 rfl (Nat.le_of_ble_eq_true rfl) ⟨Nat.le_of_ble_eq_true rfl, Nat.le_of_ble_eq_true rfl⟩ dX7_trigger_1 (fun E ce q9 S1 H locs hx1 hw h1 h2 h3 => zxout hw hx0 hlocks h1 h2 h3 (by obtain ⟨rfl, hc9, rfl⟩ := hx1; exact absurd (zc2 q hq2) hc9) ⟨Nat.le_of_ble_eq_true rfl, Nat.le_of_ble_eq_true rfl⟩) (fun S1 H locs hp1 hw => ?_)
  obtain ⟨hp1, hS9⟩ := hp1
  have hS9 := hS9.symm
  subst hS9
  refine lv_aload_n hx hb dX7_trigger_4 rfl (lv_at hl 0 rfl) ?_
  refine g_Ph_program (a := (a 0)) (v := (a 3)) C hw hX.1 in_X7 (by decide +kernel) hX.2.2.2.1 dX7_trigger_5 ?_
  refine g_Trig_count (a := (a 3)) (v := (nI n)) C hw hX.2.2.2.2.2.2.2.2.2.2.2.2.1.1 in_X4 (by decide +kernel) hSt.1 dX7_trigger_8 ?_
  refine lv_if_le (tgt := 18) hx hb dX7_trigger_11 (by decide) (fun c11 => (show False from nI_nle (by omega) (by omega) c11).elim) (fun c11 => ?_)
  refine lv_iconst (v := 1) hx hb dX7_trigger_14 (by decide) ?_
  refine lv_goto (tgt := 19) hx hb dX7_trigger_15 (by decide) ?_
  refine zcS_xv (As := [.int 1]) (rest := []) (n9 := 1) C hw (c_X7_checkUse l hst D y base S 1 ) gX7_trigger_X7_checkUse rfl (by decide +kernel) ⟨⟨rfl, rfl⟩, Nat.le_of_ble_eq_true rfl, Nat.le_of_ble_eq_true rfl⟩ rfl hl.1 rfl (Nat.le_of_ble_eq_true rfl) ⟨Nat.le_of_ble_eq_true rfl, Nat.le_of_ble_eq_true rfl⟩ dX7_trigger_19 (fun E ce q9 S19 H locs hx19 hw h1 h2 h3 => zxout hw hx0 hlocks h1 h2 h3 (by obtain ⟨rfl, hc9, rfl⟩ := hx19; exact absurd (by decide) hc9) ⟨Nat.le_of_ble_eq_true rfl, Nat.le_of_ble_eq_true rfl⟩) (fun S19 H locs hp19 hw => ?_)
  obtain ⟨hp19, hS9⟩ := hp19
  have hS9 := hS9.symm
  subst hS9
  refine lv_aload_n hx hb dX7_trigger_22 rfl (lv_at hl 0 rfl) ?_
  refine g_Ph_program (a := (a 0)) (v := (a 3)) C hw hX.1 in_X7 (by decide +kernel) hX.2.2.2.1 dX7_trigger_23 ?_
  have hci := zX.ci hX hq2
  refine lv_aload_n hx hb dX7_trigger_26 rfl (lv_at hl 0 rfl) ?_
  refine g_Ph_captures (a := (a 0)) (v := (a 2)) C hw hX.1 in_X7 (by decide +kernel) hX.2.2.1 dX7_trigger_27 ?_
  refine lv_iload_n hx hb dX7_trigger_30 rfl (lv_at hl 1 rfl) ?_
  refine zald_P (a := (a 2)) (v := (a (40 + q))) C hw hX.2.2.2.2.2.2.2.2.1 (by decide) (t0 := 2) rfl rfl hX.2.2.2.2.2.2.2.2.2.1 (zin_of (N := 2) (by decide) (by grind) (by grind)) hci.1 dX7_trigger_31 ?_
  refine zcV_i (As := [.ref (a (40 + q))]) (rest := []) (n9 := 1) (b := (a 3)) C hw (c_X4_metIn_t l D y base S (a 3) (a 7) (a 8) (a 9) (a (40 + q)) (a (50 + q)) n hX.2.2.2.2.2.2.2.2.2.2.2.2.1 hci.2 hSt hn1 hm) gX7_trigger_X4_metIn rfl (by decide +kernel) ⟨⟨rfl, rfl⟩, Nat.le_of_ble_eq_true rfl, Nat.le_of_ble_eq_true rfl⟩ hX.2.2.2.2.2.2.2.2.2.2.2.2.1.1 ⟨by decide, by decide⟩ rfl rfl hl.1 rfl (Nat.le_of_ble_eq_true rfl) ⟨Nat.le_of_ble_eq_true rfl, Nat.le_of_ble_eq_true rfl⟩ dX7_trigger_32 (fun r32 S32 H locs hp32 hw => ?_)
  obtain ⟨rfl, hS9⟩ := hp32
  have hS9 := hS9.symm
  subst hS9
  refine lv_istore_n (lv' := [(2, .int ((if n = 1 then 399 else -1))), (0, .ref (a 0)), (1, .int (nI q))]) hx hb dX7_trigger_35 rfl hl (by decide) rfl (fun ls hl => ?_)
  refine lv_iload_n hx hb dX7_trigger_36 rfl (lv_at hl 0 rfl) ?_
  refine lv_if_lt (tgt := 44) hx hb dX7_trigger_37 (by decide) (fun c37 => ?_) (fun c37 => ?_)
  · refine lv_iconst (v := 0) hx hb dX7_trigger_44 (by decide) ?_
    refine zcS_xv (As := [.int 0]) (rest := []) (n9 := 1) C hw (c_X7_checkThere l hst D y base S 0 ) gX7_trigger_X7_checkThere rfl (by decide +kernel) ⟨⟨rfl, rfl⟩, Nat.le_of_ble_eq_true rfl, Nat.le_of_ble_eq_true rfl⟩ rfl hl.1 rfl (Nat.le_of_ble_eq_true rfl) ⟨Nat.le_of_ble_eq_true rfl, Nat.le_of_ble_eq_true rfl⟩ dX7_trigger_45 (fun E ce q9 S45 H locs hx45 hw h1 h2 h3 => zxout hw hx0 hlocks h1 h2 h3 (by obtain ⟨rfl, hc9, rfl⟩ := hx45; first | exact absurd (by decide) hc9 | exact ⟨⟨rfl, (fun e => by rw [if_pos e] at c37; exact absurd c37 (by decide))⟩, rfl⟩) ⟨Nat.le_of_ble_eq_true rfl, Nat.le_of_ble_eq_true rfl⟩) (fun S45 H locs hp45 hw => ?_)
    obtain ⟨hp45, hS9⟩ := hp45
    have hS9 := hS9.symm
    subst hS9
    exact (show False from (hp45 rfl)).elim
  · refine lv_iconst (v := 1) hx hb dX7_trigger_40 (by decide) ?_
    refine lv_goto (tgt := 45) hx hb dX7_trigger_41 (by decide) ?_
    refine zcS_xv (As := [.int 1]) (rest := []) (n9 := 1) C hw (c_X7_checkThere l hst D y base S 1 ) gX7_trigger_X7_checkThere rfl (by decide +kernel) ⟨⟨rfl, rfl⟩, Nat.le_of_ble_eq_true rfl, Nat.le_of_ble_eq_true rfl⟩ rfl hl.1 rfl (Nat.le_of_ble_eq_true rfl) ⟨Nat.le_of_ble_eq_true rfl, Nat.le_of_ble_eq_true rfl⟩ dX7_trigger_45 (fun E ce q9 S45 H locs hx45 hw h1 h2 h3 => zxout hw hx0 hlocks h1 h2 h3 (by obtain ⟨rfl, hc9, rfl⟩ := hx45; first | exact absurd (by decide) hc9 | exact ⟨⟨rfl, (fun e => by rw [if_pos e] at c37; exact absurd c37 (by decide))⟩, rfl⟩) ⟨Nat.le_of_ble_eq_true rfl, Nat.le_of_ble_eq_true rfl⟩) (fun S45 H locs hp45 hw => ?_)
    obtain ⟨hp45, hS9⟩ := hp45
    have hS9 := hS9.symm
    subst hS9
    refine lv_iload_n hx hb dX7_trigger_48 rfl (lv_at hl 0 rfl) ?_
    exact vx_ret (zri C hw hr hlocks rfl (by have e9 : n = 1 := (by by_cases e : n = 1; exact e; rw [if_neg e] at c37; exact absurd (by decide) c37); exact ⟨⟨e9, by rw [if_pos e9]⟩, rfl⟩) ⟨Nat.le_of_ble_eq_true rfl, Nat.le_of_ble_eq_true rfl⟩ dX7_trigger_49)

set_option maxHeartbeats 4000000 in
set_option maxRecDepth 100000 in
/-- X7_flips -/
theorem c_X7_flips_g (l : Launch) (D : va_G) (y : Nat → ClassId) (base : Nat) (S : zS) (a : Nat → Nat) (F : Nat → Int → Bool) (N : Nat → Nat) (hX : zX S a) (hDs : zDs a) (hWv : zWv S a F N) : zMi l yX7_flips wsX7_flips ({ frames := 0, cells := 0, slots := 0, locals := 0 }) [.ref (a 0)] D y base S (fun (r : Int32) (S1 : zS) => r = nI (zsm4 N 4) ∧ S1 = S) 0 0 := by
  refine zMet_of (cc := cX7_flips) (maxL := 3) (ret := (some .int)) (own := RX7) (by decide +kernel) rfl rfl (Nat.le_of_ble_eq_true rfl) ?_
  intro p e s m args below meth c ls C hr hlocks hnm hw hl
  have hx := C.1
  have hb := C.2.1
  have hown := C.2.2.2.1
  have hts := C.2.2.2.2
  have hl : lv_has ls 3 [(0, .ref (a 0))] := hl
  have in_X6 : ∀ w ∈ wsX60, w ∈ wsX7_flips := by decide +kernel
  have in_X7 : ∀ w ∈ wsX70, w ∈ wsX7_flips := by decide +kernel
  refine lv_iconst (v := 0) hx hb dX7_flips_0 (by decide) ?_
  refine lv_istore_n (lv' := [(1, .int 0), (0, .ref (a 0))]) hx hb dX7_flips_1 rfl hl (by decide) rfl (fun ls hl => ?_)
  refine lv_iconst (v := 0) hx hb dX7_flips_2 (by decide) ?_
  refine lv_istore_n (lv' := [(2, .int 0), (1, .int 0), (0, .ref (a 0))]) hx hb dX7_flips_3 rfl hl (by decide) rfl (fun ls hl => ?_)
  have lp_2 : ∀ (n9 : Nat) (i : Nat) (H : Heap) (locs : List Loc) (ls : Array Slot), 5 - i < n9 → (i ≤ 4) → zW D y base S s H locs → lv_has ls 3 [(2, .int (nI i)), (1, .int (nI (zsm4 N i))), (0, .ref (a 0))] → W p l e (headSpec wsX7_flips ({ frames := 0, cells := 0, slots := 0, locals := 0 })).room s m args below meth c H locs 0 0 (MQ below (va_Qi (fun (r : Int32) (S1 : zS) => r = nI (zsm4 N 4) ∧ S1 = S) (zPost D y base) (zA base)) args s 0 0 (zA base)) (F0 m 4 ls []) := by
    intro n9
    induction n9 with
    | zero =>
      intro i H locs ls hn9
      exact absurd hn9 (Nat.not_lt_zero _)
    | succ n9 ih_1 =>
      intro i H locs ls hn9 hi hw hl
      refine lv_iload_n hx hb dX7_flips_4 rfl (lv_at hl 0 rfl) ?_
      refine lv_aload_n hx hb dX7_flips_5 rfl (lv_at hl 2 rfl) ?_
      refine g_Ph_wires (a := (a 0)) (v := (a 1)) C hw hX.1 in_X7 (by decide +kernel) hX.2.1 dX7_flips_6 ?_
      refine zalen (a := (a 1)) (v := 4) C hw hX.2.2.2.2.2.2.1 (by decide) (t0 := 3) rfl (zlen hX.2.2.2.2.2.2.2.1 rfl) dX7_flips_9 ?_
      refine lv_icmp_ge (tgt := 31) hx hb dX7_flips_10 (by decide) (fun c10 => ?_) (fun c10 => ?_)
      · refine lv_iload_n hx hb dX7_flips_31 rfl (lv_at hl 1 rfl) ?_
        exact zri C hw hr hlocks rfl (by rw [show i = 4 by have := z_ge (n := 4) c10 (by omega) (by omega); omega]; exact ⟨rfl, rfl⟩) ⟨Nat.le_of_ble_eq_true rfl, Nat.le_of_ble_eq_true rfl⟩ dX7_flips_32
      · have hi4 := z_lt (n := 4) c10 (by omega) (by omega)
        have hwi9 := zX.wi hX hi4
        refine lv_iload_n hx hb dX7_flips_13 rfl (lv_at hl 1 rfl) ?_
        refine lv_aload_n hx hb dX7_flips_14 rfl (lv_at hl 2 rfl) ?_
        refine g_Ph_wires (a := (a 0)) (v := (a 1)) C hw hX.1 in_X7 (by decide +kernel) hX.2.1 dX7_flips_15 ?_
        refine lv_iload_n hx hb dX7_flips_18 rfl (lv_at hl 0 rfl) ?_
        refine zald_P (a := (a 1)) (v := (a (10 + i))) C hw hX.2.2.2.2.2.2.1 (by decide) (t0 := 3) rfl rfl hX.2.2.2.2.2.2.2.1 (vp_in_nI (by omega) (by decide)) hwi9.1 dX7_flips_19 ?_
        refine g_Wire_count (a := (a (10 + i))) (v := (nI (N i))) C hw hwi9.2.1 in_X6 (by decide +kernel) (hWv i hi4).2.1.1 dX7_flips_20 ?_
        refine lv_iadd hx hb dX7_flips_23 ?_
        refine zrd (x := (nI (zsm4 N (i + 1)))) (nI_add _ _) ?_
        refine lv_istore_n (lv' := [(1, .int (nI (zsm4 N (i + 1)))), (2, .int (nI i)), (0, .ref (a 0))]) hx hb dX7_flips_24 rfl hl (by decide) rfl (fun ls hl => ?_)
        refine lv_iinc (v := (nI (i + 1))) (lv' := [(2, .int (nI (i + 1))), (1, .int (nI (zsm4 N (i + 1)))), (0, .ref (a 0))]) hx hb dX7_flips_25 hl (k := 1) rfl (nI_1 _) (by decide) rfl (fun ls hl => ?_)
        refine lv_goto (tgt := 4) hx hb dX7_flips_28 (by decide) ?_
        exact ih_1 (i + 1) _ _ _ (by omega) (by omega) hw (lv_sub hl [0, 1, 2] rfl)
  exact lp_2 _ 0 _ _ _ (Nat.lt_succ_self _) (Nat.zero_le _) hw (lv_sub hl [0, 1, 2] rfl)

set_option maxHeartbeats 4000000 in
set_option maxRecDepth 100000 in
/-- X7_isSound -/
theorem c_X7_isSound_g (l : Launch) (D : va_G) (y : Nat → ClassId) (base : Nat) (S : zS) (a : Nat → Nat) (mq : Nat → Nat) (M : Nat → Nat → Nat → Bool) (L : List zNt) (hX : zX S a) (hNts : zNts S (a 4) (a 60) (a 61) (a 62) (a 63) (a 64)) (hDs : zDs a) (hM : ∀ i, i < 2 → zCp S (a (40 + i)) (a (50 + i)) (mq i) (M i)) (hNo : zNo S (a 4) (a 60) (a 61) (a 62) (a 63) (a 64)  L) (hbe : ∀ j, j < L.length → zR S 22 (a 61) j ≤ zR S 22 (a 62) j) (hbb : ∀ j, j + 1 < L.length → zR S 22 (a 61) j ≤ zR S 22 (a 61) (j + 1)) : zMi l yX7_isSound wsX7_isSound ({ frames := 6, cells := 0, slots := 0, locals := 138 }) [.ref (a 0)] D y base S (fun (r : Int32) (S1 : zS) => r = 1 ∧ S1 = S) 0 0 := by
  refine zMet_of (cc := cX7_isSound) (maxL := 3) (ret := (some .boolean)) (own := RX7) (by decide +kernel) rfl rfl (Nat.le_of_ble_eq_true rfl) ?_
  intro p e s m args below meth c ls C hr hlocks hnm hw hl
  have hx := C.1
  have hb := C.2.1
  have hown := C.2.2.2.1
  have hts := C.2.2.2.2
  have hl : lv_has ls 3 [(0, .ref (a 0))] := hl
  have in_X7 : ∀ w ∈ wsX70, w ∈ wsX7_isSound := by decide +kernel
  refine lv_iconst (v := 0) hx hb dX7_isSound_0 (by decide) ?_
  refine lv_istore_n (lv' := [(1, .int 0), (0, .ref (a 0))]) hx hb dX7_isSound_1 rfl hl (by decide) rfl (fun ls hl => ?_)
  have lp_2 : ∀ (n9 : Nat) (i : Nat) (H : Heap) (locs : List Loc) (ls : Array Slot), 3 - i < n9 → (i ≤ 2) → zW D y base S s H locs → lv_has ls 3 [(1, .int (nI i)), (0, .ref (a 0))] → W p l e (headSpec wsX7_isSound ({ frames := 6, cells := 0, slots := 0, locals := 138 })).room s m args below meth c H locs 0 0 (MQ below (va_Qi (fun (r : Int32) (S1 : zS) => r = 1 ∧ S1 = S) (zPost D y base) (zA base)) args s 0 0 (zA base)) (F0 m 2 ls []) := by
    intro n9
    induction n9 with
    | zero =>
      intro i H locs ls hn9
      exact absurd hn9 (Nat.not_lt_zero _)
    | succ n9 ih_1 =>
      intro i H locs ls hn9 hi hw hl
      refine lv_iload_n hx hb dX7_isSound_2 rfl (lv_at hl 0 rfl) ?_
      refine lv_aload_n hx hb dX7_isSound_3 rfl (lv_at hl 1 rfl) ?_
      refine g_Ph_captures (a := (a 0)) (v := (a 2)) C hw hX.1 in_X7 (by decide +kernel) hX.2.2.1 dX7_isSound_4 ?_
      refine zalen (a := (a 2)) (v := 2) C hw hX.2.2.2.2.2.2.2.2.1 (by decide) (t0 := 2) rfl (zlen hX.2.2.2.2.2.2.2.2.2.1 rfl) dX7_isSound_7 ?_
      refine lv_icmp_ge (tgt := 58) hx hb dX7_isSound_8 (by decide) (fun c8 => ?_) (fun c8 => ?_)
      · refine lv_aload_n hx hb dX7_isSound_58 rfl (lv_at hl 1 rfl) ?_
        refine g_Ph_told (a := (a 0)) (v := (a 4)) C hw hX.1 in_X7 (by decide +kernel) hX.2.2.2.2.1 dX7_isSound_59 ?_
        refine zcV_i (As := []) (rest := []) (n9 := 0) (b := (a 4)) C hw (c_X3_areInOrder_g l D y base S (a 4) (a 60) (a 61) (a 62) (a 63) (a 64) L hNts hNo hbe hbb) gX7_isSound_X3_areInOrder rfl (by decide +kernel) ⟨⟨rfl, rfl⟩, Nat.le_of_ble_eq_true rfl, Nat.le_of_ble_eq_true rfl⟩ hNts.1 ⟨by decide, by decide⟩ rfl rfl hl.1 rfl (Nat.le_of_ble_eq_true rfl) ⟨Nat.le_of_ble_eq_true rfl, Nat.le_of_ble_eq_true rfl⟩ dX7_isSound_62 (fun r62 S62 H locs hp62 hw => ?_)
        obtain ⟨rfl, hS9⟩ := hp62
        have hS9 := hS9.symm
        subst hS9
        exact zri C hw hr hlocks (by decide) ⟨rfl, rfl⟩ ⟨Nat.le_of_ble_eq_true rfl, Nat.le_of_ble_eq_true rfl⟩ dX7_isSound_65
      · refine lv_iconst (v := 0) hx hb dX7_isSound_11 (by decide) ?_
        refine lv_istore_n (lv' := [(2, .int 0), (1, .int (nI i)), (0, .ref (a 0))]) hx hb dX7_isSound_12 rfl hl (by decide) rfl (fun ls hl => ?_)
        have lp_4 : ∀ (n9 : Nat) (w : Nat) (H : Heap) (locs : List Loc) (ls : Array Slot), 5 - w < n9 → (w ≤ 4) → zW D y base S s H locs → lv_has ls 3 [(2, .int (nI w)), (1, .int (nI i)), (0, .ref (a 0))] → W p l e (headSpec wsX7_isSound ({ frames := 6, cells := 0, slots := 0, locals := 138 })).room s m args below meth c H locs 0 0 (MQ below (va_Qi (fun (r : Int32) (S1 : zS) => r = 1 ∧ S1 = S) (zPost D y base) (zA base)) args s 0 0 (zA base)) (F0 m 13 ls []) := by
          intro n9
          induction n9 with
          | zero =>
            intro w H locs ls hn9
            exact absurd hn9 (Nat.not_lt_zero _)
          | succ n9 ih_3 =>
            intro w H locs ls hn9 hw9 hw hl
            refine lv_iload_n hx hb dX7_isSound_13 rfl (lv_at hl 0 rfl) ?_
            refine lv_iconst (v := 4) hx hb dX7_isSound_14 (by decide) ?_
            refine lv_icmp_ge (tgt := 52) hx hb dX7_isSound_15 (by decide) (fun c15 => ?_) (fun c15 => ?_)
            · refine lv_iinc (v := (nI (i + 1))) (lv' := [(1, .int (nI (i + 1))), (2, .int (nI w)), (0, .ref (a 0))]) hx hb dX7_isSound_52 hl (k := 1) rfl (nI_1 _) (by decide) rfl (fun ls hl => ?_)
              refine lv_goto (tgt := 2) hx hb dX7_isSound_55 (by decide) ?_
              exact ih_1 (i + 1) _ _ _ (by have := z_lt (n := 2) c8 (by omega) (by omega); omega) (by have := z_lt (n := 2) c8 (by omega) (by omega); omega) hw (lv_sub hl [0, 2] rfl)
            · have hi2 := z_lt (n := 2) c8 (by omega) (by omega)
              have hw4 := z_lt (n := 4) c15 (by omega) (by omega)
              have hci := zX.ci hX hi2
              refine lv_aload_n hx hb dX7_isSound_18 rfl (lv_at hl 2 rfl) ?_
              refine g_Ph_captures (a := (a 0)) (v := (a 2)) C hw hX.1 in_X7 (by decide +kernel) hX.2.2.1 dX7_isSound_19 ?_
              refine lv_iload_n hx hb dX7_isSound_22 rfl (lv_at hl 1 rfl) ?_
              refine zald_P (a := (a 2)) (v := (a (40 + i))) C hw hX.2.2.2.2.2.2.2.2.1 (by decide) (t0 := 2) rfl rfl hX.2.2.2.2.2.2.2.2.2.1 (vp_in_nI (by omega) (by decide)) hci.1 dX7_isSound_23 ?_
              refine lv_iload_n hx hb dX7_isSound_24 rfl (lv_at hl 0 rfl) ?_
              refine zcV_i (As := [.int (nI w)]) (rest := []) (n9 := 1) (b := (a (40 + i))) C hw (c_X0_areRunsWhole_g l D y base S (a (40 + i)) (a (50 + i)) (mq i) (M i) w hci.2 (hM i hi2) hw4) gX7_isSound_X0_areRunsWhole rfl (by decide +kernel) ⟨⟨rfl, rfl⟩, Nat.le_of_ble_eq_true rfl, Nat.le_of_ble_eq_true rfl⟩ hci.2.1 ⟨by decide, by decide⟩ rfl rfl hl.1 rfl (Nat.le_of_ble_eq_true rfl) ⟨Nat.le_of_ble_eq_true rfl, Nat.le_of_ble_eq_true rfl⟩ dX7_isSound_25 (fun r25 S25 H locs hp25 hw => ?_)
              obtain ⟨rfl, hS9⟩ := hp25
              have hS9 := hS9.symm
              subst hS9
              refine lv_if_eq (tgt := 44) hx hb dX7_isSound_28 (by decide) (fun c28 => absurd c28 (by decide)) (fun _ => ?_)
              refine lv_aload_n hx hb dX7_isSound_31 rfl (lv_at hl 2 rfl) ?_
              refine g_Ph_captures (a := (a 0)) (v := (a 2)) C hw hX.1 in_X7 (by decide +kernel) hX.2.2.1 dX7_isSound_32 ?_
              refine lv_iload_n hx hb dX7_isSound_35 rfl (lv_at hl 1 rfl) ?_
              refine zald_P (a := (a 2)) (v := (a (40 + i))) C hw hX.2.2.2.2.2.2.2.2.1 (by decide) (t0 := 2) rfl rfl hX.2.2.2.2.2.2.2.2.2.1 (vp_in_nI (by omega) (by decide)) hci.1 dX7_isSound_36 ?_
              refine lv_iload_n hx hb dX7_isSound_37 rfl (lv_at hl 0 rfl) ?_
              refine zcV_i (As := [.int (nI w)]) (rest := []) (n9 := 1) (b := (a (40 + i))) C hw (c_X0_areChangesSeen_g l D y base S (a (40 + i)) (a (50 + i)) (mq i) (M i) w hci.2 (hM i hi2) hw4) gX7_isSound_X0_areChangesSeen rfl (by decide +kernel) ⟨⟨rfl, rfl⟩, Nat.le_of_ble_eq_true rfl, Nat.le_of_ble_eq_true rfl⟩ hci.2.1 ⟨by decide, by decide⟩ rfl rfl hl.1 rfl (Nat.le_of_ble_eq_true rfl) ⟨Nat.le_of_ble_eq_true rfl, Nat.le_of_ble_eq_true rfl⟩ dX7_isSound_38 (fun r38 S38 H locs hp38 hw => ?_)
              obtain ⟨rfl, hS9⟩ := hp38
              have hS9 := hS9.symm
              subst hS9
              refine lv_if_ne (tgt := 46) hx hb dX7_isSound_41 (by decide) (fun _ => ?_) (fun c41 => absurd c41 (by decide))
              refine lv_iinc (v := (nI (w + 1))) (lv' := [(2, .int (nI (w + 1))), (1, .int (nI i)), (0, .ref (a 0))]) hx hb dX7_isSound_46 hl (k := 0) rfl (nI_1 _) (by decide) rfl (fun ls hl => ?_)
              refine lv_goto (tgt := 13) hx hb dX7_isSound_49 (by decide) ?_
              exact ih_3 (w + 1) _ _ _ (by omega) (by omega) hw (lv_sub hl [0, 1, 2] rfl)
        exact lp_4 _ 0 _ _ _ (Nat.lt_succ_self _) (Nat.zero_le _) hw (lv_sub hl [0, 1, 2] rfl)
  exact lp_2 _ 0 _ _ _ (Nat.lt_succ_self _) (Nat.zero_le _) hw (lv_sub hl [0, 1] rfl)

