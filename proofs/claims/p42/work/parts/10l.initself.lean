set_option maxHeartbeats 4000000 in
set_option maxRecDepth 100000 in
/-- X7_init -/
theorem c_X7_init (l : Launch) (D : va_G) (y : Nat → ClassId) (base : Nat) (S : zS) (x : Nat) (hk : zK S x = 11) (hz : ∀ t, zI S t x = 0) : zMv l yX7_init wsX7_init ({ frames := 2, cells := 30, slots := 5623, locals := 32 }) [.ref x] D y base S (fun (S1 : zS) => ∃ a : Nat → Nat, a 0 = x ∧ zX S1 a ∧ zX0 S1 a ∧ zGv S S1 x) 30 5623 := by
  refine zMet_of (cc := cX7_init) (maxL := 2) (ret := none) (own := RX7) (by decide +kernel) rfl rfl (Nat.le_of_ble_eq_true rfl) ?_
  intro p e s m args below meth c ls C hr hlocks hnm hw hl
  have hx := C.1
  have hb := C.2.1
  have hown := C.2.2.2.1
  have hts := C.2.2.2.2
  have hl : lv_has ls 2 [(0, .ref x)] := hl
  have in_X0 : ∀ w ∈ wsX00, w ∈ wsX7_init := by decide +kernel
  have in_X1 : ∀ w ∈ wsX10, w ∈ wsX7_init := by decide +kernel
  have in_X3 : ∀ w ∈ wsX30, w ∈ wsX7_init := by decide +kernel
  have in_X4 : ∀ w ∈ wsX40, w ∈ wsX7_init := by decide +kernel
  have in_X6 : ∀ w ∈ wsX60, w ∈ wsX7_init := by decide +kernel
  have in_X7 : ∀ w ∈ wsX70, w ∈ wsX7_init := by decide +kernel
  refine lv_aload_n hx hb dX7_init_0 rfl (lv_at hl 0 rfl) ?_
  refine W.objInit hx hb hown (hts (.methodLink RX7 1 objectInit) (by decide +kernel)) (hts (.instanceMethod objectInit) (by decide +kernel)) (hts (.code objectInit ⟨#[0xb1]⟩ 1 none) (by decide +kernel)) rfl (by rw [C.2.2.1]; exact hl.1) rfl dX7_init_1 (Nat.le_of_ble_eq_true rfl) (Nat.le_of_ble_eq_true rfl) ?_
  refine W.eq (g2 := F0 m 4 ls []) rfl ?_
  refine lv_aload_n hx hb dX7_init_4 rfl (lv_at hl 0 rfl) ?_
  refine lv_iconst (v := 4) hx hb dX7_init_5 (by decide) ?_
  refine znewP (k := 32) (t0 := 3) (Cn := RX6) (N := 4) C hw (by decide) rfl (by decide +kernel) (by decide +kernel) (by decide) (by decide) (Nat.le_of_ble_eq_true rfl) (Nat.le_of_ble_eq_true rfl) (Nat.le_of_ble_eq_true rfl) dX7_init_6 (fun q6 H kq6 hw => ?_)
  refine p_Ph_wires (a := x) (v := q6) C hw (zK_nP (k := 32) (n := 4) (f := fun _ => none) (zne kq6 (fun e9 => absurd (Eq.trans (Eq.symm hk) e9) (by decide))) hk) in_X7 (by decide +kernel) hnm rfl dX7_init_9 (fun H locs hw => ?_)
  refine lv_iconst (v := 0) hx hb dX7_init_12 (by decide) ?_
  refine lv_istore_n (lv' := [(1, .int 0), (0, .ref x)]) hx hb dX7_init_13 rfl hl (by decide) rfl (fun ls hl => ?_)
  have hB : zB1 S (zsQ (znP S q6 32 4 (fun _ => none)) 176 x (some q6)) x q6 (fun _ => 0) 0 := ⟨(zGv.nP kq6).tr zGv.Q, (fun _ => rfl), (zK_nP (k := 32) (n := 4) (f := fun _ => none) (zne kq6 (fun e9 => absurd (Eq.trans (Eq.symm hk) e9) (by decide))) hk), (zQ_s (znP S q6 32 4 (fun _ => none)) 176 x (some q6)), (zK_nPs S q6 32 4 (fun _ => none)), (zN_nPs S q6 32 4 (fun _ => none)), (fun j h => absurd h (Nat.not_lt_zero j)), (fun j _ h => absurd h (Nat.not_lt_zero j))⟩
  generalize hSS : (zsQ (znP S q6 32 4 (fun _ => none)) 176 x (some q6)) = S2 at hw hB
  refine lv_iload_n hx hb dX7_init_14 rfl (lv_at hl 0 rfl) ?_
  refine lv_aload_n hx hb dX7_init_15 rfl (lv_at hl 1 rfl) ?_
  refine g_Ph_wires (a := x) (v := q6) C hw hB.2.2.1 in_X7 (by decide +kernel) hB.2.2.2.1 dX7_init_16 ?_
  refine zalen (a := q6) (v := 4) C hw hB.2.2.2.2.1 (by decide) (t0 := 3) rfl (zlen hB.2.2.2.2.2.1 rfl) dX7_init_19 ?_
  refine lv_icmp_ge (tgt := 42) hx hb dX7_init_20 (by decide) (fun c20 => absurd c20 (by decide)) (fun _ => ?_)
  refine lv_aload_n hx hb dX7_init_23 rfl (lv_at hl 1 rfl) ?_
  refine g_Ph_wires (a := x) (v := q6) C hw hB.2.2.1 in_X7 (by decide +kernel) hB.2.2.2.1 dX7_init_24 ?_
  refine lv_iload_n hx hb dX7_init_27 rfl (lv_at hl 0 rfl) ?_
  refine znew (k := 10) (Cn := RX6) (T := TX6) (N := 6) C hw (by decide) (by decide) rfl in_X6 tyX6 tyX6_ok (by decide +kernel) (by decide +kernel) (by decide +kernel) (zdfX6) (Nat.le_of_ble_eq_true rfl) (Nat.le_of_ble_eq_true rfl) dX7_init_28 (fun q28 H kq28 hw => ?_)
  refine lv_dup hx hb dX7_init_31 rfl ?_
  refine zcI_v (As := []) (rest := [.ref q28, .int 0, .ref q6]) (n9 := 0) (b := q28) C hw (c_X6_init l D y base (znO S2 q28 10) q28 (zK_nOs _ _ _)) gX7_init_X6_init rfl (by decide +kernel) (by decide +kernel) (by decide +kernel) rfl (by decide +kernel) ⟨⟨rfl, rfl⟩, Nat.le_of_ble_eq_true rfl, Nat.le_of_ble_eq_true rfl⟩ rfl hl.1 rfl (Nat.le_of_ble_eq_true rfl) ⟨Nat.le_of_ble_eq_true rfl, Nat.le_of_ble_eq_true rfl⟩ dX7_init_32 (fun S32 H locs hp32 hw => ?_)
  obtain ⟨tk, sn, hV, hV0, hV1, hV2, hV3⟩ := hp32
  have hG : zGv S2 S32 q28 := (zGv.nO (k := 10) kq28).tr hV3
  have g6 := hG.same kq28 hB.2.2.2.2.1 (by decide)
  refine zast_P (a := q6) (k := 32) (kv := 10) (t0 := 3) (n := 4) (r := (RX6, TX6, 6)) C hw g6.1 (by decide) rfl hV.1 ⟨by decide, by decide⟩ rfl (g6.2.2.1.trans hB.2.2.2.2.2.1) (zin_of (N := 4) (by decide) (by decide) (by decide)) dX7_init_35 (fun H locs hw => ?_)
  refine lv_iinc (v := 1) (lv' := [(1, .int 1), (0, .ref x)]) hx hb dX7_init_36 hl (k := 0) rfl (by decide) (by decide) rfl (fun ls hl => ?_)
  refine lv_goto (tgt := 14) hx hb dX7_init_39 (by decide) ?_
  have hB := hB.step (by decide) kq6 kq28 hV hV0 hV1 hV2 hV3
  have hw : zW D y base (zsP S32 q6 (va_up (zP S32 q6) 0 (some q28))) s _ _ := hw
  generalize hSS : (zsP S32 q6 (va_up (zP S32 q6) 0 (some q28))) = S2 at hw hB
  refine lv_iload_n hx hb dX7_init_14 rfl (lv_at hl 0 rfl) ?_
  refine lv_aload_n hx hb dX7_init_15 rfl (lv_at hl 1 rfl) ?_
  refine g_Ph_wires (a := x) (v := q6) C hw hB.2.2.1 in_X7 (by decide +kernel) hB.2.2.2.1 dX7_init_16 ?_
  refine zalen (a := q6) (v := 4) C hw hB.2.2.2.2.1 (by decide) (t0 := 3) rfl (zlen hB.2.2.2.2.2.1 rfl) dX7_init_19 ?_
  refine lv_icmp_ge (tgt := 42) hx hb dX7_init_20 (by decide) (fun c20 => absurd c20 (by decide)) (fun _ => ?_)
  refine lv_aload_n hx hb dX7_init_23 rfl (lv_at hl 1 rfl) ?_
  refine g_Ph_wires (a := x) (v := q6) C hw hB.2.2.1 in_X7 (by decide +kernel) hB.2.2.2.1 dX7_init_24 ?_
  refine lv_iload_n hx hb dX7_init_27 rfl (lv_at hl 0 rfl) ?_
  refine znew (k := 10) (Cn := RX6) (T := TX6) (N := 6) C hw (by decide) (by decide) rfl in_X6 tyX6 tyX6_ok (by decide +kernel) (by decide +kernel) (by decide +kernel) (zdfX6) (Nat.le_of_ble_eq_true rfl) (Nat.le_of_ble_eq_true rfl) dX7_init_28 (fun q28 H kq28 hw => ?_)
  refine lv_dup hx hb dX7_init_31 rfl ?_
  refine zcI_v (As := []) (rest := [.ref q28, .int 1, .ref q6]) (n9 := 0) (b := q28) C hw (c_X6_init l D y base (znO S2 q28 10) q28 (zK_nOs _ _ _)) gX7_init_X6_init rfl (by decide +kernel) (by decide +kernel) (by decide +kernel) rfl (by decide +kernel) ⟨⟨rfl, rfl⟩, Nat.le_of_ble_eq_true rfl, Nat.le_of_ble_eq_true rfl⟩ rfl hl.1 rfl (Nat.le_of_ble_eq_true rfl) ⟨Nat.le_of_ble_eq_true rfl, Nat.le_of_ble_eq_true rfl⟩ dX7_init_32 (fun S32 H locs hp32 hw => ?_)
  obtain ⟨tk, sn, hV, hV0, hV1, hV2, hV3⟩ := hp32
  have hG : zGv S2 S32 q28 := (zGv.nO (k := 10) kq28).tr hV3
  have g6 := hG.same kq28 hB.2.2.2.2.1 (by decide)
  refine zast_P (a := q6) (k := 32) (kv := 10) (t0 := 3) (n := 4) (r := (RX6, TX6, 6)) C hw g6.1 (by decide) rfl hV.1 ⟨by decide, by decide⟩ rfl (g6.2.2.1.trans hB.2.2.2.2.2.1) (zin_of (N := 4) (by decide) (by decide) (by decide)) dX7_init_35 (fun H locs hw => ?_)
  refine lv_iinc (v := 2) (lv' := [(1, .int 2), (0, .ref x)]) hx hb dX7_init_36 hl (k := 0) rfl (by decide) (by decide) rfl (fun ls hl => ?_)
  refine lv_goto (tgt := 14) hx hb dX7_init_39 (by decide) ?_
  have hB := hB.step (by decide) kq6 kq28 hV hV0 hV1 hV2 hV3
  have hw : zW D y base (zsP S32 q6 (va_up (zP S32 q6) 1 (some q28))) s _ _ := hw
  generalize hSS : (zsP S32 q6 (va_up (zP S32 q6) 1 (some q28))) = S2 at hw hB
  refine lv_iload_n hx hb dX7_init_14 rfl (lv_at hl 0 rfl) ?_
  refine lv_aload_n hx hb dX7_init_15 rfl (lv_at hl 1 rfl) ?_
  refine g_Ph_wires (a := x) (v := q6) C hw hB.2.2.1 in_X7 (by decide +kernel) hB.2.2.2.1 dX7_init_16 ?_
  refine zalen (a := q6) (v := 4) C hw hB.2.2.2.2.1 (by decide) (t0 := 3) rfl (zlen hB.2.2.2.2.2.1 rfl) dX7_init_19 ?_
  refine lv_icmp_ge (tgt := 42) hx hb dX7_init_20 (by decide) (fun c20 => absurd c20 (by decide)) (fun _ => ?_)
  refine lv_aload_n hx hb dX7_init_23 rfl (lv_at hl 1 rfl) ?_
  refine g_Ph_wires (a := x) (v := q6) C hw hB.2.2.1 in_X7 (by decide +kernel) hB.2.2.2.1 dX7_init_24 ?_
  refine lv_iload_n hx hb dX7_init_27 rfl (lv_at hl 0 rfl) ?_
  refine znew (k := 10) (Cn := RX6) (T := TX6) (N := 6) C hw (by decide) (by decide) rfl in_X6 tyX6 tyX6_ok (by decide +kernel) (by decide +kernel) (by decide +kernel) (zdfX6) (Nat.le_of_ble_eq_true rfl) (Nat.le_of_ble_eq_true rfl) dX7_init_28 (fun q28 H kq28 hw => ?_)
  refine lv_dup hx hb dX7_init_31 rfl ?_
  refine zcI_v (As := []) (rest := [.ref q28, .int 2, .ref q6]) (n9 := 0) (b := q28) C hw (c_X6_init l D y base (znO S2 q28 10) q28 (zK_nOs _ _ _)) gX7_init_X6_init rfl (by decide +kernel) (by decide +kernel) (by decide +kernel) rfl (by decide +kernel) ⟨⟨rfl, rfl⟩, Nat.le_of_ble_eq_true rfl, Nat.le_of_ble_eq_true rfl⟩ rfl hl.1 rfl (Nat.le_of_ble_eq_true rfl) ⟨Nat.le_of_ble_eq_true rfl, Nat.le_of_ble_eq_true rfl⟩ dX7_init_32 (fun S32 H locs hp32 hw => ?_)
  obtain ⟨tk, sn, hV, hV0, hV1, hV2, hV3⟩ := hp32
  have hG : zGv S2 S32 q28 := (zGv.nO (k := 10) kq28).tr hV3
  have g6 := hG.same kq28 hB.2.2.2.2.1 (by decide)
  refine zast_P (a := q6) (k := 32) (kv := 10) (t0 := 3) (n := 4) (r := (RX6, TX6, 6)) C hw g6.1 (by decide) rfl hV.1 ⟨by decide, by decide⟩ rfl (g6.2.2.1.trans hB.2.2.2.2.2.1) (zin_of (N := 4) (by decide) (by decide) (by decide)) dX7_init_35 (fun H locs hw => ?_)
  refine lv_iinc (v := 3) (lv' := [(1, .int 3), (0, .ref x)]) hx hb dX7_init_36 hl (k := 0) rfl (by decide) (by decide) rfl (fun ls hl => ?_)
  refine lv_goto (tgt := 14) hx hb dX7_init_39 (by decide) ?_
  have hB := hB.step (by decide) kq6 kq28 hV hV0 hV1 hV2 hV3
  have hw : zW D y base (zsP S32 q6 (va_up (zP S32 q6) 2 (some q28))) s _ _ := hw
  generalize hSS : (zsP S32 q6 (va_up (zP S32 q6) 2 (some q28))) = S2 at hw hB
  refine lv_iload_n hx hb dX7_init_14 rfl (lv_at hl 0 rfl) ?_
  refine lv_aload_n hx hb dX7_init_15 rfl (lv_at hl 1 rfl) ?_
  refine g_Ph_wires (a := x) (v := q6) C hw hB.2.2.1 in_X7 (by decide +kernel) hB.2.2.2.1 dX7_init_16 ?_
  refine zalen (a := q6) (v := 4) C hw hB.2.2.2.2.1 (by decide) (t0 := 3) rfl (zlen hB.2.2.2.2.2.1 rfl) dX7_init_19 ?_
  refine lv_icmp_ge (tgt := 42) hx hb dX7_init_20 (by decide) (fun c20 => absurd c20 (by decide)) (fun _ => ?_)
  refine lv_aload_n hx hb dX7_init_23 rfl (lv_at hl 1 rfl) ?_
  refine g_Ph_wires (a := x) (v := q6) C hw hB.2.2.1 in_X7 (by decide +kernel) hB.2.2.2.1 dX7_init_24 ?_
  refine lv_iload_n hx hb dX7_init_27 rfl (lv_at hl 0 rfl) ?_
  refine znew (k := 10) (Cn := RX6) (T := TX6) (N := 6) C hw (by decide) (by decide) rfl in_X6 tyX6 tyX6_ok (by decide +kernel) (by decide +kernel) (by decide +kernel) (zdfX6) (Nat.le_of_ble_eq_true rfl) (Nat.le_of_ble_eq_true rfl) dX7_init_28 (fun q28 H kq28 hw => ?_)
  refine lv_dup hx hb dX7_init_31 rfl ?_
  refine zcI_v (As := []) (rest := [.ref q28, .int 3, .ref q6]) (n9 := 0) (b := q28) C hw (c_X6_init l D y base (znO S2 q28 10) q28 (zK_nOs _ _ _)) gX7_init_X6_init rfl (by decide +kernel) (by decide +kernel) (by decide +kernel) rfl (by decide +kernel) ⟨⟨rfl, rfl⟩, Nat.le_of_ble_eq_true rfl, Nat.le_of_ble_eq_true rfl⟩ rfl hl.1 rfl (Nat.le_of_ble_eq_true rfl) ⟨Nat.le_of_ble_eq_true rfl, Nat.le_of_ble_eq_true rfl⟩ dX7_init_32 (fun S32 H locs hp32 hw => ?_)
  obtain ⟨tk, sn, hV, hV0, hV1, hV2, hV3⟩ := hp32
  have hG : zGv S2 S32 q28 := (zGv.nO (k := 10) kq28).tr hV3
  have g6 := hG.same kq28 hB.2.2.2.2.1 (by decide)
  refine zast_P (a := q6) (k := 32) (kv := 10) (t0 := 3) (n := 4) (r := (RX6, TX6, 6)) C hw g6.1 (by decide) rfl hV.1 ⟨by decide, by decide⟩ rfl (g6.2.2.1.trans hB.2.2.2.2.2.1) (zin_of (N := 4) (by decide) (by decide) (by decide)) dX7_init_35 (fun H locs hw => ?_)
  refine lv_iinc (v := 4) (lv' := [(1, .int 4), (0, .ref x)]) hx hb dX7_init_36 hl (k := 0) rfl (by decide) (by decide) rfl (fun ls hl => ?_)
  refine lv_goto (tgt := 14) hx hb dX7_init_39 (by decide) ?_
  have hB := hB.step (by decide) kq6 kq28 hV hV0 hV1 hV2 hV3
  have hw : zW D y base (zsP S32 q6 (va_up (zP S32 q6) 3 (some q28))) s _ _ := hw
  generalize hSS : (zsP S32 q6 (va_up (zP S32 q6) 3 (some q28))) = S2 at hw hB
  refine lv_iload_n hx hb dX7_init_14 rfl (lv_at hl 0 rfl) ?_
  refine lv_aload_n hx hb dX7_init_15 rfl (lv_at hl 1 rfl) ?_
  refine g_Ph_wires (a := x) (v := q6) C hw hB.2.2.1 in_X7 (by decide +kernel) hB.2.2.2.1 dX7_init_16 ?_
  refine zalen (a := q6) (v := 4) C hw hB.2.2.2.2.1 (by decide) (t0 := 3) rfl (zlen hB.2.2.2.2.2.1 rfl) dX7_init_19 ?_
  refine lv_icmp_ge (tgt := 42) hx hb dX7_init_20 (by decide) (fun _ => ?_) (fun c20 => absurd c20 (by decide))
  obtain ⟨f, hB⟩ : ∃ f, zB1 S S2 x q6 f 4 := ⟨_, hB⟩
  refine lv_aload_n hx hb dX7_init_42 rfl (lv_at hl 1 rfl) ?_
  refine lv_iconst (v := 2) hx hb dX7_init_43 (by decide) ?_
  refine znewP (k := 31) (t0 := 2) (Cn := RX0) (N := 2) C hw (by decide) rfl (by decide +kernel) (by decide +kernel) (by decide) (by decide) (Nat.le_of_ble_eq_true rfl) (Nat.le_of_ble_eq_true rfl) (Nat.le_of_ble_eq_true rfl) dX7_init_44 (fun q44 H kq44 hw => ?_)
  refine p_Ph_captures (a := x) (v := q44) C hw (zK_nP (k := 31) (n := 2) (f := fun _ => none) (zne kq44 (fun e9 => absurd (Eq.trans (Eq.symm hB.2.2.1) e9) (by decide))) hB.2.2.1) in_X7 (by decide +kernel) hnm rfl dX7_init_47 (fun H locs hw => ?_)
  refine lv_iconst (v := 0) hx hb dX7_init_50 (by decide) ?_
  refine lv_istore_n (lv' := [(1, .int 0), (0, .ref x)]) hx hb dX7_init_51 rfl hl (by decide) rfl (fun ls hl => ?_)
  have hB2 : zB2 S S2 (zsQ (znP S2 q44 31 2 (fun _ => none)) 177 x (some q44)) x q44 (fun _ => 0) 0 := ⟨hB.1.tr ((zGv.nP kq44).tr zGv.Q), (zGv.nP kq44).tr zGv.Q, (fun t => hB.2.1 t), (zK_nP (k := 31) (n := 2) (f := fun _ => none) (zne kq44 (fun e9 => absurd (Eq.trans (Eq.symm hB.2.2.1) e9) (by decide))) hB.2.2.1), ⟨zQ_t (by decide) rfl, (zQ_s (znP S2 q44 31 2 (fun _ => none)) 177 x (some q44))⟩, (zK_nPs S2 q44 31 2 (fun _ => none)), (zN_nPs S2 q44 31 2 (fun _ => none)), (fun j h => absurd h (Nat.not_lt_zero j))⟩
  generalize hSS : (zsQ (znP S2 q44 31 2 (fun _ => none)) 177 x (some q44)) = S3 at hw hB2
  refine lv_iload_n hx hb dX7_init_52 rfl (lv_at hl 0 rfl) ?_
  refine lv_aload_n hx hb dX7_init_53 rfl (lv_at hl 1 rfl) ?_
  refine g_Ph_captures (a := x) (v := q44) C hw hB2.2.2.2.1 in_X7 (by decide +kernel) hB2.2.2.2.2.1.2 dX7_init_54 ?_
  refine zalen (a := q44) (v := 2) C hw hB2.2.2.2.2.2.1 (by decide) (t0 := 2) rfl (zlen hB2.2.2.2.2.2.2.1 rfl) dX7_init_57 ?_
  refine lv_icmp_ge (tgt := 80) hx hb dX7_init_58 (by decide) (fun c58 => absurd c58 (by decide)) (fun _ => ?_)
  refine lv_aload_n hx hb dX7_init_61 rfl (lv_at hl 1 rfl) ?_
  refine g_Ph_captures (a := x) (v := q44) C hw hB2.2.2.2.1 in_X7 (by decide +kernel) hB2.2.2.2.2.1.2 dX7_init_62 ?_
  refine lv_iload_n hx hb dX7_init_65 rfl (lv_at hl 0 rfl) ?_
  refine znew (k := 4) (Cn := RX0) (T := TX0) (N := 2) C hw (by decide) (by decide) rfl in_X0 tyX0 tyX0_ok (by decide +kernel) (by decide +kernel) (by decide +kernel) (zdfX0) (Nat.le_of_ble_eq_true rfl) (Nat.le_of_ble_eq_true rfl) dX7_init_66 (fun q66 H kq66 hw => ?_)
  refine lv_dup hx hb dX7_init_69 rfl ?_
  refine zcI_v (As := []) (rest := [.ref q66, .int 0, .ref q44]) (n9 := 0) (b := q66) C hw (c_X0_init l D y base (znO S3 q66 4) q66 (zK_nOs _ _ _)) gX7_init_X0_init rfl (by decide +kernel) (by decide +kernel) (by decide +kernel) rfl (by decide +kernel) ⟨⟨rfl, rfl⟩, Nat.le_of_ble_eq_true rfl, Nat.le_of_ble_eq_true rfl⟩ rfl hl.1 rfl (Nat.le_of_ble_eq_true rfl) ⟨Nat.le_of_ble_eq_true rfl, Nat.le_of_ble_eq_true rfl⟩ dX7_init_70 (fun S70 H locs hp70 hw => ?_)
  obtain ⟨lv, hV, hV0, hV1, hV3⟩ := hp70
  have hG : zGv S3 S70 q66 := (zGv.nO (k := 4) kq66).tr hV3
  have g6 := hG.same kq66 hB2.2.2.2.2.2.1 (by decide)
  refine zast_P (a := q44) (k := 31) (kv := 4) (t0 := 2) (n := 2) (r := (RX0, TX0, 2)) C hw g6.1 (by decide) rfl hV.1 ⟨by decide, by decide⟩ rfl (g6.2.2.1.trans hB2.2.2.2.2.2.2.1) (zin_of (N := 2) (by decide) (by decide) (by decide)) dX7_init_73 (fun H locs hw => ?_)
  refine lv_iinc (v := 1) (lv' := [(1, .int 1), (0, .ref x)]) hx hb dX7_init_74 hl (k := 0) rfl (by decide) (by decide) rfl (fun ls hl => ?_)
  refine lv_goto (tgt := 52) hx hb dX7_init_77 (by decide) ?_
  have hB2 := hB2.step (by decide) ⟨hB.1.k0 (by rw [hB.2.2.1]; decide) kq44, kq44⟩ kq66 hV hV0 hV1 hV3
  have hw : zW D y base (zsP S70 q44 (va_up (zP S70 q44) 0 (some q66))) s _ _ := hw
  generalize hSS : (zsP S70 q44 (va_up (zP S70 q44) 0 (some q66))) = S3 at hw hB2
  refine lv_iload_n hx hb dX7_init_52 rfl (lv_at hl 0 rfl) ?_
  refine lv_aload_n hx hb dX7_init_53 rfl (lv_at hl 1 rfl) ?_
  refine g_Ph_captures (a := x) (v := q44) C hw hB2.2.2.2.1 in_X7 (by decide +kernel) hB2.2.2.2.2.1.2 dX7_init_54 ?_
  refine zalen (a := q44) (v := 2) C hw hB2.2.2.2.2.2.1 (by decide) (t0 := 2) rfl (zlen hB2.2.2.2.2.2.2.1 rfl) dX7_init_57 ?_
  refine lv_icmp_ge (tgt := 80) hx hb dX7_init_58 (by decide) (fun c58 => absurd c58 (by decide)) (fun _ => ?_)
  refine lv_aload_n hx hb dX7_init_61 rfl (lv_at hl 1 rfl) ?_
  refine g_Ph_captures (a := x) (v := q44) C hw hB2.2.2.2.1 in_X7 (by decide +kernel) hB2.2.2.2.2.1.2 dX7_init_62 ?_
  refine lv_iload_n hx hb dX7_init_65 rfl (lv_at hl 0 rfl) ?_
  refine znew (k := 4) (Cn := RX0) (T := TX0) (N := 2) C hw (by decide) (by decide) rfl in_X0 tyX0 tyX0_ok (by decide +kernel) (by decide +kernel) (by decide +kernel) (zdfX0) (Nat.le_of_ble_eq_true rfl) (Nat.le_of_ble_eq_true rfl) dX7_init_66 (fun q66 H kq66 hw => ?_)
  refine lv_dup hx hb dX7_init_69 rfl ?_
  refine zcI_v (As := []) (rest := [.ref q66, .int 1, .ref q44]) (n9 := 0) (b := q66) C hw (c_X0_init l D y base (znO S3 q66 4) q66 (zK_nOs _ _ _)) gX7_init_X0_init rfl (by decide +kernel) (by decide +kernel) (by decide +kernel) rfl (by decide +kernel) ⟨⟨rfl, rfl⟩, Nat.le_of_ble_eq_true rfl, Nat.le_of_ble_eq_true rfl⟩ rfl hl.1 rfl (Nat.le_of_ble_eq_true rfl) ⟨Nat.le_of_ble_eq_true rfl, Nat.le_of_ble_eq_true rfl⟩ dX7_init_70 (fun S70 H locs hp70 hw => ?_)
  obtain ⟨lv, hV, hV0, hV1, hV3⟩ := hp70
  have hG : zGv S3 S70 q66 := (zGv.nO (k := 4) kq66).tr hV3
  have g6 := hG.same kq66 hB2.2.2.2.2.2.1 (by decide)
  refine zast_P (a := q44) (k := 31) (kv := 4) (t0 := 2) (n := 2) (r := (RX0, TX0, 2)) C hw g6.1 (by decide) rfl hV.1 ⟨by decide, by decide⟩ rfl (g6.2.2.1.trans hB2.2.2.2.2.2.2.1) (zin_of (N := 2) (by decide) (by decide) (by decide)) dX7_init_73 (fun H locs hw => ?_)
  refine lv_iinc (v := 2) (lv' := [(1, .int 2), (0, .ref x)]) hx hb dX7_init_74 hl (k := 0) rfl (by decide) (by decide) rfl (fun ls hl => ?_)
  refine lv_goto (tgt := 52) hx hb dX7_init_77 (by decide) ?_
  have hB2 := hB2.step (by decide) ⟨hB.1.k0 (by rw [hB.2.2.1]; decide) kq44, kq44⟩ kq66 hV hV0 hV1 hV3
  have hw : zW D y base (zsP S70 q44 (va_up (zP S70 q44) 1 (some q66))) s _ _ := hw
  generalize hSS : (zsP S70 q44 (va_up (zP S70 q44) 1 (some q66))) = S3 at hw hB2
  refine lv_iload_n hx hb dX7_init_52 rfl (lv_at hl 0 rfl) ?_
  refine lv_aload_n hx hb dX7_init_53 rfl (lv_at hl 1 rfl) ?_
  refine g_Ph_captures (a := x) (v := q44) C hw hB2.2.2.2.1 in_X7 (by decide +kernel) hB2.2.2.2.2.1.2 dX7_init_54 ?_
  refine zalen (a := q44) (v := 2) C hw hB2.2.2.2.2.2.1 (by decide) (t0 := 2) rfl (zlen hB2.2.2.2.2.2.2.1 rfl) dX7_init_57 ?_
  refine lv_icmp_ge (tgt := 80) hx hb dX7_init_58 (by decide) (fun _ => ?_) (fun c58 => absurd c58 (by decide))
  obtain ⟨g, hB2⟩ : ∃ g, zB2 S S2 S3 x q44 g 2 := ⟨_, hB2⟩
  have hz3 : ∀ t, zI S3 t x = 0 := fun t => (hB2.2.2.1 t).trans (hz t)
  refine lv_aload_n hx hb dX7_init_80 rfl (lv_at hl 1 rfl) ?_
  refine znew (k := 8) (Cn := RX4) (T := TX4) (N := 4) C hw (by decide) (by decide) rfl in_X4 tyX4 tyX4_ok (by decide +kernel) (by decide +kernel) (by decide +kernel) (zdfX4) (Nat.le_of_ble_eq_true rfl) (Nat.le_of_ble_eq_true rfl) dX7_init_81 (fun q81 H kq81 hw => ?_)
  refine lv_dup hx hb dX7_init_84 rfl ?_
  refine zcI_v (As := []) (rest := [.ref q81, .ref x]) (n9 := 0) (b := q81) C hw (c_X4_init l D y base (znO S3 q81 8) q81 (zK_nOs _ _ _)) gX7_init_X4_init rfl (by decide +kernel) (by decide +kernel) (by decide +kernel) rfl (by decide +kernel) ⟨⟨rfl, rfl⟩, Nat.le_of_ble_eq_true rfl, Nat.le_of_ble_eq_true rfl⟩ rfl hl.1 rfl (Nat.le_of_ble_eq_true rfl) ⟨Nat.le_of_ble_eq_true rfl, Nat.le_of_ble_eq_true rfl⟩ dX7_init_85 (fun S85 H locs hp85 hw => ?_)
  obtain ⟨⟨k9, n9w, m9, hT⟩, hT0, G85⟩ := hp85
  have gx85 := G85.at (zK_nO (k := 8) (zne kq81 (fun e9 => absurd (Eq.trans (Eq.symm hB2.2.2.2.1) e9) (by decide))) hB2.2.2.2.1) (by decide) (by rw [zK_nOs]; decide)
  have z85 : ∀ t, zI S85 t x = 0 := fun t => (gx85.2.1 t).1.trans ((zI_nO (zne kq81 (fun e9 => absurd (Eq.trans (Eq.symm hB2.2.2.2.1) e9) (by decide))) rfl).trans (hz3 t))
  refine p_Ph_program (a := x) (v := q81) C hw gx85.1 in_X7 (by decide +kernel) hnm rfl dX7_init_88 (fun H locs hw => ?_)
  refine lv_aload_n hx hb dX7_init_91 rfl (lv_at hl 1 rfl) ?_
  refine znew (k := 7) (Cn := RX3) (T := TX3) (N := 6) C hw (by decide) (by decide) rfl in_X3 tyX3 tyX3_ok (by decide +kernel) (by decide +kernel) (by decide +kernel) (zdfX3) (Nat.le_of_ble_eq_true rfl) (Nat.le_of_ble_eq_true rfl) dX7_init_92 (fun q92 H kq92 hw => ?_)
  refine lv_dup hx hb dX7_init_95 rfl ?_
  refine zcI_v (As := []) (rest := [.ref q92, .ref x]) (n9 := 0) (b := q92) C hw (c_X3_init l D y base (znO (zsQ S85 178 x (some q81)) q92 7) q92 (zK_nOs _ _ _)) gX7_init_X3_init rfl (by decide +kernel) (by decide +kernel) (by decide +kernel) rfl (by decide +kernel) ⟨⟨rfl, rfl⟩, Nat.le_of_ble_eq_true rfl, Nat.le_of_ble_eq_true rfl⟩ rfl hl.1 rfl (Nat.le_of_ble_eq_true rfl) ⟨Nat.le_of_ble_eq_true rfl, Nat.le_of_ble_eq_true rfl⟩ dX7_init_96 (fun S96 H locs hp96 hw => ?_)
  obtain ⟨hN, hN0, G96⟩ := hp96
  have gx96 := G96.at (zK_nO (k := 7) (zne kq92 (fun e9 => absurd (Eq.trans (Eq.symm gx85.1) e9) (by decide))) gx85.1) (by decide) (by rw [zK_nOs]; decide)
  have z96 : ∀ t, zI S96 t x = 0 := fun t => (gx96.2.1 t).1.trans ((zI_nO (zne kq92 (fun e9 => absurd (Eq.trans (Eq.symm gx85.1) e9) (by decide))) rfl).trans (z85 t))
  refine p_Ph_told (a := x) (v := q92) C hw gx96.1 in_X7 (by decide +kernel) hnm rfl dX7_init_99 (fun H locs hw => ?_)
  refine lv_aload_n hx hb dX7_init_102 rfl (lv_at hl 1 rfl) ?_
  refine znew (k := 5) (Cn := RX1) (T := TX1) (N := 1) C hw (by decide) (by decide) rfl in_X1 tyX1 tyX1_ok (by decide +kernel) (by decide +kernel) (by decide +kernel) (zdfX1) (Nat.le_of_ble_eq_true rfl) (Nat.le_of_ble_eq_true rfl) dX7_init_103 (fun q103 H kq103 hw => ?_)
  refine lv_dup hx hb dX7_init_106 rfl ?_
  refine zcI_v (As := []) (rest := [.ref q103, .ref x]) (n9 := 0) (b := q103) C hw (c_X1_init l D y base (znO (zsQ S96 179 x (some q92)) q103 5) q103 (zK_nOs _ _ _)) gX7_init_X1_init rfl (by decide +kernel) (by decide +kernel) (by decide +kernel) rfl (by decide +kernel) ⟨⟨rfl, rfl⟩, Nat.le_of_ble_eq_true rfl, Nat.le_of_ble_eq_true rfl⟩ rfl hl.1 rfl (Nat.le_of_ble_eq_true rfl) ⟨Nat.le_of_ble_eq_true rfl, Nat.le_of_ble_eq_true rfl⟩ dX7_init_107 (fun S107 H locs hp107 hw => ?_)
  obtain ⟨rg, hD, hD0, G107⟩ := hp107
  have gx107 := G107.at (zK_nO (k := 5) (zne kq103 (fun e9 => absurd (Eq.trans (Eq.symm gx96.1) e9) (by decide))) gx96.1) (by decide) (by rw [zK_nOs]; decide)
  have z107 : ∀ t, zI S107 t x = 0 := fun t => (gx107.2.1 t).1.trans ((zI_nO (zne kq103 (fun e9 => absurd (Eq.trans (Eq.symm gx96.1) e9) (by decide))) rfl).trans (z96 t))
  refine p_Ph_devices (a := x) (v := q103) C hw gx107.1 in_X7 (by decide +kernel) hnm rfl dX7_init_110 (fun H locs hw => ?_)
  refine lv_aload_n hx hb dX7_init_113 rfl (lv_at hl 1 rfl) ?_
  refine lv_iconst (v := 1) hx hb dX7_init_114 (by decide) ?_
  refine p_Ph_isAddressAnswered (a := x) (v := 1) C hw gx107.1 in_X7 (by decide +kernel) (by decide) dX7_init_115 (fun H locs hw => ?_)
  refine lv_aload_n hx hb dX7_init_118 rfl (lv_at hl 1 rfl) ?_
  refine lv_iconst (v := 1) hx hb dX7_init_119 (by decide) ?_
  refine p_Ph_areOthersAnswered (a := x) (v := 1) C hw gx107.1 in_X7 (by decide +kernel) (by decide) dX7_init_120 (fun H locs hw => ?_)
  have P107 : zGv S107 (zsI (zsI (zsQ S107 180 x (some q103)) 182 x 1) 183 x 1) x := zGv.Q.tr (zGv.I.tr zGv.I)
  have P96 : zGv S96 (zsI (zsI (zsQ S107 180 x (some q103)) 182 x 1) 183 x 1) x := zGv.Q.tr (((zGv.nO (k := 5) kq103).tn G107 kq103).tr P107)
  have P85 : zGv S85 (zsI (zsI (zsQ S107 180 x (some q103)) 182 x 1) 183 x 1) x := zGv.Q.tr (((zGv.nO (k := 7) kq92).tn G96 kq92).tr P96)
  have P3 : zGv S3 (zsI (zsI (zsQ S107 180 x (some q103)) 182 x 1) 183 x 1) x := ((zGv.nO (k := 8) kq81).tn G85 kq81).tr P85
  have P2 : zGv S2 (zsI (zsI (zsQ S107 180 x (some q103)) 182 x 1) 183 x 1) x := hB2.2.1.tr P3
  have k3 : zK S3 x = 11 := hB2.2.2.2.1
  have k2 : zK S2 x = 11 := hB.2.2.1
  have k85 : zK S85 x = 11 := gx85.1
  have k96 : zK S96 x = 11 := gx96.1
  have k107 : zK S107 x = 11 := gx107.1
  have p6 := P2.at hB.2.2.2.2.1 (by decide) (by rw [k2]; decide)
  have p44 := P3.at hB2.2.2.2.2.2.1 (by decide) (by rw [k3]; decide)
  have p81 := P85.at hT.1 (by decide) (by rw [k85]; decide)
  have p92 := P96.at hN (by decide) (by rw [k96]; decide)
  have prg := P107.at hD.2.2.1 (by decide) (by rw [k107]; decide)
  have hXX := zXmk (S := (zsI (zsI (zsQ S107 180 x (some q103)) 182 x 1) 183 x 1)) (f := f) (g := g) (x := x) (q6 := q6) (q44 := q44) (q81 := q81) (q92 := q92) (q103 := q103) gx107.1 (zQ_t (S := S107) (t := 180) (a := x) (v := some q103) (t' := 176) (a' := x) (u := some q6) (by decide) ((gx107.2.1 176).2.trans (zQ_nO (k := 5) (zne kq103 (fun e9 => absurd (Eq.trans (Eq.symm gx96.1) e9) (by decide))) (zQ_t (S := S96) (t := 179) (a := x) (v := some q92) (t' := 176) (a' := x) (u := some q6) (by decide) ((gx96.2.1 176).2.trans (zQ_nO (k := 7) (zne kq92 (fun e9 => absurd (Eq.trans (Eq.symm gx85.1) e9) (by decide))) (zQ_t (S := S85) (t := 178) (a := x) (v := some q81) (t' := 176) (a' := x) (u := some q6) (by decide) ((gx85.2.1 176).2.trans (zQ_nO (k := 8) (zne kq81 (fun e9 => absurd (Eq.trans (Eq.symm hB2.2.2.2.1) e9) (by decide))) (hB2.2.2.2.2.1.1.trans hB.2.2.2.1)))))))))) (zQ_t (S := S107) (t := 180) (a := x) (v := some q103) (t' := 177) (a' := x) (u := some q44) (by decide) ((gx107.2.1 177).2.trans (zQ_nO (k := 5) (zne kq103 (fun e9 => absurd (Eq.trans (Eq.symm gx96.1) e9) (by decide))) (zQ_t (S := S96) (t := 179) (a := x) (v := some q92) (t' := 177) (a' := x) (u := some q44) (by decide) ((gx96.2.1 177).2.trans (zQ_nO (k := 7) (zne kq92 (fun e9 => absurd (Eq.trans (Eq.symm gx85.1) e9) (by decide))) (zQ_t (S := S85) (t := 178) (a := x) (v := some q81) (t' := 177) (a' := x) (u := some q44) (by decide) ((gx85.2.1 177).2.trans (zQ_nO (k := 8) (zne kq81 (fun e9 => absurd (Eq.trans (Eq.symm hB2.2.2.2.1) e9) (by decide))) hB2.2.2.2.2.1.2))))))))) (zQ_t (S := S107) (t := 180) (a := x) (v := some q103) (t' := 178) (a' := x) (u := some q81) (by decide) ((gx107.2.1 178).2.trans (zQ_nO (k := 5) (zne kq103 (fun e9 => absurd (Eq.trans (Eq.symm gx96.1) e9) (by decide))) (zQ_t (S := S96) (t := 179) (a := x) (v := some q92) (t' := 178) (a' := x) (u := some q81) (by decide) ((gx96.2.1 178).2.trans (zQ_nO (k := 7) (zne kq92 (fun e9 => absurd (Eq.trans (Eq.symm gx85.1) e9) (by decide))) (zQ_s S85 178 x (some q81)))))))) (zQ_t (S := S107) (t := 180) (a := x) (v := some q103) (t' := 179) (a' := x) (u := some q92) (by decide) ((gx107.2.1 179).2.trans (zQ_nO (k := 5) (zne kq103 (fun e9 => absurd (Eq.trans (Eq.symm gx96.1) e9) (by decide))) (zQ_s S96 179 x (some q92))))) (zQ_s S107 180 x (some q103)) p6.1 (p6.2.2.1.trans hB.2.2.2.2.2.1) p44.1 (p44.2.2.1.trans hB2.2.2.2.2.2.2.1)
    (fun i hi => by obtain ⟨b1, b2, b3, b4⟩ := hB.2.2.2.2.2.2.1 i hi; have gw := P2.at b2.1 (by decide) (by rw [k2]; decide); exact ⟨(congrFun p6.2.2.2.2.1 i).trans b1, b2.grow P2 (by rw [k2]; decide), (gw.2.1 160).1.trans b3, (gw.2.1 161).1.trans b4⟩) hB.2.2.2.2.2.2.2
    (fun i hi => by obtain ⟨b1, b2, b3, b4⟩ := hB2.2.2.2.2.2.2.2 i hi; have gw := P3.at b2.1 (by decide) (by rw [k3]; decide); have gl := P3.at b2.2.2.1 (by decide) (by rw [k3]; decide); exact ⟨(congrFun p44.2.2.2.2.1 i).trans b1, b2.grow P3 (by rw [k3]; decide), (gw.2.1 64).1.trans b3, fun m => (congrFun (gl.2.2.2.1 22) m).trans (b4 m)⟩)
    (hT.grow P85 (by rw [k85]; decide)) ((p81.2.1 128).1.trans (hT0.trans (zI_nOs _ _ _ _))) p92.1 ((p92.2.1 112).1.trans (hN0.trans (zI_nOs _ _ _ _))) (hD.grow P107 (by rw [k107]; decide)) (fun j => (congrFun (prg.2.2.2.1 22) j).trans (hD0 j)) (show zI (zsI (zsI (zsQ S107 180 x (some q103)) 182 x 1) 183 x 1) 181 x = 0 from zI_t (by decide) (zI_t (by decide) (z107 181))) (zI_t (S := (zsI (zsQ S107 180 x (some q103)) 182 x 1)) (t := 183) (a := x) (v := 1) (t' := 182) (a' := x) (u := 1) (by decide) (zI_s (zsQ S107 180 x (some q103)) 182 x 1)) (zI_s (zsI (zsQ S107 180 x (some q103)) 182 x 1) 183 x 1)
  exact zrv C hw hr hlocks (by obtain ⟨a, e1, e2, e3⟩ := hXX; exact ⟨a, e1, e2, e3, hB2.1.tr P3⟩) ⟨Nat.le_of_ble_eq_true rfl, Nat.le_of_ble_eq_true rfl⟩ dX7_init_123
