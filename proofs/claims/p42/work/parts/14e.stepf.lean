set_option maxHeartbeats 4000000 in
set_option maxRecDepth 100000 in
/-- X7_step -/
theorem c_X7_step_f (l : Launch) (hst : l.stackTraces = false) (D : va_G) (y : Nat → ClassId) (base : Nat) (S : zS) (a : Nat → Nat) (p1 : Int32) (v : Nat) (hX : zX S a) (hDs : zDs a) (hv : 1 ≤ v ∧ v ≤ 400) (h128 : zI S 128 (a 3) = nI 6) : zXi l yX7_step wsX7_step ({ frames := 7, cells := 3, slots := 18, locals := 112 }) [.ref (a 0), .int 116, .int p1, .int (nI v)] D y base S (fun (r : Int32) (S1 : zS) => False ∧ S1 = S) (fun (E : String) (S1 : zS) => ((E = "java/lang/IllegalStateException" ∧ 1 = 1)) ∧ S1 = S) 3 18 := by
  refine zXet_of (cc := cX7_step) (maxL := 4) (ret := (some .int)) (own := RX7) (by decide +kernel) rfl rfl (Nat.le_of_ble_eq_true rfl) ?_
  intro p e s m args below meth c ls C hr hlocks hx0 hw hl
  have hx := C.1
  have hb := C.2.1
  have hown := C.2.2.2.1
  have hts := C.2.2.2.2
  have hl : lv_has ls 4 [(0, .ref (a 0)), (1, .int 116), (2, .int p1), (3, .int (nI v))] := hl
  refine lv_iload_n hx hb dX7_step_0 rfl (lv_at hl 1 rfl) ?_
  refine lv_bipush (v := 112) hx hb dX7_step_1 (by decide) ?_
  refine lv_icmp_eq (tgt := 16) hx hb dX7_step_3 (by decide) (fun c3 => absurd c3 (by decide)) (fun _ => ?_)
  refine lv_iload_n hx hb dX7_step_6 rfl (lv_at hl 1 rfl) ?_
  refine lv_bipush (v := 116) hx hb dX7_step_7 (by decide) ?_
  refine lv_icmp_eq (tgt := 16) hx hb dX7_step_9 (by decide) (fun _ => ?_) (fun c9 => absurd c9 (by decide))
  refine lv_iload_n hx hb dX7_step_16 rfl (lv_at hl 1 rfl) ?_
  refine zcS_xv (As := [.int 116]) (rest := []) (n9 := 1) C hw (c_X7_checkStepKind l hst D y base S 116 ) gX7_step_X7_checkStepKind rfl (by decide +kernel) ⟨⟨rfl, rfl⟩, Nat.le_of_ble_eq_true rfl, Nat.le_of_ble_eq_true rfl⟩ rfl hl.1 rfl (Nat.le_of_ble_eq_true rfl) ⟨Nat.le_of_ble_eq_true rfl, Nat.le_of_ble_eq_true rfl⟩ dX7_step_17 (fun E ce q9 S17 H locs hx17 hw h1 h2 h3 => zxout hw hx0 hlocks h1 h2 h3 (by obtain ⟨rfl, hc9, rfl⟩ := hx17; exact absurd (by decide) hc9) ⟨Nat.le_of_ble_eq_true rfl, Nat.le_of_ble_eq_true rfl⟩) (fun S17 H locs hp17 hw => ?_)
  obtain ⟨hp17, hS9⟩ := hp17
  have hS9 := hS9.symm
  subst hS9
  refine lv_iload_n hx hb dX7_step_20 rfl (lv_at hl 3 rfl) ?_
  refine lv_iload_n hx hb dX7_step_21 rfl (lv_at hl 1 rfl) ?_
  refine lv_bipush (v := 112) hx hb dX7_step_22 (by decide) ?_
  refine lv_icmp_ne (tgt := 31) hx hb dX7_step_24 (by decide) (fun _ => ?_) (fun c24 => absurd c24 (by decide))
  refine lv_iconst (v := 1) hx hb dX7_step_31 (by decide) ?_
  refine lv_iload_n hx hb dX7_step_32 rfl (lv_at hl 1 rfl) ?_
  refine lv_bipush (v := 112) hx hb dX7_step_33 (by decide) ?_
  refine lv_icmp_ne (tgt := 43) hx hb dX7_step_35 (by decide) (fun _ => ?_) (fun c35 => absurd c35 (by decide))
  refine lv_sipush (v := 400) hx hb dX7_step_43 (by decide) ?_
  refine zcS_xv (As := [.int (nI v), .int 1, .int 400]) (rest := []) (n9 := 3) C hw (c_X7_checkRange l hst D y base S (nI v) 1 400 ) gX7_step_X7_checkRange rfl (by decide +kernel) ⟨⟨rfl, rfl⟩, Nat.le_of_ble_eq_true rfl, Nat.le_of_ble_eq_true rfl⟩ rfl hl.1 rfl (Nat.le_of_ble_eq_true rfl) ⟨Nat.le_of_ble_eq_true rfl, Nat.le_of_ble_eq_true rfl⟩ dX7_step_46 (fun E ce q9 S46 H locs hx46 hw h1 h2 h3 => zxout hw hx0 hlocks h1 h2 h3 (by obtain ⟨rfl, hc9, rfl⟩ := hx46; exact absurd (zrg1 hv.1 hv.2 (by decide) rfl) hc9) ⟨Nat.le_of_ble_eq_true rfl, Nat.le_of_ble_eq_true rfl⟩) (fun S46 H locs hp46 hw => ?_)
  obtain ⟨hp46, hS9⟩ := hp46
  have hS9 := hS9.symm
  subst hS9
  refine lv_aload_n hx hb dX7_step_49 rfl (lv_at hl 0 rfl) ?_
  refine zcV_xv (As := []) (rest := []) (n9 := 0) (b := (a 0)) C hw (c_X7_checkFreeStep_g l hst D y base S a 6 hX h128 (by decide)) gX7_step_X7_checkFreeStep rfl (by decide +kernel) ⟨⟨rfl, rfl⟩, Nat.le_of_ble_eq_true rfl, Nat.le_of_ble_eq_true rfl⟩ hX.1 ⟨by decide, by decide⟩ rfl rfl hl.1 rfl (Nat.le_of_ble_eq_true rfl) ⟨Nat.le_of_ble_eq_true rfl, Nat.le_of_ble_eq_true rfl⟩ dX7_step_50 (fun E ce q9 S50 H locs hx50 hw h1 h2 h3 => zxout hw hx0 hlocks h1 h2 h3 ⟨⟨hx50.1, rfl⟩, hx50.2.2⟩ ⟨Nat.le_of_ble_eq_true rfl, Nat.le_of_ble_eq_true rfl⟩) (fun S50 H locs hp50 hw => ?_)
  obtain ⟨hp50, hS9⟩ := hp50
  have hS9 := hS9.symm
  subst hS9
  exact (show False from (absurd hp50 (by decide))).elim

set_option maxHeartbeats 4000000 in
set_option maxRecDepth 100000 in
/-- L_asked -/
theorem c_L_asked_p_step_f (l : Launch) (hst : l.stackTraces = false) (D : va_G) (y : Nat → ClassId) (base : Nat) (S : zS) (a : Nat → Nat) (p1 : Int32) (v : Nat) (ar : Nat) (hX : zX S a) (hDs : zDs a) (hv : 1 ≤ v ∧ v ≤ 400) (h128 : zI S 128 (a 3) = nI 6) (hK9 : zK S ar = 22) (hN9 : zN S ar = 3) (hj0 : zR S 22 ar 0 = (116 : Int32)) (hj1 : zR S 22 ar 1 = p1) (hj2 : zR S 22 ar 2 = (nI v)) : zXi l yL_asked wsL_asked ({ frames := 8, cells := 3, slots := 18, locals := 135 }) [.ref (a 0), .int 112, .ref ar] D y base S (fun (r : Int32) (S1 : zS) => False ∧ S1 = S) (fun (E : String) (S1 : zS) => ((E = "java/lang/IllegalStateException" ∧ 1 = 1)) ∧ S1 = S) 3 18 := by
  refine zXet_of (cc := cL_asked) (maxL := 3) (ret := (some .int)) (own := RL) (by decide +kernel) rfl rfl (Nat.le_of_ble_eq_true rfl) ?_
  intro p e s m args below meth c ls C hr hlocks hx0 hw hl
  have hx := C.1
  have hb := C.2.1
  have hown := C.2.2.2.1
  have hts := C.2.2.2.2
  have hl : lv_has ls 3 [(0, .ref (a 0)), (1, .int 112), (2, .ref ar)] := hl
  refine lv_iload_n hx hb dL_asked_0 rfl (lv_at hl 1 rfl) ?_
  refine lv_lookup (off := 156) (tgt := 157) hx hb dL_asked_1 (by decide) (by decide +kernel) (by decide) ?_
  refine lv_aload_n hx hb dL_asked_157 rfl (lv_at hl 0 rfl) ?_
  refine lv_aload_n hx hb dL_asked_158 rfl (lv_at hl 2 rfl) ?_
  refine lv_iconst (v := 0) hx hb dL_asked_159 (by decide) ?_
  refine zald_I (a := ar) C hw hK9 hN9 (zin_of (N := 3) (by decide) (by decide) (by decide)) dL_asked_160 ?_
  refine zrd (x := (116 : Int32)) (zrk hj0 (by decide)) ?_
  refine lv_i2c (v := ((116 : Int32).toUInt32 % 65536).toInt32) hx hb dL_asked_161 rfl ?_
  refine zrd (x := 116) (by decide) ?_
  refine lv_aload_n hx hb dL_asked_162 rfl (lv_at hl 2 rfl) ?_
  refine lv_iconst (v := 1) hx hb dL_asked_163 (by decide) ?_
  refine zald_I (a := ar) C hw hK9 hN9 (zin_of (N := 3) (by decide) (by decide) (by decide)) dL_asked_164 ?_
  refine zrd (x := p1) (zrk hj1 (by decide)) ?_
  refine lv_aload_n hx hb dL_asked_165 rfl (lv_at hl 2 rfl) ?_
  refine lv_iconst (v := 2) hx hb dL_asked_166 (by decide) ?_
  refine zald_I (a := ar) C hw hK9 hN9 (zin_of (N := 3) (by decide) (by decide) (by decide)) dL_asked_167 ?_
  refine zrd (x := (nI v)) (zrk hj2 (by decide)) ?_
  refine zcV_xi (As := [.int 116, .int p1, .int (nI v)]) (rest := []) (n9 := 3) (b := (a 0)) C hw (c_X7_step_f l hst D y base S a p1 v hX hDs hv h128) gL_asked_X7_step rfl (by decide +kernel) ⟨⟨rfl, rfl⟩, Nat.le_of_ble_eq_true rfl, Nat.le_of_ble_eq_true rfl⟩ hX.1 ⟨by decide, by decide⟩ rfl rfl hl.1 rfl (Nat.le_of_ble_eq_true rfl) ⟨Nat.le_of_ble_eq_true rfl, Nat.le_of_ble_eq_true rfl⟩ dL_asked_168 (fun E ce q9 S168 H locs hx168 hw h1 h2 h3 => zxout hw hx0 hlocks h1 h2 h3 hx168 ⟨Nat.le_of_ble_eq_true rfl, Nat.le_of_ble_eq_true rfl⟩) (fun r168 S168 H locs hp168 hw => ?_)
  exact (show False from hp168.1).elim

set_option maxHeartbeats 4000000 in
set_option maxRecDepth 100000 in
/-- L_ask -/
theorem c_L_ask_p_step_f (l : Launch) (hst : l.stackTraces = false) (D : va_G) (y : Nat → ClassId) (base : Nat) (S : zS) (a : Nat → Nat) (p1 : Int32) (v : Nat) (ar : Nat) (hX : zX S a) (hDs : zDs a) (hv : 1 ≤ v ∧ v ≤ 400) (h128 : zI S 128 (a 3) = nI 6) (hK9 : zK S ar = 22) (hN9 : zN S ar = 3) (hj0 : zR S 22 ar 0 = (116 : Int32)) (hj1 : zR S 22 ar 1 = p1) (hj2 : zR S 22 ar 2 = (nI v)) : zMi l yL_ask wsL_ask ({ frames := 9, cells := 3, slots := 18, locals := 157 }) [.ref (a 0), .int 112, .ref ar] D y base S (fun (r : Int32) (S1 : zS) => (1 = 1 ∧ r = (-2000000003) ∧ S1 = S)) 3 18 := by
  refine zMetH_of (cc := cL_ask) (maxL := 4) (ret := (some .int)) (own := RL) (hh := zhhA) (by decide +kernel) rfl rfl (Nat.le_of_ble_eq_true rfl) ?_
  intro p e s m args below meth c ls C hr hlocks hx0 hw hl
  have hx := C.1
  have hb := C.2.1
  have hown := C.2.2.2.1
  have hts := C.2.2.2.2
  have hl : lv_has ls 4 [(0, .ref (a 0)), (1, .int 112), (2, .ref ar)] := hl
  refine lv_iload_n hx hb dL_ask_0 rfl (lv_at hl 1 rfl) ?_
  refine lv_tableIn (off := 455) (tgt := 456) hx hb dL_ask_1 (by decide) (by decide) (by decide +kernel) (by decide) ?_
  refine lv_aload_n hx hb dL_ask_456 rfl (lv_at hl 0 rfl) ?_
  refine lv_iload_n hx hb dL_ask_457 rfl (lv_at hl 1 rfl) ?_
  refine lv_aload_n hx hb dL_ask_458 rfl (lv_at hl 2 rfl) ?_
  refine zcS_xi2 (As := [.ref (a 0), .int 112, .ref ar]) (rest := []) (n9 := 3) C hw (c_L_asked_p_step_f l hst D y base S a p1 v ar hX hDs hv h128 hK9 hN9 hj0 hj1 hj2) gL_ask_L_asked rfl (by decide +kernel) ⟨⟨rfl, rfl⟩, Nat.le_of_ble_eq_true rfl, Nat.le_of_ble_eq_true rfl⟩ rfl hl.1 rfl (Nat.le_of_ble_eq_true rfl) ⟨Nat.le_of_ble_eq_true rfl, Nat.le_of_ble_eq_true rfl⟩ dL_ask_459 (fun E9 ce q9 S459 H locs hx9 hw h1 h2 h3 => ?_) (fun r459 S459 H locs hp459 hw => ?_)
  · obtain ⟨hx9, hS9⟩ := hx9
    obtain ⟨rfl, hk9⟩ := hx9
    refine zcatch3 (pre := zhhA.take 44) (suf := zhhA.drop 45) (pb := 456) (pe := 462) (ph := 471) (ct := 72) C hw hx0 rfl (by decide) (by decide) (by decide) zLk_ask zcn_ex (by decide +kernel) (by decide) rfl (by decide +kernel) h1 h2 h3 ?_
    refine lv_astore_n (lv' := [(3, .ref q9), (0, .ref (a 0)), (1, .int 112), (2, .ref ar)]) hx hb dL_ask_471 rfl hl (by decide) rfl (fun ls hl => ?_)
    refine lv_ldc (own := RL) (v := (-2000000003)) hx hb hown (hts (.constant RL 74 (-2000000003)) (by decide +kernel)) dL_ask_472 ?_
    exact zri C hw hr hlocks rfl ⟨hk9, rfl, hS9⟩ ⟨Nat.le_of_ble_eq_true rfl, Nat.le_of_ble_eq_true rfl⟩ dL_ask_474
  · exact hp459.1.elim

