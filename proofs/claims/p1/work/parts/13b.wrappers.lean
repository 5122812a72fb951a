set_option maxHeartbeats 4000000 in
set_option maxRecDepth 100000 in
/-- L_idle -/
theorem c_L_idle (l : Launch) (hst : l.stackTraces = false) (D : va_G) (y : Nat → ClassId) (base : Nat) (S : zS) (a : Nat → Nat) (p0 : Int32) (p1 : Int32) (o : Nat) (hX : zX S a) (h0 : zX0 S a) (hz : p1 = 0 ∨ p1 = 1) (hko : zK S o = 24) (hno : zN S o = 1) : zMi l yL_idle wsL_idle ({ frames := 8, cells := 1, slots := 6, locals := 133 }) [.ref (a 0), .int p0, .int p1, .ref o] D y base S (fun (r : Int32) (S1 : zS) => r = kd_idle p0 ∧ (kd_idle p0 = 0 → zJ S1 o 0 = ((0 : Int32).toInt64)) ∧ zCo S S1 o) 1 6 := by
  refine zMetH_of (cc := cL_idle) (maxL := 5) (ret := (some .int)) (own := RL) (hh := [(0, 17, 20, 13)]) (by decide +kernel) rfl rfl (Nat.le_of_ble_eq_true rfl) ?_
  intro p e s m args below meth c ls C hr hlocks hx0 hw hl
  have hx := C.1
  have hb := C.2.1
  have hown := C.2.2.2.1
  have hts := C.2.2.2.2
  have hl : lv_has ls 5 [(0, .ref (a 0)), (1, .int p0), (2, .int p1), (3, .ref o)] := hl
  refine lv_aload_n hx hb dL_idle_0 rfl (lv_at hl 3 rfl) ?_
  refine lv_iconst (v := 0) hx hb dL_idle_1 (by decide) ?_
  refine lv_aload_n hx hb dL_idle_2 rfl (lv_at hl 0 rfl) ?_
  refine lv_iload_n hx hb dL_idle_3 rfl (lv_at hl 1 rfl) ?_
  refine lv_iload_n hx hb dL_idle_4 rfl (lv_at hl 2 rfl) ?_
  refine zcV_xi (As := [.int p0, .int p1]) (rest := [.int 0, .ref o]) (n9 := 2) (b := (a 0)) C hw (c_X7_idle l hst D y base S a p0 p1 hX (by first | assumption | decide | grind) (by first | assumption | decide | grind)) gL_idle_X7_idle rfl (by decide +kernel) ⟨⟨rfl, rfl⟩, Nat.le_of_ble_eq_true rfl, Nat.le_of_ble_eq_true rfl⟩ hX.1 ⟨by decide, by decide⟩ rfl rfl hl.1 rfl (Nat.le_of_ble_eq_true rfl) ⟨Nat.le_of_ble_eq_true rfl, Nat.le_of_ble_eq_true rfl⟩ dL_idle_5 (fun E9 ce q9 S5 H locs hx9 hw h1 h2 h3 => ?_) (fun r5 S5 H locs hp5 hw => ?_)
  · obtain ⟨hx9, hcl9⟩ := hx9
    obtain ⟨rfl, hk9⟩ := hx9
    refine zcatch (pre := []) (suf := []) (pe := 17) (ph := 20) (ct := 13) C hw hx0 rfl (by decide) (by decide) (fun z hz => by cases hz) (by decide) (by decide +kernel) (by decide +kernel) h1 h2 h3 ?_
    refine lv_astore (lv' := [(4, .ref q9), (0, .ref (a 0)), (1, .int p0), (2, .int p1), (3, .ref o)]) hx hb dL_idle_20 hl (by decide) rfl (fun ls hl => ?_)
    refine lv_iconst (v := 1) hx hb dL_idle_22 (by decide) ?_
    exact zri C hw hr hlocks rfl ⟨hk9.symm, (fun q => absurd (hk9.symm.trans q) (by decide)), zCo.a hcl9⟩ ⟨Nat.le_of_ble_eq_true rfl, Nat.le_of_ble_eq_true rfl⟩ dL_idle_23
  · obtain ⟨rfl, hkd, hcl⟩ := hp5
    have ho9 := hcl.o hko hno
    refine lv_if_eq (tgt := 15) hx hb dL_idle_8 (by decide) (fun _ => ?_) (fun c8 => absurd c8 (by decide))
    refine lv_lconst (v := ((0 : Int32).toInt64)) hx hb dL_idle_15 (by decide) ?_
    refine zast_J (a := o) C hw ho9.1 ho9.2 (zin_of (N := 1) (by decide) (by decide) (by decide)) dL_idle_16 (fun H locs hw => ?_)
    refine lv_goto (tgt := 24) hx hb dL_idle_17 (by decide) ?_
    refine lv_iconst (v := 0) hx hb dL_idle_24 (by decide) ?_
    exact zri C hw hr hlocks rfl ⟨hkd.symm, (fun _ => by rw [zJ_s]; rfl), zCo.b hcl⟩ ⟨Nat.le_of_ble_eq_true rfl, Nat.le_of_ble_eq_true rfl⟩ dL_idle_25

set_option maxHeartbeats 4000000 in
set_option maxRecDepth 100000 in
/-- L_flip -/
theorem c_L_flip (l : Launch) (hst : l.stackTraces = false) (D : va_G) (y : Nat → ClassId) (base : Nat) (S : zS) (a : Nat → Nat) (p0 : Int32) (p1 : Int32) (o : Nat) (hX : zX S a) (h0 : zX0 S a) (hko : zK S o = 24) (hno : zN S o = 1) : zMi l yL_flip wsL_flip ({ frames := 8, cells := 3, slots := 18, locals := 135 }) [.ref (a 0), .int p0, .int p1, .ref o] D y base S (fun (r : Int32) (S1 : zS) => r = kd_flip p0 p1 ∧ (kd_flip p0 p1 = 0 → zJ S1 o 0 = ((1 : Int32).toInt64)) ∧ zCo S S1 o) 3 18 := by
  refine zMetH_of (cc := cL_flip) (maxL := 5) (ret := (some .int)) (own := RL) (hh := [(0, 10, 13, 13), (0, 10, 17, 19), (0, 10, 21, 21)]) (by decide +kernel) rfl rfl (Nat.le_of_ble_eq_true rfl) ?_
  intro p e s m args below meth c ls C hr hlocks hx0 hw hl
  have hx := C.1
  have hb := C.2.1
  have hown := C.2.2.2.1
  have hts := C.2.2.2.2
  have hl : lv_has ls 5 [(0, .ref (a 0)), (1, .int p0), (2, .int p1), (3, .ref o)] := hl
  refine lv_aload_n hx hb dL_flip_0 rfl (lv_at hl 3 rfl) ?_
  refine lv_iconst (v := 0) hx hb dL_flip_1 (by decide) ?_
  refine lv_aload_n hx hb dL_flip_2 rfl (lv_at hl 0 rfl) ?_
  refine lv_iload_n hx hb dL_flip_3 rfl (lv_at hl 1 rfl) ?_
  refine lv_iload_n hx hb dL_flip_4 rfl (lv_at hl 2 rfl) ?_
  refine zcV_xi (As := [.int p0, .int p1]) (rest := [.int 0, .ref o]) (n9 := 2) (b := (a 0)) C hw (c_X7_flip l hst D y base S a p0 p1 hX (by first | assumption | decide | grind)) gL_flip_X7_flip rfl (by decide +kernel) ⟨⟨rfl, rfl⟩, Nat.le_of_ble_eq_true rfl, Nat.le_of_ble_eq_true rfl⟩ hX.1 ⟨by decide, by decide⟩ rfl rfl hl.1 rfl (Nat.le_of_ble_eq_true rfl) ⟨Nat.le_of_ble_eq_true rfl, Nat.le_of_ble_eq_true rfl⟩ dL_flip_5 (fun E9 ce q9 S5 H locs hx9 hw h1 h2 h3 => ?_) (fun r5 S5 H locs hp5 hw => ?_)
  · obtain ⟨hx9, hcl9⟩ := hx9
    rcases hx9 with ⟨rfl, hk9⟩ | ⟨rfl, hk9⟩
    · refine zcatch (pre := []) (suf := [(0, 10, 17, 19), (0, 10, 21, 21)]) (pe := 10) (ph := 13) (ct := 13) C hw hx0 rfl (by decide) (by decide) (fun z hz => by cases hz) (by decide) (by decide +kernel) (by decide +kernel) h1 h2 h3 ?_
      refine lv_astore (lv' := [(4, .ref q9), (0, .ref (a 0)), (1, .int p0), (2, .int p1), (3, .ref o)]) hx hb dL_flip_13 hl (by decide) rfl (fun ls hl => ?_)
      refine lv_iconst (v := 1) hx hb dL_flip_15 (by decide) ?_
      exact zri C hw hr hlocks rfl ⟨hk9.symm, (fun q => absurd (hk9.symm.trans q) (by decide)), zCo.a hcl9⟩ ⟨Nat.le_of_ble_eq_true rfl, Nat.le_of_ble_eq_true rfl⟩ dL_flip_16
    · refine zcatch (pre := [(0, 10, 13, 13)]) (suf := [(0, 10, 21, 21)]) (pe := 10) (ph := 17) (ct := 19) C hw hx0 rfl (by decide) (by decide) (by intro z hz; simp only [List.mem_cons, List.not_mem_nil, or_false] at hz; obtain rfl := hz; exact ⟨by decide, "java/lang/IndexOutOfBoundsException", by decide +kernel, by decide, by decide⟩) (by decide) (by decide +kernel) (by decide +kernel) h1 h2 h3 ?_
      refine lv_astore (lv' := [(4, .ref q9), (0, .ref (a 0)), (1, .int p0), (2, .int p1), (3, .ref o)]) hx hb dL_flip_17 hl (by decide) rfl (fun ls hl => ?_)
      refine lv_iconst (v := 2) hx hb dL_flip_19 (by decide) ?_
      exact zri C hw hr hlocks rfl ⟨hk9.symm, (fun q => absurd (hk9.symm.trans q) (by decide)), zCo.a hcl9⟩ ⟨Nat.le_of_ble_eq_true rfl, Nat.le_of_ble_eq_true rfl⟩ dL_flip_20
  · obtain ⟨rfl, hkd, hcl⟩ := hp5
    have ho9 := hcl.o hko hno
    refine lv_i2l (v := (1 : Int32).toInt64) hx hb dL_flip_8 rfl ?_
    refine zast_J (a := o) C hw ho9.1 ho9.2 (zin_of (N := 1) (by decide) (by decide) (by decide)) dL_flip_9 (fun H locs hw => ?_)
    refine lv_goto (tgt := 25) hx hb dL_flip_10 (by decide) ?_
    refine lv_iconst (v := 0) hx hb dL_flip_25 (by decide) ?_
    exact zri C hw hr hlocks rfl ⟨hkd.symm, (fun _ => by rw [zJ_s]; rfl), zCo.b hcl⟩ ⟨Nat.le_of_ble_eq_true rfl, Nat.le_of_ble_eq_true rfl⟩ dL_flip_26

set_option maxHeartbeats 4000000 in
set_option maxRecDepth 100000 in
/-- L_level -/
theorem c_L_level (l : Launch) (hst : l.stackTraces = false) (D : va_G) (y : Nat → ClassId) (base : Nat) (S : zS) (a : Nat → Nat) (p0 : Int32) (p1 : Int32) (o : Nat) (hX : zX S a) (h0 : zX0 S a) (hko : zK S o = 24) (hno : zN S o = 1) : zMi l yL_level wsL_level ({ frames := 8, cells := 2, slots := 12, locals := 134 }) [.ref (a 0), .int p0, .int p1, .ref o] D y base S (fun (r : Int32) (S1 : zS) => r = kd_flip p0 p1 ∧ (kd_flip p0 p1 = 0 → zJ S1 o 0 = ((0 : Int32).toInt64)) ∧ zCo S S1 o) 2 12 := by
  refine zMetH_of (cc := cL_level) (maxL := 5) (ret := (some .int)) (own := RL) (hh := [(0, 17, 20, 13), (0, 17, 24, 19)]) (by decide +kernel) rfl rfl (Nat.le_of_ble_eq_true rfl) ?_
  intro p e s m args below meth c ls C hr hlocks hx0 hw hl
  have hx := C.1
  have hb := C.2.1
  have hown := C.2.2.2.1
  have hts := C.2.2.2.2
  have hl : lv_has ls 5 [(0, .ref (a 0)), (1, .int p0), (2, .int p1), (3, .ref o)] := hl
  refine lv_aload_n hx hb dL_level_0 rfl (lv_at hl 3 rfl) ?_
  refine lv_iconst (v := 0) hx hb dL_level_1 (by decide) ?_
  refine lv_aload_n hx hb dL_level_2 rfl (lv_at hl 0 rfl) ?_
  refine lv_iload_n hx hb dL_level_3 rfl (lv_at hl 1 rfl) ?_
  refine lv_iload_n hx hb dL_level_4 rfl (lv_at hl 2 rfl) ?_
  refine zcV_xi (As := [.int p0, .int p1]) (rest := [.int 0, .ref o]) (n9 := 2) (b := (a 0)) C hw (c_X7_level l hst D y base S a p0 p1 hX (by first | assumption | decide | grind)) gL_level_X7_level rfl (by decide +kernel) ⟨⟨rfl, rfl⟩, Nat.le_of_ble_eq_true rfl, Nat.le_of_ble_eq_true rfl⟩ hX.1 ⟨by decide, by decide⟩ rfl rfl hl.1 rfl (Nat.le_of_ble_eq_true rfl) ⟨Nat.le_of_ble_eq_true rfl, Nat.le_of_ble_eq_true rfl⟩ dL_level_5 (fun E9 ce q9 S5 H locs hx9 hw h1 h2 h3 => ?_) (fun r5 S5 H locs hp5 hw => ?_)
  · obtain ⟨hx9, hcl9⟩ := hx9
    rcases hx9 with ⟨rfl, hk9⟩ | ⟨rfl, hk9⟩
    · refine zcatch (pre := []) (suf := [(0, 17, 24, 19)]) (pe := 17) (ph := 20) (ct := 13) C hw hx0 rfl (by decide) (by decide) (fun z hz => by cases hz) (by decide) (by decide +kernel) (by decide +kernel) h1 h2 h3 ?_
      refine lv_astore (lv' := [(4, .ref q9), (0, .ref (a 0)), (1, .int p0), (2, .int p1), (3, .ref o)]) hx hb dL_level_20 hl (by decide) rfl (fun ls hl => ?_)
      refine lv_iconst (v := 1) hx hb dL_level_22 (by decide) ?_
      exact zri C hw hr hlocks rfl ⟨hk9.symm, (fun q => absurd (hk9.symm.trans q) (by decide)), zCo.a hcl9⟩ ⟨Nat.le_of_ble_eq_true rfl, Nat.le_of_ble_eq_true rfl⟩ dL_level_23
    · refine zcatch (pre := [(0, 17, 20, 13)]) (suf := []) (pe := 17) (ph := 24) (ct := 19) C hw hx0 rfl (by decide) (by decide) (by intro z hz; simp only [List.mem_cons, List.not_mem_nil, or_false] at hz; obtain rfl := hz; exact ⟨by decide, "java/lang/IndexOutOfBoundsException", by decide +kernel, by decide, by decide⟩) (by decide) (by decide +kernel) (by decide +kernel) h1 h2 h3 ?_
      refine lv_astore (lv' := [(4, .ref q9), (0, .ref (a 0)), (1, .int p0), (2, .int p1), (3, .ref o)]) hx hb dL_level_24 hl (by decide) rfl (fun ls hl => ?_)
      refine lv_iconst (v := 2) hx hb dL_level_26 (by decide) ?_
      exact zri C hw hr hlocks rfl ⟨hk9.symm, (fun q => absurd (hk9.symm.trans q) (by decide)), zCo.a hcl9⟩ ⟨Nat.le_of_ble_eq_true rfl, Nat.le_of_ble_eq_true rfl⟩ dL_level_27
  · obtain ⟨rfl, hkd, hcl⟩ := hp5
    have ho9 := hcl.o hko hno
    refine lv_if_eq (tgt := 15) hx hb dL_level_8 (by decide) (fun _ => ?_) (fun c8 => absurd c8 (by decide))
    refine lv_lconst (v := ((0 : Int32).toInt64)) hx hb dL_level_15 (by decide) ?_
    refine zast_J (a := o) C hw ho9.1 ho9.2 (zin_of (N := 1) (by decide) (by decide) (by decide)) dL_level_16 (fun H locs hw => ?_)
    refine lv_goto (tgt := 28) hx hb dL_level_17 (by decide) ?_
    refine lv_iconst (v := 0) hx hb dL_level_28 (by decide) ?_
    exact zri C hw hr hlocks rfl ⟨hkd.symm, (fun _ => by rw [zJ_s]; rfl), zCo.b hcl⟩ ⟨Nat.le_of_ble_eq_true rfl, Nat.le_of_ble_eq_true rfl⟩ dL_level_29

set_option maxHeartbeats 4000000 in
set_option maxRecDepth 100000 in
/-- L_glitch -/
theorem c_L_glitch (l : Launch) (hst : l.stackTraces = false) (D : va_G) (y : Nat → ClassId) (base : Nat) (S : zS) (a : Nat → Nat) (p0 : Int32) (p1 : Int32) (p2 : Int32) (o : Nat) (hX : zX S a) (h0 : zX0 S a) (hko : zK S o = 24) (hno : zN S o = 1) : zMi l yL_glitch wsL_glitch ({ frames := 8, cells := 5, slots := 30, locals := 136 }) [.ref (a 0), .int p0, .int p1, .int p2, .ref o] D y base S (fun (r : Int32) (S1 : zS) => r = kd_glitch p0 p1 p2 ∧ (kd_glitch p0 p1 p2 = 0 → zJ S1 o 0 = ((2 : Int32).toInt64)) ∧ zCo S S1 o) 5 30 := by
  refine zMetH_of (cc := cL_glitch) (maxL := 6) (ret := (some .int)) (own := RL) (hh := [(0, 12, 15, 13), (0, 12, 19, 19), (0, 12, 23, 21)]) (by decide +kernel) rfl rfl (Nat.le_of_ble_eq_true rfl) ?_
  intro p e s m args below meth c ls C hr hlocks hx0 hw hl
  have hx := C.1
  have hb := C.2.1
  have hown := C.2.2.2.1
  have hts := C.2.2.2.2
  have hl : lv_has ls 6 [(0, .ref (a 0)), (1, .int p0), (2, .int p1), (3, .int p2), (4, .ref o)] := hl
  refine lv_aload hx hb dL_glitch_0 (lv_at hl 4 rfl) ?_
  refine lv_iconst (v := 0) hx hb dL_glitch_2 (by decide) ?_
  refine lv_aload_n hx hb dL_glitch_3 rfl (lv_at hl 0 rfl) ?_
  refine lv_iload_n hx hb dL_glitch_4 rfl (lv_at hl 1 rfl) ?_
  refine lv_iload_n hx hb dL_glitch_5 rfl (lv_at hl 2 rfl) ?_
  refine lv_iload_n hx hb dL_glitch_6 rfl (lv_at hl 3 rfl) ?_
  refine zcV_xi (As := [.int p0, .int p1, .int p2]) (rest := [.int 0, .ref o]) (n9 := 3) (b := (a 0)) C hw (c_X7_glitch l hst D y base S a p0 p1 p2 hX (by first | assumption | decide | grind)) gL_glitch_X7_glitch rfl (by decide +kernel) ⟨⟨rfl, rfl⟩, Nat.le_of_ble_eq_true rfl, Nat.le_of_ble_eq_true rfl⟩ hX.1 ⟨by decide, by decide⟩ rfl rfl hl.1 rfl (Nat.le_of_ble_eq_true rfl) ⟨Nat.le_of_ble_eq_true rfl, Nat.le_of_ble_eq_true rfl⟩ dL_glitch_7 (fun E9 ce q9 S7 H locs hx9 hw h1 h2 h3 => ?_) (fun r7 S7 H locs hp7 hw => ?_)
  · obtain ⟨hx9, hcl9⟩ := hx9
    rcases hx9 with ⟨rfl, hk9⟩ | ⟨rfl, hk9⟩
    · refine zcatch (pre := []) (suf := [(0, 12, 19, 19), (0, 12, 23, 21)]) (pe := 12) (ph := 15) (ct := 13) C hw hx0 rfl (by decide) (by decide) (fun z hz => by cases hz) (by decide) (by decide +kernel) (by decide +kernel) h1 h2 h3 ?_
      refine lv_astore (lv' := [(5, .ref q9), (0, .ref (a 0)), (1, .int p0), (2, .int p1), (3, .int p2), (4, .ref o)]) hx hb dL_glitch_15 hl (by decide) rfl (fun ls hl => ?_)
      refine lv_iconst (v := 1) hx hb dL_glitch_17 (by decide) ?_
      exact zri C hw hr hlocks rfl ⟨hk9.symm, (fun q => absurd (hk9.symm.trans q) (by decide)), zCo.a hcl9⟩ ⟨Nat.le_of_ble_eq_true rfl, Nat.le_of_ble_eq_true rfl⟩ dL_glitch_18
    · refine zcatch (pre := [(0, 12, 15, 13)]) (suf := [(0, 12, 23, 21)]) (pe := 12) (ph := 19) (ct := 19) C hw hx0 rfl (by decide) (by decide) (by intro z hz; simp only [List.mem_cons, List.not_mem_nil, or_false] at hz; obtain rfl := hz; exact ⟨by decide, "java/lang/IndexOutOfBoundsException", by decide +kernel, by decide, by decide⟩) (by decide) (by decide +kernel) (by decide +kernel) h1 h2 h3 ?_
      refine lv_astore (lv' := [(5, .ref q9), (0, .ref (a 0)), (1, .int p0), (2, .int p1), (3, .int p2), (4, .ref o)]) hx hb dL_glitch_19 hl (by decide) rfl (fun ls hl => ?_)
      refine lv_iconst (v := 2) hx hb dL_glitch_21 (by decide) ?_
      exact zri C hw hr hlocks rfl ⟨hk9.symm, (fun q => absurd (hk9.symm.trans q) (by decide)), zCo.a hcl9⟩ ⟨Nat.le_of_ble_eq_true rfl, Nat.le_of_ble_eq_true rfl⟩ dL_glitch_22
  · obtain ⟨rfl, hkd, hcl⟩ := hp7
    have ho9 := hcl.o hko hno
    refine lv_i2l (v := (2 : Int32).toInt64) hx hb dL_glitch_10 rfl ?_
    refine zast_J (a := o) C hw ho9.1 ho9.2 (zin_of (N := 1) (by decide) (by decide) (by decide)) dL_glitch_11 (fun H locs hw => ?_)
    refine lv_goto (tgt := 27) hx hb dL_glitch_12 (by decide) ?_
    refine lv_iconst (v := 0) hx hb dL_glitch_27 (by decide) ?_
    exact zri C hw hr hlocks rfl ⟨hkd.symm, (fun _ => by rw [zJ_s]; rfl), zCo.b hcl⟩ ⟨Nat.le_of_ble_eq_true rfl, Nat.le_of_ble_eq_true rfl⟩ dL_glitch_28

set_option maxHeartbeats 4000000 in
set_option maxRecDepth 100000 in
/-- L_drift -/
theorem c_L_drift (l : Launch) (hst : l.stackTraces = false) (D : va_G) (y : Nat → ClassId) (base : Nat) (S : zS) (a : Nat → Nat) (p0 : Int32) (o : Nat) (hX : zX S a) (h0 : zX0 S a) (hko : zK S o = 24) (hno : zN S o = 1) : zMi l yL_drift wsL_drift ({ frames := 8, cells := 1, slots := 6, locals := 134 }) [.ref (a 0), .int p0, .ref o] D y base S (fun (r : Int32) (S1 : zS) => r = kd_drift p0 ∧ (kd_drift p0 = 0 → zJ S1 o 0 = ((0 : Int32).toInt64)) ∧ zCo S S1 o) 1 6 := by
  refine zMetH_of (cc := cL_drift) (maxL := 4) (ret := (some .int)) (own := RL) (hh := [(0, 9, 12, 19)]) (by decide +kernel) rfl rfl (Nat.le_of_ble_eq_true rfl) ?_
  intro p e s m args below meth c ls C hr hlocks hx0 hw hl
  have hx := C.1
  have hb := C.2.1
  have hown := C.2.2.2.1
  have hts := C.2.2.2.2
  have hl : lv_has ls 4 [(0, .ref (a 0)), (1, .int p0), (2, .ref o)] := hl
  refine lv_aload_n hx hb dL_drift_0 rfl (lv_at hl 2 rfl) ?_
  refine lv_iconst (v := 0) hx hb dL_drift_1 (by decide) ?_
  refine lv_aload_n hx hb dL_drift_2 rfl (lv_at hl 0 rfl) ?_
  refine lv_iload_n hx hb dL_drift_3 rfl (lv_at hl 1 rfl) ?_
  refine zcV_xi (As := [.int p0]) (rest := [.int 0, .ref o]) (n9 := 1) (b := (a 0)) C hw (c_X7_drift l hst D y base S a p0 hX (by first | assumption | decide | grind)) gL_drift_X7_drift rfl (by decide +kernel) ⟨⟨rfl, rfl⟩, Nat.le_of_ble_eq_true rfl, Nat.le_of_ble_eq_true rfl⟩ hX.1 ⟨by decide, by decide⟩ rfl rfl hl.1 rfl (Nat.le_of_ble_eq_true rfl) ⟨Nat.le_of_ble_eq_true rfl, Nat.le_of_ble_eq_true rfl⟩ dL_drift_4 (fun E9 ce q9 S4 H locs hx9 hw h1 h2 h3 => ?_) (fun r4 S4 H locs hp4 hw => ?_)
  · obtain ⟨hx9, hcl9⟩ := hx9
    obtain ⟨rfl, hk9⟩ := hx9
    refine zcatch (pre := []) (suf := []) (pe := 9) (ph := 12) (ct := 19) C hw hx0 rfl (by decide) (by decide) (fun z hz => by cases hz) (by decide) (by decide +kernel) (by decide +kernel) h1 h2 h3 ?_
    refine lv_astore_n (lv' := [(3, .ref q9), (0, .ref (a 0)), (1, .int p0), (2, .ref o)]) hx hb dL_drift_12 rfl hl (by decide) rfl (fun ls hl => ?_)
    refine lv_iconst (v := 1) hx hb dL_drift_13 (by decide) ?_
    exact zri C hw hr hlocks rfl ⟨hk9.symm, (fun q => absurd (hk9.symm.trans q) (by decide)), zCo.a hcl9⟩ ⟨Nat.le_of_ble_eq_true rfl, Nat.le_of_ble_eq_true rfl⟩ dL_drift_14
  · obtain ⟨rfl, hkd, hcl⟩ := hp4
    have ho9 := hcl.o hko hno
    refine lv_i2l (v := (0 : Int32).toInt64) hx hb dL_drift_7 rfl ?_
    refine zast_J (a := o) C hw ho9.1 ho9.2 (zin_of (N := 1) (by decide) (by decide) (by decide)) dL_drift_8 (fun H locs hw => ?_)
    refine lv_goto (tgt := 15) hx hb dL_drift_9 (by decide) ?_
    refine lv_iconst (v := 0) hx hb dL_drift_15 (by decide) ?_
    exact zri C hw hr hlocks rfl ⟨hkd.symm, (fun _ => by rw [zJ_s]; rfl), zCo.b hcl⟩ ⟨Nat.le_of_ble_eq_true rfl, Nat.le_of_ble_eq_true rfl⟩ dL_drift_16

set_option maxHeartbeats 4000000 in
set_option maxRecDepth 100000 in
/-- L_serial -/
theorem c_L_serial (l : Launch) (hst : l.stackTraces = false) (D : va_G) (y : Nat → ClassId) (base : Nat) (S : zS) (a : Nat → Nat) (p0 : Int32) (p1 : Int32) (p2 : Int32) (p3 : Int32) (p4 : Int32) (o : Nat) (hX : zX S a) (h0 : zX0 S a) (hko : zK S o = 24) (hno : zN S o = 1) : zMi l yL_serial wsL_serial ({ frames := 8, cells := 6, slots := 36, locals := 141 }) [.ref (a 0), .int p0, .int p1, .int p2, .int p3, .int p4, .ref o] D y base S (fun (r : Int32) (S1 : zS) => r = kd_serial p0 p1 p2 p3 p4 ∧ (kd_serial p0 p1 p2 p3 p4 = 0 → zJ S1 o 0 = ((p2 + nI (zsbN p4) * p3 : Int32).toInt64)) ∧ zCo S S1 o) 6 36 := by
  refine zMetH_of (cc := cL_serial) (maxL := 8) (ret := (some .int)) (own := RL) (hh := [(0, 16, 19, 13), (0, 16, 23, 19), (0, 16, 27, 21)]) (by decide +kernel) rfl rfl (Nat.le_of_ble_eq_true rfl) ?_
  intro p e s m args below meth c ls C hr hlocks hx0 hw hl
  have hx := C.1
  have hb := C.2.1
  have hown := C.2.2.2.1
  have hts := C.2.2.2.2
  have hl : lv_has ls 8 [(0, .ref (a 0)), (1, .int p0), (2, .int p1), (3, .int p2), (4, .int p3), (5, .int p4), (6, .ref o)] := hl
  refine lv_aload hx hb dL_serial_0 (lv_at hl 6 rfl) ?_
  refine lv_iconst (v := 0) hx hb dL_serial_2 (by decide) ?_
  refine lv_aload_n hx hb dL_serial_3 rfl (lv_at hl 0 rfl) ?_
  refine lv_iload_n hx hb dL_serial_4 rfl (lv_at hl 1 rfl) ?_
  refine lv_iload_n hx hb dL_serial_5 rfl (lv_at hl 2 rfl) ?_
  refine lv_iload_n hx hb dL_serial_6 rfl (lv_at hl 3 rfl) ?_
  refine lv_iload hx hb dL_serial_7 (lv_at hl 4 rfl) ?_
  refine lv_iload hx hb dL_serial_9 (lv_at hl 5 rfl) ?_
  refine zcV_xi (As := [.int p0, .int p1, .int p2, .int p3, .int p4]) (rest := [.int 0, .ref o]) (n9 := 5) (b := (a 0)) C hw (c_X7_serial l hst D y base S a p0 p1 p2 p3 p4 hX (by first | assumption | decide | grind)) gL_serial_X7_serial rfl (by decide +kernel) ⟨⟨rfl, rfl⟩, Nat.le_of_ble_eq_true rfl, Nat.le_of_ble_eq_true rfl⟩ hX.1 ⟨by decide, by decide⟩ rfl rfl hl.1 rfl (Nat.le_of_ble_eq_true rfl) ⟨Nat.le_of_ble_eq_true rfl, Nat.le_of_ble_eq_true rfl⟩ dL_serial_11 (fun E9 ce q9 S11 H locs hx9 hw h1 h2 h3 => ?_) (fun r11 S11 H locs hp11 hw => ?_)
  · obtain ⟨hx9, hcl9⟩ := hx9
    rcases hx9 with ⟨rfl, hk9⟩ | ⟨rfl, hk9⟩ | ⟨rfl, hk9⟩
    · refine zcatch (pre := []) (suf := [(0, 16, 23, 19), (0, 16, 27, 21)]) (pe := 16) (ph := 19) (ct := 13) C hw hx0 rfl (by decide) (by decide) (fun z hz => by cases hz) (by decide) (by decide +kernel) (by decide +kernel) h1 h2 h3 ?_
      refine lv_astore (lv' := [(7, .ref q9), (0, .ref (a 0)), (1, .int p0), (2, .int p1), (3, .int p2), (4, .int p3), (5, .int p4), (6, .ref o)]) hx hb dL_serial_19 hl (by decide) rfl (fun ls hl => ?_)
      refine lv_iconst (v := 1) hx hb dL_serial_21 (by decide) ?_
      exact zri C hw hr hlocks rfl ⟨hk9.symm, (fun q => absurd (hk9.symm.trans q) (by decide)), zCo.a hcl9⟩ ⟨Nat.le_of_ble_eq_true rfl, Nat.le_of_ble_eq_true rfl⟩ dL_serial_22
    · refine zcatch (pre := [(0, 16, 19, 13)]) (suf := [(0, 16, 27, 21)]) (pe := 16) (ph := 23) (ct := 19) C hw hx0 rfl (by decide) (by decide) (by intro z hz; simp only [List.mem_cons, List.not_mem_nil, or_false] at hz; obtain rfl := hz; exact ⟨by decide, "java/lang/IndexOutOfBoundsException", by decide +kernel, by decide, by decide⟩) (by decide) (by decide +kernel) (by decide +kernel) h1 h2 h3 ?_
      refine lv_astore (lv' := [(7, .ref q9), (0, .ref (a 0)), (1, .int p0), (2, .int p1), (3, .int p2), (4, .int p3), (5, .int p4), (6, .ref o)]) hx hb dL_serial_23 hl (by decide) rfl (fun ls hl => ?_)
      refine lv_iconst (v := 2) hx hb dL_serial_25 (by decide) ?_
      exact zri C hw hr hlocks rfl ⟨hk9.symm, (fun q => absurd (hk9.symm.trans q) (by decide)), zCo.a hcl9⟩ ⟨Nat.le_of_ble_eq_true rfl, Nat.le_of_ble_eq_true rfl⟩ dL_serial_26
    · refine zcatch (pre := [(0, 16, 19, 13), (0, 16, 23, 19)]) (suf := []) (pe := 16) (ph := 27) (ct := 21) C hw hx0 rfl (by decide) (by decide) (by intro z hz; simp only [List.mem_cons, List.not_mem_nil, or_false] at hz; rcases hz with rfl | rfl; exact ⟨by decide, "java/lang/IndexOutOfBoundsException", by decide +kernel, by decide, by decide⟩; exact ⟨by decide, "java/lang/IllegalArgumentException", by decide +kernel, by decide, by decide⟩) (by decide) (by decide +kernel) (by decide +kernel) h1 h2 h3 ?_
      refine lv_astore (lv' := [(7, .ref q9), (0, .ref (a 0)), (1, .int p0), (2, .int p1), (3, .int p2), (4, .int p3), (5, .int p4), (6, .ref o)]) hx hb dL_serial_27 hl (by decide) rfl (fun ls hl => ?_)
      refine lv_iconst (v := 3) hx hb dL_serial_29 (by decide) ?_
      exact zri C hw hr hlocks rfl ⟨hk9.symm, (fun q => absurd (hk9.symm.trans q) (by decide)), zCo.a hcl9⟩ ⟨Nat.le_of_ble_eq_true rfl, Nat.le_of_ble_eq_true rfl⟩ dL_serial_30
  · obtain ⟨rfl, hkd, hcl⟩ := hp11
    have ho9 := hcl.o hko hno
    refine lv_i2l (v := (p2 + nI (zsbN p4) * p3).toInt64) hx hb dL_serial_14 rfl ?_
    refine zast_J (a := o) C hw ho9.1 ho9.2 (zin_of (N := 1) (by decide) (by decide) (by decide)) dL_serial_15 (fun H locs hw => ?_)
    refine lv_goto (tgt := 31) hx hb dL_serial_16 (by decide) ?_
    refine lv_iconst (v := 0) hx hb dL_serial_31 (by decide) ?_
    exact zri C hw hr hlocks rfl ⟨hkd.symm, (fun _ => by rw [zJ_s]; rfl), zCo.b hcl⟩ ⟨Nat.le_of_ble_eq_true rfl, Nat.le_of_ble_eq_true rfl⟩ dL_serial_32

set_option maxHeartbeats 4000000 in
set_option maxRecDepth 100000 in
/-- L_twoWires -/
theorem c_L_twoWires (l : Launch) (hst : l.stackTraces = false) (D : va_G) (y : Nat → ClassId) (base : Nat) (S : zS) (a : Nat → Nat) (p0 : Int32) (p1 : Int32) (p2 : Int32) (p3 : Int32) (p4 : Int32) (p5 : Int32) (p6 : Int32) (p7 : Int32) (o : Nat) (hX : zX S a) (h0 : zX0 S a) (hz3 : p3 = 0 ∨ p3 = 1) (hko : zK S o = 24) (hno : zN S o = 1) : zMi l yL_twoWires wsL_twoWires ({ frames := 8, cells := 9, slots := 54, locals := 141 }) [.ref (a 0), .int p0, .int p1, .int p2, .int p3, .int p4, .int p5, .int p6, .int p7, .ref o] D y base S (fun (r : Int32) (S1 : zS) => r = kd_two p0 p1 p2 p3 p4 p5 p6 p7 ∧ (kd_two p0 p1 p2 p3 p4 p5 p6 p7 = 0 → zJ S1 o 0 = ((p6 + 57 * p7 : Int32).toInt64)) ∧ zCo S S1 o) 9 54 := by
  refine zMetH_of (cc := cL_twoWires) (maxL := 11) (ret := (some .int)) (own := RL) (hh := [(0, 22, 25, 13), (0, 22, 29, 19), (0, 22, 33, 21)]) (by decide +kernel) rfl rfl (Nat.le_of_ble_eq_true rfl) ?_
  intro p e s m args below meth c ls C hr hlocks hx0 hw hl
  have hx := C.1
  have hb := C.2.1
  have hown := C.2.2.2.1
  have hts := C.2.2.2.2
  have hl : lv_has ls 11 [(0, .ref (a 0)), (1, .int p0), (2, .int p1), (3, .int p2), (4, .int p3), (5, .int p4), (6, .int p5), (7, .int p6), (8, .int p7), (9, .ref o)] := hl
  refine lv_aload hx hb dL_twoWires_0 (lv_at hl 9 rfl) ?_
  refine lv_iconst (v := 0) hx hb dL_twoWires_2 (by decide) ?_
  refine lv_aload_n hx hb dL_twoWires_3 rfl (lv_at hl 0 rfl) ?_
  refine lv_iload_n hx hb dL_twoWires_4 rfl (lv_at hl 1 rfl) ?_
  refine lv_iload_n hx hb dL_twoWires_5 rfl (lv_at hl 2 rfl) ?_
  refine lv_iload_n hx hb dL_twoWires_6 rfl (lv_at hl 3 rfl) ?_
  refine lv_iload hx hb dL_twoWires_7 (lv_at hl 4 rfl) ?_
  refine lv_iload hx hb dL_twoWires_9 (lv_at hl 5 rfl) ?_
  refine lv_iload hx hb dL_twoWires_11 (lv_at hl 6 rfl) ?_
  refine lv_iload hx hb dL_twoWires_13 (lv_at hl 7 rfl) ?_
  refine lv_iload hx hb dL_twoWires_15 (lv_at hl 8 rfl) ?_
  refine zcV_xi (As := [.int p0, .int p1, .int p2, .int p3, .int p4, .int p5, .int p6, .int p7]) (rest := [.int 0, .ref o]) (n9 := 8) (b := (a 0)) C hw (c_X7_twoWires l hst D y base S a p0 p1 p2 p3 p4 p5 p6 p7 hX (by first | assumption | decide | grind) (by first | assumption | decide | grind)) gL_twoWires_X7_twoWires rfl (by decide +kernel) ⟨⟨rfl, rfl⟩, Nat.le_of_ble_eq_true rfl, Nat.le_of_ble_eq_true rfl⟩ hX.1 ⟨by decide, by decide⟩ rfl rfl hl.1 rfl (Nat.le_of_ble_eq_true rfl) ⟨Nat.le_of_ble_eq_true rfl, Nat.le_of_ble_eq_true rfl⟩ dL_twoWires_17 (fun E9 ce q9 S17 H locs hx9 hw h1 h2 h3 => ?_) (fun r17 S17 H locs hp17 hw => ?_)
  · obtain ⟨hx9, hcl9⟩ := hx9
    rcases hx9 with ⟨rfl, hk9⟩ | ⟨rfl, hk9⟩ | ⟨rfl, hk9⟩
    · refine zcatch (pre := []) (suf := [(0, 22, 29, 19), (0, 22, 33, 21)]) (pe := 22) (ph := 25) (ct := 13) C hw hx0 rfl (by decide) (by decide) (fun z hz => by cases hz) (by decide) (by decide +kernel) (by decide +kernel) h1 h2 h3 ?_
      refine lv_astore (lv' := [(10, .ref q9), (0, .ref (a 0)), (1, .int p0), (2, .int p1), (3, .int p2), (4, .int p3), (5, .int p4), (6, .int p5), (7, .int p6), (8, .int p7), (9, .ref o)]) hx hb dL_twoWires_25 hl (by decide) rfl (fun ls hl => ?_)
      refine lv_iconst (v := 1) hx hb dL_twoWires_27 (by decide) ?_
      exact zri C hw hr hlocks rfl ⟨hk9.symm, (fun q => absurd (hk9.symm.trans q) (by decide)), zCo.a hcl9⟩ ⟨Nat.le_of_ble_eq_true rfl, Nat.le_of_ble_eq_true rfl⟩ dL_twoWires_28
    · refine zcatch (pre := [(0, 22, 25, 13)]) (suf := [(0, 22, 33, 21)]) (pe := 22) (ph := 29) (ct := 19) C hw hx0 rfl (by decide) (by decide) (by intro z hz; simp only [List.mem_cons, List.not_mem_nil, or_false] at hz; obtain rfl := hz; exact ⟨by decide, "java/lang/IndexOutOfBoundsException", by decide +kernel, by decide, by decide⟩) (by decide) (by decide +kernel) (by decide +kernel) h1 h2 h3 ?_
      refine lv_astore (lv' := [(10, .ref q9), (0, .ref (a 0)), (1, .int p0), (2, .int p1), (3, .int p2), (4, .int p3), (5, .int p4), (6, .int p5), (7, .int p6), (8, .int p7), (9, .ref o)]) hx hb dL_twoWires_29 hl (by decide) rfl (fun ls hl => ?_)
      refine lv_iconst (v := 2) hx hb dL_twoWires_31 (by decide) ?_
      exact zri C hw hr hlocks rfl ⟨hk9.symm, (fun q => absurd (hk9.symm.trans q) (by decide)), zCo.a hcl9⟩ ⟨Nat.le_of_ble_eq_true rfl, Nat.le_of_ble_eq_true rfl⟩ dL_twoWires_32
    · refine zcatch (pre := [(0, 22, 25, 13), (0, 22, 29, 19)]) (suf := []) (pe := 22) (ph := 33) (ct := 21) C hw hx0 rfl (by decide) (by decide) (by intro z hz; simp only [List.mem_cons, List.not_mem_nil, or_false] at hz; rcases hz with rfl | rfl; exact ⟨by decide, "java/lang/IndexOutOfBoundsException", by decide +kernel, by decide, by decide⟩; exact ⟨by decide, "java/lang/IllegalArgumentException", by decide +kernel, by decide, by decide⟩) (by decide) (by decide +kernel) (by decide +kernel) h1 h2 h3 ?_
      refine lv_astore (lv' := [(10, .ref q9), (0, .ref (a 0)), (1, .int p0), (2, .int p1), (3, .int p2), (4, .int p3), (5, .int p4), (6, .int p5), (7, .int p6), (8, .int p7), (9, .ref o)]) hx hb dL_twoWires_33 hl (by decide) rfl (fun ls hl => ?_)
      refine lv_iconst (v := 3) hx hb dL_twoWires_35 (by decide) ?_
      exact zri C hw hr hlocks rfl ⟨hk9.symm, (fun q => absurd (hk9.symm.trans q) (by decide)), zCo.a hcl9⟩ ⟨Nat.le_of_ble_eq_true rfl, Nat.le_of_ble_eq_true rfl⟩ dL_twoWires_36
  · obtain ⟨rfl, hkd, hcl⟩ := hp17
    have ho9 := hcl.o hko hno
    refine lv_i2l (v := (p6 + 57 * p7).toInt64) hx hb dL_twoWires_20 rfl ?_
    refine zast_J (a := o) C hw ho9.1 ho9.2 (zin_of (N := 1) (by decide) (by decide) (by decide)) dL_twoWires_21 (fun H locs hw => ?_)
    refine lv_goto (tgt := 37) hx hb dL_twoWires_22 (by decide) ?_
    refine lv_iconst (v := 0) hx hb dL_twoWires_37 (by decide) ?_
    exact zri C hw hr hlocks rfl ⟨hkd.symm, (fun _ => by rw [zJ_s]; rfl), zCo.b hcl⟩ ⟨Nat.le_of_ble_eq_true rfl, Nat.le_of_ble_eq_true rfl⟩ dL_twoWires_38

set_option maxHeartbeats 4000000 in
set_option maxRecDepth 100000 in
/-- L_fourWires -/
theorem c_L_fourWires (l : Launch) (hst : l.stackTraces = false) (D : va_G) (y : Nat → ClassId) (base : Nat) (S : zS) (a : Nat → Nat) (p0 : Int32) (p1 : Int32) (p2 : Int32) (p3 : Int32) (p4 : Int32) (p5 : Int32) (p6 : Int32) (o : Nat) (hX : zX S a) (h0 : zX0 S a) (hko : zK S o = 24) (hno : zN S o = 1) : zMi l yL_fourWires wsL_fourWires ({ frames := 9, cells := 11, slots := 66, locals := 161 }) [.ref (a 0), .int p0, .int p1, .int p2, .int p3, .int p4, .int p5, .int p6, .ref o] D y base S (fun (r : Int32) (S1 : zS) => r = kd_four p0 p1 p2 p3 p4 p5 p6 ∧ (kd_four p0 p1 p2 p3 p4 p5 p6 = 0 → zJ S1 o 0 = ((p4 + 17 * p5 : Int32).toInt64)) ∧ zCo S S1 o) 11 66 := by
  refine zMetH_of (cc := cL_fourWires) (maxL := 10) (ret := (some .int)) (own := RL) (hh := [(0, 20, 23, 13), (0, 20, 27, 19), (0, 20, 31, 21)]) (by decide +kernel) rfl rfl (Nat.le_of_ble_eq_true rfl) ?_
  intro p e s m args below meth c ls C hr hlocks hx0 hw hl
  have hx := C.1
  have hb := C.2.1
  have hown := C.2.2.2.1
  have hts := C.2.2.2.2
  have hl : lv_has ls 10 [(0, .ref (a 0)), (1, .int p0), (2, .int p1), (3, .int p2), (4, .int p3), (5, .int p4), (6, .int p5), (7, .int p6), (8, .ref o)] := hl
  refine lv_aload hx hb dL_fourWires_0 (lv_at hl 8 rfl) ?_
  refine lv_iconst (v := 0) hx hb dL_fourWires_2 (by decide) ?_
  refine lv_aload_n hx hb dL_fourWires_3 rfl (lv_at hl 0 rfl) ?_
  refine lv_iload_n hx hb dL_fourWires_4 rfl (lv_at hl 1 rfl) ?_
  refine lv_iload_n hx hb dL_fourWires_5 rfl (lv_at hl 2 rfl) ?_
  refine lv_iload_n hx hb dL_fourWires_6 rfl (lv_at hl 3 rfl) ?_
  refine lv_iload hx hb dL_fourWires_7 (lv_at hl 4 rfl) ?_
  refine lv_iload hx hb dL_fourWires_9 (lv_at hl 5 rfl) ?_
  refine lv_iload hx hb dL_fourWires_11 (lv_at hl 6 rfl) ?_
  refine lv_iload hx hb dL_fourWires_13 (lv_at hl 7 rfl) ?_
  refine zcV_xi (As := [.int p0, .int p1, .int p2, .int p3, .int p4, .int p5, .int p6]) (rest := [.int 0, .ref o]) (n9 := 7) (b := (a 0)) C hw (c_X7_fourWires l hst D y base S a p0 p1 p2 p3 p4 p5 p6 hX (by first | assumption | decide | grind)) gL_fourWires_X7_fourWires rfl (by decide +kernel) ⟨⟨rfl, rfl⟩, Nat.le_of_ble_eq_true rfl, Nat.le_of_ble_eq_true rfl⟩ hX.1 ⟨by decide, by decide⟩ rfl rfl hl.1 rfl (Nat.le_of_ble_eq_true rfl) ⟨Nat.le_of_ble_eq_true rfl, Nat.le_of_ble_eq_true rfl⟩ dL_fourWires_15 (fun E9 ce q9 S15 H locs hx9 hw h1 h2 h3 => ?_) (fun r15 S15 H locs hp15 hw => ?_)
  · obtain ⟨hx9, hcl9⟩ := hx9
    rcases hx9 with ⟨rfl, hk9⟩ | ⟨rfl, hk9⟩ | ⟨rfl, hk9⟩
    · refine zcatch (pre := []) (suf := [(0, 20, 27, 19), (0, 20, 31, 21)]) (pe := 20) (ph := 23) (ct := 13) C hw hx0 rfl (by decide) (by decide) (fun z hz => by cases hz) (by decide) (by decide +kernel) (by decide +kernel) h1 h2 h3 ?_
      refine lv_astore (lv' := [(9, .ref q9), (0, .ref (a 0)), (1, .int p0), (2, .int p1), (3, .int p2), (4, .int p3), (5, .int p4), (6, .int p5), (7, .int p6), (8, .ref o)]) hx hb dL_fourWires_23 hl (by decide) rfl (fun ls hl => ?_)
      refine lv_iconst (v := 1) hx hb dL_fourWires_25 (by decide) ?_
      exact zri C hw hr hlocks rfl ⟨hk9.symm, (fun q => absurd (hk9.symm.trans q) (by decide)), zCo.a hcl9⟩ ⟨Nat.le_of_ble_eq_true rfl, Nat.le_of_ble_eq_true rfl⟩ dL_fourWires_26
    · refine zcatch (pre := [(0, 20, 23, 13)]) (suf := [(0, 20, 31, 21)]) (pe := 20) (ph := 27) (ct := 19) C hw hx0 rfl (by decide) (by decide) (by intro z hz; simp only [List.mem_cons, List.not_mem_nil, or_false] at hz; obtain rfl := hz; exact ⟨by decide, "java/lang/IndexOutOfBoundsException", by decide +kernel, by decide, by decide⟩) (by decide) (by decide +kernel) (by decide +kernel) h1 h2 h3 ?_
      refine lv_astore (lv' := [(9, .ref q9), (0, .ref (a 0)), (1, .int p0), (2, .int p1), (3, .int p2), (4, .int p3), (5, .int p4), (6, .int p5), (7, .int p6), (8, .ref o)]) hx hb dL_fourWires_27 hl (by decide) rfl (fun ls hl => ?_)
      refine lv_iconst (v := 2) hx hb dL_fourWires_29 (by decide) ?_
      exact zri C hw hr hlocks rfl ⟨hk9.symm, (fun q => absurd (hk9.symm.trans q) (by decide)), zCo.a hcl9⟩ ⟨Nat.le_of_ble_eq_true rfl, Nat.le_of_ble_eq_true rfl⟩ dL_fourWires_30
    · refine zcatch (pre := [(0, 20, 23, 13), (0, 20, 27, 19)]) (suf := []) (pe := 20) (ph := 31) (ct := 21) C hw hx0 rfl (by decide) (by decide) (by intro z hz; simp only [List.mem_cons, List.not_mem_nil, or_false] at hz; rcases hz with rfl | rfl; exact ⟨by decide, "java/lang/IndexOutOfBoundsException", by decide +kernel, by decide, by decide⟩; exact ⟨by decide, "java/lang/IllegalArgumentException", by decide +kernel, by decide, by decide⟩) (by decide) (by decide +kernel) (by decide +kernel) h1 h2 h3 ?_
      refine lv_astore (lv' := [(9, .ref q9), (0, .ref (a 0)), (1, .int p0), (2, .int p1), (3, .int p2), (4, .int p3), (5, .int p4), (6, .int p5), (7, .int p6), (8, .ref o)]) hx hb dL_fourWires_31 hl (by decide) rfl (fun ls hl => ?_)
      refine lv_iconst (v := 3) hx hb dL_fourWires_33 (by decide) ?_
      exact zri C hw hr hlocks rfl ⟨hk9.symm, (fun q => absurd (hk9.symm.trans q) (by decide)), zCo.a hcl9⟩ ⟨Nat.le_of_ble_eq_true rfl, Nat.le_of_ble_eq_true rfl⟩ dL_fourWires_34
  · obtain ⟨rfl, hkd, hcl⟩ := hp15
    have ho9 := hcl.o hko hno
    refine lv_i2l (v := (p4 + 17 * p5).toInt64) hx hb dL_fourWires_18 rfl ?_
    refine zast_J (a := o) C hw ho9.1 ho9.2 (zin_of (N := 1) (by decide) (by decide) (by decide)) dL_fourWires_19 (fun H locs hw => ?_)
    refine lv_goto (tgt := 35) hx hb dL_fourWires_20 (by decide) ?_
    refine lv_iconst (v := 0) hx hb dL_fourWires_35 (by decide) ?_
    exact zri C hw hr hlocks rfl ⟨hkd.symm, (fun _ => by rw [zJ_s]; rfl), zCo.b hcl⟩ ⟨Nat.le_of_ble_eq_true rfl, Nat.le_of_ble_eq_true rfl⟩ dL_fourWires_36

set_option maxHeartbeats 4000000 in
set_option maxRecDepth 100000 in
/-- L_capture -/
theorem c_L_capture (l : Launch) (hst : l.stackTraces = false) (D : va_G) (y : Nat → ClassId) (base : Nat) (S : zS) (a : Nat → Nat) (p0 : Int32) (p1 : Int32) (p2 : Int32) (p3 : Int32) (o : Nat) (hX : zX S a) (h0 : zX0 S a) (hko : zK S o = 24) (hno : zN S o = 1) : zMi l yL_capture wsL_capture ({ frames := 8, cells := 5, slots := 30, locals := 138 }) [.ref (a 0), .int p0, .int p1, .int p2, .int p3, .ref o] D y base S (fun (r : Int32) (S1 : zS) => r = kd_capture p0 p1 p2 p3 ∧ (kd_capture p0 p1 p2 p3 = 0 → zJ S1 o 0 = ((0 : Int32).toInt64)) ∧ zCo S S1 o) 5 30 := by
  refine zMetH_of (cc := cL_capture) (maxL := 7) (ret := (some .int)) (own := RL) (hh := [(0, 14, 17, 13), (0, 14, 21, 19)]) (by decide +kernel) rfl rfl (Nat.le_of_ble_eq_true rfl) ?_
  intro p e s m args below meth c ls C hr hlocks hx0 hw hl
  have hx := C.1
  have hb := C.2.1
  have hown := C.2.2.2.1
  have hts := C.2.2.2.2
  have hl : lv_has ls 7 [(0, .ref (a 0)), (1, .int p0), (2, .int p1), (3, .int p2), (4, .int p3), (5, .ref o)] := hl
  refine lv_aload hx hb dL_capture_0 (lv_at hl 5 rfl) ?_
  refine lv_iconst (v := 0) hx hb dL_capture_2 (by decide) ?_
  refine lv_aload_n hx hb dL_capture_3 rfl (lv_at hl 0 rfl) ?_
  refine lv_iload_n hx hb dL_capture_4 rfl (lv_at hl 1 rfl) ?_
  refine lv_iload_n hx hb dL_capture_5 rfl (lv_at hl 2 rfl) ?_
  refine lv_iload_n hx hb dL_capture_6 rfl (lv_at hl 3 rfl) ?_
  refine lv_iload hx hb dL_capture_7 (lv_at hl 4 rfl) ?_
  refine zcV_xi (As := [.int p0, .int p1, .int p2, .int p3]) (rest := [.int 0, .ref o]) (n9 := 4) (b := (a 0)) C hw (c_X7_capture l hst D y base S a p0 p1 p2 p3 hX (by first | assumption | decide | grind)) gL_capture_X7_capture rfl (by decide +kernel) ⟨⟨rfl, rfl⟩, Nat.le_of_ble_eq_true rfl, Nat.le_of_ble_eq_true rfl⟩ hX.1 ⟨by decide, by decide⟩ rfl rfl hl.1 rfl (Nat.le_of_ble_eq_true rfl) ⟨Nat.le_of_ble_eq_true rfl, Nat.le_of_ble_eq_true rfl⟩ dL_capture_9 (fun E9 ce q9 S9 H locs hx9 hw h1 h2 h3 => ?_) (fun r9 S9 H locs hp9 hw => ?_)
  · obtain ⟨hx9, hcl9⟩ := hx9
    rcases hx9 with ⟨rfl, hk9⟩ | ⟨rfl, hk9⟩
    · refine zcatch (pre := []) (suf := [(0, 14, 21, 19)]) (pe := 14) (ph := 17) (ct := 13) C hw hx0 rfl (by decide) (by decide) (fun z hz => by cases hz) (by decide) (by decide +kernel) (by decide +kernel) h1 h2 h3 ?_
      refine lv_astore (lv' := [(6, .ref q9), (0, .ref (a 0)), (1, .int p0), (2, .int p1), (3, .int p2), (4, .int p3), (5, .ref o)]) hx hb dL_capture_17 hl (by decide) rfl (fun ls hl => ?_)
      refine lv_iconst (v := 1) hx hb dL_capture_19 (by decide) ?_
      exact zri C hw hr hlocks rfl ⟨hk9.symm, (fun q => absurd (hk9.symm.trans q) (by decide)), zCo.a hcl9⟩ ⟨Nat.le_of_ble_eq_true rfl, Nat.le_of_ble_eq_true rfl⟩ dL_capture_20
    · refine zcatch (pre := [(0, 14, 17, 13)]) (suf := []) (pe := 14) (ph := 21) (ct := 19) C hw hx0 rfl (by decide) (by decide) (by intro z hz; simp only [List.mem_cons, List.not_mem_nil, or_false] at hz; obtain rfl := hz; exact ⟨by decide, "java/lang/IndexOutOfBoundsException", by decide +kernel, by decide, by decide⟩) (by decide) (by decide +kernel) (by decide +kernel) h1 h2 h3 ?_
      refine lv_astore (lv' := [(6, .ref q9), (0, .ref (a 0)), (1, .int p0), (2, .int p1), (3, .int p2), (4, .int p3), (5, .ref o)]) hx hb dL_capture_21 hl (by decide) rfl (fun ls hl => ?_)
      refine lv_iconst (v := 2) hx hb dL_capture_23 (by decide) ?_
      exact zri C hw hr hlocks rfl ⟨hk9.symm, (fun q => absurd (hk9.symm.trans q) (by decide)), zCo.a hcl9⟩ ⟨Nat.le_of_ble_eq_true rfl, Nat.le_of_ble_eq_true rfl⟩ dL_capture_24
  · obtain ⟨rfl, hkd, hcl⟩ := hp9
    have ho9 := hcl.o hko hno
    refine lv_i2l (v := (0 : Int32).toInt64) hx hb dL_capture_12 rfl ?_
    refine zast_J (a := o) C hw ho9.1 ho9.2 (zin_of (N := 1) (by decide) (by decide) (by decide)) dL_capture_13 (fun H locs hw => ?_)
    refine lv_goto (tgt := 25) hx hb dL_capture_14 (by decide) ?_
    refine lv_iconst (v := 0) hx hb dL_capture_25 (by decide) ?_
    exact zri C hw hr hlocks rfl ⟨hkd.symm, (fun _ => by rw [zJ_s]; rfl), zCo.b hcl⟩ ⟨Nat.le_of_ble_eq_true rfl, Nat.le_of_ble_eq_true rfl⟩ dL_capture_26

set_option maxHeartbeats 4000000 in
set_option maxRecDepth 100000 in
/-- L_samples -/
theorem c_L_samples (l : Launch) (hst : l.stackTraces = false) (D : va_G) (y : Nat → ClassId) (base : Nat) (S : zS) (a : Nat → Nat) (p0 : Int32) (o : Nat) (hX : zX S a) (h0 : zX0 S a) (hko : zK S o = 24) (hno : zN S o = 1) : zMi l yL_samples wsL_samples ({ frames := 8, cells := 1, slots := 6, locals := 131 }) [.ref (a 0), .int p0, .ref o] D y base S (fun (r : Int32) (S1 : zS) => r = kd_samples p0 ∧ (kd_samples p0 = 0 → zJ S1 o 0 = ((0 : Int32).toInt64)) ∧ zCo S S1 o) 1 6 := by
  refine zMetH_of (cc := cL_samples) (maxL := 4) (ret := (some .int)) (own := RL) (hh := [(0, 9, 12, 13)]) (by decide +kernel) rfl rfl (Nat.le_of_ble_eq_true rfl) ?_
  intro p e s m args below meth c ls C hr hlocks hx0 hw hl
  have hx := C.1
  have hb := C.2.1
  have hown := C.2.2.2.1
  have hts := C.2.2.2.2
  have hl : lv_has ls 4 [(0, .ref (a 0)), (1, .int p0), (2, .ref o)] := hl
  refine lv_aload_n hx hb dL_samples_0 rfl (lv_at hl 2 rfl) ?_
  refine lv_iconst (v := 0) hx hb dL_samples_1 (by decide) ?_
  refine lv_aload_n hx hb dL_samples_2 rfl (lv_at hl 0 rfl) ?_
  refine lv_iload_n hx hb dL_samples_3 rfl (lv_at hl 1 rfl) ?_
  refine zcV_xi (As := [.int p0]) (rest := [.int 0, .ref o]) (n9 := 1) (b := (a 0)) C hw (c_X7_samples l hst D y base S a p0 hX (by first | assumption | decide | grind)) gL_samples_X7_samples rfl (by decide +kernel) ⟨⟨rfl, rfl⟩, Nat.le_of_ble_eq_true rfl, Nat.le_of_ble_eq_true rfl⟩ hX.1 ⟨by decide, by decide⟩ rfl rfl hl.1 rfl (Nat.le_of_ble_eq_true rfl) ⟨Nat.le_of_ble_eq_true rfl, Nat.le_of_ble_eq_true rfl⟩ dL_samples_4 (fun E9 ce q9 S4 H locs hx9 hw h1 h2 h3 => ?_) (fun r4 S4 H locs hp4 hw => ?_)
  · obtain ⟨hx9, hcl9⟩ := hx9
    obtain ⟨rfl, hk9⟩ := hx9
    refine zcatch (pre := []) (suf := []) (pe := 9) (ph := 12) (ct := 13) C hw hx0 rfl (by decide) (by decide) (fun z hz => by cases hz) (by decide) (by decide +kernel) (by decide +kernel) h1 h2 h3 ?_
    refine lv_astore_n (lv' := [(3, .ref q9), (0, .ref (a 0)), (1, .int p0), (2, .ref o)]) hx hb dL_samples_12 rfl hl (by decide) rfl (fun ls hl => ?_)
    refine lv_iconst (v := 1) hx hb dL_samples_13 (by decide) ?_
    exact zri C hw hr hlocks rfl ⟨hk9.symm, (fun q => absurd (hk9.symm.trans q) (by decide)), zCo.a hcl9⟩ ⟨Nat.le_of_ble_eq_true rfl, Nat.le_of_ble_eq_true rfl⟩ dL_samples_14
  · obtain ⟨rfl, hkd, hcl⟩ := hp4
    have ho9 := hcl.o hko hno
    refine lv_i2l (v := (0 : Int32).toInt64) hx hb dL_samples_7 rfl ?_
    refine zast_J (a := o) C hw ho9.1 ho9.2 (zin_of (N := 1) (by decide) (by decide) (by decide)) dL_samples_8 (fun H locs hw => ?_)
    refine lv_goto (tgt := 15) hx hb dL_samples_9 (by decide) ?_
    refine lv_iconst (v := 0) hx hb dL_samples_15 (by decide) ?_
    exact zri C hw hr hlocks rfl ⟨hkd.symm, (fun _ => by rw [zJ_s]; rfl), zCo.b hcl⟩ ⟨Nat.le_of_ble_eq_true rfl, Nat.le_of_ble_eq_true rfl⟩ dL_samples_16

set_option maxHeartbeats 4000000 in
set_option maxRecDepth 100000 in
/-- L_sample -/
theorem c_L_sample (l : Launch) (hst : l.stackTraces = false) (D : va_G) (y : Nat → ClassId) (base : Nat) (S : zS) (a : Nat → Nat) (p0 : Int32) (p1 : Int32) (o : Nat) (hX : zX S a) (h0 : zX0 S a) (hko : zK S o = 24) (hno : zN S o = 1) : zMi l yL_sample wsL_sample ({ frames := 8, cells := 2, slots := 12, locals := 132 }) [.ref (a 0), .int p0, .int p1, .ref o] D y base S (fun (r : Int32) (S1 : zS) => r = kd_sample p0 ∧ (kd_sample p0 = 0 → zJ S1 o 0 = ((0 : Int32).toInt64)) ∧ zCo S S1 o) 2 12 := by
  refine zMetH_of (cc := cL_sample) (maxL := 5) (ret := (some .int)) (own := RL) (hh := [(0, 10, 13, 13), (0, 10, 17, 57)]) (by decide +kernel) rfl rfl (Nat.le_of_ble_eq_true rfl) ?_
  intro p e s m args below meth c ls C hr hlocks hx0 hw hl
  have hx := C.1
  have hb := C.2.1
  have hown := C.2.2.2.1
  have hts := C.2.2.2.2
  have hl : lv_has ls 5 [(0, .ref (a 0)), (1, .int p0), (2, .int p1), (3, .ref o)] := hl
  refine lv_aload_n hx hb dL_sample_0 rfl (lv_at hl 3 rfl) ?_
  refine lv_iconst (v := 0) hx hb dL_sample_1 (by decide) ?_
  refine lv_aload_n hx hb dL_sample_2 rfl (lv_at hl 0 rfl) ?_
  refine lv_iload_n hx hb dL_sample_3 rfl (lv_at hl 1 rfl) ?_
  refine lv_iload_n hx hb dL_sample_4 rfl (lv_at hl 2 rfl) ?_
  refine zcV_xi (As := [.int p0, .int p1]) (rest := [.int 0, .ref o]) (n9 := 2) (b := (a 0)) C hw (c_X7_sample l hst D y base S a p0 p1 hX (by first | assumption | decide | grind)) gL_sample_X7_sample rfl (by decide +kernel) ⟨⟨rfl, rfl⟩, Nat.le_of_ble_eq_true rfl, Nat.le_of_ble_eq_true rfl⟩ hX.1 ⟨by decide, by decide⟩ rfl rfl hl.1 rfl (Nat.le_of_ble_eq_true rfl) ⟨Nat.le_of_ble_eq_true rfl, Nat.le_of_ble_eq_true rfl⟩ dL_sample_5 (fun E9 ce q9 S5 H locs hx9 hw h1 h2 h3 => ?_) (fun r5 S5 H locs hp5 hw => ?_)
  · obtain ⟨hx9, hcl9⟩ := hx9
    rcases hx9 with ⟨rfl, hk9⟩ | ⟨rfl, hk9⟩
    · refine zcatch (pre := []) (suf := [(0, 10, 17, 57)]) (pe := 10) (ph := 13) (ct := 13) C hw hx0 rfl (by decide) (by decide) (fun z hz => by cases hz) (by decide) (by decide +kernel) (by decide +kernel) h1 h2 h3 ?_
      refine lv_astore (lv' := [(4, .ref q9), (0, .ref (a 0)), (1, .int p0), (2, .int p1), (3, .ref o)]) hx hb dL_sample_13 hl (by decide) rfl (fun ls hl => ?_)
      refine lv_iconst (v := 1) hx hb dL_sample_15 (by decide) ?_
      exact zri C hw hr hlocks rfl ⟨hk9.symm, (fun q => absurd (hk9.symm.trans q) (by decide)), zCo.a hcl9⟩ ⟨Nat.le_of_ble_eq_true rfl, Nat.le_of_ble_eq_true rfl⟩ dL_sample_16
    · refine zcatch (pre := [(0, 10, 13, 13)]) (suf := []) (pe := 10) (ph := 17) (ct := 57) C hw hx0 rfl (by decide) (by decide) (by intro z hz; simp only [List.mem_cons, List.not_mem_nil, or_false] at hz; obtain rfl := hz; exact ⟨by decide, "java/lang/IndexOutOfBoundsException", by decide +kernel, by decide, by decide⟩) (by decide) (by decide +kernel) (by decide +kernel) h1 h2 h3 ?_
      refine lv_astore (lv' := [(4, .ref q9), (0, .ref (a 0)), (1, .int p0), (2, .int p1), (3, .ref o)]) hx hb dL_sample_17 hl (by decide) rfl (fun ls hl => ?_)
      refine lv_iconst (v := 2) hx hb dL_sample_19 (by decide) ?_
      exact zri C hw hr hlocks rfl ⟨hk9.symm, (fun q => absurd (hk9.symm.trans q) (by decide)), zCo.a hcl9⟩ ⟨Nat.le_of_ble_eq_true rfl, Nat.le_of_ble_eq_true rfl⟩ dL_sample_20
  · exact hp5.1.elim

set_option maxHeartbeats 4000000 in
set_option maxRecDepth 100000 in
/-- L_runs -/
theorem c_L_runs (l : Launch) (hst : l.stackTraces = false) (D : va_G) (y : Nat → ClassId) (base : Nat) (S : zS) (a : Nat → Nat) (p0 : Int32) (p1 : Int32) (o : Nat) (hX : zX S a) (h0 : zX0 S a) (hko : zK S o = 24) (hno : zN S o = 1) : zMi l yL_runs wsL_runs ({ frames := 8, cells := 2, slots := 12, locals := 132 }) [.ref (a 0), .int p0, .int p1, .ref o] D y base S (fun (r : Int32) (S1 : zS) => r = kd_runs p0 p1 ∧ (kd_runs p0 p1 = 0 → zJ S1 o 0 = ((0 : Int32).toInt64)) ∧ zCo S S1 o) 2 12 := by
  refine zMetH_of (cc := cL_runs) (maxL := 5) (ret := (some .int)) (own := RL) (hh := [(0, 10, 13, 13)]) (by decide +kernel) rfl rfl (Nat.le_of_ble_eq_true rfl) ?_
  intro p e s m args below meth c ls C hr hlocks hx0 hw hl
  have hx := C.1
  have hb := C.2.1
  have hown := C.2.2.2.1
  have hts := C.2.2.2.2
  have hl : lv_has ls 5 [(0, .ref (a 0)), (1, .int p0), (2, .int p1), (3, .ref o)] := hl
  refine lv_aload_n hx hb dL_runs_0 rfl (lv_at hl 3 rfl) ?_
  refine lv_iconst (v := 0) hx hb dL_runs_1 (by decide) ?_
  refine lv_aload_n hx hb dL_runs_2 rfl (lv_at hl 0 rfl) ?_
  refine lv_iload_n hx hb dL_runs_3 rfl (lv_at hl 1 rfl) ?_
  refine lv_iload_n hx hb dL_runs_4 rfl (lv_at hl 2 rfl) ?_
  refine zcV_xi (As := [.int p0, .int p1]) (rest := [.int 0, .ref o]) (n9 := 2) (b := (a 0)) C hw (c_X7_runs l hst D y base S a p0 p1 hX (by first | assumption | decide | grind)) gL_runs_X7_runs rfl (by decide +kernel) ⟨⟨rfl, rfl⟩, Nat.le_of_ble_eq_true rfl, Nat.le_of_ble_eq_true rfl⟩ hX.1 ⟨by decide, by decide⟩ rfl rfl hl.1 rfl (Nat.le_of_ble_eq_true rfl) ⟨Nat.le_of_ble_eq_true rfl, Nat.le_of_ble_eq_true rfl⟩ dL_runs_5 (fun E9 ce q9 S5 H locs hx9 hw h1 h2 h3 => ?_) (fun r5 S5 H locs hp5 hw => ?_)
  · obtain ⟨hx9, hcl9⟩ := hx9
    obtain ⟨rfl, hk9⟩ := hx9
    refine zcatch (pre := []) (suf := []) (pe := 10) (ph := 13) (ct := 13) C hw hx0 rfl (by decide) (by decide) (fun z hz => by cases hz) (by decide) (by decide +kernel) (by decide +kernel) h1 h2 h3 ?_
    refine lv_astore (lv' := [(4, .ref q9), (0, .ref (a 0)), (1, .int p0), (2, .int p1), (3, .ref o)]) hx hb dL_runs_13 hl (by decide) rfl (fun ls hl => ?_)
    refine lv_iconst (v := 1) hx hb dL_runs_15 (by decide) ?_
    exact zri C hw hr hlocks rfl ⟨hk9.symm, (fun q => absurd (hk9.symm.trans q) (by decide)), zCo.a hcl9⟩ ⟨Nat.le_of_ble_eq_true rfl, Nat.le_of_ble_eq_true rfl⟩ dL_runs_16
  · obtain ⟨rfl, hkd, hcl⟩ := hp5
    have ho9 := hcl.o hko hno
    refine lv_i2l (v := (0 : Int32).toInt64) hx hb dL_runs_8 rfl ?_
    refine zast_J (a := o) C hw ho9.1 ho9.2 (zin_of (N := 1) (by decide) (by decide) (by decide)) dL_runs_9 (fun H locs hw => ?_)
    refine lv_goto (tgt := 17) hx hb dL_runs_10 (by decide) ?_
    refine lv_iconst (v := 0) hx hb dL_runs_17 (by decide) ?_
    exact zri C hw hr hlocks rfl ⟨hkd.symm, (fun _ => by rw [zJ_s]; rfl), zCo.b hcl⟩ ⟨Nat.le_of_ble_eq_true rfl, Nat.le_of_ble_eq_true rfl⟩ dL_runs_18

set_option maxHeartbeats 4000000 in
set_option maxRecDepth 100000 in
/-- L_run -/
theorem c_L_run (l : Launch) (hst : l.stackTraces = false) (D : va_G) (y : Nat → ClassId) (base : Nat) (S : zS) (a : Nat → Nat) (p0 : Int32) (p1 : Int32) (p2 : Int32) (o : Nat) (hX : zX S a) (h0 : zX0 S a) (hko : zK S o = 24) (hno : zN S o = 1) : zMi l yL_run wsL_run ({ frames := 8, cells := 3, slots := 18, locals := 134 }) [.ref (a 0), .int p0, .int p1, .int p2, .ref o] D y base S (fun (r : Int32) (S1 : zS) => r = kd_run p0 p1 ∧ (kd_run p0 p1 = 0 → zJ S1 o 0 = ((0 : Int32).toInt64)) ∧ zCo S S1 o) 3 18 := by
  refine zMetH_of (cc := cL_run) (maxL := 6) (ret := (some .int)) (own := RL) (hh := [(0, 12, 15, 13), (0, 12, 19, 57)]) (by decide +kernel) rfl rfl (Nat.le_of_ble_eq_true rfl) ?_
  intro p e s m args below meth c ls C hr hlocks hx0 hw hl
  have hx := C.1
  have hb := C.2.1
  have hown := C.2.2.2.1
  have hts := C.2.2.2.2
  have hl : lv_has ls 6 [(0, .ref (a 0)), (1, .int p0), (2, .int p1), (3, .int p2), (4, .ref o)] := hl
  refine lv_aload hx hb dL_run_0 (lv_at hl 4 rfl) ?_
  refine lv_iconst (v := 0) hx hb dL_run_2 (by decide) ?_
  refine lv_aload_n hx hb dL_run_3 rfl (lv_at hl 0 rfl) ?_
  refine lv_iload_n hx hb dL_run_4 rfl (lv_at hl 1 rfl) ?_
  refine lv_iload_n hx hb dL_run_5 rfl (lv_at hl 2 rfl) ?_
  refine lv_iload_n hx hb dL_run_6 rfl (lv_at hl 3 rfl) ?_
  refine zcV_xi (As := [.int p0, .int p1, .int p2]) (rest := [.int 0, .ref o]) (n9 := 3) (b := (a 0)) C hw (c_X7_run l hst D y base S a p0 p1 p2 hX (by first | assumption | decide | grind)) gL_run_X7_run rfl (by decide +kernel) ⟨⟨rfl, rfl⟩, Nat.le_of_ble_eq_true rfl, Nat.le_of_ble_eq_true rfl⟩ hX.1 ⟨by decide, by decide⟩ rfl rfl hl.1 rfl (Nat.le_of_ble_eq_true rfl) ⟨Nat.le_of_ble_eq_true rfl, Nat.le_of_ble_eq_true rfl⟩ dL_run_7 (fun E9 ce q9 S7 H locs hx9 hw h1 h2 h3 => ?_) (fun r7 S7 H locs hp7 hw => ?_)
  · obtain ⟨hx9, hcl9⟩ := hx9
    rcases hx9 with ⟨rfl, hk9⟩ | ⟨rfl, hk9⟩
    · refine zcatch (pre := []) (suf := [(0, 12, 19, 57)]) (pe := 12) (ph := 15) (ct := 13) C hw hx0 rfl (by decide) (by decide) (fun z hz => by cases hz) (by decide) (by decide +kernel) (by decide +kernel) h1 h2 h3 ?_
      refine lv_astore (lv' := [(5, .ref q9), (0, .ref (a 0)), (1, .int p0), (2, .int p1), (3, .int p2), (4, .ref o)]) hx hb dL_run_15 hl (by decide) rfl (fun ls hl => ?_)
      refine lv_iconst (v := 1) hx hb dL_run_17 (by decide) ?_
      exact zri C hw hr hlocks rfl ⟨hk9.symm, (fun q => absurd (hk9.symm.trans q) (by decide)), zCo.a hcl9⟩ ⟨Nat.le_of_ble_eq_true rfl, Nat.le_of_ble_eq_true rfl⟩ dL_run_18
    · refine zcatch (pre := [(0, 12, 15, 13)]) (suf := []) (pe := 12) (ph := 19) (ct := 57) C hw hx0 rfl (by decide) (by decide) (by intro z hz; simp only [List.mem_cons, List.not_mem_nil, or_false] at hz; obtain rfl := hz; exact ⟨by decide, "java/lang/IndexOutOfBoundsException", by decide +kernel, by decide, by decide⟩) (by decide) (by decide +kernel) (by decide +kernel) h1 h2 h3 ?_
      refine lv_astore (lv' := [(5, .ref q9), (0, .ref (a 0)), (1, .int p0), (2, .int p1), (3, .int p2), (4, .ref o)]) hx hb dL_run_19 hl (by decide) rfl (fun ls hl => ?_)
      refine lv_iconst (v := 2) hx hb dL_run_21 (by decide) ?_
      exact zri C hw hr hlocks rfl ⟨hk9.symm, (fun q => absurd (hk9.symm.trans q) (by decide)), zCo.a hcl9⟩ ⟨Nat.le_of_ble_eq_true rfl, Nat.le_of_ble_eq_true rfl⟩ dL_run_22
  · exact hp7.1.elim

set_option maxHeartbeats 4000000 in
set_option maxRecDepth 100000 in
/-- L_shortest -/
theorem c_L_shortest (l : Launch) (hst : l.stackTraces = false) (D : va_G) (y : Nat → ClassId) (base : Nat) (S : zS) (a : Nat → Nat) (p0 : Int32) (p1 : Int32) (o : Nat) (hX : zX S a) (h0 : zX0 S a) (hko : zK S o = 24) (hno : zN S o = 1) : zMi l yL_shortest wsL_shortest ({ frames := 9, cells := 3, slots := 18, locals := 155 }) [.ref (a 0), .int p0, .int p1, .ref o] D y base S (fun (r : Int32) (S1 : zS) => r = kd_run p0 p1 ∧ (kd_run p0 p1 = 0 → zJ S1 o 0 = ((0 : Int32).toInt64)) ∧ zCo S S1 o) 3 18 := by
  refine zMetH_of (cc := cL_shortest) (maxL := 5) (ret := (some .int)) (own := RL) (hh := [(0, 10, 13, 13), (0, 10, 17, 57)]) (by decide +kernel) rfl rfl (Nat.le_of_ble_eq_true rfl) ?_
  intro p e s m args below meth c ls C hr hlocks hx0 hw hl
  have hx := C.1
  have hb := C.2.1
  have hown := C.2.2.2.1
  have hts := C.2.2.2.2
  have hl : lv_has ls 5 [(0, .ref (a 0)), (1, .int p0), (2, .int p1), (3, .ref o)] := hl
  refine lv_aload_n hx hb dL_shortest_0 rfl (lv_at hl 3 rfl) ?_
  refine lv_iconst (v := 0) hx hb dL_shortest_1 (by decide) ?_
  refine lv_aload_n hx hb dL_shortest_2 rfl (lv_at hl 0 rfl) ?_
  refine lv_iload_n hx hb dL_shortest_3 rfl (lv_at hl 1 rfl) ?_
  refine lv_iload_n hx hb dL_shortest_4 rfl (lv_at hl 2 rfl) ?_
  refine zcV_xi (As := [.int p0, .int p1]) (rest := [.int 0, .ref o]) (n9 := 2) (b := (a 0)) C hw (c_X7_shortest l hst D y base S a p0 p1 hX (by first | assumption | decide | grind)) gL_shortest_X7_shortest rfl (by decide +kernel) ⟨⟨rfl, rfl⟩, Nat.le_of_ble_eq_true rfl, Nat.le_of_ble_eq_true rfl⟩ hX.1 ⟨by decide, by decide⟩ rfl rfl hl.1 rfl (Nat.le_of_ble_eq_true rfl) ⟨Nat.le_of_ble_eq_true rfl, Nat.le_of_ble_eq_true rfl⟩ dL_shortest_5 (fun E9 ce q9 S5 H locs hx9 hw h1 h2 h3 => ?_) (fun r5 S5 H locs hp5 hw => ?_)
  · obtain ⟨hx9, hcl9⟩ := hx9
    rcases hx9 with ⟨rfl, hk9⟩ | ⟨rfl, hk9⟩
    · refine zcatch (pre := []) (suf := [(0, 10, 17, 57)]) (pe := 10) (ph := 13) (ct := 13) C hw hx0 rfl (by decide) (by decide) (fun z hz => by cases hz) (by decide) (by decide +kernel) (by decide +kernel) h1 h2 h3 ?_
      refine lv_astore (lv' := [(4, .ref q9), (0, .ref (a 0)), (1, .int p0), (2, .int p1), (3, .ref o)]) hx hb dL_shortest_13 hl (by decide) rfl (fun ls hl => ?_)
      refine lv_iconst (v := 1) hx hb dL_shortest_15 (by decide) ?_
      exact zri C hw hr hlocks rfl ⟨hk9.symm, (fun q => absurd (hk9.symm.trans q) (by decide)), zCo.a hcl9⟩ ⟨Nat.le_of_ble_eq_true rfl, Nat.le_of_ble_eq_true rfl⟩ dL_shortest_16
    · refine zcatch (pre := [(0, 10, 13, 13)]) (suf := []) (pe := 10) (ph := 17) (ct := 57) C hw hx0 rfl (by decide) (by decide) (by intro z hz; simp only [List.mem_cons, List.not_mem_nil, or_false] at hz; obtain rfl := hz; exact ⟨by decide, "java/lang/IndexOutOfBoundsException", by decide +kernel, by decide, by decide⟩) (by decide) (by decide +kernel) (by decide +kernel) h1 h2 h3 ?_
      refine lv_astore (lv' := [(4, .ref q9), (0, .ref (a 0)), (1, .int p0), (2, .int p1), (3, .ref o)]) hx hb dL_shortest_17 hl (by decide) rfl (fun ls hl => ?_)
      refine lv_iconst (v := 2) hx hb dL_shortest_19 (by decide) ?_
      exact zri C hw hr hlocks rfl ⟨hk9.symm, (fun q => absurd (hk9.symm.trans q) (by decide)), zCo.a hcl9⟩ ⟨Nat.le_of_ble_eq_true rfl, Nat.le_of_ble_eq_true rfl⟩ dL_shortest_20
  · exact hp5.1.elim

set_option maxHeartbeats 4000000 in
set_option maxRecDepth 100000 in
/-- L_block -/
theorem c_L_block (l : Launch) (hst : l.stackTraces = false) (D : va_G) (y : Nat → ClassId) (base : Nat) (S : zS) (a : Nat → Nat) (p0 : Int32) (p1 : Int32) (p2 : Int32) (p3 : Int32) (o : Nat) (hX : zX S a) (h0 : zX0 S a) (hko : zK S o = 24) (hno : zN S o = 1) : zMi l yL_block wsL_block ({ frames := 8, cells := 4, slots := 24, locals := 137 }) [.ref (a 0), .int p0, .int p1, .int p2, .int p3, .ref o] D y base S (fun (r : Int32) (S1 : zS) => r = kd_block p0 p1 p2 ∧ (kd_block p0 p1 p2 = 0 → zJ S1 o 0 = ((0 : Int32).toInt64)) ∧ zCo S S1 o) 4 24 := by
  refine zMetH_of (cc := cL_block) (maxL := 7) (ret := (some .int)) (own := RL) (hh := [(0, 14, 17, 13), (0, 14, 21, 19), (0, 14, 25, 57)]) (by decide +kernel) rfl rfl (Nat.le_of_ble_eq_true rfl) ?_
  intro p e s m args below meth c ls C hr hlocks hx0 hw hl
  have hx := C.1
  have hb := C.2.1
  have hown := C.2.2.2.1
  have hts := C.2.2.2.2
  have hl : lv_has ls 7 [(0, .ref (a 0)), (1, .int p0), (2, .int p1), (3, .int p2), (4, .int p3), (5, .ref o)] := hl
  refine lv_aload hx hb dL_block_0 (lv_at hl 5 rfl) ?_
  refine lv_iconst (v := 0) hx hb dL_block_2 (by decide) ?_
  refine lv_aload_n hx hb dL_block_3 rfl (lv_at hl 0 rfl) ?_
  refine lv_iload_n hx hb dL_block_4 rfl (lv_at hl 1 rfl) ?_
  refine lv_iload_n hx hb dL_block_5 rfl (lv_at hl 2 rfl) ?_
  refine lv_iload_n hx hb dL_block_6 rfl (lv_at hl 3 rfl) ?_
  refine lv_iload hx hb dL_block_7 (lv_at hl 4 rfl) ?_
  refine zcV_xi (As := [.int p0, .int p1, .int p2, .int p3]) (rest := [.int 0, .ref o]) (n9 := 4) (b := (a 0)) C hw (c_X7_block l hst D y base S a p0 p1 p2 p3 hX (by first | assumption | decide | grind)) gL_block_X7_block rfl (by decide +kernel) ⟨⟨rfl, rfl⟩, Nat.le_of_ble_eq_true rfl, Nat.le_of_ble_eq_true rfl⟩ hX.1 ⟨by decide, by decide⟩ rfl rfl hl.1 rfl (Nat.le_of_ble_eq_true rfl) ⟨Nat.le_of_ble_eq_true rfl, Nat.le_of_ble_eq_true rfl⟩ dL_block_9 (fun E9 ce q9 S9 H locs hx9 hw h1 h2 h3 => ?_) (fun r9 S9 H locs hp9 hw => ?_)
  · obtain ⟨hx9, hcl9⟩ := hx9
    rcases hx9 with ⟨rfl, hk9⟩ | ⟨rfl, hk9⟩ | ⟨rfl, hk9⟩
    · refine zcatch (pre := []) (suf := [(0, 14, 21, 19), (0, 14, 25, 57)]) (pe := 14) (ph := 17) (ct := 13) C hw hx0 rfl (by decide) (by decide) (fun z hz => by cases hz) (by decide) (by decide +kernel) (by decide +kernel) h1 h2 h3 ?_
      refine lv_astore (lv' := [(6, .ref q9), (0, .ref (a 0)), (1, .int p0), (2, .int p1), (3, .int p2), (4, .int p3), (5, .ref o)]) hx hb dL_block_17 hl (by decide) rfl (fun ls hl => ?_)
      refine lv_iconst (v := 1) hx hb dL_block_19 (by decide) ?_
      exact zri C hw hr hlocks rfl ⟨hk9.symm, (fun q => absurd (hk9.symm.trans q) (by decide)), zCo.a hcl9⟩ ⟨Nat.le_of_ble_eq_true rfl, Nat.le_of_ble_eq_true rfl⟩ dL_block_20
    · refine zcatch (pre := [(0, 14, 17, 13)]) (suf := [(0, 14, 25, 57)]) (pe := 14) (ph := 21) (ct := 19) C hw hx0 rfl (by decide) (by decide) (by intro z hz; simp only [List.mem_cons, List.not_mem_nil, or_false] at hz; obtain rfl := hz; exact ⟨by decide, "java/lang/IndexOutOfBoundsException", by decide +kernel, by decide, by decide⟩) (by decide) (by decide +kernel) (by decide +kernel) h1 h2 h3 ?_
      refine lv_astore (lv' := [(6, .ref q9), (0, .ref (a 0)), (1, .int p0), (2, .int p1), (3, .int p2), (4, .int p3), (5, .ref o)]) hx hb dL_block_21 hl (by decide) rfl (fun ls hl => ?_)
      refine lv_iconst (v := 2) hx hb dL_block_23 (by decide) ?_
      exact zri C hw hr hlocks rfl ⟨hk9.symm, (fun q => absurd (hk9.symm.trans q) (by decide)), zCo.a hcl9⟩ ⟨Nat.le_of_ble_eq_true rfl, Nat.le_of_ble_eq_true rfl⟩ dL_block_24
    · refine zcatch (pre := [(0, 14, 17, 13), (0, 14, 21, 19)]) (suf := []) (pe := 14) (ph := 25) (ct := 57) C hw hx0 rfl (by decide) (by decide) (by intro z hz; simp only [List.mem_cons, List.not_mem_nil, or_false] at hz; rcases hz with rfl | rfl; exact ⟨by decide, "java/lang/IndexOutOfBoundsException", by decide +kernel, by decide, by decide⟩; exact ⟨by decide, "java/lang/IllegalArgumentException", by decide +kernel, by decide, by decide⟩) (by decide) (by decide +kernel) (by decide +kernel) h1 h2 h3 ?_
      refine lv_astore (lv' := [(6, .ref q9), (0, .ref (a 0)), (1, .int p0), (2, .int p1), (3, .int p2), (4, .int p3), (5, .ref o)]) hx hb dL_block_25 hl (by decide) rfl (fun ls hl => ?_)
      refine lv_iconst (v := 3) hx hb dL_block_27 (by decide) ?_
      exact zri C hw hr hlocks rfl ⟨hk9.symm, (fun q => absurd (hk9.symm.trans q) (by decide)), zCo.a hcl9⟩ ⟨Nat.le_of_ble_eq_true rfl, Nat.le_of_ble_eq_true rfl⟩ dL_block_28
  · exact hp9.1.elim

set_option maxHeartbeats 4000000 in
set_option maxRecDepth 100000 in
/-- L_step -/
theorem c_L_step (l : Launch) (hst : l.stackTraces = false) (D : va_G) (y : Nat → ClassId) (base : Nat) (S : zS) (a : Nat → Nat) (p0 : Int32) (p1 : Int32) (p2 : Int32) (o : Nat) (hX : zX S a) (h0 : zX0 S a) (hko : zK S o = 24) (hno : zN S o = 1) : zMi l yL_step wsL_step ({ frames := 8, cells := 3, slots := 18, locals := 135 }) [.ref (a 0), .int p0, .int p1, .int p2, .ref o] D y base S (fun (r : Int32) (S1 : zS) => r = kd_step p0 p1 p2 ∧ (kd_step p0 p1 p2 = 0 → zJ S1 o 0 = ((1 : Int32).toInt64)) ∧ zCo S S1 o) 3 18 := by
  refine zMetH_of (cc := cL_step) (maxL := 6) (ret := (some .int)) (own := RL) (hh := [(0, 12, 15, 13), (0, 12, 19, 19), (0, 12, 23, 21)]) (by decide +kernel) rfl rfl (Nat.le_of_ble_eq_true rfl) ?_
  intro p e s m args below meth c ls C hr hlocks hx0 hw hl
  have hx := C.1
  have hb := C.2.1
  have hown := C.2.2.2.1
  have hts := C.2.2.2.2
  have hl : lv_has ls 6 [(0, .ref (a 0)), (1, .int p0), (2, .int p1), (3, .int p2), (4, .ref o)] := hl
  refine lv_aload hx hb dL_step_0 (lv_at hl 4 rfl) ?_
  refine lv_iconst (v := 0) hx hb dL_step_2 (by decide) ?_
  refine lv_aload_n hx hb dL_step_3 rfl (lv_at hl 0 rfl) ?_
  refine lv_iload_n hx hb dL_step_4 rfl (lv_at hl 1 rfl) ?_
  refine lv_iload_n hx hb dL_step_5 rfl (lv_at hl 2 rfl) ?_
  refine lv_iload_n hx hb dL_step_6 rfl (lv_at hl 3 rfl) ?_
  refine zcV_xi (As := [.int p0, .int p1, .int p2]) (rest := [.int 0, .ref o]) (n9 := 3) (b := (a 0)) C hw (c_X7_step l hst D y base S a p0 p1 p2 hX (by first | assumption | decide | grind)) gL_step_X7_step rfl (by decide +kernel) ⟨⟨rfl, rfl⟩, Nat.le_of_ble_eq_true rfl, Nat.le_of_ble_eq_true rfl⟩ hX.1 ⟨by decide, by decide⟩ rfl rfl hl.1 rfl (Nat.le_of_ble_eq_true rfl) ⟨Nat.le_of_ble_eq_true rfl, Nat.le_of_ble_eq_true rfl⟩ dL_step_7 (fun E9 ce q9 S7 H locs hx9 hw h1 h2 h3 => ?_) (fun r7 S7 H locs hp7 hw => ?_)
  · obtain ⟨hx9, hcl9⟩ := hx9
    rcases hx9 with ⟨rfl, hk9⟩ | ⟨rfl, hk9⟩
    · refine zcatch (pre := []) (suf := [(0, 12, 19, 19), (0, 12, 23, 21)]) (pe := 12) (ph := 15) (ct := 13) C hw hx0 rfl (by decide) (by decide) (fun z hz => by cases hz) (by decide) (by decide +kernel) (by decide +kernel) h1 h2 h3 ?_
      refine lv_astore (lv' := [(5, .ref q9), (0, .ref (a 0)), (1, .int p0), (2, .int p1), (3, .int p2), (4, .ref o)]) hx hb dL_step_15 hl (by decide) rfl (fun ls hl => ?_)
      refine lv_iconst (v := 1) hx hb dL_step_17 (by decide) ?_
      exact zri C hw hr hlocks rfl ⟨hk9.symm, (fun q => absurd (hk9.symm.trans q) (by decide)), zCo.a hcl9⟩ ⟨Nat.le_of_ble_eq_true rfl, Nat.le_of_ble_eq_true rfl⟩ dL_step_18
    · refine zcatch (pre := [(0, 12, 15, 13)]) (suf := [(0, 12, 23, 21)]) (pe := 12) (ph := 19) (ct := 19) C hw hx0 rfl (by decide) (by decide) (by intro z hz; simp only [List.mem_cons, List.not_mem_nil, or_false] at hz; obtain rfl := hz; exact ⟨by decide, "java/lang/IndexOutOfBoundsException", by decide +kernel, by decide, by decide⟩) (by decide) (by decide +kernel) (by decide +kernel) h1 h2 h3 ?_
      refine lv_astore (lv' := [(5, .ref q9), (0, .ref (a 0)), (1, .int p0), (2, .int p1), (3, .int p2), (4, .ref o)]) hx hb dL_step_19 hl (by decide) rfl (fun ls hl => ?_)
      refine lv_iconst (v := 2) hx hb dL_step_21 (by decide) ?_
      exact zri C hw hr hlocks rfl ⟨hk9.symm, (fun q => absurd (hk9.symm.trans q) (by decide)), zCo.a hcl9⟩ ⟨Nat.le_of_ble_eq_true rfl, Nat.le_of_ble_eq_true rfl⟩ dL_step_22
  · obtain ⟨rfl, hkd, hcl⟩ := hp7
    have ho9 := hcl.o hko hno
    refine lv_i2l (v := (1 : Int32).toInt64) hx hb dL_step_10 rfl ?_
    refine zast_J (a := o) C hw ho9.1 ho9.2 (zin_of (N := 1) (by decide) (by decide) (by decide)) dL_step_11 (fun H locs hw => ?_)
    refine lv_goto (tgt := 27) hx hb dL_step_12 (by decide) ?_
    refine lv_iconst (v := 0) hx hb dL_step_27 (by decide) ?_
    exact zri C hw hr hlocks rfl ⟨hkd.symm, (fun _ => by rw [zJ_s]; rfl), zCo.b hcl⟩ ⟨Nat.le_of_ble_eq_true rfl, Nat.le_of_ble_eq_true rfl⟩ dL_step_28

set_option maxHeartbeats 4000000 in
set_option maxRecDepth 100000 in
/-- L_trigger -/
theorem c_L_trigger (l : Launch) (hst : l.stackTraces = false) (D : va_G) (y : Nat → ClassId) (base : Nat) (S : zS) (a : Nat → Nat) (p0 : Int32) (o : Nat) (hX : zX S a) (h0 : zX0 S a) (hko : zK S o = 24) (hno : zN S o = 1) : zMi l yL_trigger wsL_trigger ({ frames := 8, cells := 2, slots := 12, locals := 132 }) [.ref (a 0), .int p0, .ref o] D y base S (fun (r : Int32) (S1 : zS) => r = kd_sample p0 ∧ (kd_sample p0 = 0 → zJ S1 o 0 = ((0 : Int32).toInt64)) ∧ zCo S S1 o) 2 12 := by
  refine zMetH_of (cc := cL_trigger) (maxL := 4) (ret := (some .int)) (own := RL) (hh := [(0, 9, 12, 13), (0, 9, 15, 79), (0, 9, 18, 57)]) (by decide +kernel) rfl rfl (Nat.le_of_ble_eq_true rfl) ?_
  intro p e s m args below meth c ls C hr hlocks hx0 hw hl
  have hx := C.1
  have hb := C.2.1
  have hown := C.2.2.2.1
  have hts := C.2.2.2.2
  have hl : lv_has ls 4 [(0, .ref (a 0)), (1, .int p0), (2, .ref o)] := hl
  refine lv_aload_n hx hb dL_trigger_0 rfl (lv_at hl 2 rfl) ?_
  refine lv_iconst (v := 0) hx hb dL_trigger_1 (by decide) ?_
  refine lv_aload_n hx hb dL_trigger_2 rfl (lv_at hl 0 rfl) ?_
  refine lv_iload_n hx hb dL_trigger_3 rfl (lv_at hl 1 rfl) ?_
  refine zcV_xi (As := [.int p0]) (rest := [.int 0, .ref o]) (n9 := 1) (b := (a 0)) C hw (c_X7_trigger l hst D y base S a p0 hX (by first | assumption | decide | grind)) gL_trigger_X7_trigger rfl (by decide +kernel) ⟨⟨rfl, rfl⟩, Nat.le_of_ble_eq_true rfl, Nat.le_of_ble_eq_true rfl⟩ hX.1 ⟨by decide, by decide⟩ rfl rfl hl.1 rfl (Nat.le_of_ble_eq_true rfl) ⟨Nat.le_of_ble_eq_true rfl, Nat.le_of_ble_eq_true rfl⟩ dL_trigger_4 (fun E9 ce q9 S4 H locs hx9 hw h1 h2 h3 => ?_) (fun r4 S4 H locs hp4 hw => ?_)
  · obtain ⟨hx9, hcl9⟩ := hx9
    rcases hx9 with ⟨rfl, hk9⟩ | ⟨rfl, hk9⟩
    · refine zcatch (pre := []) (suf := [(0, 9, 15, 79), (0, 9, 18, 57)]) (pe := 9) (ph := 12) (ct := 13) C hw hx0 rfl (by decide) (by decide) (fun z hz => by cases hz) (by decide) (by decide +kernel) (by decide +kernel) h1 h2 h3 ?_
      refine lv_astore_n (lv' := [(3, .ref q9), (0, .ref (a 0)), (1, .int p0), (2, .ref o)]) hx hb dL_trigger_12 rfl hl (by decide) rfl (fun ls hl => ?_)
      refine lv_iconst (v := 1) hx hb dL_trigger_13 (by decide) ?_
      exact zri C hw hr hlocks rfl ⟨hk9.symm, (fun q => absurd (hk9.symm.trans q) (by decide)), zCo.a hcl9⟩ ⟨Nat.le_of_ble_eq_true rfl, Nat.le_of_ble_eq_true rfl⟩ dL_trigger_14
    · refine zcatch (pre := [(0, 9, 12, 13)]) (suf := [(0, 9, 18, 57)]) (pe := 9) (ph := 15) (ct := 79) C hw hx0 rfl (by decide) (by decide) (by intro z hz; simp only [List.mem_cons, List.not_mem_nil, or_false] at hz; obtain rfl := hz; exact ⟨by decide, "java/lang/IndexOutOfBoundsException", by decide +kernel, by decide, by decide⟩) (by decide) (by decide +kernel) (by decide +kernel) h1 h2 h3 ?_
      refine lv_astore_n (lv' := [(3, .ref q9), (0, .ref (a 0)), (1, .int p0), (2, .ref o)]) hx hb dL_trigger_15 rfl hl (by decide) rfl (fun ls hl => ?_)
      refine lv_iconst (v := 2) hx hb dL_trigger_16 (by decide) ?_
      exact zri C hw hr hlocks rfl ⟨hk9.symm, (fun q => absurd (hk9.symm.trans q) (by decide)), zCo.a hcl9⟩ ⟨Nat.le_of_ble_eq_true rfl, Nat.le_of_ble_eq_true rfl⟩ dL_trigger_17
  · exact hp4.1.elim

set_option maxHeartbeats 4000000 in
set_option maxRecDepth 100000 in
/-- L_decodeSerial -/
theorem c_L_decodeSerial (l : Launch) (hst : l.stackTraces = false) (D : va_G) (y : Nat → ClassId) (base : Nat) (S : zS) (a : Nat → Nat) (p0 : Int32) (p1 : Int32) (p2 : Int32) (p3 : Int32) (o : Nat) (hX : zX S a) (h0 : zX0 S a) (hko : zK S o = 24) (hno : zN S o = 1) : zMi l yL_decodeSerial wsL_decodeSerial ({ frames := 8, cells := 4, slots := 24, locals := 139 }) [.ref (a 0), .int p0, .int p1, .int p2, .int p3, .ref o] D y base S (fun (r : Int32) (S1 : zS) => r = kd_decodeSerial p0 p1 p2 p3 ∧ (kd_decodeSerial p0 p1 p2 p3 = 0 → zJ S1 o 0 = ((0 : Int32).toInt64)) ∧ zCo S S1 o) 4 24 := by
  refine zMetH_of (cc := cL_decodeSerial) (maxL := 7) (ret := (some .int)) (own := RL) (hh := [(0, 14, 17, 13), (0, 14, 21, 19)]) (by decide +kernel) rfl rfl (Nat.le_of_ble_eq_true rfl) ?_
  intro p e s m args below meth c ls C hr hlocks hx0 hw hl
  have hx := C.1
  have hb := C.2.1
  have hown := C.2.2.2.1
  have hts := C.2.2.2.2
  have hl : lv_has ls 7 [(0, .ref (a 0)), (1, .int p0), (2, .int p1), (3, .int p2), (4, .int p3), (5, .ref o)] := hl
  refine lv_aload hx hb dL_decodeSerial_0 (lv_at hl 5 rfl) ?_
  refine lv_iconst (v := 0) hx hb dL_decodeSerial_2 (by decide) ?_
  refine lv_aload_n hx hb dL_decodeSerial_3 rfl (lv_at hl 0 rfl) ?_
  refine lv_iload_n hx hb dL_decodeSerial_4 rfl (lv_at hl 1 rfl) ?_
  refine lv_iload_n hx hb dL_decodeSerial_5 rfl (lv_at hl 2 rfl) ?_
  refine lv_iload_n hx hb dL_decodeSerial_6 rfl (lv_at hl 3 rfl) ?_
  refine lv_iload hx hb dL_decodeSerial_7 (lv_at hl 4 rfl) ?_
  refine zcV_xi (As := [.int p0, .int p1, .int p2, .int p3]) (rest := [.int 0, .ref o]) (n9 := 4) (b := (a 0)) C hw (c_X7_decodeSerial l hst D y base S a p0 p1 p2 p3 hX (by first | assumption | decide | grind)) gL_decodeSerial_X7_decodeSerial rfl (by decide +kernel) ⟨⟨rfl, rfl⟩, Nat.le_of_ble_eq_true rfl, Nat.le_of_ble_eq_true rfl⟩ hX.1 ⟨by decide, by decide⟩ rfl rfl hl.1 rfl (Nat.le_of_ble_eq_true rfl) ⟨Nat.le_of_ble_eq_true rfl, Nat.le_of_ble_eq_true rfl⟩ dL_decodeSerial_9 (fun E9 ce q9 S9 H locs hx9 hw h1 h2 h3 => ?_) (fun r9 S9 H locs hp9 hw => ?_)
  · obtain ⟨hx9, hcl9⟩ := hx9
    rcases hx9 with ⟨rfl, hk9⟩ | ⟨rfl, hk9⟩
    · refine zcatch (pre := []) (suf := [(0, 14, 21, 19)]) (pe := 14) (ph := 17) (ct := 13) C hw hx0 rfl (by decide) (by decide) (fun z hz => by cases hz) (by decide) (by decide +kernel) (by decide +kernel) h1 h2 h3 ?_
      refine lv_astore (lv' := [(6, .ref q9), (0, .ref (a 0)), (1, .int p0), (2, .int p1), (3, .int p2), (4, .int p3), (5, .ref o)]) hx hb dL_decodeSerial_17 hl (by decide) rfl (fun ls hl => ?_)
      refine lv_iconst (v := 1) hx hb dL_decodeSerial_19 (by decide) ?_
      exact zri C hw hr hlocks rfl ⟨hk9.symm, (fun q => absurd (hk9.symm.trans q) (by decide)), zCo.a hcl9⟩ ⟨Nat.le_of_ble_eq_true rfl, Nat.le_of_ble_eq_true rfl⟩ dL_decodeSerial_20
    · refine zcatch (pre := [(0, 14, 17, 13)]) (suf := []) (pe := 14) (ph := 21) (ct := 19) C hw hx0 rfl (by decide) (by decide) (by intro z hz; simp only [List.mem_cons, List.not_mem_nil, or_false] at hz; obtain rfl := hz; exact ⟨by decide, "java/lang/IndexOutOfBoundsException", by decide +kernel, by decide, by decide⟩) (by decide) (by decide +kernel) (by decide +kernel) h1 h2 h3 ?_
      refine lv_astore (lv' := [(6, .ref q9), (0, .ref (a 0)), (1, .int p0), (2, .int p1), (3, .int p2), (4, .int p3), (5, .ref o)]) hx hb dL_decodeSerial_21 hl (by decide) rfl (fun ls hl => ?_)
      refine lv_iconst (v := 2) hx hb dL_decodeSerial_23 (by decide) ?_
      exact zri C hw hr hlocks rfl ⟨hk9.symm, (fun q => absurd (hk9.symm.trans q) (by decide)), zCo.a hcl9⟩ ⟨Nat.le_of_ble_eq_true rfl, Nat.le_of_ble_eq_true rfl⟩ dL_decodeSerial_24
  · obtain ⟨rfl, hkd, hcl⟩ := hp9
    have ho9 := hcl.o hko hno
    refine lv_i2l (v := (0 : Int32).toInt64) hx hb dL_decodeSerial_12 rfl ?_
    refine zast_J (a := o) C hw ho9.1 ho9.2 (zin_of (N := 1) (by decide) (by decide) (by decide)) dL_decodeSerial_13 (fun H locs hw => ?_)
    refine lv_goto (tgt := 25) hx hb dL_decodeSerial_14 (by decide) ?_
    refine lv_iconst (v := 0) hx hb dL_decodeSerial_25 (by decide) ?_
    exact zri C hw hr hlocks rfl ⟨hkd.symm, (fun _ => by rw [zJ_s]; rfl), zCo.b hcl⟩ ⟨Nat.le_of_ble_eq_true rfl, Nat.le_of_ble_eq_true rfl⟩ dL_decodeSerial_26

set_option maxHeartbeats 4000000 in
set_option maxRecDepth 100000 in
/-- L_decodeTwo -/
theorem c_L_decodeTwo (l : Launch) (hst : l.stackTraces = false) (D : va_G) (y : Nat → ClassId) (base : Nat) (S : zS) (a : Nat → Nat) (p0 : Int32) (p1 : Int32) (p2 : Int32) (o : Nat) (hX : zX S a) (h0 : zX0 S a) (hko : zK S o = 24) (hno : zN S o = 1) : zMi l yL_decodeTwo wsL_decodeTwo ({ frames := 8, cells := 5, slots := 34, locals := 137 }) [.ref (a 0), .int p0, .int p1, .int p2, .ref o] D y base S (fun (r : Int32) (S1 : zS) => r = kd_decodeTwo p0 p1 p2 ∧ (kd_decodeTwo p0 p1 p2 = 0 → zJ S1 o 0 = ((0 : Int32).toInt64)) ∧ zCo S S1 o) 5 34 := by
  refine zMetH_of (cc := cL_decodeTwo) (maxL := 6) (ret := (some .int)) (own := RL) (hh := [(0, 12, 15, 13), (0, 12, 19, 19)]) (by decide +kernel) rfl rfl (Nat.le_of_ble_eq_true rfl) ?_
  intro p e s m args below meth c ls C hr hlocks hx0 hw hl
  have hx := C.1
  have hb := C.2.1
  have hown := C.2.2.2.1
  have hts := C.2.2.2.2
  have hl : lv_has ls 6 [(0, .ref (a 0)), (1, .int p0), (2, .int p1), (3, .int p2), (4, .ref o)] := hl
  refine lv_aload hx hb dL_decodeTwo_0 (lv_at hl 4 rfl) ?_
  refine lv_iconst (v := 0) hx hb dL_decodeTwo_2 (by decide) ?_
  refine lv_aload_n hx hb dL_decodeTwo_3 rfl (lv_at hl 0 rfl) ?_
  refine lv_iload_n hx hb dL_decodeTwo_4 rfl (lv_at hl 1 rfl) ?_
  refine lv_iload_n hx hb dL_decodeTwo_5 rfl (lv_at hl 2 rfl) ?_
  refine lv_iload_n hx hb dL_decodeTwo_6 rfl (lv_at hl 3 rfl) ?_
  refine zcV_xi (As := [.int p0, .int p1, .int p2]) (rest := [.int 0, .ref o]) (n9 := 3) (b := (a 0)) C hw (c_X7_decodeTwo l hst D y base S a p0 p1 p2 hX (by first | assumption | decide | grind)) gL_decodeTwo_X7_decodeTwo rfl (by decide +kernel) ⟨⟨rfl, rfl⟩, Nat.le_of_ble_eq_true rfl, Nat.le_of_ble_eq_true rfl⟩ hX.1 ⟨by decide, by decide⟩ rfl rfl hl.1 rfl (Nat.le_of_ble_eq_true rfl) ⟨Nat.le_of_ble_eq_true rfl, Nat.le_of_ble_eq_true rfl⟩ dL_decodeTwo_7 (fun E9 ce q9 S7 H locs hx9 hw h1 h2 h3 => ?_) (fun r7 S7 H locs hp7 hw => ?_)
  · obtain ⟨hx9, hcl9⟩ := hx9
    rcases hx9 with ⟨rfl, hk9⟩ | ⟨rfl, hk9⟩
    · refine zcatch (pre := []) (suf := [(0, 12, 19, 19)]) (pe := 12) (ph := 15) (ct := 13) C hw hx0 rfl (by decide) (by decide) (fun z hz => by cases hz) (by decide) (by decide +kernel) (by decide +kernel) h1 h2 h3 ?_
      refine lv_astore (lv' := [(5, .ref q9), (0, .ref (a 0)), (1, .int p0), (2, .int p1), (3, .int p2), (4, .ref o)]) hx hb dL_decodeTwo_15 hl (by decide) rfl (fun ls hl => ?_)
      refine lv_iconst (v := 1) hx hb dL_decodeTwo_17 (by decide) ?_
      exact zri C hw hr hlocks rfl ⟨hk9.symm, (fun q => absurd (hk9.symm.trans q) (by decide)), zCo.a hcl9⟩ ⟨Nat.le_of_ble_eq_true rfl, Nat.le_of_ble_eq_true rfl⟩ dL_decodeTwo_18
    · refine zcatch (pre := [(0, 12, 15, 13)]) (suf := []) (pe := 12) (ph := 19) (ct := 19) C hw hx0 rfl (by decide) (by decide) (by intro z hz; simp only [List.mem_cons, List.not_mem_nil, or_false] at hz; obtain rfl := hz; exact ⟨by decide, "java/lang/IndexOutOfBoundsException", by decide +kernel, by decide, by decide⟩) (by decide) (by decide +kernel) (by decide +kernel) h1 h2 h3 ?_
      refine lv_astore (lv' := [(5, .ref q9), (0, .ref (a 0)), (1, .int p0), (2, .int p1), (3, .int p2), (4, .ref o)]) hx hb dL_decodeTwo_19 hl (by decide) rfl (fun ls hl => ?_)
      refine lv_iconst (v := 2) hx hb dL_decodeTwo_21 (by decide) ?_
      exact zri C hw hr hlocks rfl ⟨hk9.symm, (fun q => absurd (hk9.symm.trans q) (by decide)), zCo.a hcl9⟩ ⟨Nat.le_of_ble_eq_true rfl, Nat.le_of_ble_eq_true rfl⟩ dL_decodeTwo_22
  · obtain ⟨rfl, hkd, hcl⟩ := hp7
    have ho9 := hcl.o hko hno
    refine lv_i2l (v := (0 : Int32).toInt64) hx hb dL_decodeTwo_10 rfl ?_
    refine zast_J (a := o) C hw ho9.1 ho9.2 (zin_of (N := 1) (by decide) (by decide) (by decide)) dL_decodeTwo_11 (fun H locs hw => ?_)
    refine lv_goto (tgt := 23) hx hb dL_decodeTwo_12 (by decide) ?_
    refine lv_iconst (v := 0) hx hb dL_decodeTwo_23 (by decide) ?_
    exact zri C hw hr hlocks rfl ⟨hkd.symm, (fun _ => by rw [zJ_s]; rfl), zCo.b hcl⟩ ⟨Nat.le_of_ble_eq_true rfl, Nat.le_of_ble_eq_true rfl⟩ dL_decodeTwo_24

set_option maxHeartbeats 4000000 in
set_option maxRecDepth 100000 in
/-- L_decodeFour -/
theorem c_L_decodeFour (l : Launch) (hst : l.stackTraces = false) (D : va_G) (y : Nat → ClassId) (base : Nat) (S : zS) (a : Nat → Nat) (p0 : Int32) (p1 : Int32) (p2 : Int32) (p3 : Int32) (p4 : Int32) (o : Nat) (hX : zX S a) (h0 : zX0 S a) (hko : zK S o = 24) (hno : zN S o = 1) : zMi l yL_decodeFour wsL_decodeFour ({ frames := 9, cells := 9, slots := 52, locals := 162 }) [.ref (a 0), .int p0, .int p1, .int p2, .int p3, .int p4, .ref o] D y base S (fun (r : Int32) (S1 : zS) => r = kd_decodeFour p0 p1 p2 p3 p4 ∧ (kd_decodeFour p0 p1 p2 p3 p4 = 0 → zJ S1 o 0 = ((0 : Int32).toInt64)) ∧ zCo S S1 o) 9 52 := by
  refine zMetH_of (cc := cL_decodeFour) (maxL := 8) (ret := (some .int)) (own := RL) (hh := [(0, 16, 19, 13), (0, 16, 23, 19)]) (by decide +kernel) rfl rfl (Nat.le_of_ble_eq_true rfl) ?_
  intro p e s m args below meth c ls C hr hlocks hx0 hw hl
  have hx := C.1
  have hb := C.2.1
  have hown := C.2.2.2.1
  have hts := C.2.2.2.2
  have hl : lv_has ls 8 [(0, .ref (a 0)), (1, .int p0), (2, .int p1), (3, .int p2), (4, .int p3), (5, .int p4), (6, .ref o)] := hl
  refine lv_aload hx hb dL_decodeFour_0 (lv_at hl 6 rfl) ?_
  refine lv_iconst (v := 0) hx hb dL_decodeFour_2 (by decide) ?_
  refine lv_aload_n hx hb dL_decodeFour_3 rfl (lv_at hl 0 rfl) ?_
  refine lv_iload_n hx hb dL_decodeFour_4 rfl (lv_at hl 1 rfl) ?_
  refine lv_iload_n hx hb dL_decodeFour_5 rfl (lv_at hl 2 rfl) ?_
  refine lv_iload_n hx hb dL_decodeFour_6 rfl (lv_at hl 3 rfl) ?_
  refine lv_iload hx hb dL_decodeFour_7 (lv_at hl 4 rfl) ?_
  refine lv_iload hx hb dL_decodeFour_9 (lv_at hl 5 rfl) ?_
  refine zcV_xi (As := [.int p0, .int p1, .int p2, .int p3, .int p4]) (rest := [.int 0, .ref o]) (n9 := 5) (b := (a 0)) C hw (c_X7_decodeFour l hst D y base S a p0 p1 p2 p3 p4 hX (by first | assumption | decide | grind)) gL_decodeFour_X7_decodeFour rfl (by decide +kernel) ⟨⟨rfl, rfl⟩, Nat.le_of_ble_eq_true rfl, Nat.le_of_ble_eq_true rfl⟩ hX.1 ⟨by decide, by decide⟩ rfl rfl hl.1 rfl (Nat.le_of_ble_eq_true rfl) ⟨Nat.le_of_ble_eq_true rfl, Nat.le_of_ble_eq_true rfl⟩ dL_decodeFour_11 (fun E9 ce q9 S11 H locs hx9 hw h1 h2 h3 => ?_) (fun r11 S11 H locs hp11 hw => ?_)
  · obtain ⟨hx9, hcl9⟩ := hx9
    rcases hx9 with ⟨rfl, hk9⟩ | ⟨rfl, hk9⟩
    · refine zcatch (pre := []) (suf := [(0, 16, 23, 19)]) (pe := 16) (ph := 19) (ct := 13) C hw hx0 rfl (by decide) (by decide) (fun z hz => by cases hz) (by decide) (by decide +kernel) (by decide +kernel) h1 h2 h3 ?_
      refine lv_astore (lv' := [(7, .ref q9), (0, .ref (a 0)), (1, .int p0), (2, .int p1), (3, .int p2), (4, .int p3), (5, .int p4), (6, .ref o)]) hx hb dL_decodeFour_19 hl (by decide) rfl (fun ls hl => ?_)
      refine lv_iconst (v := 1) hx hb dL_decodeFour_21 (by decide) ?_
      exact zri C hw hr hlocks rfl ⟨hk9.symm, (fun q => absurd (hk9.symm.trans q) (by decide)), zCo.a hcl9⟩ ⟨Nat.le_of_ble_eq_true rfl, Nat.le_of_ble_eq_true rfl⟩ dL_decodeFour_22
    · refine zcatch (pre := [(0, 16, 19, 13)]) (suf := []) (pe := 16) (ph := 23) (ct := 19) C hw hx0 rfl (by decide) (by decide) (by intro z hz; simp only [List.mem_cons, List.not_mem_nil, or_false] at hz; obtain rfl := hz; exact ⟨by decide, "java/lang/IndexOutOfBoundsException", by decide +kernel, by decide, by decide⟩) (by decide) (by decide +kernel) (by decide +kernel) h1 h2 h3 ?_
      refine lv_astore (lv' := [(7, .ref q9), (0, .ref (a 0)), (1, .int p0), (2, .int p1), (3, .int p2), (4, .int p3), (5, .int p4), (6, .ref o)]) hx hb dL_decodeFour_23 hl (by decide) rfl (fun ls hl => ?_)
      refine lv_iconst (v := 2) hx hb dL_decodeFour_25 (by decide) ?_
      exact zri C hw hr hlocks rfl ⟨hk9.symm, (fun q => absurd (hk9.symm.trans q) (by decide)), zCo.a hcl9⟩ ⟨Nat.le_of_ble_eq_true rfl, Nat.le_of_ble_eq_true rfl⟩ dL_decodeFour_26
  · obtain ⟨rfl, hkd, hcl⟩ := hp11
    have ho9 := hcl.o hko hno
    refine lv_i2l (v := (0 : Int32).toInt64) hx hb dL_decodeFour_14 rfl ?_
    refine zast_J (a := o) C hw ho9.1 ho9.2 (zin_of (N := 1) (by decide) (by decide) (by decide)) dL_decodeFour_15 (fun H locs hw => ?_)
    refine lv_goto (tgt := 27) hx hb dL_decodeFour_16 (by decide) ?_
    refine lv_iconst (v := 0) hx hb dL_decodeFour_27 (by decide) ?_
    exact zri C hw hr hlocks rfl ⟨hkd.symm, (fun _ => by rw [zJ_s]; rfl), zCo.b hcl⟩ ⟨Nat.le_of_ble_eq_true rfl, Nat.le_of_ble_eq_true rfl⟩ dL_decodeFour_28

set_option maxHeartbeats 4000000 in
set_option maxRecDepth 100000 in
/-- L_kind -/
theorem c_L_kind (l : Launch) (hst : l.stackTraces = false) (D : va_G) (y : Nat → ClassId) (base : Nat) (S : zS) (a : Nat → Nat) (p0 : Int32) (o : Nat) (hX : zX S a) (h0 : zX0 S a) (hko : zK S o = 24) (hno : zN S o = 1) : zMi l yL_kind wsL_kind ({ frames := 8, cells := 1, slots := 6, locals := 132 }) [.ref (a 0), .int p0, .ref o] D y base S (fun (r : Int32) (S1 : zS) => r = (1 : Int32) ∧ ((1 : Int32) = 0 → zJ S1 o 0 = ((0 : Int32).toInt64)) ∧ zCo S S1 o) 1 6 := by
  refine zMetH_of (cc := cL_kind) (maxL := 4) (ret := (some .int)) (own := RL) (hh := [(0, 9, 12, 13)]) (by decide +kernel) rfl rfl (Nat.le_of_ble_eq_true rfl) ?_
  intro p e s m args below meth c ls C hr hlocks hx0 hw hl
  have hx := C.1
  have hb := C.2.1
  have hown := C.2.2.2.1
  have hts := C.2.2.2.2
  have hl : lv_has ls 4 [(0, .ref (a 0)), (1, .int p0), (2, .ref o)] := hl
  refine lv_aload_n hx hb dL_kind_0 rfl (lv_at hl 2 rfl) ?_
  refine lv_iconst (v := 0) hx hb dL_kind_1 (by decide) ?_
  refine lv_aload_n hx hb dL_kind_2 rfl (lv_at hl 0 rfl) ?_
  refine lv_iload_n hx hb dL_kind_3 rfl (lv_at hl 1 rfl) ?_
  refine zcV_xi (As := [.int p0]) (rest := [.int 0, .ref o]) (n9 := 1) (b := (a 0)) C hw (c_X7_kind l hst D y base S a p0 hX (by first | assumption | decide | grind)) gL_kind_X7_kind rfl (by decide +kernel) ⟨⟨rfl, rfl⟩, Nat.le_of_ble_eq_true rfl, Nat.le_of_ble_eq_true rfl⟩ hX.1 ⟨by decide, by decide⟩ rfl rfl hl.1 rfl (Nat.le_of_ble_eq_true rfl) ⟨Nat.le_of_ble_eq_true rfl, Nat.le_of_ble_eq_true rfl⟩ dL_kind_4 (fun E9 ce q9 S4 H locs hx9 hw h1 h2 h3 => ?_) (fun r4 S4 H locs hp4 hw => ?_)
  · obtain ⟨hx9, hcl9⟩ := hx9
    obtain ⟨rfl, hk9⟩ := hx9
    refine zcatch (pre := []) (suf := []) (pe := 9) (ph := 12) (ct := 13) C hw hx0 rfl (by decide) (by decide) (fun z hz => by cases hz) (by decide) (by decide +kernel) (by decide +kernel) h1 h2 h3 ?_
    refine lv_astore_n (lv' := [(3, .ref q9), (0, .ref (a 0)), (1, .int p0), (2, .ref o)]) hx hb dL_kind_12 rfl hl (by decide) rfl (fun ls hl => ?_)
    refine lv_iconst (v := 1) hx hb dL_kind_13 (by decide) ?_
    exact zri C hw hr hlocks rfl ⟨rfl, (fun q => absurd q (by decide)), zCo.a hcl9⟩ ⟨Nat.le_of_ble_eq_true rfl, Nat.le_of_ble_eq_true rfl⟩ dL_kind_14
  · exact hp4.1.elim

set_option maxHeartbeats 4000000 in
set_option maxRecDepth 100000 in
/-- L_begin -/
theorem c_L_begin (l : Launch) (hst : l.stackTraces = false) (D : va_G) (y : Nat → ClassId) (base : Nat) (S : zS) (a : Nat → Nat) (p0 : Int32) (o : Nat) (hX : zX S a) (h0 : zX0 S a) (hko : zK S o = 24) (hno : zN S o = 1) : zMi l yL_begin wsL_begin ({ frames := 8, cells := 1, slots := 6, locals := 132 }) [.ref (a 0), .int p0, .ref o] D y base S (fun (r : Int32) (S1 : zS) => r = (1 : Int32) ∧ ((1 : Int32) = 0 → zJ S1 o 0 = ((0 : Int32).toInt64)) ∧ zCo S S1 o) 1 6 := by
  refine zMetH_of (cc := cL_begin) (maxL := 4) (ret := (some .int)) (own := RL) (hh := [(0, 9, 12, 13)]) (by decide +kernel) rfl rfl (Nat.le_of_ble_eq_true rfl) ?_
  intro p e s m args below meth c ls C hr hlocks hx0 hw hl
  have hx := C.1
  have hb := C.2.1
  have hown := C.2.2.2.1
  have hts := C.2.2.2.2
  have hl : lv_has ls 4 [(0, .ref (a 0)), (1, .int p0), (2, .ref o)] := hl
  refine lv_aload_n hx hb dL_begin_0 rfl (lv_at hl 2 rfl) ?_
  refine lv_iconst (v := 0) hx hb dL_begin_1 (by decide) ?_
  refine lv_aload_n hx hb dL_begin_2 rfl (lv_at hl 0 rfl) ?_
  refine lv_iload_n hx hb dL_begin_3 rfl (lv_at hl 1 rfl) ?_
  refine zcV_xi (As := [.int p0]) (rest := [.int 0, .ref o]) (n9 := 1) (b := (a 0)) C hw (c_X7_begin l hst D y base S a p0 hX (by first | assumption | decide | grind)) gL_begin_X7_begin rfl (by decide +kernel) ⟨⟨rfl, rfl⟩, Nat.le_of_ble_eq_true rfl, Nat.le_of_ble_eq_true rfl⟩ hX.1 ⟨by decide, by decide⟩ rfl rfl hl.1 rfl (Nat.le_of_ble_eq_true rfl) ⟨Nat.le_of_ble_eq_true rfl, Nat.le_of_ble_eq_true rfl⟩ dL_begin_4 (fun E9 ce q9 S4 H locs hx9 hw h1 h2 h3 => ?_) (fun r4 S4 H locs hp4 hw => ?_)
  · obtain ⟨hx9, hcl9⟩ := hx9
    obtain ⟨rfl, hk9⟩ := hx9
    refine zcatch (pre := []) (suf := []) (pe := 9) (ph := 12) (ct := 13) C hw hx0 rfl (by decide) (by decide) (fun z hz => by cases hz) (by decide) (by decide +kernel) (by decide +kernel) h1 h2 h3 ?_
    refine lv_astore_n (lv' := [(3, .ref q9), (0, .ref (a 0)), (1, .int p0), (2, .ref o)]) hx hb dL_begin_12 rfl hl (by decide) rfl (fun ls hl => ?_)
    refine lv_iconst (v := 1) hx hb dL_begin_13 (by decide) ?_
    exact zri C hw hr hlocks rfl ⟨rfl, (fun q => absurd q (by decide)), zCo.a hcl9⟩ ⟨Nat.le_of_ble_eq_true rfl, Nat.le_of_ble_eq_true rfl⟩ dL_begin_14
  · exact hp4.1.elim

set_option maxHeartbeats 4000000 in
set_option maxRecDepth 100000 in
/-- L_end -/
theorem c_L_end (l : Launch) (hst : l.stackTraces = false) (D : va_G) (y : Nat → ClassId) (base : Nat) (S : zS) (a : Nat → Nat) (p0 : Int32) (o : Nat) (hX : zX S a) (h0 : zX0 S a) (hko : zK S o = 24) (hno : zN S o = 1) : zMi l yL_end wsL_end ({ frames := 8, cells := 1, slots := 6, locals := 132 }) [.ref (a 0), .int p0, .ref o] D y base S (fun (r : Int32) (S1 : zS) => r = (1 : Int32) ∧ ((1 : Int32) = 0 → zJ S1 o 0 = ((0 : Int32).toInt64)) ∧ zCo S S1 o) 1 6 := by
  refine zMetH_of (cc := cL_end) (maxL := 4) (ret := (some .int)) (own := RL) (hh := [(0, 9, 12, 13)]) (by decide +kernel) rfl rfl (Nat.le_of_ble_eq_true rfl) ?_
  intro p e s m args below meth c ls C hr hlocks hx0 hw hl
  have hx := C.1
  have hb := C.2.1
  have hown := C.2.2.2.1
  have hts := C.2.2.2.2
  have hl : lv_has ls 4 [(0, .ref (a 0)), (1, .int p0), (2, .ref o)] := hl
  refine lv_aload_n hx hb dL_end_0 rfl (lv_at hl 2 rfl) ?_
  refine lv_iconst (v := 0) hx hb dL_end_1 (by decide) ?_
  refine lv_aload_n hx hb dL_end_2 rfl (lv_at hl 0 rfl) ?_
  refine lv_iload_n hx hb dL_end_3 rfl (lv_at hl 1 rfl) ?_
  refine zcV_xi (As := [.int p0]) (rest := [.int 0, .ref o]) (n9 := 1) (b := (a 0)) C hw (c_X7_end l hst D y base S a p0 hX (by first | assumption | decide | grind)) gL_end_X7_end rfl (by decide +kernel) ⟨⟨rfl, rfl⟩, Nat.le_of_ble_eq_true rfl, Nat.le_of_ble_eq_true rfl⟩ hX.1 ⟨by decide, by decide⟩ rfl rfl hl.1 rfl (Nat.le_of_ble_eq_true rfl) ⟨Nat.le_of_ble_eq_true rfl, Nat.le_of_ble_eq_true rfl⟩ dL_end_4 (fun E9 ce q9 S4 H locs hx9 hw h1 h2 h3 => ?_) (fun r4 S4 H locs hp4 hw => ?_)
  · obtain ⟨hx9, hcl9⟩ := hx9
    obtain ⟨rfl, hk9⟩ := hx9
    refine zcatch (pre := []) (suf := []) (pe := 9) (ph := 12) (ct := 13) C hw hx0 rfl (by decide) (by decide) (fun z hz => by cases hz) (by decide) (by decide +kernel) (by decide +kernel) h1 h2 h3 ?_
    refine lv_astore_n (lv' := [(3, .ref q9), (0, .ref (a 0)), (1, .int p0), (2, .ref o)]) hx hb dL_end_12 rfl hl (by decide) rfl (fun ls hl => ?_)
    refine lv_iconst (v := 1) hx hb dL_end_13 (by decide) ?_
    exact zri C hw hr hlocks rfl ⟨rfl, (fun q => absurd q (by decide)), zCo.a hcl9⟩ ⟨Nat.le_of_ble_eq_true rfl, Nat.le_of_ble_eq_true rfl⟩ dL_end_14
  · exact hp4.1.elim

set_option maxHeartbeats 4000000 in
set_option maxRecDepth 100000 in
/-- L_value -/
theorem c_L_value (l : Launch) (hst : l.stackTraces = false) (D : va_G) (y : Nat → ClassId) (base : Nat) (S : zS) (a : Nat → Nat) (p0 : Int32) (o : Nat) (hX : zX S a) (h0 : zX0 S a) (hko : zK S o = 24) (hno : zN S o = 1) : zMi l yL_value wsL_value ({ frames := 8, cells := 1, slots := 6, locals := 132 }) [.ref (a 0), .int p0, .ref o] D y base S (fun (r : Int32) (S1 : zS) => r = (1 : Int32) ∧ ((1 : Int32) = 0 → zJ S1 o 0 = ((0 : Int32).toInt64)) ∧ zCo S S1 o) 1 6 := by
  refine zMetH_of (cc := cL_value) (maxL := 4) (ret := (some .int)) (own := RL) (hh := [(0, 9, 12, 13)]) (by decide +kernel) rfl rfl (Nat.le_of_ble_eq_true rfl) ?_
  intro p e s m args below meth c ls C hr hlocks hx0 hw hl
  have hx := C.1
  have hb := C.2.1
  have hown := C.2.2.2.1
  have hts := C.2.2.2.2
  have hl : lv_has ls 4 [(0, .ref (a 0)), (1, .int p0), (2, .ref o)] := hl
  refine lv_aload_n hx hb dL_value_0 rfl (lv_at hl 2 rfl) ?_
  refine lv_iconst (v := 0) hx hb dL_value_1 (by decide) ?_
  refine lv_aload_n hx hb dL_value_2 rfl (lv_at hl 0 rfl) ?_
  refine lv_iload_n hx hb dL_value_3 rfl (lv_at hl 1 rfl) ?_
  refine zcV_xi (As := [.int p0]) (rest := [.int 0, .ref o]) (n9 := 1) (b := (a 0)) C hw (c_X7_value l hst D y base S a p0 hX (by first | assumption | decide | grind)) gL_value_X7_value rfl (by decide +kernel) ⟨⟨rfl, rfl⟩, Nat.le_of_ble_eq_true rfl, Nat.le_of_ble_eq_true rfl⟩ hX.1 ⟨by decide, by decide⟩ rfl rfl hl.1 rfl (Nat.le_of_ble_eq_true rfl) ⟨Nat.le_of_ble_eq_true rfl, Nat.le_of_ble_eq_true rfl⟩ dL_value_4 (fun E9 ce q9 S4 H locs hx9 hw h1 h2 h3 => ?_) (fun r4 S4 H locs hp4 hw => ?_)
  · obtain ⟨hx9, hcl9⟩ := hx9
    obtain ⟨rfl, hk9⟩ := hx9
    refine zcatch (pre := []) (suf := []) (pe := 9) (ph := 12) (ct := 13) C hw hx0 rfl (by decide) (by decide) (fun z hz => by cases hz) (by decide) (by decide +kernel) (by decide +kernel) h1 h2 h3 ?_
    refine lv_astore_n (lv' := [(3, .ref q9), (0, .ref (a 0)), (1, .int p0), (2, .ref o)]) hx hb dL_value_12 rfl hl (by decide) rfl (fun ls hl => ?_)
    refine lv_iconst (v := 1) hx hb dL_value_13 (by decide) ?_
    exact zri C hw hr hlocks rfl ⟨rfl, (fun q => absurd q (by decide)), zCo.a hcl9⟩ ⟨Nat.le_of_ble_eq_true rfl, Nat.le_of_ble_eq_true rfl⟩ dL_value_14
  · exact hp4.1.elim

set_option maxHeartbeats 4000000 in
set_option maxRecDepth 100000 in
/-- L_fault -/
theorem c_L_fault (l : Launch) (hst : l.stackTraces = false) (D : va_G) (y : Nat → ClassId) (base : Nat) (S : zS) (a : Nat → Nat) (p0 : Int32) (o : Nat) (hX : zX S a) (h0 : zX0 S a) (hko : zK S o = 24) (hno : zN S o = 1) : zMi l yL_fault wsL_fault ({ frames := 8, cells := 1, slots := 6, locals := 132 }) [.ref (a 0), .int p0, .ref o] D y base S (fun (r : Int32) (S1 : zS) => r = (1 : Int32) ∧ ((1 : Int32) = 0 → zJ S1 o 0 = ((0 : Int32).toInt64)) ∧ zCo S S1 o) 1 6 := by
  refine zMetH_of (cc := cL_fault) (maxL := 4) (ret := (some .int)) (own := RL) (hh := [(0, 9, 12, 13)]) (by decide +kernel) rfl rfl (Nat.le_of_ble_eq_true rfl) ?_
  intro p e s m args below meth c ls C hr hlocks hx0 hw hl
  have hx := C.1
  have hb := C.2.1
  have hown := C.2.2.2.1
  have hts := C.2.2.2.2
  have hl : lv_has ls 4 [(0, .ref (a 0)), (1, .int p0), (2, .ref o)] := hl
  refine lv_aload_n hx hb dL_fault_0 rfl (lv_at hl 2 rfl) ?_
  refine lv_iconst (v := 0) hx hb dL_fault_1 (by decide) ?_
  refine lv_aload_n hx hb dL_fault_2 rfl (lv_at hl 0 rfl) ?_
  refine lv_iload_n hx hb dL_fault_3 rfl (lv_at hl 1 rfl) ?_
  refine zcV_xi (As := [.int p0]) (rest := [.int 0, .ref o]) (n9 := 1) (b := (a 0)) C hw (c_X7_fault l hst D y base S a p0 hX (by first | assumption | decide | grind)) gL_fault_X7_fault rfl (by decide +kernel) ⟨⟨rfl, rfl⟩, Nat.le_of_ble_eq_true rfl, Nat.le_of_ble_eq_true rfl⟩ hX.1 ⟨by decide, by decide⟩ rfl rfl hl.1 rfl (Nat.le_of_ble_eq_true rfl) ⟨Nat.le_of_ble_eq_true rfl, Nat.le_of_ble_eq_true rfl⟩ dL_fault_4 (fun E9 ce q9 S4 H locs hx9 hw h1 h2 h3 => ?_) (fun r4 S4 H locs hp4 hw => ?_)
  · obtain ⟨hx9, hcl9⟩ := hx9
    obtain ⟨rfl, hk9⟩ := hx9
    refine zcatch (pre := []) (suf := []) (pe := 9) (ph := 12) (ct := 13) C hw hx0 rfl (by decide) (by decide) (fun z hz => by cases hz) (by decide) (by decide +kernel) (by decide +kernel) h1 h2 h3 ?_
    refine lv_astore_n (lv' := [(3, .ref q9), (0, .ref (a 0)), (1, .int p0), (2, .ref o)]) hx hb dL_fault_12 rfl hl (by decide) rfl (fun ls hl => ?_)
    refine lv_iconst (v := 1) hx hb dL_fault_13 (by decide) ?_
    exact zri C hw hr hlocks rfl ⟨rfl, (fun q => absurd q (by decide)), zCo.a hcl9⟩ ⟨Nat.le_of_ble_eq_true rfl, Nat.le_of_ble_eq_true rfl⟩ dL_fault_14
  · exact hp4.1.elim

set_option maxHeartbeats 4000000 in
set_option maxRecDepth 100000 in
/-- L_rate -/
theorem c_L_rate (l : Launch) (hst : l.stackTraces = false) (D : va_G) (y : Nat → ClassId) (base : Nat) (S : zS) (a : Nat → Nat) (p0 : Int32) (p1 : Int32) (o : Nat) (hX : zX S a) (h0 : zX0 S a) (hko : zK S o = 24) (hno : zN S o = 1) : zMi l yL_rate wsL_rate ({ frames := 9, cells := 3, slots := 18, locals := 155 }) [.ref (a 0), .int p0, .int p1, .ref o] D y base S (fun (r : Int32) (S1 : zS) => r = kd_run p0 p1 ∧ (kd_run p0 p1 = 0 → zJ S1 o 0 = ((0 : Int32).toInt64)) ∧ zCo S S1 o) 3 18 := by
  refine zMetH_of (cc := cL_rate) (maxL := 5) (ret := (some .int)) (own := RL) (hh := [(0, 10, 13, 13), (0, 10, 17, 57)]) (by decide +kernel) rfl rfl (Nat.le_of_ble_eq_true rfl) ?_
  intro p e s m args below meth c ls C hr hlocks hx0 hw hl
  have hx := C.1
  have hb := C.2.1
  have hown := C.2.2.2.1
  have hts := C.2.2.2.2
  have hl : lv_has ls 5 [(0, .ref (a 0)), (1, .int p0), (2, .int p1), (3, .ref o)] := hl
  refine lv_aload_n hx hb dL_rate_0 rfl (lv_at hl 3 rfl) ?_
  refine lv_iconst (v := 0) hx hb dL_rate_1 (by decide) ?_
  refine lv_aload_n hx hb dL_rate_2 rfl (lv_at hl 0 rfl) ?_
  refine lv_iload_n hx hb dL_rate_3 rfl (lv_at hl 1 rfl) ?_
  refine lv_iload_n hx hb dL_rate_4 rfl (lv_at hl 2 rfl) ?_
  refine zcV_xi (As := [.int p0, .int p1]) (rest := [.int 0, .ref o]) (n9 := 2) (b := (a 0)) C hw (c_X7_rate l hst D y base S a p0 p1 hX (by first | assumption | decide | grind)) gL_rate_X7_rate rfl (by decide +kernel) ⟨⟨rfl, rfl⟩, Nat.le_of_ble_eq_true rfl, Nat.le_of_ble_eq_true rfl⟩ hX.1 ⟨by decide, by decide⟩ rfl rfl hl.1 rfl (Nat.le_of_ble_eq_true rfl) ⟨Nat.le_of_ble_eq_true rfl, Nat.le_of_ble_eq_true rfl⟩ dL_rate_5 (fun E9 ce q9 S5 H locs hx9 hw h1 h2 h3 => ?_) (fun r5 S5 H locs hp5 hw => ?_)
  · obtain ⟨hx9, hcl9⟩ := hx9
    rcases hx9 with ⟨rfl, hk9⟩ | ⟨rfl, hk9⟩
    · refine zcatch (pre := []) (suf := [(0, 10, 17, 57)]) (pe := 10) (ph := 13) (ct := 13) C hw hx0 rfl (by decide) (by decide) (fun z hz => by cases hz) (by decide) (by decide +kernel) (by decide +kernel) h1 h2 h3 ?_
      refine lv_astore (lv' := [(4, .ref q9), (0, .ref (a 0)), (1, .int p0), (2, .int p1), (3, .ref o)]) hx hb dL_rate_13 hl (by decide) rfl (fun ls hl => ?_)
      refine lv_iconst (v := 1) hx hb dL_rate_15 (by decide) ?_
      exact zri C hw hr hlocks rfl ⟨hk9.symm, (fun q => absurd (hk9.symm.trans q) (by decide)), zCo.a hcl9⟩ ⟨Nat.le_of_ble_eq_true rfl, Nat.le_of_ble_eq_true rfl⟩ dL_rate_16
    · refine zcatch (pre := [(0, 10, 13, 13)]) (suf := []) (pe := 10) (ph := 17) (ct := 57) C hw hx0 rfl (by decide) (by decide) (by intro z hz; simp only [List.mem_cons, List.not_mem_nil, or_false] at hz; obtain rfl := hz; exact ⟨by decide, "java/lang/IndexOutOfBoundsException", by decide +kernel, by decide, by decide⟩) (by decide) (by decide +kernel) (by decide +kernel) h1 h2 h3 ?_
      refine lv_astore (lv' := [(4, .ref q9), (0, .ref (a 0)), (1, .int p0), (2, .int p1), (3, .ref o)]) hx hb dL_rate_17 hl (by decide) rfl (fun ls hl => ?_)
      refine lv_iconst (v := 2) hx hb dL_rate_19 (by decide) ?_
      exact zri C hw hr hlocks rfl ⟨hk9.symm, (fun q => absurd (hk9.symm.trans q) (by decide)), zCo.a hcl9⟩ ⟨Nat.le_of_ble_eq_true rfl, Nat.le_of_ble_eq_true rfl⟩ dL_rate_20
  · exact hp5.1.elim

set_option maxHeartbeats 4000000 in
set_option maxRecDepth 100000 in
/-- L_register -/
theorem c_L_register (l : Launch) (hst : l.stackTraces = false) (D : va_G) (y : Nat → ClassId) (base : Nat) (S : zS) (a : Nat → Nat) (p0 : Int32) (p1 : Int32) (o : Nat) (hX : zX S a) (h0 : zX0 S a) (hko : zK S o = 24) (hno : zN S o = 1) : zMi l yL_register wsL_register ({ frames := 8, cells := 2, slots := 12, locals := 134 }) [.ref (a 0), .int p0, .int p1, .ref o] D y base S (fun (r : Int32) (S1 : zS) => r = kd_register p0 p1 ∧ (kd_register p0 p1 = 0 → zJ S1 o 0 = ((0 : Int32).toInt64)) ∧ zCo S S1 o ∧ (kd_register p0 p1 = 0 → ∃ f, S1 = zsJ S o f)) 2 12 := by
  refine zMetH_of (cc := cL_register) (maxL := 5) (ret := (some .int)) (own := RL) (hh := [(0, 10, 13, 19)]) (by decide +kernel) rfl rfl (Nat.le_of_ble_eq_true rfl) ?_
  intro p e s m args below meth c ls C hr hlocks hx0 hw hl
  have hx := C.1
  have hb := C.2.1
  have hown := C.2.2.2.1
  have hts := C.2.2.2.2
  have hl : lv_has ls 5 [(0, .ref (a 0)), (1, .int p0), (2, .int p1), (3, .ref o)] := hl
  refine lv_aload_n hx hb dL_register_0 rfl (lv_at hl 3 rfl) ?_
  refine lv_iconst (v := 0) hx hb dL_register_1 (by decide) ?_
  refine lv_aload_n hx hb dL_register_2 rfl (lv_at hl 0 rfl) ?_
  refine lv_iload_n hx hb dL_register_3 rfl (lv_at hl 1 rfl) ?_
  refine lv_iload_n hx hb dL_register_4 rfl (lv_at hl 2 rfl) ?_
  refine zcV_xi (As := [.int p0, .int p1]) (rest := [.int 0, .ref o]) (n9 := 2) (b := (a 0)) C hw (c_X7_register_s l hst D y base S a p0 p1 hX (by first | assumption | decide | grind)) gL_register_X7_register rfl (by decide +kernel) ⟨⟨rfl, rfl⟩, Nat.le_of_ble_eq_true rfl, Nat.le_of_ble_eq_true rfl⟩ hX.1 ⟨by decide, by decide⟩ rfl rfl hl.1 rfl (Nat.le_of_ble_eq_true rfl) ⟨Nat.le_of_ble_eq_true rfl, Nat.le_of_ble_eq_true rfl⟩ dL_register_5 (fun E9 ce q9 S5 H locs hx9 hw h1 h2 h3 => ?_) (fun r5 S5 H locs hp5 hw => ?_)
  · obtain ⟨hx9, hcl9⟩ := hx9
    obtain ⟨rfl, hk9⟩ := hx9
    refine zcatch (pre := []) (suf := []) (pe := 10) (ph := 13) (ct := 19) C hw hx0 rfl (by decide) (by decide) (fun z hz => by cases hz) (by decide) (by decide +kernel) (by decide +kernel) h1 h2 h3 ?_
    refine lv_astore (lv' := [(4, .ref q9), (0, .ref (a 0)), (1, .int p0), (2, .int p1), (3, .ref o)]) hx hb dL_register_13 hl (by decide) rfl (fun ls hl => ?_)
    refine lv_iconst (v := 1) hx hb dL_register_15 (by decide) ?_
    exact zri C hw hr hlocks rfl ⟨hk9.symm, (fun q => absurd (hk9.symm.trans q) (by decide)), zCo.a hcl9, (fun q => absurd (hk9.symm.trans q) (by decide))⟩ ⟨Nat.le_of_ble_eq_true rfl, Nat.le_of_ble_eq_true rfl⟩ dL_register_16
  · obtain ⟨rfl, hkd, hcl⟩ := hp5
    have hS0 := hcl
    replace hcl : zCls S S5 := by rw [hS0]; exact zCls.rf
    have ho9 := hcl.o hko hno
    refine lv_i2l (v := (0 : Int32).toInt64) hx hb dL_register_8 rfl ?_
    refine zast_J (a := o) C hw ho9.1 ho9.2 (zin_of (N := 1) (by decide) (by decide) (by decide)) dL_register_9 (fun H locs hw => ?_)
    refine lv_goto (tgt := 17) hx hb dL_register_10 (by decide) ?_
    refine lv_iconst (v := 0) hx hb dL_register_17 (by decide) ?_
    exact zri C hw hr hlocks rfl ⟨hkd.symm, (fun _ => by rw [zJ_s]; rfl), zCo.b hcl, (fun _ => ⟨_, congrArg (fun x => zsJ x o (vp_updL (zJ x o) ((0 : Int32)).toNatClampNeg ((0 : Int32).toInt64))) hS0⟩)⟩ ⟨Nat.le_of_ble_eq_true rfl, Nat.le_of_ble_eq_true rfl⟩ dL_register_18

set_option maxHeartbeats 4000000 in
set_option maxRecDepth 100000 in
/-- L_follows -/
theorem c_L_follows (l : Launch) (hst : l.stackTraces = false) (D : va_G) (y : Nat → ClassId) (base : Nat) (S : zS) (a : Nat → Nat) (p0 : Int32) (p1 : Int32) (o : Nat) (hX : zX S a) (h0 : zX0 S a) (hko : zK S o = 24) (hno : zN S o = 1) : zMi l yL_follows wsL_follows ({ frames := 8, cells := 2, slots := 12, locals := 134 }) [.ref (a 0), .int p0, .int p1, .ref o] D y base S (fun (r : Int32) (S1 : zS) => r = kd_follows p0 p1 ∧ (kd_follows p0 p1 = 0 → zJ S1 o 0 = ((0 : Int32).toInt64)) ∧ zCo S S1 o) 2 12 := by
  refine zMetH_of (cc := cL_follows) (maxL := 5) (ret := (some .int)) (own := RL) (hh := [(0, 10, 13, 19)]) (by decide +kernel) rfl rfl (Nat.le_of_ble_eq_true rfl) ?_
  intro p e s m args below meth c ls C hr hlocks hx0 hw hl
  have hx := C.1
  have hb := C.2.1
  have hown := C.2.2.2.1
  have hts := C.2.2.2.2
  have hl : lv_has ls 5 [(0, .ref (a 0)), (1, .int p0), (2, .int p1), (3, .ref o)] := hl
  refine lv_aload_n hx hb dL_follows_0 rfl (lv_at hl 3 rfl) ?_
  refine lv_iconst (v := 0) hx hb dL_follows_1 (by decide) ?_
  refine lv_aload_n hx hb dL_follows_2 rfl (lv_at hl 0 rfl) ?_
  refine lv_iload_n hx hb dL_follows_3 rfl (lv_at hl 1 rfl) ?_
  refine lv_iload_n hx hb dL_follows_4 rfl (lv_at hl 2 rfl) ?_
  refine zcV_xi (As := [.int p0, .int p1]) (rest := [.int 0, .ref o]) (n9 := 2) (b := (a 0)) C hw (c_X7_follows l hst D y base S a p0 p1 hX (by first | assumption | decide | grind)) gL_follows_X7_follows rfl (by decide +kernel) ⟨⟨rfl, rfl⟩, Nat.le_of_ble_eq_true rfl, Nat.le_of_ble_eq_true rfl⟩ hX.1 ⟨by decide, by decide⟩ rfl rfl hl.1 rfl (Nat.le_of_ble_eq_true rfl) ⟨Nat.le_of_ble_eq_true rfl, Nat.le_of_ble_eq_true rfl⟩ dL_follows_5 (fun E9 ce q9 S5 H locs hx9 hw h1 h2 h3 => ?_) (fun r5 S5 H locs hp5 hw => ?_)
  · obtain ⟨hx9, hcl9⟩ := hx9
    obtain ⟨rfl, hk9⟩ := hx9
    refine zcatch (pre := []) (suf := []) (pe := 10) (ph := 13) (ct := 19) C hw hx0 rfl (by decide) (by decide) (fun z hz => by cases hz) (by decide) (by decide +kernel) (by decide +kernel) h1 h2 h3 ?_
    refine lv_astore (lv' := [(4, .ref q9), (0, .ref (a 0)), (1, .int p0), (2, .int p1), (3, .ref o)]) hx hb dL_follows_13 hl (by decide) rfl (fun ls hl => ?_)
    refine lv_iconst (v := 1) hx hb dL_follows_15 (by decide) ?_
    exact zri C hw hr hlocks rfl ⟨hk9.symm, (fun q => absurd (hk9.symm.trans q) (by decide)), zCo.a hcl9⟩ ⟨Nat.le_of_ble_eq_true rfl, Nat.le_of_ble_eq_true rfl⟩ dL_follows_16
  · obtain ⟨rfl, hkd, hcl⟩ := hp5
    have ho9 := hcl.o hko hno
    refine lv_i2l (v := (0 : Int32).toInt64) hx hb dL_follows_8 rfl ?_
    refine zast_J (a := o) C hw ho9.1 ho9.2 (zin_of (N := 1) (by decide) (by decide) (by decide)) dL_follows_9 (fun H locs hw => ?_)
    refine lv_goto (tgt := 17) hx hb dL_follows_10 (by decide) ?_
    refine lv_iconst (v := 0) hx hb dL_follows_17 (by decide) ?_
    exact zri C hw hr hlocks rfl ⟨hkd.symm, (fun _ => by rw [zJ_s]; rfl), zCo.b hcl⟩ ⟨Nat.le_of_ble_eq_true rfl, Nat.le_of_ble_eq_true rfl⟩ dL_follows_18

set_option maxHeartbeats 4000000 in
set_option maxRecDepth 100000 in
/-- L_alike -/
theorem c_L_alike (l : Launch) (hst : l.stackTraces = false) (D : va_G) (y : Nat → ClassId) (base : Nat) (S : zS) (a : Nat → Nat) (p0 : Int32) (o : Nat) (hX : zX S a) (h0 : zX0 S a) (hko : zK S o = 24) (hno : zN S o = 1) : zMi l yL_alike wsL_alike ({ frames := 8, cells := 1, slots := 6, locals := 133 }) [.ref (a 0), .int p0, .ref o] D y base S (fun (r : Int32) (S1 : zS) => r = kd_alike p0 ∧ (kd_alike p0 = 0 → zJ S1 o 0 = ((0 : Int32).toInt64)) ∧ zCo S S1 o) 1 6 := by
  refine zMetH_of (cc := cL_alike) (maxL := 4) (ret := (some .int)) (own := RL) (hh := [(0, 9, 12, 19)]) (by decide +kernel) rfl rfl (Nat.le_of_ble_eq_true rfl) ?_
  intro p e s m args below meth c ls C hr hlocks hx0 hw hl
  have hx := C.1
  have hb := C.2.1
  have hown := C.2.2.2.1
  have hts := C.2.2.2.2
  have hl : lv_has ls 4 [(0, .ref (a 0)), (1, .int p0), (2, .ref o)] := hl
  refine lv_aload_n hx hb dL_alike_0 rfl (lv_at hl 2 rfl) ?_
  refine lv_iconst (v := 0) hx hb dL_alike_1 (by decide) ?_
  refine lv_aload_n hx hb dL_alike_2 rfl (lv_at hl 0 rfl) ?_
  refine lv_iload_n hx hb dL_alike_3 rfl (lv_at hl 1 rfl) ?_
  refine zcV_xi (As := [.int p0]) (rest := [.int 0, .ref o]) (n9 := 1) (b := (a 0)) C hw (c_X7_alike l hst D y base S a p0 hX (by first | assumption | decide | grind)) gL_alike_X7_alike rfl (by decide +kernel) ⟨⟨rfl, rfl⟩, Nat.le_of_ble_eq_true rfl, Nat.le_of_ble_eq_true rfl⟩ hX.1 ⟨by decide, by decide⟩ rfl rfl hl.1 rfl (Nat.le_of_ble_eq_true rfl) ⟨Nat.le_of_ble_eq_true rfl, Nat.le_of_ble_eq_true rfl⟩ dL_alike_4 (fun E9 ce q9 S4 H locs hx9 hw h1 h2 h3 => ?_) (fun r4 S4 H locs hp4 hw => ?_)
  · obtain ⟨hx9, hcl9⟩ := hx9
    obtain ⟨rfl, hk9⟩ := hx9
    refine zcatch (pre := []) (suf := []) (pe := 9) (ph := 12) (ct := 19) C hw hx0 rfl (by decide) (by decide) (fun z hz => by cases hz) (by decide) (by decide +kernel) (by decide +kernel) h1 h2 h3 ?_
    refine lv_astore_n (lv' := [(3, .ref q9), (0, .ref (a 0)), (1, .int p0), (2, .ref o)]) hx hb dL_alike_12 rfl hl (by decide) rfl (fun ls hl => ?_)
    refine lv_iconst (v := 1) hx hb dL_alike_13 (by decide) ?_
    exact zri C hw hr hlocks rfl ⟨hk9.symm, (fun q => absurd (hk9.symm.trans q) (by decide)), zCo.a hcl9⟩ ⟨Nat.le_of_ble_eq_true rfl, Nat.le_of_ble_eq_true rfl⟩ dL_alike_14
  · obtain ⟨rfl, hkd, hcl⟩ := hp4
    have ho9 := hcl.o hko hno
    refine lv_i2l (v := (0 : Int32).toInt64) hx hb dL_alike_7 rfl ?_
    refine zast_J (a := o) C hw ho9.1 ho9.2 (zin_of (N := 1) (by decide) (by decide) (by decide)) dL_alike_8 (fun H locs hw => ?_)
    refine lv_goto (tgt := 15) hx hb dL_alike_9 (by decide) ?_
    refine lv_iconst (v := 0) hx hb dL_alike_15 (by decide) ?_
    exact zri C hw hr hlocks rfl ⟨hkd.symm, (fun _ => by rw [zJ_s]; rfl), zCo.b hcl⟩ ⟨Nat.le_of_ble_eq_true rfl, Nat.le_of_ble_eq_true rfl⟩ dL_alike_16

set_option maxHeartbeats 4000000 in
set_option maxRecDepth 100000 in
/-- L_differs -/
theorem c_L_differs (l : Launch) (hst : l.stackTraces = false) (D : va_G) (y : Nat → ClassId) (base : Nat) (S : zS) (a : Nat → Nat) (p0 : Int32) (o : Nat) (hX : zX S a) (h0 : zX0 S a) (hko : zK S o = 24) (hno : zN S o = 1) : zMi l yL_differs wsL_differs ({ frames := 8, cells := 2, slots := 12, locals := 134 }) [.ref (a 0), .int p0, .ref o] D y base S (fun (r : Int32) (S1 : zS) => r = kd_differs p0 ∧ (kd_differs p0 = 0 → zJ S1 o 0 = ((0 : Int32).toInt64)) ∧ zCo S S1 o) 2 12 := by
  refine zMetH_of (cc := cL_differs) (maxL := 4) (ret := (some .int)) (own := RL) (hh := [(0, 9, 12, 19), (0, 9, 15, 57)]) (by decide +kernel) rfl rfl (Nat.le_of_ble_eq_true rfl) ?_
  intro p e s m args below meth c ls C hr hlocks hx0 hw hl
  have hx := C.1
  have hb := C.2.1
  have hown := C.2.2.2.1
  have hts := C.2.2.2.2
  have hl : lv_has ls 4 [(0, .ref (a 0)), (1, .int p0), (2, .ref o)] := hl
  refine lv_aload_n hx hb dL_differs_0 rfl (lv_at hl 2 rfl) ?_
  refine lv_iconst (v := 0) hx hb dL_differs_1 (by decide) ?_
  refine lv_aload_n hx hb dL_differs_2 rfl (lv_at hl 0 rfl) ?_
  refine lv_iload_n hx hb dL_differs_3 rfl (lv_at hl 1 rfl) ?_
  refine zcV_xi (As := [.int p0]) (rest := [.int 0, .ref o]) (n9 := 1) (b := (a 0)) C hw (c_X7_differs l hst D y base S a p0 hX (by first | assumption | decide | grind)) gL_differs_X7_differs rfl (by decide +kernel) ⟨⟨rfl, rfl⟩, Nat.le_of_ble_eq_true rfl, Nat.le_of_ble_eq_true rfl⟩ hX.1 ⟨by decide, by decide⟩ rfl rfl hl.1 rfl (Nat.le_of_ble_eq_true rfl) ⟨Nat.le_of_ble_eq_true rfl, Nat.le_of_ble_eq_true rfl⟩ dL_differs_4 (fun E9 ce q9 S4 H locs hx9 hw h1 h2 h3 => ?_) (fun r4 S4 H locs hp4 hw => ?_)
  · obtain ⟨hx9, hcl9⟩ := hx9
    rcases hx9 with ⟨rfl, hk9⟩ | ⟨rfl, hk9⟩
    · refine zcatch (pre := []) (suf := [(0, 9, 15, 57)]) (pe := 9) (ph := 12) (ct := 19) C hw hx0 rfl (by decide) (by decide) (fun z hz => by cases hz) (by decide) (by decide +kernel) (by decide +kernel) h1 h2 h3 ?_
      refine lv_astore_n (lv' := [(3, .ref q9), (0, .ref (a 0)), (1, .int p0), (2, .ref o)]) hx hb dL_differs_12 rfl hl (by decide) rfl (fun ls hl => ?_)
      refine lv_iconst (v := 1) hx hb dL_differs_13 (by decide) ?_
      exact zri C hw hr hlocks rfl ⟨hk9.symm, (fun q => absurd (hk9.symm.trans q) (by decide)), zCo.a hcl9⟩ ⟨Nat.le_of_ble_eq_true rfl, Nat.le_of_ble_eq_true rfl⟩ dL_differs_14
    · refine zcatch (pre := [(0, 9, 12, 19)]) (suf := []) (pe := 9) (ph := 15) (ct := 57) C hw hx0 rfl (by decide) (by decide) (by intro z hz; simp only [List.mem_cons, List.not_mem_nil, or_false] at hz; obtain rfl := hz; exact ⟨by decide, "java/lang/IllegalArgumentException", by decide +kernel, by decide, by decide⟩) (by decide) (by decide +kernel) (by decide +kernel) h1 h2 h3 ?_
      refine lv_astore_n (lv' := [(3, .ref q9), (0, .ref (a 0)), (1, .int p0), (2, .ref o)]) hx hb dL_differs_15 rfl hl (by decide) rfl (fun ls hl => ?_)
      refine lv_iconst (v := 2) hx hb dL_differs_16 (by decide) ?_
      exact zri C hw hr hlocks rfl ⟨hk9.symm, (fun q => absurd (hk9.symm.trans q) (by decide)), zCo.a hcl9⟩ ⟨Nat.le_of_ble_eq_true rfl, Nat.le_of_ble_eq_true rfl⟩ dL_differs_17
  · exact hp4.1.elim

set_option maxHeartbeats 4000000 in
set_option maxRecDepth 100000 in
/-- L_best -/
theorem c_L_best (l : Launch) (hst : l.stackTraces = false) (D : va_G) (y : Nat → ClassId) (base : Nat) (S : zS) (a : Nat → Nat) (p0 : Int32) (o : Nat) (hX : zX S a) (h0 : zX0 S a) (hko : zK S o = 24) (hno : zN S o = 1) : zMi l yL_best wsL_best ({ frames := 8, cells := 2, slots := 12, locals := 138 }) [.ref (a 0), .int p0, .ref o] D y base S (fun (r : Int32) (S1 : zS) => r = kd_best p0 ∧ (kd_best p0 = 0 → zJ S1 o 0 = ((0 : Int32).toInt64)) ∧ zCo S S1 o) 2 12 := by
  refine zMetH_of (cc := cL_best) (maxL := 4) (ret := (some .int)) (own := RL) (hh := [(0, 9, 12, 19), (0, 9, 15, 79)]) (by decide +kernel) rfl rfl (Nat.le_of_ble_eq_true rfl) ?_
  intro p e s m args below meth c ls C hr hlocks hx0 hw hl
  have hx := C.1
  have hb := C.2.1
  have hown := C.2.2.2.1
  have hts := C.2.2.2.2
  have hl : lv_has ls 4 [(0, .ref (a 0)), (1, .int p0), (2, .ref o)] := hl
  refine lv_aload_n hx hb dL_best_0 rfl (lv_at hl 2 rfl) ?_
  refine lv_iconst (v := 0) hx hb dL_best_1 (by decide) ?_
  refine lv_aload_n hx hb dL_best_2 rfl (lv_at hl 0 rfl) ?_
  refine lv_iload_n hx hb dL_best_3 rfl (lv_at hl 1 rfl) ?_
  refine zcV_xi (As := [.int p0]) (rest := [.int 0, .ref o]) (n9 := 1) (b := (a 0)) C hw (c_X7_best l hst D y base S a p0 hX (by first | assumption | decide | grind)) gL_best_X7_best rfl (by decide +kernel) ⟨⟨rfl, rfl⟩, Nat.le_of_ble_eq_true rfl, Nat.le_of_ble_eq_true rfl⟩ hX.1 ⟨by decide, by decide⟩ rfl rfl hl.1 rfl (Nat.le_of_ble_eq_true rfl) ⟨Nat.le_of_ble_eq_true rfl, Nat.le_of_ble_eq_true rfl⟩ dL_best_4 (fun E9 ce q9 S4 H locs hx9 hw h1 h2 h3 => ?_) (fun r4 S4 H locs hp4 hw => ?_)
  · obtain ⟨hx9, hcl9⟩ := hx9
    rcases hx9 with ⟨rfl, hk9⟩ | ⟨rfl, hk9⟩
    · refine zcatch (pre := []) (suf := [(0, 9, 15, 79)]) (pe := 9) (ph := 12) (ct := 19) C hw hx0 rfl (by decide) (by decide) (fun z hz => by cases hz) (by decide) (by decide +kernel) (by decide +kernel) h1 h2 h3 ?_
      refine lv_astore_n (lv' := [(3, .ref q9), (0, .ref (a 0)), (1, .int p0), (2, .ref o)]) hx hb dL_best_12 rfl hl (by decide) rfl (fun ls hl => ?_)
      refine lv_iconst (v := 1) hx hb dL_best_13 (by decide) ?_
      exact zri C hw hr hlocks rfl ⟨hk9.symm, (fun q => absurd (hk9.symm.trans q) (by decide)), zCo.a hcl9⟩ ⟨Nat.le_of_ble_eq_true rfl, Nat.le_of_ble_eq_true rfl⟩ dL_best_14
    · refine zcatch (pre := [(0, 9, 12, 19)]) (suf := []) (pe := 9) (ph := 15) (ct := 79) C hw hx0 rfl (by decide) (by decide) (by intro z hz; simp only [List.mem_cons, List.not_mem_nil, or_false] at hz; obtain rfl := hz; exact ⟨by decide, "java/lang/IllegalArgumentException", by decide +kernel, by decide, by decide⟩) (by decide) (by decide +kernel) (by decide +kernel) h1 h2 h3 ?_
      refine lv_astore_n (lv' := [(3, .ref q9), (0, .ref (a 0)), (1, .int p0), (2, .ref o)]) hx hb dL_best_15 rfl hl (by decide) rfl (fun ls hl => ?_)
      refine lv_iconst (v := 2) hx hb dL_best_16 (by decide) ?_
      exact zri C hw hr hlocks rfl ⟨hk9.symm, (fun q => absurd (hk9.symm.trans q) (by decide)), zCo.a hcl9⟩ ⟨Nat.le_of_ble_eq_true rfl, Nat.le_of_ble_eq_true rfl⟩ dL_best_17
  · exact hp4.1.elim

set_option maxHeartbeats 4000000 in
set_option maxRecDepth 100000 in
/-- L_highShare -/
theorem c_L_highShare (l : Launch) (hst : l.stackTraces = false) (D : va_G) (y : Nat → ClassId) (base : Nat) (S : zS) (a : Nat → Nat) (p0 : Int32) (p1 : Int32) (o : Nat) (hX : zX S a) (h0 : zX0 S a) : zMi l yL_highShare wsL_highShare ({ frames := 8, cells := 3, slots := 18, locals := 133 }) [.ref (a 0), .int p0, .int p1, .ref o] D y base S (fun (r : Int32) (S1 : zS) => r = kd_run p0 p1 ∧ (kd_run p0 p1 = 0 → zJ S1 o 0 = ((0 : Int32).toInt64)) ∧ zCo S S1 o) 3 18 := by
  refine zMetH_of (cc := cL_highShare) (maxL := 5) (ret := (some .int)) (own := RL) (hh := [(0, 10, 13, 13), (0, 10, 17, 57)]) (by decide +kernel) rfl rfl (Nat.le_of_ble_eq_true rfl) ?_
  intro p e s m args below meth c ls C hr hlocks hx0 hw hl
  have hx := C.1
  have hb := C.2.1
  have hown := C.2.2.2.1
  have hts := C.2.2.2.2
  have hl : lv_has ls 5 [(0, .ref (a 0)), (1, .int p0), (2, .int p1), (3, .ref o)] := hl
  refine lv_aload_n hx hb dL_highShare_0 rfl (lv_at hl 3 rfl) ?_
  refine lv_iconst (v := 0) hx hb dL_highShare_1 (by decide) ?_
  refine lv_aload_n hx hb dL_highShare_2 rfl (lv_at hl 0 rfl) ?_
  refine lv_iload_n hx hb dL_highShare_3 rfl (lv_at hl 1 rfl) ?_
  refine lv_iload_n hx hb dL_highShare_4 rfl (lv_at hl 2 rfl) ?_
  refine zcV_xf (As := [.int p0, .int p1]) (rest := [.int 0, .ref o]) (n9 := 2) (b := (a 0)) C hw (c_X7_highShare l hst D y base S a p0 p1 hX (by first | assumption | decide | grind)) gL_highShare_X7_highShare rfl (by decide +kernel) ⟨⟨rfl, rfl⟩, Nat.le_of_ble_eq_true rfl, Nat.le_of_ble_eq_true rfl⟩ hX.1 ⟨by decide, by decide⟩ rfl rfl hl.1 rfl (Nat.le_of_ble_eq_true rfl) ⟨Nat.le_of_ble_eq_true rfl, Nat.le_of_ble_eq_true rfl⟩ dL_highShare_5 (fun E9 ce q9 S5 H locs hx9 hw h1 h2 h3 => ?_) (fun r5 S5 H locs hp5 hw => ?_)
  · obtain ⟨hx9, hcl9⟩ := hx9
    rcases hx9 with ⟨rfl, hk9⟩ | ⟨rfl, hk9⟩
    · refine zcatch (pre := []) (suf := [(0, 10, 17, 57)]) (pe := 10) (ph := 13) (ct := 13) C hw hx0 rfl (by decide) (by decide) (fun z hz => by cases hz) (by decide) (by decide +kernel) (by decide +kernel) h1 h2 h3 ?_
      refine lv_astore (lv' := [(4, .ref q9), (0, .ref (a 0)), (1, .int p0), (2, .int p1), (3, .ref o)]) hx hb dL_highShare_13 hl (by decide) rfl (fun ls hl => ?_)
      refine lv_iconst (v := 1) hx hb dL_highShare_15 (by decide) ?_
      exact zri C hw hr hlocks rfl ⟨hk9.symm, (fun q => absurd (hk9.symm.trans q) (by decide)), zCo.a hcl9⟩ ⟨Nat.le_of_ble_eq_true rfl, Nat.le_of_ble_eq_true rfl⟩ dL_highShare_16
    · refine zcatch (pre := [(0, 10, 13, 13)]) (suf := []) (pe := 10) (ph := 17) (ct := 57) C hw hx0 rfl (by decide) (by decide) (by intro z hz; simp only [List.mem_cons, List.not_mem_nil, or_false] at hz; obtain rfl := hz; exact ⟨by decide, "java/lang/IndexOutOfBoundsException", by decide +kernel, by decide, by decide⟩) (by decide) (by decide +kernel) (by decide +kernel) h1 h2 h3 ?_
      refine lv_astore (lv' := [(4, .ref q9), (0, .ref (a 0)), (1, .int p0), (2, .int p1), (3, .ref o)]) hx hb dL_highShare_17 hl (by decide) rfl (fun ls hl => ?_)
      refine lv_iconst (v := 2) hx hb dL_highShare_19 (by decide) ?_
      exact zri C hw hr hlocks rfl ⟨hk9.symm, (fun q => absurd (hk9.symm.trans q) (by decide)), zCo.a hcl9⟩ ⟨Nat.le_of_ble_eq_true rfl, Nat.le_of_ble_eq_true rfl⟩ dL_highShare_20
  · exact hp5.1.elim

set_option maxHeartbeats 4000000 in
set_option maxRecDepth 100000 in
/-- L_meanRun -/
theorem c_L_meanRun (l : Launch) (hst : l.stackTraces = false) (D : va_G) (y : Nat → ClassId) (base : Nat) (S : zS) (a : Nat → Nat) (p0 : Int32) (p1 : Int32) (o : Nat) (hX : zX S a) (h0 : zX0 S a) : zMi l yL_meanRun wsL_meanRun ({ frames := 8, cells := 3, slots := 18, locals := 134 }) [.ref (a 0), .int p0, .int p1, .ref o] D y base S (fun (r : Int32) (S1 : zS) => r = kd_run p0 p1 ∧ (kd_run p0 p1 = 0 → zJ S1 o 0 = ((0 : Int32).toInt64)) ∧ zCo S S1 o) 3 18 := by
  refine zMetH_of (cc := cL_meanRun) (maxL := 5) (ret := (some .int)) (own := RL) (hh := [(0, 9, 12, 13), (0, 9, 16, 57)]) (by decide +kernel) rfl rfl (Nat.le_of_ble_eq_true rfl) ?_
  intro p e s m args below meth c ls C hr hlocks hx0 hw hl
  have hx := C.1
  have hb := C.2.1
  have hown := C.2.2.2.1
  have hts := C.2.2.2.2
  have hl : lv_has ls 5 [(0, .ref (a 0)), (1, .int p0), (2, .int p1), (3, .ref o)] := hl
  refine lv_aload_n hx hb dL_meanRun_0 rfl (lv_at hl 3 rfl) ?_
  refine lv_iconst (v := 0) hx hb dL_meanRun_1 (by decide) ?_
  refine lv_aload_n hx hb dL_meanRun_2 rfl (lv_at hl 0 rfl) ?_
  refine lv_iload_n hx hb dL_meanRun_3 rfl (lv_at hl 1 rfl) ?_
  refine lv_iload_n hx hb dL_meanRun_4 rfl (lv_at hl 2 rfl) ?_
  refine zcV_xd (As := [.int p0, .int p1]) (rest := [.int 0, .ref o]) (n9 := 2) (b := (a 0)) C hw (c_X7_meanRun l hst D y base S a p0 p1 hX (by first | assumption | decide | grind)) gL_meanRun_X7_meanRun rfl (by decide +kernel) ⟨⟨rfl, rfl⟩, Nat.le_of_ble_eq_true rfl, Nat.le_of_ble_eq_true rfl⟩ hX.1 ⟨by decide, by decide⟩ rfl rfl hl.1 rfl (Nat.le_of_ble_eq_true rfl) ⟨Nat.le_of_ble_eq_true rfl, Nat.le_of_ble_eq_true rfl⟩ dL_meanRun_5 (fun E9 ce q9 S5 H locs hx9 hw h1 h2 h3 => ?_) (fun r5 S5 H locs hp5 hw => ?_)
  · obtain ⟨hx9, hcl9⟩ := hx9
    rcases hx9 with ⟨rfl, hk9⟩ | ⟨rfl, hk9⟩
    · refine zcatch (pre := []) (suf := [(0, 9, 16, 57)]) (pe := 9) (ph := 12) (ct := 13) C hw hx0 rfl (by decide) (by decide) (fun z hz => by cases hz) (by decide) (by decide +kernel) (by decide +kernel) h1 h2 h3 ?_
      refine lv_astore (lv' := [(4, .ref q9), (0, .ref (a 0)), (1, .int p0), (2, .int p1), (3, .ref o)]) hx hb dL_meanRun_12 hl (by decide) rfl (fun ls hl => ?_)
      refine lv_iconst (v := 1) hx hb dL_meanRun_14 (by decide) ?_
      exact zri C hw hr hlocks rfl ⟨hk9.symm, (fun q => absurd (hk9.symm.trans q) (by decide)), zCo.a hcl9⟩ ⟨Nat.le_of_ble_eq_true rfl, Nat.le_of_ble_eq_true rfl⟩ dL_meanRun_15
    · refine zcatch (pre := [(0, 9, 12, 13)]) (suf := []) (pe := 9) (ph := 16) (ct := 57) C hw hx0 rfl (by decide) (by decide) (by intro z hz; simp only [List.mem_cons, List.not_mem_nil, or_false] at hz; obtain rfl := hz; exact ⟨by decide, "java/lang/IndexOutOfBoundsException", by decide +kernel, by decide, by decide⟩) (by decide) (by decide +kernel) (by decide +kernel) h1 h2 h3 ?_
      refine lv_astore (lv' := [(4, .ref q9), (0, .ref (a 0)), (1, .int p0), (2, .int p1), (3, .ref o)]) hx hb dL_meanRun_16 hl (by decide) rfl (fun ls hl => ?_)
      refine lv_iconst (v := 2) hx hb dL_meanRun_18 (by decide) ?_
      exact zri C hw hr hlocks rfl ⟨hk9.symm, (fun q => absurd (hk9.symm.trans q) (by decide)), zCo.a hcl9⟩ ⟨Nat.le_of_ble_eq_true rfl, Nat.le_of_ble_eq_true rfl⟩ dL_meanRun_19
  · exact hp5.1.elim

