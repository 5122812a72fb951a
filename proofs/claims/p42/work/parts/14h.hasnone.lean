set_option maxHeartbeats 4000000 in
set_option maxRecDepth 100000 in
/-- L_hasNone -/
theorem c_L_hasNone_t (l : Launch) (hst : l.stackTraces = false) (D : va_G) (y : Nat → ClassId) (base : Nat) (S : zS) (a : Nat → Nat) (hX : zX S a) (h0 : zX0 S a) : zMi l yL_hasNone wsL_hasNone ({ frames := 8, cells := 3, slots := 18, locals := 133 }) [.ref (a 0), .int 1] D y base S (fun (r : Int32) (S1 : zS) => r = 1 ∧ S1 = S) 3 18 := by
  refine zMetH_of (cc := cL_hasNone) (maxL := 4) (ret := (some .boolean)) (own := RL) (hh := [(0, 22, 23, 78)]) (by decide +kernel) rfl rfl (Nat.le_of_ble_eq_true rfl) ?_
  intro p e s m args below meth c ls C hr hlocks hx0 hw hl
  have hx := C.1
  have hb := C.2.1
  have hown := C.2.2.2.1
  have hts := C.2.2.2.2
  have hl : lv_has ls 4 [(0, .ref (a 0)), (1, .int 1)] := hl
  refine lv_iload_n hx hb dL_hasNone_0 rfl (lv_at hl 1 rfl) ?_
  refine lv_if_eq (tgt := 14) hx hb dL_hasNone_1 (by decide) (fun c1 => absurd c1 (by decide)) (fun _ => ?_)
  refine lv_aload_n hx hb dL_hasNone_4 rfl (lv_at hl 0 rfl) ?_
  refine lv_iconst (v := 0) hx hb dL_hasNone_5 (by decide) ?_
  refine lv_iconst (v := 0) hx hb dL_hasNone_6 (by decide) ?_
  refine zcV_xf (As := [.int 0, .int 0]) (rest := []) (n9 := 2) (b := (a 0)) C hw (c_X7_highShare_r l hst D y base S a 0 0 hX h0) gL_hasNone_X7_highShare rfl (by decide +kernel) ⟨⟨rfl, rfl⟩, Nat.le_of_ble_eq_true rfl, Nat.le_of_ble_eq_true rfl⟩ hX.1 ⟨by decide, by decide⟩ rfl rfl hl.1 rfl (Nat.le_of_ble_eq_true rfl) ⟨Nat.le_of_ble_eq_true rfl, Nat.le_of_ble_eq_true rfl⟩ dL_hasNone_7 (fun E9 ce q9 S7 H locs hx9 hw h1 h2 h3 => ?_) (fun r7 S7 H locs hp7 hw => ?_)
  · obtain ⟨hx9, hS9⟩ := hx9
    have hx9 : E9 = "java/util/NoSuchElementException" := by
      rcases hx9 with h | h
      · exact absurd h.2 (by decide +kernel)
      · exact h.1
    subst hx9
    refine zcatch2 (pre := []) (suf := []) (pb := 0) (pe := 22) (ph := 23) (ct := 78) C hw hx0 rfl (by decide) (by decide) (by decide) (fun z hz => by cases hz) (by decide +kernel) (by decide +kernel) (by decide +kernel) h1 h2 h3 ?_
    refine lv_astore_n (lv' := [(2, .ref q9), (0, .ref (a 0)), (1, .int 1)]) hx hb dL_hasNone_23 rfl hl (by decide) rfl (fun ls hl => ?_)
    refine lv_iconst (v := 1) hx hb dL_hasNone_24 (by decide) ?_
    exact zri C hw hr hlocks (by decide) ⟨rfl, hS9⟩ ⟨Nat.le_of_ble_eq_true rfl, Nat.le_of_ble_eq_true rfl⟩ dL_hasNone_25
  · exact hp7.1.elim

set_option maxHeartbeats 4000000 in
set_option maxRecDepth 100000 in
/-- L_hasNone -/
theorem c_L_hasNone_f (l : Launch) (hst : l.stackTraces = false) (D : va_G) (y : Nat → ClassId) (base : Nat) (S : zS) (a : Nat → Nat) (hX : zX S a) (h0 : zX0 S a) : zMi l yL_hasNone wsL_hasNone ({ frames := 8, cells := 3, slots := 18, locals := 134 }) [.ref (a 0), .int 0] D y base S (fun (r : Int32) (S1 : zS) => r = 1 ∧ S1 = S) 3 18 := by
  refine zMetH_of (cc := cL_hasNone) (maxL := 4) (ret := (some .boolean)) (own := RL) (hh := [(0, 22, 23, 78)]) (by decide +kernel) rfl rfl (Nat.le_of_ble_eq_true rfl) ?_
  intro p e s m args below meth c ls C hr hlocks hx0 hw hl
  have hx := C.1
  have hb := C.2.1
  have hown := C.2.2.2.1
  have hts := C.2.2.2.2
  have hl : lv_has ls 4 [(0, .ref (a 0)), (1, .int 0)] := hl
  refine lv_iload_n hx hb dL_hasNone_0 rfl (lv_at hl 1 rfl) ?_
  refine lv_if_eq (tgt := 14) hx hb dL_hasNone_1 (by decide) (fun _ => ?_) (fun c1 => absurd c1 (by decide))
  refine lv_aload_n hx hb dL_hasNone_14 rfl (lv_at hl 0 rfl) ?_
  refine lv_iconst (v := 0) hx hb dL_hasNone_15 (by decide) ?_
  refine lv_iconst (v := 0) hx hb dL_hasNone_16 (by decide) ?_
  refine zcV_xd (As := [.int 0, .int 0]) (rest := []) (n9 := 2) (b := (a 0)) C hw (c_X7_meanRun_r l hst D y base S a 0 0 hX h0) gL_hasNone_X7_meanRun rfl (by decide +kernel) ⟨⟨rfl, rfl⟩, Nat.le_of_ble_eq_true rfl, Nat.le_of_ble_eq_true rfl⟩ hX.1 ⟨by decide, by decide⟩ rfl rfl hl.1 rfl (Nat.le_of_ble_eq_true rfl) ⟨Nat.le_of_ble_eq_true rfl, Nat.le_of_ble_eq_true rfl⟩ dL_hasNone_17 (fun E9 ce q9 S17 H locs hx9 hw h1 h2 h3 => ?_) (fun r17 S17 H locs hp17 hw => ?_)
  · obtain ⟨hx9, hS9⟩ := hx9
    have hx9 : E9 = "java/util/NoSuchElementException" := by
      rcases hx9 with h | h
      · exact absurd h.2 (by decide +kernel)
      · exact h.1
    subst hx9
    refine zcatch2 (pre := []) (suf := []) (pb := 0) (pe := 22) (ph := 23) (ct := 78) C hw hx0 rfl (by decide) (by decide) (by decide) (fun z hz => by cases hz) (by decide +kernel) (by decide +kernel) (by decide +kernel) h1 h2 h3 ?_
    refine lv_astore_n (lv' := [(2, .ref q9), (0, .ref (a 0)), (1, .int 0)]) hx hb dL_hasNone_23 rfl hl (by decide) rfl (fun ls hl => ?_)
    refine lv_iconst (v := 1) hx hb dL_hasNone_24 (by decide) ?_
    exact zri C hw hr hlocks (by decide) ⟨rfl, hS9⟩ ⟨Nat.le_of_ble_eq_true rfl, Nat.le_of_ble_eq_true rfl⟩ dL_hasNone_25
  · exact hp17.1.elim

