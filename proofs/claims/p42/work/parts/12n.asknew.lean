/-! what the law asks, and what it gets -/
theorem zrk {S : zS} {k a n : Nat} {i v : Int32} (h : zR S k a n = v) (e : i.toNatClampNeg = n) : zR S k a i.toNatClampNeg = v := e ▸ h
theorem zn1 {v : Int32} (h : v = 0 ∨ v = 1) (h1 : ¬ v = 1) : v = 0 := h.resolve_right h1
def zhhA : List (Nat × Nat × Nat × Nat) := [(0, 243, 463, 66), (244, 254, 463, 66), (255, 273, 463, 66), (274, 287, 463, 66), (288, 295, 463, 66), (296, 316, 463, 66), (317, 356, 463, 66), (357, 383, 463, 66), (384, 400, 463, 66), (401, 408, 463, 66), (409, 419, 463, 66), (420, 430, 463, 66), (431, 444, 463, 66), (445, 455, 463, 66), (456, 462, 463, 66), (0, 243, 467, 69), (244, 254, 467, 69), (255, 273, 467, 69), (274, 287, 467, 69), (288, 295, 467, 69), (296, 316, 467, 69), (317, 356, 467, 69), (357, 383, 467, 69), (384, 400, 467, 69), (401, 408, 467, 69), (409, 419, 467, 69), (420, 430, 467, 69), (431, 444, 467, 69), (445, 455, 467, 69), (456, 462, 467, 69), (0, 243, 471, 72), (244, 254, 471, 72), (255, 273, 471, 72), (274, 287, 471, 72), (288, 295, 471, 72), (296, 316, 471, 72), (317, 356, 471, 72), (357, 383, 471, 72), (384, 400, 471, 72), (401, 408, 471, 72), (409, 419, 471, 72), (420, 430, 471, 72), (431, 444, 471, 72), (445, 455, 471, 72), (456, 462, 471, 72), (0, 243, 475, 75), (244, 254, 475, 75), (255, 273, 475, 75), (274, 287, 475, 75), (288, 295, 475, 75), (296, 316, 475, 75), (317, 356, 475, 75), (357, 383, 475, 75), (384, 400, 475, 75), (401, 408, 475, 75), (409, 419, 475, 75), (420, 430, 475, 75), (431, 444, 475, 75), (445, 455, 475, 75), (456, 462, 475, 75), (0, 243, 479, 78), (244, 254, 479, 78), (255, 273, 479, 78), (274, 287, 479, 78), (288, 295, 479, 78), (296, 316, 479, 78), (317, 356, 479, 78), (357, 383, 479, 78), (384, 400, 479, 78), (401, 408, 479, 78), (409, 419, 479, 78), (420, 430, 479, 78), (431, 444, 479, 78), (445, 455, 479, 78), (456, 462, 479, 78)]
theorem zLk_ask : ∀ n, n ∈ [66, 69, 72, 75, 78] → Cond.classLink RL n (zcn n) ∈ wsL_ask := by decide +kernel

set_option maxHeartbeats 4000000 in
set_option maxRecDepth 100000 in
/-- L_ask -/
theorem c_L_ask_I_idle_r (l : Launch) (hst : l.stackTraces = false) (D : va_G) (y : Nat → ClassId) (base : Nat) (S : zS) (a : Nat → Nat) (p0 : Int32) (p1 : Int32) (ar : Nat) (hX : zX S a) (h0 : zX0 S a) (hbad : ¬ kd_idle p0 = 0) (hK9 : zK S ar = 22) (hN9 : zN S ar = 2) (hj0 : zR S 22 ar 0 = p0) (hj1 : zR S 22 ar 1 = p1) (hz1 : p1 = 0 ∨ p1 = 1) : zMi l yL_ask wsL_ask ({ frames := 8, cells := 1, slots := 6, locals := 133 }) [.ref (a 0), .int 73, .ref ar] D y base S (fun (r : Int32) (S1 : zS) => (kd_idle p0 = 1 ∧ r = (-2000000001) ∧ S1 = S)) 1 6 := by
  refine zMetH_of (cc := cL_ask) (maxL := 4) (ret := (some .int)) (own := RL) (hh := zhhA) (by decide +kernel) rfl rfl (Nat.le_of_ble_eq_true rfl) ?_
  intro p e s m args below meth c ls C hr hlocks hx0 hw hl
  have hx := C.1
  have hb := C.2.1
  have hown := C.2.2.2.1
  have hts := C.2.2.2.2
  have hl : lv_has ls 4 [(0, .ref (a 0)), (1, .int 73), (2, .ref ar)] := hl
  refine lv_iload_n hx hb dL_ask_0 rfl (lv_at hl 1 rfl) ?_
  refine lv_tableIn (off := 215) (tgt := 216) hx hb dL_ask_1 (by decide) (by decide) (by decide +kernel) (by decide) ?_
  refine lv_aload_n hx hb dL_ask_216 rfl (lv_at hl 0 rfl) ?_
  refine lv_aload_n hx hb dL_ask_217 rfl (lv_at hl 2 rfl) ?_
  refine lv_iconst (v := 0) hx hb dL_ask_218 (by decide) ?_
  refine zald_I (a := ar) C hw hK9 hN9 (zin_of (N := 2) (by decide) (by decide) (by decide)) dL_ask_219 ?_
  refine zrd (x := p0) (zrk hj0 (by decide)) ?_
  refine lv_aload_n hx hb dL_ask_220 rfl (lv_at hl 2 rfl) ?_
  refine lv_iconst (v := 1) hx hb dL_ask_221 (by decide) ?_
  refine zald_I (a := ar) C hw hK9 hN9 (zin_of (N := 2) (by decide) (by decide) (by decide)) dL_ask_222 ?_
  refine zrd (x := p1) (zrk hj1 (by decide)) ?_
  refine lv_iconst (v := 1) hx hb dL_ask_223 (by decide) ?_
  have jn_1 : ∀ (rx_2 : Int32) (H : Heap) (locs : List Loc) (ls : Array Slot), zW D y base S s H locs → lv_has ls 4 [(0, .ref (a 0)), (1, .int 73), (2, .ref ar)] → (p1 = rx_2) → W p l e (headSpec wsL_ask ({ frames := 8, cells := 1, slots := 6, locals := 133 })).room s m args below meth c H locs 0 0 (MQ below (va_Qi (fun (r : Int32) (S1 : zS) => (kd_idle p0 = 1 ∧ r = (-2000000001) ∧ S1 = S)) (zPost D y base) (zA base)) args s 1 6 (zA base)) (F0 m 232 ls [.int rx_2, .int p0, .ref (a 0)]) := by
    intro rx_2 H locs ls hw hl f_3
    subst f_3
    refine zcV_xi (As := [.int p0, .int p1]) (rest := []) (n9 := 2) (b := (a 0)) C hw (c_X7_idle_r l hst D y base S a p0 p1 hX h0 hbad) gL_ask_X7_idle rfl (by decide +kernel) ⟨⟨rfl, rfl⟩, Nat.le_of_ble_eq_true rfl, Nat.le_of_ble_eq_true rfl⟩ hX.1 ⟨by decide, by decide⟩ rfl rfl hl.1 rfl (Nat.le_of_ble_eq_true rfl) ⟨Nat.le_of_ble_eq_true rfl, Nat.le_of_ble_eq_true rfl⟩ dL_ask_232 (fun E9 ce q9 S232 H locs hx9 hw h1 h2 h3 => ?_) (fun r232 S232 H locs hp232 hw => ?_)
    · obtain ⟨hx9, hS9⟩ := hx9
      obtain ⟨rfl, hk9⟩ := hx9
      refine zcatch3 (pre := zhhA.take 0) (suf := zhhA.drop 1) (pb := 0) (pe := 243) (ph := 463) (ct := 66) C hw hx0 rfl (by decide) (by decide) (by decide) zLk_ask zcn_ex (by decide +kernel) (by decide) rfl (by decide +kernel) h1 h2 h3 ?_
      refine lv_astore_n (lv' := [(3, .ref q9), (0, .ref (a 0)), (1, .int 73), (2, .ref ar)]) hx hb dL_ask_463 rfl hl (by decide) rfl (fun ls hl => ?_)
      refine lv_ldc (own := RL) (v := (-2000000001)) hx hb hown (hts (.constant RL 68 (-2000000001)) (by decide +kernel)) dL_ask_464 ?_
      exact zri C hw hr hlocks rfl ⟨hk9, rfl, hS9⟩ ⟨Nat.le_of_ble_eq_true rfl, Nat.le_of_ble_eq_true rfl⟩ dL_ask_466
    · exact hp232.1.elim
  refine lv_icmp_ne (tgt := 231) hx hb dL_ask_224 (by decide) (fun c224 => ?_) (fun c224 => ?_)
  · refine lv_iconst (v := 0) hx hb dL_ask_231 (by decide) ?_
    exact jn_1 0 _ _ _ hw (lv_sub hl [0, 1, 2] rfl) (by first | exact c224 | exact zn1 (by assumption) c224 | exact zn1 (zb_01 _) c224)
  · refine lv_iconst (v := 1) hx hb dL_ask_227 (by decide) ?_
    refine lv_goto (tgt := 232) hx hb dL_ask_228 (by decide) ?_
    exact jn_1 1 _ _ _ hw (lv_sub hl [0, 1, 2] rfl) (by first | exact c224 | exact zn1 (by assumption) c224 | exact zn1 (zb_01 _) c224)

set_option maxHeartbeats 4000000 in
set_option maxRecDepth 100000 in
/-- L_ask -/
theorem c_L_ask_F_flip_r (l : Launch) (hst : l.stackTraces = false) (D : va_G) (y : Nat → ClassId) (base : Nat) (S : zS) (a : Nat → Nat) (p0 : Int32) (p1 : Int32) (ar : Nat) (hX : zX S a) (h0 : zX0 S a) (hbad : ¬ kd_flip p0 p1 = 0) (hK9 : zK S ar = 22) (hN9 : zN S ar = 2) (hj0 : zR S 22 ar 0 = p0) (hj1 : zR S 22 ar 1 = p1) : zMi l yL_ask wsL_ask ({ frames := 8, cells := 2, slots := 12, locals := 135 }) [.ref (a 0), .int 70, .ref ar] D y base S (fun (r : Int32) (S1 : zS) => (kd_flip p0 p1 = 1 ∧ r = (-2000000001) ∧ S1 = S) ∨ (kd_flip p0 p1 = 2 ∧ r = (-2000000002) ∧ S1 = S)) 2 12 := by
  refine zMetH_of (cc := cL_ask) (maxL := 4) (ret := (some .int)) (own := RL) (hh := zhhA) (by decide +kernel) rfl rfl (Nat.le_of_ble_eq_true rfl) ?_
  intro p e s m args below meth c ls C hr hlocks hx0 hw hl
  have hx := C.1
  have hb := C.2.1
  have hown := C.2.2.2.1
  have hts := C.2.2.2.2
  have hl : lv_has ls 4 [(0, .ref (a 0)), (1, .int 70), (2, .ref ar)] := hl
  refine lv_iload_n hx hb dL_ask_0 rfl (lv_at hl 1 rfl) ?_
  refine lv_tableIn (off := 243) (tgt := 244) hx hb dL_ask_1 (by decide) (by decide) (by decide +kernel) (by decide) ?_
  refine lv_aload_n hx hb dL_ask_244 rfl (lv_at hl 0 rfl) ?_
  refine lv_aload_n hx hb dL_ask_245 rfl (lv_at hl 2 rfl) ?_
  refine lv_iconst (v := 0) hx hb dL_ask_246 (by decide) ?_
  refine zald_I (a := ar) C hw hK9 hN9 (zin_of (N := 2) (by decide) (by decide) (by decide)) dL_ask_247 ?_
  refine zrd (x := p0) (zrk hj0 (by decide)) ?_
  refine lv_aload_n hx hb dL_ask_248 rfl (lv_at hl 2 rfl) ?_
  refine lv_iconst (v := 1) hx hb dL_ask_249 (by decide) ?_
  refine zald_I (a := ar) C hw hK9 hN9 (zin_of (N := 2) (by decide) (by decide) (by decide)) dL_ask_250 ?_
  refine zrd (x := p1) (zrk hj1 (by decide)) ?_
  refine zcV_xi (As := [.int p0, .int p1]) (rest := []) (n9 := 2) (b := (a 0)) C hw (c_X7_flip_r l hst D y base S a p0 p1 hX h0 hbad) gL_ask_X7_flip rfl (by decide +kernel) ⟨⟨rfl, rfl⟩, Nat.le_of_ble_eq_true rfl, Nat.le_of_ble_eq_true rfl⟩ hX.1 ⟨by decide, by decide⟩ rfl rfl hl.1 rfl (Nat.le_of_ble_eq_true rfl) ⟨Nat.le_of_ble_eq_true rfl, Nat.le_of_ble_eq_true rfl⟩ dL_ask_251 (fun E9 ce q9 S251 H locs hx9 hw h1 h2 h3 => ?_) (fun r251 S251 H locs hp251 hw => ?_)
  · obtain ⟨hx9, hS9⟩ := hx9
    rcases hx9 with ⟨rfl, hk9⟩ | ⟨rfl, hk9⟩
    · refine zcatch3 (pre := zhhA.take 1) (suf := zhhA.drop 2) (pb := 244) (pe := 254) (ph := 463) (ct := 66) C hw hx0 rfl (by decide) (by decide) (by decide) zLk_ask zcn_ex (by decide +kernel) (by decide) rfl (by decide +kernel) h1 h2 h3 ?_
      refine lv_astore_n (lv' := [(3, .ref q9), (0, .ref (a 0)), (1, .int 70), (2, .ref ar)]) hx hb dL_ask_463 rfl hl (by decide) rfl (fun ls hl => ?_)
      refine lv_ldc (own := RL) (v := (-2000000001)) hx hb hown (hts (.constant RL 68 (-2000000001)) (by decide +kernel)) dL_ask_464 ?_
      exact zri C hw hr hlocks rfl (Or.inl ⟨hk9, rfl, hS9⟩) ⟨Nat.le_of_ble_eq_true rfl, Nat.le_of_ble_eq_true rfl⟩ dL_ask_466
    · refine zcatch3 (pre := zhhA.take 16) (suf := zhhA.drop 17) (pb := 244) (pe := 254) (ph := 467) (ct := 69) C hw hx0 rfl (by decide) (by decide) (by decide) zLk_ask zcn_ex (by decide +kernel) (by decide) rfl (by decide +kernel) h1 h2 h3 ?_
      refine lv_astore_n (lv' := [(3, .ref q9), (0, .ref (a 0)), (1, .int 70), (2, .ref ar)]) hx hb dL_ask_467 rfl hl (by decide) rfl (fun ls hl => ?_)
      refine lv_ldc (own := RL) (v := (-2000000002)) hx hb hown (hts (.constant RL 71 (-2000000002)) (by decide +kernel)) dL_ask_468 ?_
      exact zri C hw hr hlocks rfl (Or.inr ⟨hk9, rfl, hS9⟩) ⟨Nat.le_of_ble_eq_true rfl, Nat.le_of_ble_eq_true rfl⟩ dL_ask_470
  · exact hp251.1.elim

set_option maxHeartbeats 4000000 in
set_option maxRecDepth 100000 in
/-- L_ask -/
theorem c_L_ask_L_level_r (l : Launch) (hst : l.stackTraces = false) (D : va_G) (y : Nat → ClassId) (base : Nat) (S : zS) (a : Nat → Nat) (p0 : Int32) (p1 : Int32) (ar : Nat) (hX : zX S a) (h0 : zX0 S a) (hbad : ¬ kd_flip p0 p1 = 0) (hK9 : zK S ar = 22) (hN9 : zN S ar = 2) (hj0 : zR S 22 ar 0 = p0) (hj1 : zR S 22 ar 1 = p1) : zMi l yL_ask wsL_ask ({ frames := 8, cells := 2, slots := 12, locals := 134 }) [.ref (a 0), .int 76, .ref ar] D y base S (fun (r : Int32) (S1 : zS) => (kd_flip p0 p1 = 1 ∧ r = (-2000000001) ∧ S1 = S) ∨ (kd_flip p0 p1 = 2 ∧ r = (-2000000002) ∧ S1 = S)) 2 12 := by
  refine zMetH_of (cc := cL_ask) (maxL := 4) (ret := (some .int)) (own := RL) (hh := zhhA) (by decide +kernel) rfl rfl (Nat.le_of_ble_eq_true rfl) ?_
  intro p e s m args below meth c ls C hr hlocks hx0 hw hl
  have hx := C.1
  have hb := C.2.1
  have hown := C.2.2.2.1
  have hts := C.2.2.2.2
  have hl : lv_has ls 4 [(0, .ref (a 0)), (1, .int 76), (2, .ref ar)] := hl
  refine lv_iload_n hx hb dL_ask_0 rfl (lv_at hl 1 rfl) ?_
  refine lv_tableIn (off := 254) (tgt := 255) hx hb dL_ask_1 (by decide) (by decide) (by decide +kernel) (by decide) ?_
  refine lv_aload_n hx hb dL_ask_255 rfl (lv_at hl 0 rfl) ?_
  refine lv_aload_n hx hb dL_ask_256 rfl (lv_at hl 2 rfl) ?_
  refine lv_iconst (v := 0) hx hb dL_ask_257 (by decide) ?_
  refine zald_I (a := ar) C hw hK9 hN9 (zin_of (N := 2) (by decide) (by decide) (by decide)) dL_ask_258 ?_
  refine zrd (x := p0) (zrk hj0 (by decide)) ?_
  refine lv_aload_n hx hb dL_ask_259 rfl (lv_at hl 2 rfl) ?_
  refine lv_iconst (v := 1) hx hb dL_ask_260 (by decide) ?_
  refine zald_I (a := ar) C hw hK9 hN9 (zin_of (N := 2) (by decide) (by decide) (by decide)) dL_ask_261 ?_
  refine zrd (x := p1) (zrk hj1 (by decide)) ?_
  refine zcV_xi (As := [.int p0, .int p1]) (rest := []) (n9 := 2) (b := (a 0)) C hw (c_X7_level_r l hst D y base S a p0 p1 hX h0 hbad) gL_ask_X7_level rfl (by decide +kernel) ⟨⟨rfl, rfl⟩, Nat.le_of_ble_eq_true rfl, Nat.le_of_ble_eq_true rfl⟩ hX.1 ⟨by decide, by decide⟩ rfl rfl hl.1 rfl (Nat.le_of_ble_eq_true rfl) ⟨Nat.le_of_ble_eq_true rfl, Nat.le_of_ble_eq_true rfl⟩ dL_ask_262 (fun E9 ce q9 S262 H locs hx9 hw h1 h2 h3 => ?_) (fun r262 S262 H locs hp262 hw => ?_)
  · obtain ⟨hx9, hS9⟩ := hx9
    rcases hx9 with ⟨rfl, hk9⟩ | ⟨rfl, hk9⟩
    · refine zcatch3 (pre := zhhA.take 2) (suf := zhhA.drop 3) (pb := 255) (pe := 273) (ph := 463) (ct := 66) C hw hx0 rfl (by decide) (by decide) (by decide) zLk_ask zcn_ex (by decide +kernel) (by decide) rfl (by decide +kernel) h1 h2 h3 ?_
      refine lv_astore_n (lv' := [(3, .ref q9), (0, .ref (a 0)), (1, .int 76), (2, .ref ar)]) hx hb dL_ask_463 rfl hl (by decide) rfl (fun ls hl => ?_)
      refine lv_ldc (own := RL) (v := (-2000000001)) hx hb hown (hts (.constant RL 68 (-2000000001)) (by decide +kernel)) dL_ask_464 ?_
      exact zri C hw hr hlocks rfl (Or.inl ⟨hk9, rfl, hS9⟩) ⟨Nat.le_of_ble_eq_true rfl, Nat.le_of_ble_eq_true rfl⟩ dL_ask_466
    · refine zcatch3 (pre := zhhA.take 17) (suf := zhhA.drop 18) (pb := 255) (pe := 273) (ph := 467) (ct := 69) C hw hx0 rfl (by decide) (by decide) (by decide) zLk_ask zcn_ex (by decide +kernel) (by decide) rfl (by decide +kernel) h1 h2 h3 ?_
      refine lv_astore_n (lv' := [(3, .ref q9), (0, .ref (a 0)), (1, .int 76), (2, .ref ar)]) hx hb dL_ask_467 rfl hl (by decide) rfl (fun ls hl => ?_)
      refine lv_ldc (own := RL) (v := (-2000000002)) hx hb hown (hts (.constant RL 71 (-2000000002)) (by decide +kernel)) dL_ask_468 ?_
      exact zri C hw hr hlocks rfl (Or.inr ⟨hk9, rfl, hS9⟩) ⟨Nat.le_of_ble_eq_true rfl, Nat.le_of_ble_eq_true rfl⟩ dL_ask_470
  · exact hp262.1.elim

set_option maxHeartbeats 4000000 in
set_option maxRecDepth 100000 in
/-- L_ask -/
theorem c_L_ask_g_glitch_r (l : Launch) (hst : l.stackTraces = false) (D : va_G) (y : Nat → ClassId) (base : Nat) (S : zS) (a : Nat → Nat) (p0 : Int32) (p1 : Int32) (p2 : Int32) (ar : Nat) (hX : zX S a) (h0 : zX0 S a) (hbad : ¬ kd_glitch p0 p1 p2 = 0) (hK9 : zK S ar = 22) (hN9 : zN S ar = 3) (hj0 : zR S 22 ar 0 = p0) (hj1 : zR S 22 ar 1 = p1) (hj2 : zR S 22 ar 2 = p2) : zMi l yL_ask wsL_ask ({ frames := 8, cells := 4, slots := 24, locals := 136 }) [.ref (a 0), .int 103, .ref ar] D y base S (fun (r : Int32) (S1 : zS) => (kd_glitch p0 p1 p2 = 1 ∧ r = (-2000000001) ∧ S1 = S) ∨ (kd_glitch p0 p1 p2 = 2 ∧ r = (-2000000002) ∧ S1 = S)) 4 24 := by
  refine zMetH_of (cc := cL_ask) (maxL := 4) (ret := (some .int)) (own := RL) (hh := zhhA) (by decide +kernel) rfl rfl (Nat.le_of_ble_eq_true rfl) ?_
  intro p e s m args below meth c ls C hr hlocks hx0 hw hl
  have hx := C.1
  have hb := C.2.1
  have hown := C.2.2.2.1
  have hts := C.2.2.2.2
  have hl : lv_has ls 4 [(0, .ref (a 0)), (1, .int 103), (2, .ref ar)] := hl
  refine lv_iload_n hx hb dL_ask_0 rfl (lv_at hl 1 rfl) ?_
  refine lv_tableIn (off := 273) (tgt := 274) hx hb dL_ask_1 (by decide) (by decide) (by decide +kernel) (by decide) ?_
  refine lv_aload_n hx hb dL_ask_274 rfl (lv_at hl 0 rfl) ?_
  refine lv_aload_n hx hb dL_ask_275 rfl (lv_at hl 2 rfl) ?_
  refine lv_iconst (v := 0) hx hb dL_ask_276 (by decide) ?_
  refine zald_I (a := ar) C hw hK9 hN9 (zin_of (N := 3) (by decide) (by decide) (by decide)) dL_ask_277 ?_
  refine zrd (x := p0) (zrk hj0 (by decide)) ?_
  refine lv_aload_n hx hb dL_ask_278 rfl (lv_at hl 2 rfl) ?_
  refine lv_iconst (v := 1) hx hb dL_ask_279 (by decide) ?_
  refine zald_I (a := ar) C hw hK9 hN9 (zin_of (N := 3) (by decide) (by decide) (by decide)) dL_ask_280 ?_
  refine zrd (x := p1) (zrk hj1 (by decide)) ?_
  refine lv_aload_n hx hb dL_ask_281 rfl (lv_at hl 2 rfl) ?_
  refine lv_iconst (v := 2) hx hb dL_ask_282 (by decide) ?_
  refine zald_I (a := ar) C hw hK9 hN9 (zin_of (N := 3) (by decide) (by decide) (by decide)) dL_ask_283 ?_
  refine zrd (x := p2) (zrk hj2 (by decide)) ?_
  refine zcV_xi (As := [.int p0, .int p1, .int p2]) (rest := []) (n9 := 3) (b := (a 0)) C hw (c_X7_glitch_r l hst D y base S a p0 p1 p2 hX h0 hbad) gL_ask_X7_glitch rfl (by decide +kernel) ⟨⟨rfl, rfl⟩, Nat.le_of_ble_eq_true rfl, Nat.le_of_ble_eq_true rfl⟩ hX.1 ⟨by decide, by decide⟩ rfl rfl hl.1 rfl (Nat.le_of_ble_eq_true rfl) ⟨Nat.le_of_ble_eq_true rfl, Nat.le_of_ble_eq_true rfl⟩ dL_ask_284 (fun E9 ce q9 S284 H locs hx9 hw h1 h2 h3 => ?_) (fun r284 S284 H locs hp284 hw => ?_)
  · obtain ⟨hx9, hS9⟩ := hx9
    rcases hx9 with ⟨rfl, hk9⟩ | ⟨rfl, hk9⟩
    · refine zcatch3 (pre := zhhA.take 3) (suf := zhhA.drop 4) (pb := 274) (pe := 287) (ph := 463) (ct := 66) C hw hx0 rfl (by decide) (by decide) (by decide) zLk_ask zcn_ex (by decide +kernel) (by decide) rfl (by decide +kernel) h1 h2 h3 ?_
      refine lv_astore_n (lv' := [(3, .ref q9), (0, .ref (a 0)), (1, .int 103), (2, .ref ar)]) hx hb dL_ask_463 rfl hl (by decide) rfl (fun ls hl => ?_)
      refine lv_ldc (own := RL) (v := (-2000000001)) hx hb hown (hts (.constant RL 68 (-2000000001)) (by decide +kernel)) dL_ask_464 ?_
      exact zri C hw hr hlocks rfl (Or.inl ⟨hk9, rfl, hS9⟩) ⟨Nat.le_of_ble_eq_true rfl, Nat.le_of_ble_eq_true rfl⟩ dL_ask_466
    · refine zcatch3 (pre := zhhA.take 18) (suf := zhhA.drop 19) (pb := 274) (pe := 287) (ph := 467) (ct := 69) C hw hx0 rfl (by decide) (by decide) (by decide) zLk_ask zcn_ex (by decide +kernel) (by decide) rfl (by decide +kernel) h1 h2 h3 ?_
      refine lv_astore_n (lv' := [(3, .ref q9), (0, .ref (a 0)), (1, .int 103), (2, .ref ar)]) hx hb dL_ask_467 rfl hl (by decide) rfl (fun ls hl => ?_)
      refine lv_ldc (own := RL) (v := (-2000000002)) hx hb hown (hts (.constant RL 71 (-2000000002)) (by decide +kernel)) dL_ask_468 ?_
      exact zri C hw hr hlocks rfl (Or.inr ⟨hk9, rfl, hS9⟩) ⟨Nat.le_of_ble_eq_true rfl, Nat.le_of_ble_eq_true rfl⟩ dL_ask_470
  · exact hp284.1.elim

set_option maxHeartbeats 4000000 in
set_option maxRecDepth 100000 in
/-- L_ask -/
theorem c_L_ask_D_drift_r (l : Launch) (hst : l.stackTraces = false) (D : va_G) (y : Nat → ClassId) (base : Nat) (S : zS) (a : Nat → Nat) (p0 : Int32) (ar : Nat) (hX : zX S a) (h0 : zX0 S a) (hbad : ¬ kd_drift p0 = 0) (hK9 : zK S ar = 22) (hN9 : zN S ar = 1) (hj0 : zR S 22 ar 0 = p0) : zMi l yL_ask wsL_ask ({ frames := 8, cells := 1, slots := 6, locals := 134 }) [.ref (a 0), .int 68, .ref ar] D y base S (fun (r : Int32) (S1 : zS) => (kd_drift p0 = 1 ∧ r = (-2000000002) ∧ S1 = S)) 1 6 := by
  refine zMetH_of (cc := cL_ask) (maxL := 4) (ret := (some .int)) (own := RL) (hh := zhhA) (by decide +kernel) rfl rfl (Nat.le_of_ble_eq_true rfl) ?_
  intro p e s m args below meth c ls C hr hlocks hx0 hw hl
  have hx := C.1
  have hb := C.2.1
  have hown := C.2.2.2.1
  have hts := C.2.2.2.2
  have hl : lv_has ls 4 [(0, .ref (a 0)), (1, .int 68), (2, .ref ar)] := hl
  refine lv_iload_n hx hb dL_ask_0 rfl (lv_at hl 1 rfl) ?_
  refine lv_tableIn (off := 287) (tgt := 288) hx hb dL_ask_1 (by decide) (by decide) (by decide +kernel) (by decide) ?_
  refine lv_aload_n hx hb dL_ask_288 rfl (lv_at hl 0 rfl) ?_
  refine lv_aload_n hx hb dL_ask_289 rfl (lv_at hl 2 rfl) ?_
  refine lv_iconst (v := 0) hx hb dL_ask_290 (by decide) ?_
  refine zald_I (a := ar) C hw hK9 hN9 (zin_of (N := 1) (by decide) (by decide) (by decide)) dL_ask_291 ?_
  refine zrd (x := p0) (zrk hj0 (by decide)) ?_
  refine zcV_xi (As := [.int p0]) (rest := []) (n9 := 1) (b := (a 0)) C hw (c_X7_drift_r l hst D y base S a p0 hX h0 hbad) gL_ask_X7_drift rfl (by decide +kernel) ⟨⟨rfl, rfl⟩, Nat.le_of_ble_eq_true rfl, Nat.le_of_ble_eq_true rfl⟩ hX.1 ⟨by decide, by decide⟩ rfl rfl hl.1 rfl (Nat.le_of_ble_eq_true rfl) ⟨Nat.le_of_ble_eq_true rfl, Nat.le_of_ble_eq_true rfl⟩ dL_ask_292 (fun E9 ce q9 S292 H locs hx9 hw h1 h2 h3 => ?_) (fun r292 S292 H locs hp292 hw => ?_)
  · obtain ⟨hx9, hS9⟩ := hx9
    obtain ⟨rfl, hk9⟩ := hx9
    refine zcatch3 (pre := zhhA.take 19) (suf := zhhA.drop 20) (pb := 288) (pe := 295) (ph := 467) (ct := 69) C hw hx0 rfl (by decide) (by decide) (by decide) zLk_ask zcn_ex (by decide +kernel) (by decide) rfl (by decide +kernel) h1 h2 h3 ?_
    refine lv_astore_n (lv' := [(3, .ref q9), (0, .ref (a 0)), (1, .int 68), (2, .ref ar)]) hx hb dL_ask_467 rfl hl (by decide) rfl (fun ls hl => ?_)
    refine lv_ldc (own := RL) (v := (-2000000002)) hx hb hown (hts (.constant RL 71 (-2000000002)) (by decide +kernel)) dL_ask_468 ?_
    exact zri C hw hr hlocks rfl ⟨hk9, rfl, hS9⟩ ⟨Nat.le_of_ble_eq_true rfl, Nat.le_of_ble_eq_true rfl⟩ dL_ask_470
  · exact hp292.1.elim

set_option maxHeartbeats 4000000 in
set_option maxRecDepth 100000 in
/-- L_ask -/
theorem c_L_ask_s_serial_r (l : Launch) (hst : l.stackTraces = false) (D : va_G) (y : Nat → ClassId) (base : Nat) (S : zS) (a : Nat → Nat) (p0 : Int32) (p1 : Int32) (p2 : Int32) (p3 : Int32) (p4 : Int32) (ar : Nat) (hX : zX S a) (h0 : zX0 S a) (hbad : ¬ kd_serial p0 p1 p2 p3 p4 = 0 ∧ ¬ kd_serial p0 p1 p2 p3 p4 = 3) (hK9 : zK S ar = 22) (hN9 : zN S ar = 5) (hj0 : zR S 22 ar 0 = p0) (hj1 : zR S 22 ar 1 = p1) (hj2 : zR S 22 ar 2 = p2) (hj3 : zR S 22 ar 3 = p3) (hj4 : zR S 22 ar 4 = p4) (hic : ((p4.toUInt32 % 65536).toInt32) = p4) : zMi l yL_ask wsL_ask ({ frames := 8, cells := 5, slots := 30, locals := 141 }) [.ref (a 0), .int 115, .ref ar] D y base S (fun (r : Int32) (S1 : zS) => (kd_serial p0 p1 p2 p3 p4 = 1 ∧ r = (-2000000001) ∧ S1 = S) ∨ (kd_serial p0 p1 p2 p3 p4 = 2 ∧ r = (-2000000002) ∧ S1 = S)) 5 30 := by
  refine zMetH_of (cc := cL_ask) (maxL := 4) (ret := (some .int)) (own := RL) (hh := zhhA) (by decide +kernel) rfl rfl (Nat.le_of_ble_eq_true rfl) ?_
  intro p e s m args below meth c ls C hr hlocks hx0 hw hl
  have hx := C.1
  have hb := C.2.1
  have hown := C.2.2.2.1
  have hts := C.2.2.2.2
  have hl : lv_has ls 4 [(0, .ref (a 0)), (1, .int 115), (2, .ref ar)] := hl
  refine lv_iload_n hx hb dL_ask_0 rfl (lv_at hl 1 rfl) ?_
  refine lv_tableIn (off := 295) (tgt := 296) hx hb dL_ask_1 (by decide) (by decide) (by decide +kernel) (by decide) ?_
  refine lv_aload_n hx hb dL_ask_296 rfl (lv_at hl 0 rfl) ?_
  refine lv_aload_n hx hb dL_ask_297 rfl (lv_at hl 2 rfl) ?_
  refine lv_iconst (v := 0) hx hb dL_ask_298 (by decide) ?_
  refine zald_I (a := ar) C hw hK9 hN9 (zin_of (N := 5) (by decide) (by decide) (by decide)) dL_ask_299 ?_
  refine zrd (x := p0) (zrk hj0 (by decide)) ?_
  refine lv_aload_n hx hb dL_ask_300 rfl (lv_at hl 2 rfl) ?_
  refine lv_iconst (v := 1) hx hb dL_ask_301 (by decide) ?_
  refine zald_I (a := ar) C hw hK9 hN9 (zin_of (N := 5) (by decide) (by decide) (by decide)) dL_ask_302 ?_
  refine zrd (x := p1) (zrk hj1 (by decide)) ?_
  refine lv_aload_n hx hb dL_ask_303 rfl (lv_at hl 2 rfl) ?_
  refine lv_iconst (v := 2) hx hb dL_ask_304 (by decide) ?_
  refine zald_I (a := ar) C hw hK9 hN9 (zin_of (N := 5) (by decide) (by decide) (by decide)) dL_ask_305 ?_
  refine zrd (x := p2) (zrk hj2 (by decide)) ?_
  refine lv_aload_n hx hb dL_ask_306 rfl (lv_at hl 2 rfl) ?_
  refine lv_iconst (v := 3) hx hb dL_ask_307 (by decide) ?_
  refine zald_I (a := ar) C hw hK9 hN9 (zin_of (N := 5) (by decide) (by decide) (by decide)) dL_ask_308 ?_
  refine zrd (x := p3) (zrk hj3 (by decide)) ?_
  refine lv_aload_n hx hb dL_ask_309 rfl (lv_at hl 2 rfl) ?_
  refine lv_iconst (v := 4) hx hb dL_ask_310 (by decide) ?_
  refine zald_I (a := ar) C hw hK9 hN9 (zin_of (N := 5) (by decide) (by decide) (by decide)) dL_ask_311 ?_
  refine zrd (x := p4) (zrk hj4 (by decide)) ?_
  refine lv_i2c (v := (p4.toUInt32 % 65536).toInt32) hx hb dL_ask_312 rfl ?_
  refine zrd (x := p4) hic ?_
  refine zcV_xi (As := [.int p0, .int p1, .int p2, .int p3, .int p4]) (rest := []) (n9 := 5) (b := (a 0)) C hw (c_X7_serial_r l hst D y base S a p0 p1 p2 p3 p4 hX h0 hbad) gL_ask_X7_serial rfl (by decide +kernel) ⟨⟨rfl, rfl⟩, Nat.le_of_ble_eq_true rfl, Nat.le_of_ble_eq_true rfl⟩ hX.1 ⟨by decide, by decide⟩ rfl rfl hl.1 rfl (Nat.le_of_ble_eq_true rfl) ⟨Nat.le_of_ble_eq_true rfl, Nat.le_of_ble_eq_true rfl⟩ dL_ask_313 (fun E9 ce q9 S313 H locs hx9 hw h1 h2 h3 => ?_) (fun r313 S313 H locs hp313 hw => ?_)
  · obtain ⟨hx9, hS9⟩ := hx9
    rcases hx9 with ⟨rfl, hk9⟩ | ⟨rfl, hk9⟩
    · refine zcatch3 (pre := zhhA.take 5) (suf := zhhA.drop 6) (pb := 296) (pe := 316) (ph := 463) (ct := 66) C hw hx0 rfl (by decide) (by decide) (by decide) zLk_ask zcn_ex (by decide +kernel) (by decide) rfl (by decide +kernel) h1 h2 h3 ?_
      refine lv_astore_n (lv' := [(3, .ref q9), (0, .ref (a 0)), (1, .int 115), (2, .ref ar)]) hx hb dL_ask_463 rfl hl (by decide) rfl (fun ls hl => ?_)
      refine lv_ldc (own := RL) (v := (-2000000001)) hx hb hown (hts (.constant RL 68 (-2000000001)) (by decide +kernel)) dL_ask_464 ?_
      exact zri C hw hr hlocks rfl (Or.inl ⟨hk9, rfl, hS9⟩) ⟨Nat.le_of_ble_eq_true rfl, Nat.le_of_ble_eq_true rfl⟩ dL_ask_466
    · refine zcatch3 (pre := zhhA.take 20) (suf := zhhA.drop 21) (pb := 296) (pe := 316) (ph := 467) (ct := 69) C hw hx0 rfl (by decide) (by decide) (by decide) zLk_ask zcn_ex (by decide +kernel) (by decide) rfl (by decide +kernel) h1 h2 h3 ?_
      refine lv_astore_n (lv' := [(3, .ref q9), (0, .ref (a 0)), (1, .int 115), (2, .ref ar)]) hx hb dL_ask_467 rfl hl (by decide) rfl (fun ls hl => ?_)
      refine lv_ldc (own := RL) (v := (-2000000002)) hx hb hown (hts (.constant RL 71 (-2000000002)) (by decide +kernel)) dL_ask_468 ?_
      exact zri C hw hr hlocks rfl (Or.inr ⟨hk9, rfl, hS9⟩) ⟨Nat.le_of_ble_eq_true rfl, Nat.le_of_ble_eq_true rfl⟩ dL_ask_470
  · exact hp313.1.elim

set_option maxHeartbeats 4000000 in
set_option maxRecDepth 100000 in
/-- L_ask -/
theorem c_L_ask_t_twoWires_r (l : Launch) (hst : l.stackTraces = false) (D : va_G) (y : Nat → ClassId) (base : Nat) (S : zS) (a : Nat → Nat) (p0 : Int32) (p1 : Int32) (p2 : Int32) (p3 : Int32) (p4 : Int32) (p5 : Int32) (p6 : Int32) (p7 : Int32) (ar : Nat) (hX : zX S a) (h0 : zX0 S a) (hz3 : p3 = 0 ∨ p3 = 1) (hbad : ¬ kd_two p0 p1 p2 p3 p4 p5 p6 p7 = 0 ∧ ¬ kd_two p0 p1 p2 p3 p4 p5 p6 p7 = 3) (hK9 : zK S ar = 22) (hN9 : zN S ar = 8) (hj0 : zR S 22 ar 0 = p0) (hj1 : zR S 22 ar 1 = p1) (hj2 : zR S 22 ar 2 = p2) (hj3 : zR S 22 ar 3 = p3) (hj4 : zR S 22 ar 4 = p4) (hj5 : zR S 22 ar 5 = p5) (hj6 : zR S 22 ar 6 = p6) (hj7 : zR S 22 ar 7 = p7) : zMi l yL_ask wsL_ask ({ frames := 8, cells := 8, slots := 48, locals := 141 }) [.ref (a 0), .int 116, .ref ar] D y base S (fun (r : Int32) (S1 : zS) => (kd_two p0 p1 p2 p3 p4 p5 p6 p7 = 1 ∧ r = (-2000000001) ∧ S1 = S) ∨ (kd_two p0 p1 p2 p3 p4 p5 p6 p7 = 2 ∧ r = (-2000000002) ∧ S1 = S)) 8 48 := by
  refine zMetH_of (cc := cL_ask) (maxL := 4) (ret := (some .int)) (own := RL) (hh := zhhA) (by decide +kernel) rfl rfl (Nat.le_of_ble_eq_true rfl) ?_
  intro p e s m args below meth c ls C hr hlocks hx0 hw hl
  have hx := C.1
  have hb := C.2.1
  have hown := C.2.2.2.1
  have hts := C.2.2.2.2
  have hl : lv_has ls 4 [(0, .ref (a 0)), (1, .int 116), (2, .ref ar)] := hl
  refine lv_iload_n hx hb dL_ask_0 rfl (lv_at hl 1 rfl) ?_
  refine lv_tableIn (off := 316) (tgt := 317) hx hb dL_ask_1 (by decide) (by decide) (by decide +kernel) (by decide) ?_
  refine lv_aload_n hx hb dL_ask_317 rfl (lv_at hl 0 rfl) ?_
  refine lv_aload_n hx hb dL_ask_318 rfl (lv_at hl 2 rfl) ?_
  refine lv_iconst (v := 0) hx hb dL_ask_319 (by decide) ?_
  refine zald_I (a := ar) C hw hK9 hN9 (zin_of (N := 8) (by decide) (by decide) (by decide)) dL_ask_320 ?_
  refine zrd (x := p0) (zrk hj0 (by decide)) ?_
  refine lv_aload_n hx hb dL_ask_321 rfl (lv_at hl 2 rfl) ?_
  refine lv_iconst (v := 1) hx hb dL_ask_322 (by decide) ?_
  refine zald_I (a := ar) C hw hK9 hN9 (zin_of (N := 8) (by decide) (by decide) (by decide)) dL_ask_323 ?_
  refine zrd (x := p1) (zrk hj1 (by decide)) ?_
  refine lv_aload_n hx hb dL_ask_324 rfl (lv_at hl 2 rfl) ?_
  refine lv_iconst (v := 2) hx hb dL_ask_325 (by decide) ?_
  refine zald_I (a := ar) C hw hK9 hN9 (zin_of (N := 8) (by decide) (by decide) (by decide)) dL_ask_326 ?_
  refine zrd (x := p2) (zrk hj2 (by decide)) ?_
  refine lv_aload_n hx hb dL_ask_327 rfl (lv_at hl 2 rfl) ?_
  refine lv_iconst (v := 3) hx hb dL_ask_328 (by decide) ?_
  refine zald_I (a := ar) C hw hK9 hN9 (zin_of (N := 8) (by decide) (by decide) (by decide)) dL_ask_329 ?_
  refine zrd (x := p3) (zrk hj3 (by decide)) ?_
  refine lv_iconst (v := 1) hx hb dL_ask_330 (by decide) ?_
  have jn_1 : ∀ (rx_2 : Int32) (H : Heap) (locs : List Loc) (ls : Array Slot), zW D y base S s H locs → lv_has ls 4 [(0, .ref (a 0)), (1, .int 116), (2, .ref ar)] → (p3 = rx_2) → W p l e (headSpec wsL_ask ({ frames := 8, cells := 8, slots := 48, locals := 141 })).room s m args below meth c H locs 0 0 (MQ below (va_Qi (fun (r : Int32) (S1 : zS) => (kd_two p0 p1 p2 p3 p4 p5 p6 p7 = 1 ∧ r = (-2000000001) ∧ S1 = S) ∨ (kd_two p0 p1 p2 p3 p4 p5 p6 p7 = 2 ∧ r = (-2000000002) ∧ S1 = S)) (zPost D y base) (zA base)) args s 8 48 (zA base)) (F0 m 339 ls [.int rx_2, .int p2, .int p1, .int p0, .ref (a 0)]) := by
    intro rx_2 H locs ls hw hl f_3
    subst f_3
    refine lv_aload_n hx hb dL_ask_339 rfl (lv_at hl 2 rfl) ?_
    refine lv_iconst (v := 4) hx hb dL_ask_340 (by decide) ?_
    refine zald_I (a := ar) C hw hK9 hN9 (zin_of (N := 8) (by decide) (by decide) (by decide)) dL_ask_341 ?_
    refine zrd (x := p4) (zrk hj4 (by decide)) ?_
    refine lv_aload_n hx hb dL_ask_342 rfl (lv_at hl 2 rfl) ?_
    refine lv_iconst (v := 5) hx hb dL_ask_343 (by decide) ?_
    refine zald_I (a := ar) C hw hK9 hN9 (zin_of (N := 8) (by decide) (by decide) (by decide)) dL_ask_344 ?_
    refine zrd (x := p5) (zrk hj5 (by decide)) ?_
    refine lv_aload_n hx hb dL_ask_345 rfl (lv_at hl 2 rfl) ?_
    refine lv_bipush (v := 6) hx hb dL_ask_346 (by decide) ?_
    refine zald_I (a := ar) C hw hK9 hN9 (zin_of (N := 8) (by decide) (by decide) (by decide)) dL_ask_348 ?_
    refine zrd (x := p6) (zrk hj6 (by decide)) ?_
    refine lv_aload_n hx hb dL_ask_349 rfl (lv_at hl 2 rfl) ?_
    refine lv_bipush (v := 7) hx hb dL_ask_350 (by decide) ?_
    refine zald_I (a := ar) C hw hK9 hN9 (zin_of (N := 8) (by decide) (by decide) (by decide)) dL_ask_352 ?_
    refine zrd (x := p7) (zrk hj7 (by decide)) ?_
    refine zcV_xi (As := [.int p0, .int p1, .int p2, .int p3, .int p4, .int p5, .int p6, .int p7]) (rest := []) (n9 := 8) (b := (a 0)) C hw (c_X7_twoWires_r l hst D y base S a p0 p1 p2 p3 p4 p5 p6 p7 hX h0 hz3 hbad) gL_ask_X7_twoWires rfl (by decide +kernel) ⟨⟨rfl, rfl⟩, Nat.le_of_ble_eq_true rfl, Nat.le_of_ble_eq_true rfl⟩ hX.1 ⟨by decide, by decide⟩ rfl rfl hl.1 rfl (Nat.le_of_ble_eq_true rfl) ⟨Nat.le_of_ble_eq_true rfl, Nat.le_of_ble_eq_true rfl⟩ dL_ask_353 (fun E9 ce q9 S353 H locs hx9 hw h1 h2 h3 => ?_) (fun r353 S353 H locs hp353 hw => ?_)
    · obtain ⟨hx9, hS9⟩ := hx9
      rcases hx9 with ⟨rfl, hk9⟩ | ⟨rfl, hk9⟩
      · refine zcatch3 (pre := zhhA.take 6) (suf := zhhA.drop 7) (pb := 317) (pe := 356) (ph := 463) (ct := 66) C hw hx0 rfl (by decide) (by decide) (by decide) zLk_ask zcn_ex (by decide +kernel) (by decide) rfl (by decide +kernel) h1 h2 h3 ?_
        refine lv_astore_n (lv' := [(3, .ref q9), (0, .ref (a 0)), (1, .int 116), (2, .ref ar)]) hx hb dL_ask_463 rfl hl (by decide) rfl (fun ls hl => ?_)
        refine lv_ldc (own := RL) (v := (-2000000001)) hx hb hown (hts (.constant RL 68 (-2000000001)) (by decide +kernel)) dL_ask_464 ?_
        exact zri C hw hr hlocks rfl (Or.inl ⟨hk9, rfl, hS9⟩) ⟨Nat.le_of_ble_eq_true rfl, Nat.le_of_ble_eq_true rfl⟩ dL_ask_466
      · refine zcatch3 (pre := zhhA.take 21) (suf := zhhA.drop 22) (pb := 317) (pe := 356) (ph := 467) (ct := 69) C hw hx0 rfl (by decide) (by decide) (by decide) zLk_ask zcn_ex (by decide +kernel) (by decide) rfl (by decide +kernel) h1 h2 h3 ?_
        refine lv_astore_n (lv' := [(3, .ref q9), (0, .ref (a 0)), (1, .int 116), (2, .ref ar)]) hx hb dL_ask_467 rfl hl (by decide) rfl (fun ls hl => ?_)
        refine lv_ldc (own := RL) (v := (-2000000002)) hx hb hown (hts (.constant RL 71 (-2000000002)) (by decide +kernel)) dL_ask_468 ?_
        exact zri C hw hr hlocks rfl (Or.inr ⟨hk9, rfl, hS9⟩) ⟨Nat.le_of_ble_eq_true rfl, Nat.le_of_ble_eq_true rfl⟩ dL_ask_470
    · exact hp353.1.elim
  refine lv_icmp_ne (tgt := 338) hx hb dL_ask_331 (by decide) (fun c331 => ?_) (fun c331 => ?_)
  · refine lv_iconst (v := 0) hx hb dL_ask_338 (by decide) ?_
    exact jn_1 0 _ _ _ hw (lv_sub hl [0, 1, 2] rfl) (by first | exact c331 | exact zn1 (by assumption) c331 | exact zn1 (zb_01 _) c331)
  · refine lv_iconst (v := 1) hx hb dL_ask_334 (by decide) ?_
    refine lv_goto (tgt := 339) hx hb dL_ask_335 (by decide) ?_
    exact jn_1 1 _ _ _ hw (lv_sub hl [0, 1, 2] rfl) (by first | exact c331 | exact zn1 (by assumption) c331 | exact zn1 (zb_01 _) c331)

set_option maxHeartbeats 4000000 in
set_option maxRecDepth 100000 in
/-- L_ask -/
theorem c_L_ask_f_fourWires_r (l : Launch) (hst : l.stackTraces = false) (D : va_G) (y : Nat → ClassId) (base : Nat) (S : zS) (a : Nat → Nat) (p0 : Int32) (p1 : Int32) (p2 : Int32) (p3 : Int32) (p4 : Int32) (p5 : Int32) (p6 : Int32) (ar : Nat) (hX : zX S a) (h0 : zX0 S a) (hbad : ¬ kd_four p0 p1 p2 p3 p4 p5 p6 = 0 ∧ ¬ kd_four p0 p1 p2 p3 p4 p5 p6 = 3) (hK9 : zK S ar = 22) (hN9 : zN S ar = 7) (hj0 : zR S 22 ar 0 = p0) (hj1 : zR S 22 ar 1 = p1) (hj2 : zR S 22 ar 2 = p2) (hj3 : zR S 22 ar 3 = p3) (hj4 : zR S 22 ar 4 = p4) (hj5 : zR S 22 ar 5 = p5) (hj6 : zR S 22 ar 6 = p6) : zMi l yL_ask wsL_ask ({ frames := 9, cells := 10, slots := 60, locals := 161 }) [.ref (a 0), .int 102, .ref ar] D y base S (fun (r : Int32) (S1 : zS) => (kd_four p0 p1 p2 p3 p4 p5 p6 = 1 ∧ r = (-2000000001) ∧ S1 = S) ∨ (kd_four p0 p1 p2 p3 p4 p5 p6 = 2 ∧ r = (-2000000002) ∧ S1 = S)) 10 60 := by
  refine zMetH_of (cc := cL_ask) (maxL := 4) (ret := (some .int)) (own := RL) (hh := zhhA) (by decide +kernel) rfl rfl (Nat.le_of_ble_eq_true rfl) ?_
  intro p e s m args below meth c ls C hr hlocks hx0 hw hl
  have hx := C.1
  have hb := C.2.1
  have hown := C.2.2.2.1
  have hts := C.2.2.2.2
  have hl : lv_has ls 4 [(0, .ref (a 0)), (1, .int 102), (2, .ref ar)] := hl
  refine lv_iload_n hx hb dL_ask_0 rfl (lv_at hl 1 rfl) ?_
  refine lv_tableIn (off := 356) (tgt := 357) hx hb dL_ask_1 (by decide) (by decide) (by decide +kernel) (by decide) ?_
  refine lv_aload_n hx hb dL_ask_357 rfl (lv_at hl 0 rfl) ?_
  refine lv_aload_n hx hb dL_ask_358 rfl (lv_at hl 2 rfl) ?_
  refine lv_iconst (v := 0) hx hb dL_ask_359 (by decide) ?_
  refine zald_I (a := ar) C hw hK9 hN9 (zin_of (N := 7) (by decide) (by decide) (by decide)) dL_ask_360 ?_
  refine zrd (x := p0) (zrk hj0 (by decide)) ?_
  refine lv_aload_n hx hb dL_ask_361 rfl (lv_at hl 2 rfl) ?_
  refine lv_iconst (v := 1) hx hb dL_ask_362 (by decide) ?_
  refine zald_I (a := ar) C hw hK9 hN9 (zin_of (N := 7) (by decide) (by decide) (by decide)) dL_ask_363 ?_
  refine zrd (x := p1) (zrk hj1 (by decide)) ?_
  refine lv_aload_n hx hb dL_ask_364 rfl (lv_at hl 2 rfl) ?_
  refine lv_iconst (v := 2) hx hb dL_ask_365 (by decide) ?_
  refine zald_I (a := ar) C hw hK9 hN9 (zin_of (N := 7) (by decide) (by decide) (by decide)) dL_ask_366 ?_
  refine zrd (x := p2) (zrk hj2 (by decide)) ?_
  refine lv_aload_n hx hb dL_ask_367 rfl (lv_at hl 2 rfl) ?_
  refine lv_iconst (v := 3) hx hb dL_ask_368 (by decide) ?_
  refine zald_I (a := ar) C hw hK9 hN9 (zin_of (N := 7) (by decide) (by decide) (by decide)) dL_ask_369 ?_
  refine zrd (x := p3) (zrk hj3 (by decide)) ?_
  refine lv_aload_n hx hb dL_ask_370 rfl (lv_at hl 2 rfl) ?_
  refine lv_iconst (v := 4) hx hb dL_ask_371 (by decide) ?_
  refine zald_I (a := ar) C hw hK9 hN9 (zin_of (N := 7) (by decide) (by decide) (by decide)) dL_ask_372 ?_
  refine zrd (x := p4) (zrk hj4 (by decide)) ?_
  refine lv_aload_n hx hb dL_ask_373 rfl (lv_at hl 2 rfl) ?_
  refine lv_iconst (v := 5) hx hb dL_ask_374 (by decide) ?_
  refine zald_I (a := ar) C hw hK9 hN9 (zin_of (N := 7) (by decide) (by decide) (by decide)) dL_ask_375 ?_
  refine zrd (x := p5) (zrk hj5 (by decide)) ?_
  refine lv_aload_n hx hb dL_ask_376 rfl (lv_at hl 2 rfl) ?_
  refine lv_bipush (v := 6) hx hb dL_ask_377 (by decide) ?_
  refine zald_I (a := ar) C hw hK9 hN9 (zin_of (N := 7) (by decide) (by decide) (by decide)) dL_ask_379 ?_
  refine zrd (x := p6) (zrk hj6 (by decide)) ?_
  refine zcV_xi (As := [.int p0, .int p1, .int p2, .int p3, .int p4, .int p5, .int p6]) (rest := []) (n9 := 7) (b := (a 0)) C hw (c_X7_fourWires_r l hst D y base S a p0 p1 p2 p3 p4 p5 p6 hX h0 hbad) gL_ask_X7_fourWires rfl (by decide +kernel) ⟨⟨rfl, rfl⟩, Nat.le_of_ble_eq_true rfl, Nat.le_of_ble_eq_true rfl⟩ hX.1 ⟨by decide, by decide⟩ rfl rfl hl.1 rfl (Nat.le_of_ble_eq_true rfl) ⟨Nat.le_of_ble_eq_true rfl, Nat.le_of_ble_eq_true rfl⟩ dL_ask_380 (fun E9 ce q9 S380 H locs hx9 hw h1 h2 h3 => ?_) (fun r380 S380 H locs hp380 hw => ?_)
  · obtain ⟨hx9, hS9⟩ := hx9
    rcases hx9 with ⟨rfl, hk9⟩ | ⟨rfl, hk9⟩
    · refine zcatch3 (pre := zhhA.take 7) (suf := zhhA.drop 8) (pb := 357) (pe := 383) (ph := 463) (ct := 66) C hw hx0 rfl (by decide) (by decide) (by decide) zLk_ask zcn_ex (by decide +kernel) (by decide) rfl (by decide +kernel) h1 h2 h3 ?_
      refine lv_astore_n (lv' := [(3, .ref q9), (0, .ref (a 0)), (1, .int 102), (2, .ref ar)]) hx hb dL_ask_463 rfl hl (by decide) rfl (fun ls hl => ?_)
      refine lv_ldc (own := RL) (v := (-2000000001)) hx hb hown (hts (.constant RL 68 (-2000000001)) (by decide +kernel)) dL_ask_464 ?_
      exact zri C hw hr hlocks rfl (Or.inl ⟨hk9, rfl, hS9⟩) ⟨Nat.le_of_ble_eq_true rfl, Nat.le_of_ble_eq_true rfl⟩ dL_ask_466
    · refine zcatch3 (pre := zhhA.take 22) (suf := zhhA.drop 23) (pb := 357) (pe := 383) (ph := 467) (ct := 69) C hw hx0 rfl (by decide) (by decide) (by decide) zLk_ask zcn_ex (by decide +kernel) (by decide) rfl (by decide +kernel) h1 h2 h3 ?_
      refine lv_astore_n (lv' := [(3, .ref q9), (0, .ref (a 0)), (1, .int 102), (2, .ref ar)]) hx hb dL_ask_467 rfl hl (by decide) rfl (fun ls hl => ?_)
      refine lv_ldc (own := RL) (v := (-2000000002)) hx hb hown (hts (.constant RL 71 (-2000000002)) (by decide +kernel)) dL_ask_468 ?_
      exact zri C hw hr hlocks rfl (Or.inr ⟨hk9, rfl, hS9⟩) ⟨Nat.le_of_ble_eq_true rfl, Nat.le_of_ble_eq_true rfl⟩ dL_ask_470
  · exact hp380.1.elim

set_option maxHeartbeats 4000000 in
set_option maxRecDepth 100000 in
/-- L_ask -/
theorem c_L_ask_C_capture_r (l : Launch) (hst : l.stackTraces = false) (D : va_G) (y : Nat → ClassId) (base : Nat) (S : zS) (a : Nat → Nat) (p0 : Int32) (p1 : Int32) (p2 : Int32) (p3 : Int32) (ar : Nat) (hX : zX S a) (h0 : zX0 S a) (hbad : ¬ kd_capture p0 p1 p2 p3 = 0) (hK9 : zK S ar = 22) (hN9 : zN S ar = 4) (hj0 : zR S 22 ar 0 = p0) (hj1 : zR S 22 ar 1 = p1) (hj2 : zR S 22 ar 2 = p2) (hj3 : zR S 22 ar 3 = p3) : zMi l yL_ask wsL_ask ({ frames := 8, cells := 5, slots := 30, locals := 138 }) [.ref (a 0), .int 67, .ref ar] D y base S (fun (r : Int32) (S1 : zS) => (kd_capture p0 p1 p2 p3 = 1 ∧ r = (-2000000001) ∧ S1 = S) ∨ (kd_capture p0 p1 p2 p3 = 2 ∧ r = (-2000000002) ∧ S1 = S)) 5 30 := by
  refine zMetH_of (cc := cL_ask) (maxL := 4) (ret := (some .int)) (own := RL) (hh := zhhA) (by decide +kernel) rfl rfl (Nat.le_of_ble_eq_true rfl) ?_
  intro p e s m args below meth c ls C hr hlocks hx0 hw hl
  have hx := C.1
  have hb := C.2.1
  have hown := C.2.2.2.1
  have hts := C.2.2.2.2
  have hl : lv_has ls 4 [(0, .ref (a 0)), (1, .int 67), (2, .ref ar)] := hl
  refine lv_iload_n hx hb dL_ask_0 rfl (lv_at hl 1 rfl) ?_
  refine lv_tableIn (off := 383) (tgt := 384) hx hb dL_ask_1 (by decide) (by decide) (by decide +kernel) (by decide) ?_
  refine lv_aload_n hx hb dL_ask_384 rfl (lv_at hl 0 rfl) ?_
  refine lv_aload_n hx hb dL_ask_385 rfl (lv_at hl 2 rfl) ?_
  refine lv_iconst (v := 0) hx hb dL_ask_386 (by decide) ?_
  refine zald_I (a := ar) C hw hK9 hN9 (zin_of (N := 4) (by decide) (by decide) (by decide)) dL_ask_387 ?_
  refine zrd (x := p0) (zrk hj0 (by decide)) ?_
  refine lv_aload_n hx hb dL_ask_388 rfl (lv_at hl 2 rfl) ?_
  refine lv_iconst (v := 1) hx hb dL_ask_389 (by decide) ?_
  refine zald_I (a := ar) C hw hK9 hN9 (zin_of (N := 4) (by decide) (by decide) (by decide)) dL_ask_390 ?_
  refine zrd (x := p1) (zrk hj1 (by decide)) ?_
  refine lv_aload_n hx hb dL_ask_391 rfl (lv_at hl 2 rfl) ?_
  refine lv_iconst (v := 2) hx hb dL_ask_392 (by decide) ?_
  refine zald_I (a := ar) C hw hK9 hN9 (zin_of (N := 4) (by decide) (by decide) (by decide)) dL_ask_393 ?_
  refine zrd (x := p2) (zrk hj2 (by decide)) ?_
  refine lv_aload_n hx hb dL_ask_394 rfl (lv_at hl 2 rfl) ?_
  refine lv_iconst (v := 3) hx hb dL_ask_395 (by decide) ?_
  refine zald_I (a := ar) C hw hK9 hN9 (zin_of (N := 4) (by decide) (by decide) (by decide)) dL_ask_396 ?_
  refine zrd (x := p3) (zrk hj3 (by decide)) ?_
  refine zcV_xi (As := [.int p0, .int p1, .int p2, .int p3]) (rest := []) (n9 := 4) (b := (a 0)) C hw (c_X7_capture_r l hst D y base S a p0 p1 p2 p3 hX h0 hbad) gL_ask_X7_capture rfl (by decide +kernel) ⟨⟨rfl, rfl⟩, Nat.le_of_ble_eq_true rfl, Nat.le_of_ble_eq_true rfl⟩ hX.1 ⟨by decide, by decide⟩ rfl rfl hl.1 rfl (Nat.le_of_ble_eq_true rfl) ⟨Nat.le_of_ble_eq_true rfl, Nat.le_of_ble_eq_true rfl⟩ dL_ask_397 (fun E9 ce q9 S397 H locs hx9 hw h1 h2 h3 => ?_) (fun r397 S397 H locs hp397 hw => ?_)
  · obtain ⟨hx9, hS9⟩ := hx9
    rcases hx9 with ⟨rfl, hk9⟩ | ⟨rfl, hk9⟩
    · refine zcatch3 (pre := zhhA.take 8) (suf := zhhA.drop 9) (pb := 384) (pe := 400) (ph := 463) (ct := 66) C hw hx0 rfl (by decide) (by decide) (by decide) zLk_ask zcn_ex (by decide +kernel) (by decide) rfl (by decide +kernel) h1 h2 h3 ?_
      refine lv_astore_n (lv' := [(3, .ref q9), (0, .ref (a 0)), (1, .int 67), (2, .ref ar)]) hx hb dL_ask_463 rfl hl (by decide) rfl (fun ls hl => ?_)
      refine lv_ldc (own := RL) (v := (-2000000001)) hx hb hown (hts (.constant RL 68 (-2000000001)) (by decide +kernel)) dL_ask_464 ?_
      exact zri C hw hr hlocks rfl (Or.inl ⟨hk9, rfl, hS9⟩) ⟨Nat.le_of_ble_eq_true rfl, Nat.le_of_ble_eq_true rfl⟩ dL_ask_466
    · refine zcatch3 (pre := zhhA.take 23) (suf := zhhA.drop 24) (pb := 384) (pe := 400) (ph := 467) (ct := 69) C hw hx0 rfl (by decide) (by decide) (by decide) zLk_ask zcn_ex (by decide +kernel) (by decide) rfl (by decide +kernel) h1 h2 h3 ?_
      refine lv_astore_n (lv' := [(3, .ref q9), (0, .ref (a 0)), (1, .int 67), (2, .ref ar)]) hx hb dL_ask_467 rfl hl (by decide) rfl (fun ls hl => ?_)
      refine lv_ldc (own := RL) (v := (-2000000002)) hx hb hown (hts (.constant RL 71 (-2000000002)) (by decide +kernel)) dL_ask_468 ?_
      exact zri C hw hr hlocks rfl (Or.inr ⟨hk9, rfl, hS9⟩) ⟨Nat.le_of_ble_eq_true rfl, Nat.le_of_ble_eq_true rfl⟩ dL_ask_470
  · exact hp397.1.elim

set_option maxHeartbeats 4000000 in
set_option maxRecDepth 100000 in
/-- L_ask -/
theorem c_L_ask_S_samples_r (l : Launch) (hst : l.stackTraces = false) (D : va_G) (y : Nat → ClassId) (base : Nat) (S : zS) (a : Nat → Nat) (p0 : Int32) (ar : Nat) (hX : zX S a) (h0 : zX0 S a) (hK9 : zK S ar = 22) (hN9 : zN S ar = 1) (hj0 : zR S 22 ar 0 = p0) : zMi l yL_ask wsL_ask ({ frames := 8, cells := 1, slots := 6, locals := 131 }) [.ref (a 0), .int 83, .ref ar] D y base S (fun (r : Int32) (S1 : zS) => (kd_samples p0 = 1 ∧ r = (-2000000001) ∧ S1 = S) ∨ (kd_samples p0 = 0 ∧ r = 0 ∧ S1 = S)) 1 6 := by
  refine zMetH_of (cc := cL_ask) (maxL := 4) (ret := (some .int)) (own := RL) (hh := zhhA) (by decide +kernel) rfl rfl (Nat.le_of_ble_eq_true rfl) ?_
  intro p e s m args below meth c ls C hr hlocks hx0 hw hl
  have hx := C.1
  have hb := C.2.1
  have hown := C.2.2.2.1
  have hts := C.2.2.2.2
  have hl : lv_has ls 4 [(0, .ref (a 0)), (1, .int 83), (2, .ref ar)] := hl
  refine lv_iload_n hx hb dL_ask_0 rfl (lv_at hl 1 rfl) ?_
  refine lv_tableIn (off := 400) (tgt := 401) hx hb dL_ask_1 (by decide) (by decide) (by decide +kernel) (by decide) ?_
  refine lv_aload_n hx hb dL_ask_401 rfl (lv_at hl 0 rfl) ?_
  refine lv_aload_n hx hb dL_ask_402 rfl (lv_at hl 2 rfl) ?_
  refine lv_iconst (v := 0) hx hb dL_ask_403 (by decide) ?_
  refine zald_I (a := ar) C hw hK9 hN9 (zin_of (N := 1) (by decide) (by decide) (by decide)) dL_ask_404 ?_
  refine zrd (x := p0) (zrk hj0 (by decide)) ?_
  refine zcV_xi (As := [.int p0]) (rest := []) (n9 := 1) (b := (a 0)) C hw (c_X7_samples_r l hst D y base S a p0 hX h0) gL_ask_X7_samples rfl (by decide +kernel) ⟨⟨rfl, rfl⟩, Nat.le_of_ble_eq_true rfl, Nat.le_of_ble_eq_true rfl⟩ hX.1 ⟨by decide, by decide⟩ rfl rfl hl.1 rfl (Nat.le_of_ble_eq_true rfl) ⟨Nat.le_of_ble_eq_true rfl, Nat.le_of_ble_eq_true rfl⟩ dL_ask_405 (fun E9 ce q9 S405 H locs hx9 hw h1 h2 h3 => ?_) (fun r405 S405 H locs hp405 hw => ?_)
  · obtain ⟨hx9, hS9⟩ := hx9
    obtain ⟨rfl, hk9⟩ := hx9
    refine zcatch3 (pre := zhhA.take 9) (suf := zhhA.drop 10) (pb := 401) (pe := 408) (ph := 463) (ct := 66) C hw hx0 rfl (by decide) (by decide) (by decide) zLk_ask zcn_ex (by decide +kernel) (by decide) rfl (by decide +kernel) h1 h2 h3 ?_
    refine lv_astore_n (lv' := [(3, .ref q9), (0, .ref (a 0)), (1, .int 83), (2, .ref ar)]) hx hb dL_ask_463 rfl hl (by decide) rfl (fun ls hl => ?_)
    refine lv_ldc (own := RL) (v := (-2000000001)) hx hb hown (hts (.constant RL 68 (-2000000001)) (by decide +kernel)) dL_ask_464 ?_
    exact zri C hw hr hlocks rfl (Or.inl ⟨hk9, rfl, hS9⟩) ⟨Nat.le_of_ble_eq_true rfl, Nat.le_of_ble_eq_true rfl⟩ dL_ask_466
  · exact zri C hw hr hlocks rfl (Or.inr ⟨hp405.2.1, hp405.1, hp405.2.2⟩) ⟨Nat.le_of_ble_eq_true rfl, Nat.le_of_ble_eq_true rfl⟩ dL_ask_408

set_option maxHeartbeats 4000000 in
set_option maxRecDepth 100000 in
/-- L_ask -/
theorem c_L_ask_a_sample_r (l : Launch) (hst : l.stackTraces = false) (D : va_G) (y : Nat → ClassId) (base : Nat) (S : zS) (a : Nat → Nat) (p0 : Int32) (p1 : Int32) (ar : Nat) (hX : zX S a) (h0 : zX0 S a) (hK9 : zK S ar = 22) (hN9 : zN S ar = 2) (hj0 : zR S 22 ar 0 = p0) (hj1 : zR S 22 ar 1 = p1) : zMi l yL_ask wsL_ask ({ frames := 8, cells := 2, slots := 12, locals := 132 }) [.ref (a 0), .int 97, .ref ar] D y base S (fun (r : Int32) (S1 : zS) => (kd_sample p0 = 1 ∧ r = (-2000000001) ∧ S1 = S) ∨ (kd_sample p0 = 2 ∧ r = (-2000000005) ∧ S1 = S)) 2 12 := by
  refine zMetH_of (cc := cL_ask) (maxL := 4) (ret := (some .int)) (own := RL) (hh := zhhA) (by decide +kernel) rfl rfl (Nat.le_of_ble_eq_true rfl) ?_
  intro p e s m args below meth c ls C hr hlocks hx0 hw hl
  have hx := C.1
  have hb := C.2.1
  have hown := C.2.2.2.1
  have hts := C.2.2.2.2
  have hl : lv_has ls 4 [(0, .ref (a 0)), (1, .int 97), (2, .ref ar)] := hl
  refine lv_iload_n hx hb dL_ask_0 rfl (lv_at hl 1 rfl) ?_
  refine lv_tableIn (off := 408) (tgt := 409) hx hb dL_ask_1 (by decide) (by decide) (by decide +kernel) (by decide) ?_
  refine lv_aload_n hx hb dL_ask_409 rfl (lv_at hl 0 rfl) ?_
  refine lv_aload_n hx hb dL_ask_410 rfl (lv_at hl 2 rfl) ?_
  refine lv_iconst (v := 0) hx hb dL_ask_411 (by decide) ?_
  refine zald_I (a := ar) C hw hK9 hN9 (zin_of (N := 2) (by decide) (by decide) (by decide)) dL_ask_412 ?_
  refine zrd (x := p0) (zrk hj0 (by decide)) ?_
  refine lv_aload_n hx hb dL_ask_413 rfl (lv_at hl 2 rfl) ?_
  refine lv_iconst (v := 1) hx hb dL_ask_414 (by decide) ?_
  refine zald_I (a := ar) C hw hK9 hN9 (zin_of (N := 2) (by decide) (by decide) (by decide)) dL_ask_415 ?_
  refine zrd (x := p1) (zrk hj1 (by decide)) ?_
  refine zcV_xi (As := [.int p0, .int p1]) (rest := []) (n9 := 2) (b := (a 0)) C hw (c_X7_sample_r l hst D y base S a p0 p1 hX h0) gL_ask_X7_sample rfl (by decide +kernel) ⟨⟨rfl, rfl⟩, Nat.le_of_ble_eq_true rfl, Nat.le_of_ble_eq_true rfl⟩ hX.1 ⟨by decide, by decide⟩ rfl rfl hl.1 rfl (Nat.le_of_ble_eq_true rfl) ⟨Nat.le_of_ble_eq_true rfl, Nat.le_of_ble_eq_true rfl⟩ dL_ask_416 (fun E9 ce q9 S416 H locs hx9 hw h1 h2 h3 => ?_) (fun r416 S416 H locs hp416 hw => ?_)
  · obtain ⟨hx9, hS9⟩ := hx9
    rcases hx9 with ⟨rfl, hk9⟩ | ⟨rfl, hk9⟩
    · refine zcatch3 (pre := zhhA.take 10) (suf := zhhA.drop 11) (pb := 409) (pe := 419) (ph := 463) (ct := 66) C hw hx0 rfl (by decide) (by decide) (by decide) zLk_ask zcn_ex (by decide +kernel) (by decide) rfl (by decide +kernel) h1 h2 h3 ?_
      refine lv_astore_n (lv' := [(3, .ref q9), (0, .ref (a 0)), (1, .int 97), (2, .ref ar)]) hx hb dL_ask_463 rfl hl (by decide) rfl (fun ls hl => ?_)
      refine lv_ldc (own := RL) (v := (-2000000001)) hx hb hown (hts (.constant RL 68 (-2000000001)) (by decide +kernel)) dL_ask_464 ?_
      exact zri C hw hr hlocks rfl (Or.inl ⟨hk9, rfl, hS9⟩) ⟨Nat.le_of_ble_eq_true rfl, Nat.le_of_ble_eq_true rfl⟩ dL_ask_466
    · refine zcatch3 (pre := zhhA.take 70) (suf := zhhA.drop 71) (pb := 409) (pe := 419) (ph := 479) (ct := 78) C hw hx0 rfl (by decide) (by decide) (by decide) zLk_ask zcn_ex (by decide +kernel) (by decide) rfl (by decide +kernel) h1 h2 h3 ?_
      refine lv_astore_n (lv' := [(3, .ref q9), (0, .ref (a 0)), (1, .int 97), (2, .ref ar)]) hx hb dL_ask_479 rfl hl (by decide) rfl (fun ls hl => ?_)
      refine lv_ldc (own := RL) (v := (-2000000005)) hx hb hown (hts (.constant RL 80 (-2000000005)) (by decide +kernel)) dL_ask_480 ?_
      exact zri C hw hr hlocks rfl (Or.inr ⟨hk9, rfl, hS9⟩) ⟨Nat.le_of_ble_eq_true rfl, Nat.le_of_ble_eq_true rfl⟩ dL_ask_482
  · exact hp416.1.elim

set_option maxHeartbeats 4000000 in
set_option maxRecDepth 100000 in
/-- L_ask -/
theorem c_L_ask_r_runs_r (l : Launch) (hst : l.stackTraces = false) (D : va_G) (y : Nat → ClassId) (base : Nat) (S : zS) (a : Nat → Nat) (p0 : Int32) (p1 : Int32) (ar : Nat) (hX : zX S a) (h0 : zX0 S a) (hK9 : zK S ar = 22) (hN9 : zN S ar = 2) (hj0 : zR S 22 ar 0 = p0) (hj1 : zR S 22 ar 1 = p1) : zMi l yL_ask wsL_ask ({ frames := 8, cells := 2, slots := 12, locals := 132 }) [.ref (a 0), .int 114, .ref ar] D y base S (fun (r : Int32) (S1 : zS) => (kd_runs p0 p1 = 1 ∧ r = (-2000000001) ∧ S1 = S) ∨ (kd_runs p0 p1 = 0 ∧ r = 0 ∧ S1 = S)) 2 12 := by
  refine zMetH_of (cc := cL_ask) (maxL := 4) (ret := (some .int)) (own := RL) (hh := zhhA) (by decide +kernel) rfl rfl (Nat.le_of_ble_eq_true rfl) ?_
  intro p e s m args below meth c ls C hr hlocks hx0 hw hl
  have hx := C.1
  have hb := C.2.1
  have hown := C.2.2.2.1
  have hts := C.2.2.2.2
  have hl : lv_has ls 4 [(0, .ref (a 0)), (1, .int 114), (2, .ref ar)] := hl
  refine lv_iload_n hx hb dL_ask_0 rfl (lv_at hl 1 rfl) ?_
  refine lv_tableIn (off := 419) (tgt := 420) hx hb dL_ask_1 (by decide) (by decide) (by decide +kernel) (by decide) ?_
  refine lv_aload_n hx hb dL_ask_420 rfl (lv_at hl 0 rfl) ?_
  refine lv_aload_n hx hb dL_ask_421 rfl (lv_at hl 2 rfl) ?_
  refine lv_iconst (v := 0) hx hb dL_ask_422 (by decide) ?_
  refine zald_I (a := ar) C hw hK9 hN9 (zin_of (N := 2) (by decide) (by decide) (by decide)) dL_ask_423 ?_
  refine zrd (x := p0) (zrk hj0 (by decide)) ?_
  refine lv_aload_n hx hb dL_ask_424 rfl (lv_at hl 2 rfl) ?_
  refine lv_iconst (v := 1) hx hb dL_ask_425 (by decide) ?_
  refine zald_I (a := ar) C hw hK9 hN9 (zin_of (N := 2) (by decide) (by decide) (by decide)) dL_ask_426 ?_
  refine zrd (x := p1) (zrk hj1 (by decide)) ?_
  refine zcV_xi (As := [.int p0, .int p1]) (rest := []) (n9 := 2) (b := (a 0)) C hw (c_X7_runs_r l hst D y base S a p0 p1 hX h0) gL_ask_X7_runs rfl (by decide +kernel) ⟨⟨rfl, rfl⟩, Nat.le_of_ble_eq_true rfl, Nat.le_of_ble_eq_true rfl⟩ hX.1 ⟨by decide, by decide⟩ rfl rfl hl.1 rfl (Nat.le_of_ble_eq_true rfl) ⟨Nat.le_of_ble_eq_true rfl, Nat.le_of_ble_eq_true rfl⟩ dL_ask_427 (fun E9 ce q9 S427 H locs hx9 hw h1 h2 h3 => ?_) (fun r427 S427 H locs hp427 hw => ?_)
  · obtain ⟨hx9, hS9⟩ := hx9
    obtain ⟨rfl, hk9⟩ := hx9
    refine zcatch3 (pre := zhhA.take 11) (suf := zhhA.drop 12) (pb := 420) (pe := 430) (ph := 463) (ct := 66) C hw hx0 rfl (by decide) (by decide) (by decide) zLk_ask zcn_ex (by decide +kernel) (by decide) rfl (by decide +kernel) h1 h2 h3 ?_
    refine lv_astore_n (lv' := [(3, .ref q9), (0, .ref (a 0)), (1, .int 114), (2, .ref ar)]) hx hb dL_ask_463 rfl hl (by decide) rfl (fun ls hl => ?_)
    refine lv_ldc (own := RL) (v := (-2000000001)) hx hb hown (hts (.constant RL 68 (-2000000001)) (by decide +kernel)) dL_ask_464 ?_
    exact zri C hw hr hlocks rfl (Or.inl ⟨hk9, rfl, hS9⟩) ⟨Nat.le_of_ble_eq_true rfl, Nat.le_of_ble_eq_true rfl⟩ dL_ask_466
  · exact zri C hw hr hlocks rfl (Or.inr ⟨hp427.2.1, hp427.1, hp427.2.2⟩) ⟨Nat.le_of_ble_eq_true rfl, Nat.le_of_ble_eq_true rfl⟩ dL_ask_430

set_option maxHeartbeats 4000000 in
set_option maxRecDepth 100000 in
/-- L_ask -/
theorem c_L_ask_R_run_r (l : Launch) (hst : l.stackTraces = false) (D : va_G) (y : Nat → ClassId) (base : Nat) (S : zS) (a : Nat → Nat) (p0 : Int32) (p1 : Int32) (p2 : Int32) (ar : Nat) (hX : zX S a) (h0 : zX0 S a) (hK9 : zK S ar = 22) (hN9 : zN S ar = 3) (hj0 : zR S 22 ar 0 = p0) (hj1 : zR S 22 ar 1 = p1) (hj2 : zR S 22 ar 2 = p2) : zMi l yL_ask wsL_ask ({ frames := 8, cells := 3, slots := 18, locals := 134 }) [.ref (a 0), .int 82, .ref ar] D y base S (fun (r : Int32) (S1 : zS) => (kd_run p0 p1 = 1 ∧ r = (-2000000001) ∧ S1 = S) ∨ (kd_run p0 p1 = 2 ∧ r = (-2000000005) ∧ S1 = S)) 3 18 := by
  refine zMetH_of (cc := cL_ask) (maxL := 4) (ret := (some .int)) (own := RL) (hh := zhhA) (by decide +kernel) rfl rfl (Nat.le_of_ble_eq_true rfl) ?_
  intro p e s m args below meth c ls C hr hlocks hx0 hw hl
  have hx := C.1
  have hb := C.2.1
  have hown := C.2.2.2.1
  have hts := C.2.2.2.2
  have hl : lv_has ls 4 [(0, .ref (a 0)), (1, .int 82), (2, .ref ar)] := hl
  refine lv_iload_n hx hb dL_ask_0 rfl (lv_at hl 1 rfl) ?_
  refine lv_tableIn (off := 430) (tgt := 431) hx hb dL_ask_1 (by decide) (by decide) (by decide +kernel) (by decide) ?_
  refine lv_aload_n hx hb dL_ask_431 rfl (lv_at hl 0 rfl) ?_
  refine lv_aload_n hx hb dL_ask_432 rfl (lv_at hl 2 rfl) ?_
  refine lv_iconst (v := 0) hx hb dL_ask_433 (by decide) ?_
  refine zald_I (a := ar) C hw hK9 hN9 (zin_of (N := 3) (by decide) (by decide) (by decide)) dL_ask_434 ?_
  refine zrd (x := p0) (zrk hj0 (by decide)) ?_
  refine lv_aload_n hx hb dL_ask_435 rfl (lv_at hl 2 rfl) ?_
  refine lv_iconst (v := 1) hx hb dL_ask_436 (by decide) ?_
  refine zald_I (a := ar) C hw hK9 hN9 (zin_of (N := 3) (by decide) (by decide) (by decide)) dL_ask_437 ?_
  refine zrd (x := p1) (zrk hj1 (by decide)) ?_
  refine lv_aload_n hx hb dL_ask_438 rfl (lv_at hl 2 rfl) ?_
  refine lv_iconst (v := 2) hx hb dL_ask_439 (by decide) ?_
  refine zald_I (a := ar) C hw hK9 hN9 (zin_of (N := 3) (by decide) (by decide) (by decide)) dL_ask_440 ?_
  refine zrd (x := p2) (zrk hj2 (by decide)) ?_
  refine zcV_xi (As := [.int p0, .int p1, .int p2]) (rest := []) (n9 := 3) (b := (a 0)) C hw (c_X7_run_r l hst D y base S a p0 p1 p2 hX h0) gL_ask_X7_run rfl (by decide +kernel) ⟨⟨rfl, rfl⟩, Nat.le_of_ble_eq_true rfl, Nat.le_of_ble_eq_true rfl⟩ hX.1 ⟨by decide, by decide⟩ rfl rfl hl.1 rfl (Nat.le_of_ble_eq_true rfl) ⟨Nat.le_of_ble_eq_true rfl, Nat.le_of_ble_eq_true rfl⟩ dL_ask_441 (fun E9 ce q9 S441 H locs hx9 hw h1 h2 h3 => ?_) (fun r441 S441 H locs hp441 hw => ?_)
  · obtain ⟨hx9, hS9⟩ := hx9
    rcases hx9 with ⟨rfl, hk9⟩ | ⟨rfl, hk9⟩
    · refine zcatch3 (pre := zhhA.take 12) (suf := zhhA.drop 13) (pb := 431) (pe := 444) (ph := 463) (ct := 66) C hw hx0 rfl (by decide) (by decide) (by decide) zLk_ask zcn_ex (by decide +kernel) (by decide) rfl (by decide +kernel) h1 h2 h3 ?_
      refine lv_astore_n (lv' := [(3, .ref q9), (0, .ref (a 0)), (1, .int 82), (2, .ref ar)]) hx hb dL_ask_463 rfl hl (by decide) rfl (fun ls hl => ?_)
      refine lv_ldc (own := RL) (v := (-2000000001)) hx hb hown (hts (.constant RL 68 (-2000000001)) (by decide +kernel)) dL_ask_464 ?_
      exact zri C hw hr hlocks rfl (Or.inl ⟨hk9, rfl, hS9⟩) ⟨Nat.le_of_ble_eq_true rfl, Nat.le_of_ble_eq_true rfl⟩ dL_ask_466
    · refine zcatch3 (pre := zhhA.take 72) (suf := zhhA.drop 73) (pb := 431) (pe := 444) (ph := 479) (ct := 78) C hw hx0 rfl (by decide) (by decide) (by decide) zLk_ask zcn_ex (by decide +kernel) (by decide) rfl (by decide +kernel) h1 h2 h3 ?_
      refine lv_astore_n (lv' := [(3, .ref q9), (0, .ref (a 0)), (1, .int 82), (2, .ref ar)]) hx hb dL_ask_479 rfl hl (by decide) rfl (fun ls hl => ?_)
      refine lv_ldc (own := RL) (v := (-2000000005)) hx hb hown (hts (.constant RL 80 (-2000000005)) (by decide +kernel)) dL_ask_480 ?_
      exact zri C hw hr hlocks rfl (Or.inr ⟨hk9, rfl, hS9⟩) ⟨Nat.le_of_ble_eq_true rfl, Nat.le_of_ble_eq_true rfl⟩ dL_ask_482
  · exact hp441.1.elim

set_option maxHeartbeats 4000000 in
set_option maxRecDepth 100000 in
/-- L_ask -/
theorem c_L_ask_h_shortest_r (l : Launch) (hst : l.stackTraces = false) (D : va_G) (y : Nat → ClassId) (base : Nat) (S : zS) (a : Nat → Nat) (p0 : Int32) (p1 : Int32) (ar : Nat) (hX : zX S a) (h0 : zX0 S a) (hK9 : zK S ar = 22) (hN9 : zN S ar = 2) (hj0 : zR S 22 ar 0 = p0) (hj1 : zR S 22 ar 1 = p1) : zMi l yL_ask wsL_ask ({ frames := 9, cells := 3, slots := 18, locals := 155 }) [.ref (a 0), .int 104, .ref ar] D y base S (fun (r : Int32) (S1 : zS) => (kd_run p0 p1 = 1 ∧ r = (-2000000001) ∧ S1 = S) ∨ (kd_run p0 p1 = 2 ∧ r = (-2000000005) ∧ S1 = S)) 3 18 := by
  refine zMetH_of (cc := cL_ask) (maxL := 4) (ret := (some .int)) (own := RL) (hh := zhhA) (by decide +kernel) rfl rfl (Nat.le_of_ble_eq_true rfl) ?_
  intro p e s m args below meth c ls C hr hlocks hx0 hw hl
  have hx := C.1
  have hb := C.2.1
  have hown := C.2.2.2.1
  have hts := C.2.2.2.2
  have hl : lv_has ls 4 [(0, .ref (a 0)), (1, .int 104), (2, .ref ar)] := hl
  refine lv_iload_n hx hb dL_ask_0 rfl (lv_at hl 1 rfl) ?_
  refine lv_tableIn (off := 444) (tgt := 445) hx hb dL_ask_1 (by decide) (by decide) (by decide +kernel) (by decide) ?_
  refine lv_aload_n hx hb dL_ask_445 rfl (lv_at hl 0 rfl) ?_
  refine lv_aload_n hx hb dL_ask_446 rfl (lv_at hl 2 rfl) ?_
  refine lv_iconst (v := 0) hx hb dL_ask_447 (by decide) ?_
  refine zald_I (a := ar) C hw hK9 hN9 (zin_of (N := 2) (by decide) (by decide) (by decide)) dL_ask_448 ?_
  refine zrd (x := p0) (zrk hj0 (by decide)) ?_
  refine lv_aload_n hx hb dL_ask_449 rfl (lv_at hl 2 rfl) ?_
  refine lv_iconst (v := 1) hx hb dL_ask_450 (by decide) ?_
  refine zald_I (a := ar) C hw hK9 hN9 (zin_of (N := 2) (by decide) (by decide) (by decide)) dL_ask_451 ?_
  refine zrd (x := p1) (zrk hj1 (by decide)) ?_
  refine zcV_xi (As := [.int p0, .int p1]) (rest := []) (n9 := 2) (b := (a 0)) C hw (c_X7_shortest_r l hst D y base S a p0 p1 hX h0) gL_ask_X7_shortest rfl (by decide +kernel) ⟨⟨rfl, rfl⟩, Nat.le_of_ble_eq_true rfl, Nat.le_of_ble_eq_true rfl⟩ hX.1 ⟨by decide, by decide⟩ rfl rfl hl.1 rfl (Nat.le_of_ble_eq_true rfl) ⟨Nat.le_of_ble_eq_true rfl, Nat.le_of_ble_eq_true rfl⟩ dL_ask_452 (fun E9 ce q9 S452 H locs hx9 hw h1 h2 h3 => ?_) (fun r452 S452 H locs hp452 hw => ?_)
  · obtain ⟨hx9, hS9⟩ := hx9
    rcases hx9 with ⟨rfl, hk9⟩ | ⟨rfl, hk9⟩
    · refine zcatch3 (pre := zhhA.take 13) (suf := zhhA.drop 14) (pb := 445) (pe := 455) (ph := 463) (ct := 66) C hw hx0 rfl (by decide) (by decide) (by decide) zLk_ask zcn_ex (by decide +kernel) (by decide) rfl (by decide +kernel) h1 h2 h3 ?_
      refine lv_astore_n (lv' := [(3, .ref q9), (0, .ref (a 0)), (1, .int 104), (2, .ref ar)]) hx hb dL_ask_463 rfl hl (by decide) rfl (fun ls hl => ?_)
      refine lv_ldc (own := RL) (v := (-2000000001)) hx hb hown (hts (.constant RL 68 (-2000000001)) (by decide +kernel)) dL_ask_464 ?_
      exact zri C hw hr hlocks rfl (Or.inl ⟨hk9, rfl, hS9⟩) ⟨Nat.le_of_ble_eq_true rfl, Nat.le_of_ble_eq_true rfl⟩ dL_ask_466
    · refine zcatch3 (pre := zhhA.take 73) (suf := zhhA.drop 74) (pb := 445) (pe := 455) (ph := 479) (ct := 78) C hw hx0 rfl (by decide) (by decide) (by decide) zLk_ask zcn_ex (by decide +kernel) (by decide) rfl (by decide +kernel) h1 h2 h3 ?_
      refine lv_astore_n (lv' := [(3, .ref q9), (0, .ref (a 0)), (1, .int 104), (2, .ref ar)]) hx hb dL_ask_479 rfl hl (by decide) rfl (fun ls hl => ?_)
      refine lv_ldc (own := RL) (v := (-2000000005)) hx hb hown (hts (.constant RL 80 (-2000000005)) (by decide +kernel)) dL_ask_480 ?_
      exact zri C hw hr hlocks rfl (Or.inr ⟨hk9, rfl, hS9⟩) ⟨Nat.le_of_ble_eq_true rfl, Nat.le_of_ble_eq_true rfl⟩ dL_ask_482
  · exact hp452.1.elim

set_option maxHeartbeats 4000000 in
set_option maxRecDepth 100000 in
/-- L_asked -/
theorem c_L_asked_B_block_r (l : Launch) (hst : l.stackTraces = false) (D : va_G) (y : Nat → ClassId) (base : Nat) (S : zS) (a : Nat → Nat) (p0 : Int32) (p1 : Int32) (p2 : Int32) (p3 : Int32) (ar : Nat) (hX : zX S a) (h0 : zX0 S a) (hK9 : zK S ar = 22) (hN9 : zN S ar = 4) (hj0 : zR S 22 ar 0 = p0) (hj1 : zR S 22 ar 1 = p1) (hj2 : zR S 22 ar 2 = p2) (hj3 : zR S 22 ar 3 = p3) : zXi l yL_asked wsL_asked ({ frames := 8, cells := 4, slots := 24, locals := 137 }) [.ref (a 0), .int 66, .ref ar] D y base S (fun (r : Int32) (S1 : zS) => False ∧ S1 = S) (fun (E : String) (S1 : zS) => ((E = "java/lang/IndexOutOfBoundsException" ∧ kd_block p0 p1 p2 = 1) ∨ (E = "java/lang/IllegalArgumentException" ∧ kd_block p0 p1 p2 = 2) ∨ (E = "java/util/NoSuchElementException" ∧ kd_block p0 p1 p2 = 3)) ∧ S1 = S) 4 24 := by
  refine zXet_of (cc := cL_asked) (maxL := 3) (ret := (some .int)) (own := RL) (by decide +kernel) rfl rfl (Nat.le_of_ble_eq_true rfl) ?_
  intro p e s m args below meth c ls C hr hlocks hx0 hw hl
  have hx := C.1
  have hb := C.2.1
  have hown := C.2.2.2.1
  have hts := C.2.2.2.2
  have hl : lv_has ls 3 [(0, .ref (a 0)), (1, .int 66), (2, .ref ar)] := hl
  refine lv_iload_n hx hb dL_asked_0 rfl (lv_at hl 1 rfl) ?_
  refine lv_lookup (off := 139) (tgt := 140) hx hb dL_asked_1 (by decide) (by decide +kernel) (by decide) ?_
  refine lv_aload_n hx hb dL_asked_140 rfl (lv_at hl 0 rfl) ?_
  refine lv_aload_n hx hb dL_asked_141 rfl (lv_at hl 2 rfl) ?_
  refine lv_iconst (v := 0) hx hb dL_asked_142 (by decide) ?_
  refine zald_I (a := ar) C hw hK9 hN9 (zin_of (N := 4) (by decide) (by decide) (by decide)) dL_asked_143 ?_
  refine zrd (x := p0) (zrk hj0 (by decide)) ?_
  refine lv_aload_n hx hb dL_asked_144 rfl (lv_at hl 2 rfl) ?_
  refine lv_iconst (v := 1) hx hb dL_asked_145 (by decide) ?_
  refine zald_I (a := ar) C hw hK9 hN9 (zin_of (N := 4) (by decide) (by decide) (by decide)) dL_asked_146 ?_
  refine zrd (x := p1) (zrk hj1 (by decide)) ?_
  refine lv_aload_n hx hb dL_asked_147 rfl (lv_at hl 2 rfl) ?_
  refine lv_iconst (v := 2) hx hb dL_asked_148 (by decide) ?_
  refine zald_I (a := ar) C hw hK9 hN9 (zin_of (N := 4) (by decide) (by decide) (by decide)) dL_asked_149 ?_
  refine zrd (x := p2) (zrk hj2 (by decide)) ?_
  refine lv_aload_n hx hb dL_asked_150 rfl (lv_at hl 2 rfl) ?_
  refine lv_iconst (v := 3) hx hb dL_asked_151 (by decide) ?_
  refine zald_I (a := ar) C hw hK9 hN9 (zin_of (N := 4) (by decide) (by decide) (by decide)) dL_asked_152 ?_
  refine zrd (x := p3) (zrk hj3 (by decide)) ?_
  refine zcV_xi (As := [.int p0, .int p1, .int p2, .int p3]) (rest := []) (n9 := 4) (b := (a 0)) C hw (c_X7_block_r l hst D y base S a p0 p1 p2 p3 hX h0) gL_asked_X7_block rfl (by decide +kernel) ⟨⟨rfl, rfl⟩, Nat.le_of_ble_eq_true rfl, Nat.le_of_ble_eq_true rfl⟩ hX.1 ⟨by decide, by decide⟩ rfl rfl hl.1 rfl (Nat.le_of_ble_eq_true rfl) ⟨Nat.le_of_ble_eq_true rfl, Nat.le_of_ble_eq_true rfl⟩ dL_asked_153 (fun E ce q9 S153 H locs hx153 hw h1 h2 h3 => zxout hw hx0 hlocks h1 h2 h3 hx153 ⟨Nat.le_of_ble_eq_true rfl, Nat.le_of_ble_eq_true rfl⟩) (fun r153 S153 H locs hp153 hw => ?_)
  exact (show False from hp153.1).elim

set_option maxHeartbeats 4000000 in
set_option maxRecDepth 100000 in
/-- L_ask -/
theorem c_L_ask_B_block_r (l : Launch) (hst : l.stackTraces = false) (D : va_G) (y : Nat → ClassId) (base : Nat) (S : zS) (a : Nat → Nat) (p0 : Int32) (p1 : Int32) (p2 : Int32) (p3 : Int32) (ar : Nat) (hX : zX S a) (h0 : zX0 S a) (hK9 : zK S ar = 22) (hN9 : zN S ar = 4) (hj0 : zR S 22 ar 0 = p0) (hj1 : zR S 22 ar 1 = p1) (hj2 : zR S 22 ar 2 = p2) (hj3 : zR S 22 ar 3 = p3) : zMi l yL_ask wsL_ask ({ frames := 9, cells := 4, slots := 24, locals := 159 }) [.ref (a 0), .int 66, .ref ar] D y base S (fun (r : Int32) (S1 : zS) => (kd_block p0 p1 p2 = 1 ∧ r = (-2000000001) ∧ S1 = S) ∨ (kd_block p0 p1 p2 = 2 ∧ r = (-2000000002) ∧ S1 = S) ∨ (kd_block p0 p1 p2 = 3 ∧ r = (-2000000005) ∧ S1 = S)) 4 24 := by
  refine zMetH_of (cc := cL_ask) (maxL := 4) (ret := (some .int)) (own := RL) (hh := zhhA) (by decide +kernel) rfl rfl (Nat.le_of_ble_eq_true rfl) ?_
  intro p e s m args below meth c ls C hr hlocks hx0 hw hl
  have hx := C.1
  have hb := C.2.1
  have hown := C.2.2.2.1
  have hts := C.2.2.2.2
  have hl : lv_has ls 4 [(0, .ref (a 0)), (1, .int 66), (2, .ref ar)] := hl
  refine lv_iload_n hx hb dL_ask_0 rfl (lv_at hl 1 rfl) ?_
  refine lv_tableOut (tgt := 456) hx hb dL_ask_1 (by decide) (by decide) ?_
  refine lv_aload_n hx hb dL_ask_456 rfl (lv_at hl 0 rfl) ?_
  refine lv_iload_n hx hb dL_ask_457 rfl (lv_at hl 1 rfl) ?_
  refine lv_aload_n hx hb dL_ask_458 rfl (lv_at hl 2 rfl) ?_
  refine zcS_xi2 (As := [.ref (a 0), .int 66, .ref ar]) (rest := []) (n9 := 3) C hw (c_L_asked_B_block_r l hst D y base S a p0 p1 p2 p3 ar hX h0 hK9 hN9 hj0 hj1 hj2 hj3) gL_ask_L_asked rfl (by decide +kernel) ⟨⟨rfl, rfl⟩, Nat.le_of_ble_eq_true rfl, Nat.le_of_ble_eq_true rfl⟩ rfl hl.1 rfl (Nat.le_of_ble_eq_true rfl) ⟨Nat.le_of_ble_eq_true rfl, Nat.le_of_ble_eq_true rfl⟩ dL_ask_459 (fun E9 ce q9 S459 H locs hx9 hw h1 h2 h3 => ?_) (fun r459 S459 H locs hp459 hw => ?_)
  · obtain ⟨hx9, hS9⟩ := hx9
    rcases hx9 with ⟨rfl, hk9⟩ | ⟨rfl, hk9⟩ | ⟨rfl, hk9⟩
    · refine zcatch3 (pre := zhhA.take 14) (suf := zhhA.drop 15) (pb := 456) (pe := 462) (ph := 463) (ct := 66) C hw hx0 rfl (by decide) (by decide) (by decide) zLk_ask zcn_ex (by decide +kernel) (by decide) rfl (by decide +kernel) h1 h2 h3 ?_
      refine lv_astore_n (lv' := [(3, .ref q9), (0, .ref (a 0)), (1, .int 66), (2, .ref ar)]) hx hb dL_ask_463 rfl hl (by decide) rfl (fun ls hl => ?_)
      refine lv_ldc (own := RL) (v := (-2000000001)) hx hb hown (hts (.constant RL 68 (-2000000001)) (by decide +kernel)) dL_ask_464 ?_
      exact zri C hw hr hlocks rfl (Or.inl ⟨hk9, rfl, hS9⟩) ⟨Nat.le_of_ble_eq_true rfl, Nat.le_of_ble_eq_true rfl⟩ dL_ask_466
    · refine zcatch3 (pre := zhhA.take 29) (suf := zhhA.drop 30) (pb := 456) (pe := 462) (ph := 467) (ct := 69) C hw hx0 rfl (by decide) (by decide) (by decide) zLk_ask zcn_ex (by decide +kernel) (by decide) rfl (by decide +kernel) h1 h2 h3 ?_
      refine lv_astore_n (lv' := [(3, .ref q9), (0, .ref (a 0)), (1, .int 66), (2, .ref ar)]) hx hb dL_ask_467 rfl hl (by decide) rfl (fun ls hl => ?_)
      refine lv_ldc (own := RL) (v := (-2000000002)) hx hb hown (hts (.constant RL 71 (-2000000002)) (by decide +kernel)) dL_ask_468 ?_
      exact zri C hw hr hlocks rfl (Or.inr (Or.inl ⟨hk9, rfl, hS9⟩)) ⟨Nat.le_of_ble_eq_true rfl, Nat.le_of_ble_eq_true rfl⟩ dL_ask_470
    · refine zcatch3 (pre := zhhA.take 74) (suf := zhhA.drop 75) (pb := 456) (pe := 462) (ph := 479) (ct := 78) C hw hx0 rfl (by decide) (by decide) (by decide) zLk_ask zcn_ex (by decide +kernel) (by decide) rfl (by decide +kernel) h1 h2 h3 ?_
      refine lv_astore_n (lv' := [(3, .ref q9), (0, .ref (a 0)), (1, .int 66), (2, .ref ar)]) hx hb dL_ask_479 rfl hl (by decide) rfl (fun ls hl => ?_)
      refine lv_ldc (own := RL) (v := (-2000000005)) hx hb hown (hts (.constant RL 80 (-2000000005)) (by decide +kernel)) dL_ask_480 ?_
      exact zri C hw hr hlocks rfl (Or.inr (Or.inr ⟨hk9, rfl, hS9⟩)) ⟨Nat.le_of_ble_eq_true rfl, Nat.le_of_ble_eq_true rfl⟩ dL_ask_482
  · exact hp459.1.elim

set_option maxHeartbeats 4000000 in
set_option maxRecDepth 100000 in
/-- L_asked -/
theorem c_L_asked_p_step_r (l : Launch) (hst : l.stackTraces = false) (D : va_G) (y : Nat → ClassId) (base : Nat) (S : zS) (a : Nat → Nat) (p0 : Int32) (p1 : Int32) (p2 : Int32) (ar : Nat) (hX : zX S a) (h0 : zX0 S a) (hbad : ¬ kd_step p0 p1 p2 = 0) (hK9 : zK S ar = 22) (hN9 : zN S ar = 3) (hj0 : zR S 22 ar 0 = p0) (hj1 : zR S 22 ar 1 = p1) (hj2 : zR S 22 ar 2 = p2) (hic : ((p0.toUInt32 % 65536).toInt32) = p0) : zXi l yL_asked wsL_asked ({ frames := 8, cells := 3, slots := 18, locals := 135 }) [.ref (a 0), .int 112, .ref ar] D y base S (fun (r : Int32) (S1 : zS) => False ∧ S1 = S) (fun (E : String) (S1 : zS) => ((E = "java/lang/IndexOutOfBoundsException" ∧ kd_step p0 p1 p2 = 1) ∨ (E = "java/lang/IllegalArgumentException" ∧ kd_step p0 p1 p2 = 2)) ∧ S1 = S) 3 18 := by
  refine zXet_of (cc := cL_asked) (maxL := 3) (ret := (some .int)) (own := RL) (by decide +kernel) rfl rfl (Nat.le_of_ble_eq_true rfl) ?_
  intro p e s m args below meth c ls C hr hlocks hx0 hw hl
  have hx := C.1
  have hb := C.2.1
  have hown := C.2.2.2.1
  have hts := C.2.2.2.2
  have hl : lv_has ls 3 [(0, .ref (a 0)), (1, .int 112), (2, .ref ar)] := hl
  refine lv_iload_n hx hb dL_asked_0 rfl (lv_at hl 1 rfl) ?_
  refine lv_lookup (off := 156) (tgt := 157) hx hb dL_asked_1 (by decide) (by decide +kernel) (by decide) ?_
  refine lv_aload_n hx hb dL_asked_157 rfl (lv_at hl 0 rfl) ?_
  refine lv_aload_n hx hb dL_asked_158 rfl (lv_at hl 2 rfl) ?_
  refine lv_iconst (v := 0) hx hb dL_asked_159 (by decide) ?_
  refine zald_I (a := ar) C hw hK9 hN9 (zin_of (N := 3) (by decide) (by decide) (by decide)) dL_asked_160 ?_
  refine zrd (x := p0) (zrk hj0 (by decide)) ?_
  refine lv_i2c (v := (p0.toUInt32 % 65536).toInt32) hx hb dL_asked_161 rfl ?_
  refine zrd (x := p0) hic ?_
  refine lv_aload_n hx hb dL_asked_162 rfl (lv_at hl 2 rfl) ?_
  refine lv_iconst (v := 1) hx hb dL_asked_163 (by decide) ?_
  refine zald_I (a := ar) C hw hK9 hN9 (zin_of (N := 3) (by decide) (by decide) (by decide)) dL_asked_164 ?_
  refine zrd (x := p1) (zrk hj1 (by decide)) ?_
  refine lv_aload_n hx hb dL_asked_165 rfl (lv_at hl 2 rfl) ?_
  refine lv_iconst (v := 2) hx hb dL_asked_166 (by decide) ?_
  refine zald_I (a := ar) C hw hK9 hN9 (zin_of (N := 3) (by decide) (by decide) (by decide)) dL_asked_167 ?_
  refine zrd (x := p2) (zrk hj2 (by decide)) ?_
  refine zcV_xi (As := [.int p0, .int p1, .int p2]) (rest := []) (n9 := 3) (b := (a 0)) C hw (c_X7_step_r l hst D y base S a p0 p1 p2 hX h0 hbad) gL_asked_X7_step rfl (by decide +kernel) ⟨⟨rfl, rfl⟩, Nat.le_of_ble_eq_true rfl, Nat.le_of_ble_eq_true rfl⟩ hX.1 ⟨by decide, by decide⟩ rfl rfl hl.1 rfl (Nat.le_of_ble_eq_true rfl) ⟨Nat.le_of_ble_eq_true rfl, Nat.le_of_ble_eq_true rfl⟩ dL_asked_168 (fun E ce q9 S168 H locs hx168 hw h1 h2 h3 => zxout hw hx0 hlocks h1 h2 h3 hx168 ⟨Nat.le_of_ble_eq_true rfl, Nat.le_of_ble_eq_true rfl⟩) (fun r168 S168 H locs hp168 hw => ?_)
  exact (show False from hp168.1).elim

set_option maxHeartbeats 4000000 in
set_option maxRecDepth 100000 in
/-- L_ask -/
theorem c_L_ask_p_step_r (l : Launch) (hst : l.stackTraces = false) (D : va_G) (y : Nat → ClassId) (base : Nat) (S : zS) (a : Nat → Nat) (p0 : Int32) (p1 : Int32) (p2 : Int32) (ar : Nat) (hX : zX S a) (h0 : zX0 S a) (hbad : ¬ kd_step p0 p1 p2 = 0) (hK9 : zK S ar = 22) (hN9 : zN S ar = 3) (hj0 : zR S 22 ar 0 = p0) (hj1 : zR S 22 ar 1 = p1) (hj2 : zR S 22 ar 2 = p2) (hic : ((p0.toUInt32 % 65536).toInt32) = p0) : zMi l yL_ask wsL_ask ({ frames := 9, cells := 3, slots := 18, locals := 157 }) [.ref (a 0), .int 112, .ref ar] D y base S (fun (r : Int32) (S1 : zS) => (kd_step p0 p1 p2 = 1 ∧ r = (-2000000001) ∧ S1 = S) ∨ (kd_step p0 p1 p2 = 2 ∧ r = (-2000000002) ∧ S1 = S)) 3 18 := by
  refine zMetH_of (cc := cL_ask) (maxL := 4) (ret := (some .int)) (own := RL) (hh := zhhA) (by decide +kernel) rfl rfl (Nat.le_of_ble_eq_true rfl) ?_
  intro p e s m args below meth c ls C hr hlocks hx0 hw hl
  have hx := C.1
  have hb := C.2.1
  have hown := C.2.2.2.1
  have hts := C.2.2.2.2
  have hl : lv_has ls 4 [(0, .ref (a 0)), (1, .int 112), (2, .ref ar)] := hl
  refine lv_iload_n hx hb dL_ask_0 rfl (lv_at hl 1 rfl) ?_
  refine lv_tableIn (off := 455) (tgt := 456) hx hb dL_ask_1 (by decide) (by decide) (by decide +kernel) (by decide) ?_
  refine lv_aload_n hx hb dL_ask_456 rfl (lv_at hl 0 rfl) ?_
  refine lv_iload_n hx hb dL_ask_457 rfl (lv_at hl 1 rfl) ?_
  refine lv_aload_n hx hb dL_ask_458 rfl (lv_at hl 2 rfl) ?_
  refine zcS_xi2 (As := [.ref (a 0), .int 112, .ref ar]) (rest := []) (n9 := 3) C hw (c_L_asked_p_step_r l hst D y base S a p0 p1 p2 ar hX h0 hbad hK9 hN9 hj0 hj1 hj2 hic) gL_ask_L_asked rfl (by decide +kernel) ⟨⟨rfl, rfl⟩, Nat.le_of_ble_eq_true rfl, Nat.le_of_ble_eq_true rfl⟩ rfl hl.1 rfl (Nat.le_of_ble_eq_true rfl) ⟨Nat.le_of_ble_eq_true rfl, Nat.le_of_ble_eq_true rfl⟩ dL_ask_459 (fun E9 ce q9 S459 H locs hx9 hw h1 h2 h3 => ?_) (fun r459 S459 H locs hp459 hw => ?_)
  · obtain ⟨hx9, hS9⟩ := hx9
    rcases hx9 with ⟨rfl, hk9⟩ | ⟨rfl, hk9⟩
    · refine zcatch3 (pre := zhhA.take 14) (suf := zhhA.drop 15) (pb := 456) (pe := 462) (ph := 463) (ct := 66) C hw hx0 rfl (by decide) (by decide) (by decide) zLk_ask zcn_ex (by decide +kernel) (by decide) rfl (by decide +kernel) h1 h2 h3 ?_
      refine lv_astore_n (lv' := [(3, .ref q9), (0, .ref (a 0)), (1, .int 112), (2, .ref ar)]) hx hb dL_ask_463 rfl hl (by decide) rfl (fun ls hl => ?_)
      refine lv_ldc (own := RL) (v := (-2000000001)) hx hb hown (hts (.constant RL 68 (-2000000001)) (by decide +kernel)) dL_ask_464 ?_
      exact zri C hw hr hlocks rfl (Or.inl ⟨hk9, rfl, hS9⟩) ⟨Nat.le_of_ble_eq_true rfl, Nat.le_of_ble_eq_true rfl⟩ dL_ask_466
    · refine zcatch3 (pre := zhhA.take 29) (suf := zhhA.drop 30) (pb := 456) (pe := 462) (ph := 467) (ct := 69) C hw hx0 rfl (by decide) (by decide) (by decide) zLk_ask zcn_ex (by decide +kernel) (by decide) rfl (by decide +kernel) h1 h2 h3 ?_
      refine lv_astore_n (lv' := [(3, .ref q9), (0, .ref (a 0)), (1, .int 112), (2, .ref ar)]) hx hb dL_ask_467 rfl hl (by decide) rfl (fun ls hl => ?_)
      refine lv_ldc (own := RL) (v := (-2000000002)) hx hb hown (hts (.constant RL 71 (-2000000002)) (by decide +kernel)) dL_ask_468 ?_
      exact zri C hw hr hlocks rfl (Or.inr ⟨hk9, rfl, hS9⟩) ⟨Nat.le_of_ble_eq_true rfl, Nat.le_of_ble_eq_true rfl⟩ dL_ask_470
  · exact hp459.1.elim

set_option maxHeartbeats 4000000 in
set_option maxRecDepth 100000 in
/-- L_asked -/
theorem c_L_asked_T_trigger_r (l : Launch) (hst : l.stackTraces = false) (D : va_G) (y : Nat → ClassId) (base : Nat) (S : zS) (a : Nat → Nat) (p0 : Int32) (ar : Nat) (hX : zX S a) (h0 : zX0 S a) (hK9 : zK S ar = 22) (hN9 : zN S ar = 1) (hj0 : zR S 22 ar 0 = p0) : zXi l yL_asked wsL_asked ({ frames := 8, cells := 2, slots := 12, locals := 132 }) [.ref (a 0), .int 84, .ref ar] D y base S (fun (r : Int32) (S1 : zS) => False ∧ S1 = S) (fun (E : String) (S1 : zS) => ((E = "java/lang/IndexOutOfBoundsException" ∧ kd_sample p0 = 1) ∨ (E = "java/lang/UnsupportedOperationException" ∧ kd_sample p0 = 2)) ∧ S1 = S) 2 12 := by
  refine zXet_of (cc := cL_asked) (maxL := 3) (ret := (some .int)) (own := RL) (by decide +kernel) rfl rfl (Nat.le_of_ble_eq_true rfl) ?_
  intro p e s m args below meth c ls C hr hlocks hx0 hw hl
  have hx := C.1
  have hb := C.2.1
  have hown := C.2.2.2.1
  have hts := C.2.2.2.2
  have hl : lv_has ls 3 [(0, .ref (a 0)), (1, .int 84), (2, .ref ar)] := hl
  refine lv_iload_n hx hb dL_asked_0 rfl (lv_at hl 1 rfl) ?_
  refine lv_lookup (off := 171) (tgt := 172) hx hb dL_asked_1 (by decide) (by decide +kernel) (by decide) ?_
  refine lv_aload_n hx hb dL_asked_172 rfl (lv_at hl 0 rfl) ?_
  refine lv_aload_n hx hb dL_asked_173 rfl (lv_at hl 2 rfl) ?_
  refine lv_iconst (v := 0) hx hb dL_asked_174 (by decide) ?_
  refine zald_I (a := ar) C hw hK9 hN9 (zin_of (N := 1) (by decide) (by decide) (by decide)) dL_asked_175 ?_
  refine zrd (x := p0) (zrk hj0 (by decide)) ?_
  refine zcV_xi (As := [.int p0]) (rest := []) (n9 := 1) (b := (a 0)) C hw (c_X7_trigger_r l hst D y base S a p0 hX h0) gL_asked_X7_trigger rfl (by decide +kernel) ⟨⟨rfl, rfl⟩, Nat.le_of_ble_eq_true rfl, Nat.le_of_ble_eq_true rfl⟩ hX.1 ⟨by decide, by decide⟩ rfl rfl hl.1 rfl (Nat.le_of_ble_eq_true rfl) ⟨Nat.le_of_ble_eq_true rfl, Nat.le_of_ble_eq_true rfl⟩ dL_asked_176 (fun E ce q9 S176 H locs hx176 hw h1 h2 h3 => zxout hw hx0 hlocks h1 h2 h3 hx176 ⟨Nat.le_of_ble_eq_true rfl, Nat.le_of_ble_eq_true rfl⟩) (fun r176 S176 H locs hp176 hw => ?_)
  exact (show False from hp176.1).elim

set_option maxHeartbeats 4000000 in
set_option maxRecDepth 100000 in
/-- L_ask -/
theorem c_L_ask_T_trigger_r (l : Launch) (hst : l.stackTraces = false) (D : va_G) (y : Nat → ClassId) (base : Nat) (S : zS) (a : Nat → Nat) (p0 : Int32) (ar : Nat) (hX : zX S a) (h0 : zX0 S a) (hK9 : zK S ar = 22) (hN9 : zN S ar = 1) (hj0 : zR S 22 ar 0 = p0) : zMi l yL_ask wsL_ask ({ frames := 9, cells := 2, slots := 12, locals := 154 }) [.ref (a 0), .int 84, .ref ar] D y base S (fun (r : Int32) (S1 : zS) => (kd_sample p0 = 1 ∧ r = (-2000000001) ∧ S1 = S) ∨ (kd_sample p0 = 2 ∧ r = (-2000000004) ∧ S1 = S)) 2 12 := by
  refine zMetH_of (cc := cL_ask) (maxL := 4) (ret := (some .int)) (own := RL) (hh := zhhA) (by decide +kernel) rfl rfl (Nat.le_of_ble_eq_true rfl) ?_
  intro p e s m args below meth c ls C hr hlocks hx0 hw hl
  have hx := C.1
  have hb := C.2.1
  have hown := C.2.2.2.1
  have hts := C.2.2.2.2
  have hl : lv_has ls 4 [(0, .ref (a 0)), (1, .int 84), (2, .ref ar)] := hl
  refine lv_iload_n hx hb dL_ask_0 rfl (lv_at hl 1 rfl) ?_
  refine lv_tableIn (off := 455) (tgt := 456) hx hb dL_ask_1 (by decide) (by decide) (by decide +kernel) (by decide) ?_
  refine lv_aload_n hx hb dL_ask_456 rfl (lv_at hl 0 rfl) ?_
  refine lv_iload_n hx hb dL_ask_457 rfl (lv_at hl 1 rfl) ?_
  refine lv_aload_n hx hb dL_ask_458 rfl (lv_at hl 2 rfl) ?_
  refine zcS_xi2 (As := [.ref (a 0), .int 84, .ref ar]) (rest := []) (n9 := 3) C hw (c_L_asked_T_trigger_r l hst D y base S a p0 ar hX h0 hK9 hN9 hj0) gL_ask_L_asked rfl (by decide +kernel) ⟨⟨rfl, rfl⟩, Nat.le_of_ble_eq_true rfl, Nat.le_of_ble_eq_true rfl⟩ rfl hl.1 rfl (Nat.le_of_ble_eq_true rfl) ⟨Nat.le_of_ble_eq_true rfl, Nat.le_of_ble_eq_true rfl⟩ dL_ask_459 (fun E9 ce q9 S459 H locs hx9 hw h1 h2 h3 => ?_) (fun r459 S459 H locs hp459 hw => ?_)
  · obtain ⟨hx9, hS9⟩ := hx9
    rcases hx9 with ⟨rfl, hk9⟩ | ⟨rfl, hk9⟩
    · refine zcatch3 (pre := zhhA.take 14) (suf := zhhA.drop 15) (pb := 456) (pe := 462) (ph := 463) (ct := 66) C hw hx0 rfl (by decide) (by decide) (by decide) zLk_ask zcn_ex (by decide +kernel) (by decide) rfl (by decide +kernel) h1 h2 h3 ?_
      refine lv_astore_n (lv' := [(3, .ref q9), (0, .ref (a 0)), (1, .int 84), (2, .ref ar)]) hx hb dL_ask_463 rfl hl (by decide) rfl (fun ls hl => ?_)
      refine lv_ldc (own := RL) (v := (-2000000001)) hx hb hown (hts (.constant RL 68 (-2000000001)) (by decide +kernel)) dL_ask_464 ?_
      exact zri C hw hr hlocks rfl (Or.inl ⟨hk9, rfl, hS9⟩) ⟨Nat.le_of_ble_eq_true rfl, Nat.le_of_ble_eq_true rfl⟩ dL_ask_466
    · refine zcatch3 (pre := zhhA.take 59) (suf := zhhA.drop 60) (pb := 456) (pe := 462) (ph := 475) (ct := 75) C hw hx0 rfl (by decide) (by decide) (by decide) zLk_ask zcn_ex (by decide +kernel) (by decide) rfl (by decide +kernel) h1 h2 h3 ?_
      refine lv_astore_n (lv' := [(3, .ref q9), (0, .ref (a 0)), (1, .int 84), (2, .ref ar)]) hx hb dL_ask_475 rfl hl (by decide) rfl (fun ls hl => ?_)
      refine lv_ldc (own := RL) (v := (-2000000004)) hx hb hown (hts (.constant RL 77 (-2000000004)) (by decide +kernel)) dL_ask_476 ?_
      exact zri C hw hr hlocks rfl (Or.inr ⟨hk9, rfl, hS9⟩) ⟨Nat.le_of_ble_eq_true rfl, Nat.le_of_ble_eq_true rfl⟩ dL_ask_478
  · exact hp459.1.elim

set_option maxHeartbeats 4000000 in
set_option maxRecDepth 100000 in
/-- L_asked -/
theorem c_L_asked_1_decodeSerial_r (l : Launch) (hst : l.stackTraces = false) (D : va_G) (y : Nat → ClassId) (base : Nat) (S : zS) (a : Nat → Nat) (p0 : Int32) (p1 : Int32) (p2 : Int32) (p3 : Int32) (ar : Nat) (hX : zX S a) (h0 : zX0 S a) (hK9 : zK S ar = 22) (hN9 : zN S ar = 4) (hj0 : zR S 22 ar 0 = p0) (hj1 : zR S 22 ar 1 = p1) (hj2 : zR S 22 ar 2 = p2) (hj3 : zR S 22 ar 3 = p3) (hic : ((p3.toUInt32 % 65536).toInt32) = p3) : zXi l yL_asked wsL_asked ({ frames := 8, cells := 4, slots := 24, locals := 139 }) [.ref (a 0), .int 49, .ref ar] D y base S (fun (r : Int32) (S1 : zS) => r = 0 ∧ kd_decodeSerial p0 p1 p2 p3 = 0 ∧ S1 = zsI S 112 (a 4) 0) (fun (E : String) (S1 : zS) => ((E = "java/lang/IndexOutOfBoundsException" ∧ kd_decodeSerial p0 p1 p2 p3 = 1) ∨ (E = "java/lang/IllegalArgumentException" ∧ kd_decodeSerial p0 p1 p2 p3 = 2)) ∧ S1 = S) 4 24 := by
  refine zXet_of (cc := cL_asked) (maxL := 3) (ret := (some .int)) (own := RL) (by decide +kernel) rfl rfl (Nat.le_of_ble_eq_true rfl) ?_
  intro p e s m args below meth c ls C hr hlocks hx0 hw hl
  have hx := C.1
  have hb := C.2.1
  have hown := C.2.2.2.1
  have hts := C.2.2.2.2
  have hl : lv_has ls 3 [(0, .ref (a 0)), (1, .int 49), (2, .ref ar)] := hl
  refine lv_iload_n hx hb dL_asked_0 rfl (lv_at hl 1 rfl) ?_
  refine lv_lookup (off := 179) (tgt := 180) hx hb dL_asked_1 (by decide) (by decide +kernel) (by decide) ?_
  refine lv_aload_n hx hb dL_asked_180 rfl (lv_at hl 0 rfl) ?_
  refine lv_aload_n hx hb dL_asked_181 rfl (lv_at hl 2 rfl) ?_
  refine lv_iconst (v := 0) hx hb dL_asked_182 (by decide) ?_
  refine zald_I (a := ar) C hw hK9 hN9 (zin_of (N := 4) (by decide) (by decide) (by decide)) dL_asked_183 ?_
  refine zrd (x := p0) (zrk hj0 (by decide)) ?_
  refine lv_aload_n hx hb dL_asked_184 rfl (lv_at hl 2 rfl) ?_
  refine lv_iconst (v := 1) hx hb dL_asked_185 (by decide) ?_
  refine zald_I (a := ar) C hw hK9 hN9 (zin_of (N := 4) (by decide) (by decide) (by decide)) dL_asked_186 ?_
  refine zrd (x := p1) (zrk hj1 (by decide)) ?_
  refine lv_aload_n hx hb dL_asked_187 rfl (lv_at hl 2 rfl) ?_
  refine lv_iconst (v := 2) hx hb dL_asked_188 (by decide) ?_
  refine zald_I (a := ar) C hw hK9 hN9 (zin_of (N := 4) (by decide) (by decide) (by decide)) dL_asked_189 ?_
  refine zrd (x := p2) (zrk hj2 (by decide)) ?_
  refine lv_aload_n hx hb dL_asked_190 rfl (lv_at hl 2 rfl) ?_
  refine lv_iconst (v := 3) hx hb dL_asked_191 (by decide) ?_
  refine zald_I (a := ar) C hw hK9 hN9 (zin_of (N := 4) (by decide) (by decide) (by decide)) dL_asked_192 ?_
  refine zrd (x := p3) (zrk hj3 (by decide)) ?_
  refine lv_i2c (v := (p3.toUInt32 % 65536).toInt32) hx hb dL_asked_193 rfl ?_
  refine zrd (x := p3) hic ?_
  refine zcV_xi (As := [.int p0, .int p1, .int p2, .int p3]) (rest := []) (n9 := 4) (b := (a 0)) C hw (c_X7_decodeSerial_r l hst D y base S a p0 p1 p2 p3 hX h0) gL_asked_X7_decodeSerial rfl (by decide +kernel) ⟨⟨rfl, rfl⟩, Nat.le_of_ble_eq_true rfl, Nat.le_of_ble_eq_true rfl⟩ hX.1 ⟨by decide, by decide⟩ rfl rfl hl.1 rfl (Nat.le_of_ble_eq_true rfl) ⟨Nat.le_of_ble_eq_true rfl, Nat.le_of_ble_eq_true rfl⟩ dL_asked_194 (fun E ce q9 S194 H locs hx194 hw h1 h2 h3 => zxout hw hx0 hlocks h1 h2 h3 hx194 ⟨Nat.le_of_ble_eq_true rfl, Nat.le_of_ble_eq_true rfl⟩) (fun r194 S194 H locs hp194 hw => ?_)
  exact vx_ret (zri C hw hr hlocks rfl hp194 ⟨Nat.le_of_ble_eq_true rfl, Nat.le_of_ble_eq_true rfl⟩ dL_asked_197)

set_option maxHeartbeats 4000000 in
set_option maxRecDepth 100000 in
/-- L_ask -/
theorem c_L_ask_1_decodeSerial_r (l : Launch) (hst : l.stackTraces = false) (D : va_G) (y : Nat → ClassId) (base : Nat) (S : zS) (a : Nat → Nat) (p0 : Int32) (p1 : Int32) (p2 : Int32) (p3 : Int32) (ar : Nat) (hX : zX S a) (h0 : zX0 S a) (hK9 : zK S ar = 22) (hN9 : zN S ar = 4) (hj0 : zR S 22 ar 0 = p0) (hj1 : zR S 22 ar 1 = p1) (hj2 : zR S 22 ar 2 = p2) (hj3 : zR S 22 ar 3 = p3) (hic : ((p3.toUInt32 % 65536).toInt32) = p3) : zMi l yL_ask wsL_ask ({ frames := 9, cells := 4, slots := 24, locals := 161 }) [.ref (a 0), .int 49, .ref ar] D y base S (fun (r : Int32) (S1 : zS) => (kd_decodeSerial p0 p1 p2 p3 = 1 ∧ r = (-2000000001) ∧ S1 = S) ∨ (kd_decodeSerial p0 p1 p2 p3 = 2 ∧ r = (-2000000002) ∧ S1 = S) ∨ (kd_decodeSerial p0 p1 p2 p3 = 0 ∧ r = 0 ∧ S1 = zsI S 112 (a 4) 0)) 4 24 := by
  refine zMetH_of (cc := cL_ask) (maxL := 4) (ret := (some .int)) (own := RL) (hh := zhhA) (by decide +kernel) rfl rfl (Nat.le_of_ble_eq_true rfl) ?_
  intro p e s m args below meth c ls C hr hlocks hx0 hw hl
  have hx := C.1
  have hb := C.2.1
  have hown := C.2.2.2.1
  have hts := C.2.2.2.2
  have hl : lv_has ls 4 [(0, .ref (a 0)), (1, .int 49), (2, .ref ar)] := hl
  refine lv_iload_n hx hb dL_ask_0 rfl (lv_at hl 1 rfl) ?_
  refine lv_tableOut (tgt := 456) hx hb dL_ask_1 (by decide) (by decide) ?_
  refine lv_aload_n hx hb dL_ask_456 rfl (lv_at hl 0 rfl) ?_
  refine lv_iload_n hx hb dL_ask_457 rfl (lv_at hl 1 rfl) ?_
  refine lv_aload_n hx hb dL_ask_458 rfl (lv_at hl 2 rfl) ?_
  refine zcS_xi2 (As := [.ref (a 0), .int 49, .ref ar]) (rest := []) (n9 := 3) C hw (c_L_asked_1_decodeSerial_r l hst D y base S a p0 p1 p2 p3 ar hX h0 hK9 hN9 hj0 hj1 hj2 hj3 hic) gL_ask_L_asked rfl (by decide +kernel) ⟨⟨rfl, rfl⟩, Nat.le_of_ble_eq_true rfl, Nat.le_of_ble_eq_true rfl⟩ rfl hl.1 rfl (Nat.le_of_ble_eq_true rfl) ⟨Nat.le_of_ble_eq_true rfl, Nat.le_of_ble_eq_true rfl⟩ dL_ask_459 (fun E9 ce q9 S459 H locs hx9 hw h1 h2 h3 => ?_) (fun r459 S459 H locs hp459 hw => ?_)
  · obtain ⟨hx9, hS9⟩ := hx9
    rcases hx9 with ⟨rfl, hk9⟩ | ⟨rfl, hk9⟩
    · refine zcatch3 (pre := zhhA.take 14) (suf := zhhA.drop 15) (pb := 456) (pe := 462) (ph := 463) (ct := 66) C hw hx0 rfl (by decide) (by decide) (by decide) zLk_ask zcn_ex (by decide +kernel) (by decide) rfl (by decide +kernel) h1 h2 h3 ?_
      refine lv_astore_n (lv' := [(3, .ref q9), (0, .ref (a 0)), (1, .int 49), (2, .ref ar)]) hx hb dL_ask_463 rfl hl (by decide) rfl (fun ls hl => ?_)
      refine lv_ldc (own := RL) (v := (-2000000001)) hx hb hown (hts (.constant RL 68 (-2000000001)) (by decide +kernel)) dL_ask_464 ?_
      exact zri C hw hr hlocks rfl (Or.inl ⟨hk9, rfl, hS9⟩) ⟨Nat.le_of_ble_eq_true rfl, Nat.le_of_ble_eq_true rfl⟩ dL_ask_466
    · refine zcatch3 (pre := zhhA.take 29) (suf := zhhA.drop 30) (pb := 456) (pe := 462) (ph := 467) (ct := 69) C hw hx0 rfl (by decide) (by decide) (by decide) zLk_ask zcn_ex (by decide +kernel) (by decide) rfl (by decide +kernel) h1 h2 h3 ?_
      refine lv_astore_n (lv' := [(3, .ref q9), (0, .ref (a 0)), (1, .int 49), (2, .ref ar)]) hx hb dL_ask_467 rfl hl (by decide) rfl (fun ls hl => ?_)
      refine lv_ldc (own := RL) (v := (-2000000002)) hx hb hown (hts (.constant RL 71 (-2000000002)) (by decide +kernel)) dL_ask_468 ?_
      exact zri C hw hr hlocks rfl (Or.inr (Or.inl ⟨hk9, rfl, hS9⟩)) ⟨Nat.le_of_ble_eq_true rfl, Nat.le_of_ble_eq_true rfl⟩ dL_ask_470
  · exact zri C hw hr hlocks rfl (Or.inr (Or.inr ⟨hp459.2.1, hp459.1, hp459.2.2⟩)) ⟨Nat.le_of_ble_eq_true rfl, Nat.le_of_ble_eq_true rfl⟩ dL_ask_462

set_option maxHeartbeats 4000000 in
set_option maxRecDepth 100000 in
/-- L_asked -/
theorem c_L_asked_2_decodeTwo_r (l : Launch) (hst : l.stackTraces = false) (D : va_G) (y : Nat → ClassId) (base : Nat) (S : zS) (a : Nat → Nat) (p0 : Int32) (p1 : Int32) (p2 : Int32) (ar : Nat) (hX : zX S a) (h0 : zX0 S a) (hbad : ¬ kd_decodeTwo p0 p1 p2 = 0) (hK9 : zK S ar = 22) (hN9 : zN S ar = 3) (hj0 : zR S 22 ar 0 = p0) (hj1 : zR S 22 ar 1 = p1) (hj2 : zR S 22 ar 2 = p2) : zXi l yL_asked wsL_asked ({ frames := 8, cells := 4, slots := 24, locals := 137 }) [.ref (a 0), .int 50, .ref ar] D y base S (fun (r : Int32) (S1 : zS) => False ∧ S1 = S) (fun (E : String) (S1 : zS) => ((E = "java/lang/IndexOutOfBoundsException" ∧ kd_decodeTwo p0 p1 p2 = 1) ∨ (E = "java/lang/IllegalArgumentException" ∧ kd_decodeTwo p0 p1 p2 = 2)) ∧ S1 = S) 4 24 := by
  refine zXet_of (cc := cL_asked) (maxL := 3) (ret := (some .int)) (own := RL) (by decide +kernel) rfl rfl (Nat.le_of_ble_eq_true rfl) ?_
  intro p e s m args below meth c ls C hr hlocks hx0 hw hl
  have hx := C.1
  have hb := C.2.1
  have hown := C.2.2.2.1
  have hts := C.2.2.2.2
  have hl : lv_has ls 3 [(0, .ref (a 0)), (1, .int 50), (2, .ref ar)] := hl
  refine lv_iload_n hx hb dL_asked_0 rfl (lv_at hl 1 rfl) ?_
  refine lv_lookup (off := 197) (tgt := 198) hx hb dL_asked_1 (by decide) (by decide +kernel) (by decide) ?_
  refine lv_aload_n hx hb dL_asked_198 rfl (lv_at hl 0 rfl) ?_
  refine lv_aload_n hx hb dL_asked_199 rfl (lv_at hl 2 rfl) ?_
  refine lv_iconst (v := 0) hx hb dL_asked_200 (by decide) ?_
  refine zald_I (a := ar) C hw hK9 hN9 (zin_of (N := 3) (by decide) (by decide) (by decide)) dL_asked_201 ?_
  refine zrd (x := p0) (zrk hj0 (by decide)) ?_
  refine lv_aload_n hx hb dL_asked_202 rfl (lv_at hl 2 rfl) ?_
  refine lv_iconst (v := 1) hx hb dL_asked_203 (by decide) ?_
  refine zald_I (a := ar) C hw hK9 hN9 (zin_of (N := 3) (by decide) (by decide) (by decide)) dL_asked_204 ?_
  refine zrd (x := p1) (zrk hj1 (by decide)) ?_
  refine lv_aload_n hx hb dL_asked_205 rfl (lv_at hl 2 rfl) ?_
  refine lv_iconst (v := 2) hx hb dL_asked_206 (by decide) ?_
  refine zald_I (a := ar) C hw hK9 hN9 (zin_of (N := 3) (by decide) (by decide) (by decide)) dL_asked_207 ?_
  refine zrd (x := p2) (zrk hj2 (by decide)) ?_
  refine zcV_xi (As := [.int p0, .int p1, .int p2]) (rest := []) (n9 := 3) (b := (a 0)) C hw (c_X7_decodeTwo_r l hst D y base S a p0 p1 p2 hX h0 hbad) gL_asked_X7_decodeTwo rfl (by decide +kernel) ⟨⟨rfl, rfl⟩, Nat.le_of_ble_eq_true rfl, Nat.le_of_ble_eq_true rfl⟩ hX.1 ⟨by decide, by decide⟩ rfl rfl hl.1 rfl (Nat.le_of_ble_eq_true rfl) ⟨Nat.le_of_ble_eq_true rfl, Nat.le_of_ble_eq_true rfl⟩ dL_asked_208 (fun E ce q9 S208 H locs hx208 hw h1 h2 h3 => zxout hw hx0 hlocks h1 h2 h3 hx208 ⟨Nat.le_of_ble_eq_true rfl, Nat.le_of_ble_eq_true rfl⟩) (fun r208 S208 H locs hp208 hw => ?_)
  exact (show False from hp208.1).elim

set_option maxHeartbeats 4000000 in
set_option maxRecDepth 100000 in
/-- L_ask -/
theorem c_L_ask_2_decodeTwo_r (l : Launch) (hst : l.stackTraces = false) (D : va_G) (y : Nat → ClassId) (base : Nat) (S : zS) (a : Nat → Nat) (p0 : Int32) (p1 : Int32) (p2 : Int32) (ar : Nat) (hX : zX S a) (h0 : zX0 S a) (hbad : ¬ kd_decodeTwo p0 p1 p2 = 0) (hK9 : zK S ar = 22) (hN9 : zN S ar = 3) (hj0 : zR S 22 ar 0 = p0) (hj1 : zR S 22 ar 1 = p1) (hj2 : zR S 22 ar 2 = p2) : zMi l yL_ask wsL_ask ({ frames := 9, cells := 4, slots := 24, locals := 159 }) [.ref (a 0), .int 50, .ref ar] D y base S (fun (r : Int32) (S1 : zS) => (kd_decodeTwo p0 p1 p2 = 1 ∧ r = (-2000000001) ∧ S1 = S) ∨ (kd_decodeTwo p0 p1 p2 = 2 ∧ r = (-2000000002) ∧ S1 = S)) 4 24 := by
  refine zMetH_of (cc := cL_ask) (maxL := 4) (ret := (some .int)) (own := RL) (hh := zhhA) (by decide +kernel) rfl rfl (Nat.le_of_ble_eq_true rfl) ?_
  intro p e s m args below meth c ls C hr hlocks hx0 hw hl
  have hx := C.1
  have hb := C.2.1
  have hown := C.2.2.2.1
  have hts := C.2.2.2.2
  have hl : lv_has ls 4 [(0, .ref (a 0)), (1, .int 50), (2, .ref ar)] := hl
  refine lv_iload_n hx hb dL_ask_0 rfl (lv_at hl 1 rfl) ?_
  refine lv_tableOut (tgt := 456) hx hb dL_ask_1 (by decide) (by decide) ?_
  refine lv_aload_n hx hb dL_ask_456 rfl (lv_at hl 0 rfl) ?_
  refine lv_iload_n hx hb dL_ask_457 rfl (lv_at hl 1 rfl) ?_
  refine lv_aload_n hx hb dL_ask_458 rfl (lv_at hl 2 rfl) ?_
  refine zcS_xi2 (As := [.ref (a 0), .int 50, .ref ar]) (rest := []) (n9 := 3) C hw (c_L_asked_2_decodeTwo_r l hst D y base S a p0 p1 p2 ar hX h0 hbad hK9 hN9 hj0 hj1 hj2) gL_ask_L_asked rfl (by decide +kernel) ⟨⟨rfl, rfl⟩, Nat.le_of_ble_eq_true rfl, Nat.le_of_ble_eq_true rfl⟩ rfl hl.1 rfl (Nat.le_of_ble_eq_true rfl) ⟨Nat.le_of_ble_eq_true rfl, Nat.le_of_ble_eq_true rfl⟩ dL_ask_459 (fun E9 ce q9 S459 H locs hx9 hw h1 h2 h3 => ?_) (fun r459 S459 H locs hp459 hw => ?_)
  · obtain ⟨hx9, hS9⟩ := hx9
    rcases hx9 with ⟨rfl, hk9⟩ | ⟨rfl, hk9⟩
    · refine zcatch3 (pre := zhhA.take 14) (suf := zhhA.drop 15) (pb := 456) (pe := 462) (ph := 463) (ct := 66) C hw hx0 rfl (by decide) (by decide) (by decide) zLk_ask zcn_ex (by decide +kernel) (by decide) rfl (by decide +kernel) h1 h2 h3 ?_
      refine lv_astore_n (lv' := [(3, .ref q9), (0, .ref (a 0)), (1, .int 50), (2, .ref ar)]) hx hb dL_ask_463 rfl hl (by decide) rfl (fun ls hl => ?_)
      refine lv_ldc (own := RL) (v := (-2000000001)) hx hb hown (hts (.constant RL 68 (-2000000001)) (by decide +kernel)) dL_ask_464 ?_
      exact zri C hw hr hlocks rfl (Or.inl ⟨hk9, rfl, hS9⟩) ⟨Nat.le_of_ble_eq_true rfl, Nat.le_of_ble_eq_true rfl⟩ dL_ask_466
    · refine zcatch3 (pre := zhhA.take 29) (suf := zhhA.drop 30) (pb := 456) (pe := 462) (ph := 467) (ct := 69) C hw hx0 rfl (by decide) (by decide) (by decide) zLk_ask zcn_ex (by decide +kernel) (by decide) rfl (by decide +kernel) h1 h2 h3 ?_
      refine lv_astore_n (lv' := [(3, .ref q9), (0, .ref (a 0)), (1, .int 50), (2, .ref ar)]) hx hb dL_ask_467 rfl hl (by decide) rfl (fun ls hl => ?_)
      refine lv_ldc (own := RL) (v := (-2000000002)) hx hb hown (hts (.constant RL 71 (-2000000002)) (by decide +kernel)) dL_ask_468 ?_
      exact zri C hw hr hlocks rfl (Or.inr ⟨hk9, rfl, hS9⟩) ⟨Nat.le_of_ble_eq_true rfl, Nat.le_of_ble_eq_true rfl⟩ dL_ask_470
  · exact hp459.1.elim

set_option maxHeartbeats 4000000 in
set_option maxRecDepth 100000 in
/-- L_asked -/
theorem c_L_asked_4_decodeFour_r (l : Launch) (hst : l.stackTraces = false) (D : va_G) (y : Nat → ClassId) (base : Nat) (S : zS) (a : Nat → Nat) (p0 : Int32) (p1 : Int32) (p2 : Int32) (p3 : Int32) (p4 : Int32) (ar : Nat) (hX : zX S a) (h0 : zX0 S a) (hbad : ¬ kd_decodeFour p0 p1 p2 p3 p4 = 0) (hK9 : zK S ar = 22) (hN9 : zN S ar = 5) (hj0 : zR S 22 ar 0 = p0) (hj1 : zR S 22 ar 1 = p1) (hj2 : zR S 22 ar 2 = p2) (hj3 : zR S 22 ar 3 = p3) (hj4 : zR S 22 ar 4 = p4) : zXi l yL_asked wsL_asked ({ frames := 9, cells := 8, slots := 48, locals := 162 }) [.ref (a 0), .int 52, .ref ar] D y base S (fun (r : Int32) (S1 : zS) => False ∧ S1 = S) (fun (E : String) (S1 : zS) => ((E = "java/lang/IndexOutOfBoundsException" ∧ kd_decodeFour p0 p1 p2 p3 p4 = 1) ∨ (E = "java/lang/IllegalArgumentException" ∧ kd_decodeFour p0 p1 p2 p3 p4 = 2)) ∧ S1 = S) 8 48 := by
  refine zXet_of (cc := cL_asked) (maxL := 3) (ret := (some .int)) (own := RL) (by decide +kernel) rfl rfl (Nat.le_of_ble_eq_true rfl) ?_
  intro p e s m args below meth c ls C hr hlocks hx0 hw hl
  have hx := C.1
  have hb := C.2.1
  have hown := C.2.2.2.1
  have hts := C.2.2.2.2
  have hl : lv_has ls 3 [(0, .ref (a 0)), (1, .int 52), (2, .ref ar)] := hl
  refine lv_iload_n hx hb dL_asked_0 rfl (lv_at hl 1 rfl) ?_
  refine lv_lookup (off := 211) (tgt := 212) hx hb dL_asked_1 (by decide) (by decide +kernel) (by decide) ?_
  refine lv_aload_n hx hb dL_asked_212 rfl (lv_at hl 0 rfl) ?_
  refine lv_aload_n hx hb dL_asked_213 rfl (lv_at hl 2 rfl) ?_
  refine lv_iconst (v := 0) hx hb dL_asked_214 (by decide) ?_
  refine zald_I (a := ar) C hw hK9 hN9 (zin_of (N := 5) (by decide) (by decide) (by decide)) dL_asked_215 ?_
  refine zrd (x := p0) (zrk hj0 (by decide)) ?_
  refine lv_aload_n hx hb dL_asked_216 rfl (lv_at hl 2 rfl) ?_
  refine lv_iconst (v := 1) hx hb dL_asked_217 (by decide) ?_
  refine zald_I (a := ar) C hw hK9 hN9 (zin_of (N := 5) (by decide) (by decide) (by decide)) dL_asked_218 ?_
  refine zrd (x := p1) (zrk hj1 (by decide)) ?_
  refine lv_aload_n hx hb dL_asked_219 rfl (lv_at hl 2 rfl) ?_
  refine lv_iconst (v := 2) hx hb dL_asked_220 (by decide) ?_
  refine zald_I (a := ar) C hw hK9 hN9 (zin_of (N := 5) (by decide) (by decide) (by decide)) dL_asked_221 ?_
  refine zrd (x := p2) (zrk hj2 (by decide)) ?_
  refine lv_aload_n hx hb dL_asked_222 rfl (lv_at hl 2 rfl) ?_
  refine lv_iconst (v := 3) hx hb dL_asked_223 (by decide) ?_
  refine zald_I (a := ar) C hw hK9 hN9 (zin_of (N := 5) (by decide) (by decide) (by decide)) dL_asked_224 ?_
  refine zrd (x := p3) (zrk hj3 (by decide)) ?_
  refine lv_aload_n hx hb dL_asked_225 rfl (lv_at hl 2 rfl) ?_
  refine lv_iconst (v := 4) hx hb dL_asked_226 (by decide) ?_
  refine zald_I (a := ar) C hw hK9 hN9 (zin_of (N := 5) (by decide) (by decide) (by decide)) dL_asked_227 ?_
  refine zrd (x := p4) (zrk hj4 (by decide)) ?_
  refine zcV_xi (As := [.int p0, .int p1, .int p2, .int p3, .int p4]) (rest := []) (n9 := 5) (b := (a 0)) C hw (c_X7_decodeFour_r l hst D y base S a p0 p1 p2 p3 p4 hX h0 hbad) gL_asked_X7_decodeFour rfl (by decide +kernel) ⟨⟨rfl, rfl⟩, Nat.le_of_ble_eq_true rfl, Nat.le_of_ble_eq_true rfl⟩ hX.1 ⟨by decide, by decide⟩ rfl rfl hl.1 rfl (Nat.le_of_ble_eq_true rfl) ⟨Nat.le_of_ble_eq_true rfl, Nat.le_of_ble_eq_true rfl⟩ dL_asked_228 (fun E ce q9 S228 H locs hx228 hw h1 h2 h3 => zxout hw hx0 hlocks h1 h2 h3 hx228 ⟨Nat.le_of_ble_eq_true rfl, Nat.le_of_ble_eq_true rfl⟩) (fun r228 S228 H locs hp228 hw => ?_)
  exact (show False from hp228.1).elim

set_option maxHeartbeats 4000000 in
set_option maxRecDepth 100000 in
/-- L_ask -/
theorem c_L_ask_4_decodeFour_r (l : Launch) (hst : l.stackTraces = false) (D : va_G) (y : Nat → ClassId) (base : Nat) (S : zS) (a : Nat → Nat) (p0 : Int32) (p1 : Int32) (p2 : Int32) (p3 : Int32) (p4 : Int32) (ar : Nat) (hX : zX S a) (h0 : zX0 S a) (hbad : ¬ kd_decodeFour p0 p1 p2 p3 p4 = 0) (hK9 : zK S ar = 22) (hN9 : zN S ar = 5) (hj0 : zR S 22 ar 0 = p0) (hj1 : zR S 22 ar 1 = p1) (hj2 : zR S 22 ar 2 = p2) (hj3 : zR S 22 ar 3 = p3) (hj4 : zR S 22 ar 4 = p4) : zMi l yL_ask wsL_ask ({ frames := 10, cells := 8, slots := 48, locals := 184 }) [.ref (a 0), .int 52, .ref ar] D y base S (fun (r : Int32) (S1 : zS) => (kd_decodeFour p0 p1 p2 p3 p4 = 1 ∧ r = (-2000000001) ∧ S1 = S) ∨ (kd_decodeFour p0 p1 p2 p3 p4 = 2 ∧ r = (-2000000002) ∧ S1 = S)) 8 48 := by
  refine zMetH_of (cc := cL_ask) (maxL := 4) (ret := (some .int)) (own := RL) (hh := zhhA) (by decide +kernel) rfl rfl (Nat.le_of_ble_eq_true rfl) ?_
  intro p e s m args below meth c ls C hr hlocks hx0 hw hl
  have hx := C.1
  have hb := C.2.1
  have hown := C.2.2.2.1
  have hts := C.2.2.2.2
  have hl : lv_has ls 4 [(0, .ref (a 0)), (1, .int 52), (2, .ref ar)] := hl
  refine lv_iload_n hx hb dL_ask_0 rfl (lv_at hl 1 rfl) ?_
  refine lv_tableOut (tgt := 456) hx hb dL_ask_1 (by decide) (by decide) ?_
  refine lv_aload_n hx hb dL_ask_456 rfl (lv_at hl 0 rfl) ?_
  refine lv_iload_n hx hb dL_ask_457 rfl (lv_at hl 1 rfl) ?_
  refine lv_aload_n hx hb dL_ask_458 rfl (lv_at hl 2 rfl) ?_
  refine zcS_xi2 (As := [.ref (a 0), .int 52, .ref ar]) (rest := []) (n9 := 3) C hw (c_L_asked_4_decodeFour_r l hst D y base S a p0 p1 p2 p3 p4 ar hX h0 hbad hK9 hN9 hj0 hj1 hj2 hj3 hj4) gL_ask_L_asked rfl (by decide +kernel) ⟨⟨rfl, rfl⟩, Nat.le_of_ble_eq_true rfl, Nat.le_of_ble_eq_true rfl⟩ rfl hl.1 rfl (Nat.le_of_ble_eq_true rfl) ⟨Nat.le_of_ble_eq_true rfl, Nat.le_of_ble_eq_true rfl⟩ dL_ask_459 (fun E9 ce q9 S459 H locs hx9 hw h1 h2 h3 => ?_) (fun r459 S459 H locs hp459 hw => ?_)
  · obtain ⟨hx9, hS9⟩ := hx9
    rcases hx9 with ⟨rfl, hk9⟩ | ⟨rfl, hk9⟩
    · refine zcatch3 (pre := zhhA.take 14) (suf := zhhA.drop 15) (pb := 456) (pe := 462) (ph := 463) (ct := 66) C hw hx0 rfl (by decide) (by decide) (by decide) zLk_ask zcn_ex (by decide +kernel) (by decide) rfl (by decide +kernel) h1 h2 h3 ?_
      refine lv_astore_n (lv' := [(3, .ref q9), (0, .ref (a 0)), (1, .int 52), (2, .ref ar)]) hx hb dL_ask_463 rfl hl (by decide) rfl (fun ls hl => ?_)
      refine lv_ldc (own := RL) (v := (-2000000001)) hx hb hown (hts (.constant RL 68 (-2000000001)) (by decide +kernel)) dL_ask_464 ?_
      exact zri C hw hr hlocks rfl (Or.inl ⟨hk9, rfl, hS9⟩) ⟨Nat.le_of_ble_eq_true rfl, Nat.le_of_ble_eq_true rfl⟩ dL_ask_466
    · refine zcatch3 (pre := zhhA.take 29) (suf := zhhA.drop 30) (pb := 456) (pe := 462) (ph := 467) (ct := 69) C hw hx0 rfl (by decide) (by decide) (by decide) zLk_ask zcn_ex (by decide +kernel) (by decide) rfl (by decide +kernel) h1 h2 h3 ?_
      refine lv_astore_n (lv' := [(3, .ref q9), (0, .ref (a 0)), (1, .int 52), (2, .ref ar)]) hx hb dL_ask_467 rfl hl (by decide) rfl (fun ls hl => ?_)
      refine lv_ldc (own := RL) (v := (-2000000002)) hx hb hown (hts (.constant RL 71 (-2000000002)) (by decide +kernel)) dL_ask_468 ?_
      exact zri C hw hr hlocks rfl (Or.inr ⟨hk9, rfl, hS9⟩) ⟨Nat.le_of_ble_eq_true rfl, Nat.le_of_ble_eq_true rfl⟩ dL_ask_470
  · exact hp459.1.elim

set_option maxHeartbeats 4000000 in
set_option maxRecDepth 100000 in
/-- L_asked -/
theorem c_L_asked_k_kind_r (l : Launch) (hst : l.stackTraces = false) (D : va_G) (y : Nat → ClassId) (base : Nat) (S : zS) (a : Nat → Nat) (p0 : Int32) (ar : Nat) (hX : zX S a) (h0 : zX0 S a) (hK9 : zK S ar = 22) (hN9 : zN S ar = 1) (hj0 : zR S 22 ar 0 = p0) : zXi l yL_asked wsL_asked ({ frames := 8, cells := 1, slots := 6, locals := 132 }) [.ref (a 0), .int 107, .ref ar] D y base S (fun (r : Int32) (S1 : zS) => False ∧ S1 = S) (fun (E : String) (S1 : zS) => ((E = "java/lang/IndexOutOfBoundsException" ∧ 1 = 1)) ∧ S1 = S) 1 6 := by
  refine zXet_of (cc := cL_asked) (maxL := 3) (ret := (some .int)) (own := RL) (by decide +kernel) rfl rfl (Nat.le_of_ble_eq_true rfl) ?_
  intro p e s m args below meth c ls C hr hlocks hx0 hw hl
  have hx := C.1
  have hb := C.2.1
  have hown := C.2.2.2.1
  have hts := C.2.2.2.2
  have hl : lv_has ls 3 [(0, .ref (a 0)), (1, .int 107), (2, .ref ar)] := hl
  refine lv_iload_n hx hb dL_asked_0 rfl (lv_at hl 1 rfl) ?_
  refine lv_lookup (off := 231) (tgt := 232) hx hb dL_asked_1 (by decide) (by decide +kernel) (by decide) ?_
  refine lv_aload_n hx hb dL_asked_232 rfl (lv_at hl 0 rfl) ?_
  refine lv_aload_n hx hb dL_asked_233 rfl (lv_at hl 2 rfl) ?_
  refine lv_iconst (v := 0) hx hb dL_asked_234 (by decide) ?_
  refine zald_I (a := ar) C hw hK9 hN9 (zin_of (N := 1) (by decide) (by decide) (by decide)) dL_asked_235 ?_
  refine zrd (x := p0) (zrk hj0 (by decide)) ?_
  refine zcV_xi (As := [.int p0]) (rest := []) (n9 := 1) (b := (a 0)) C hw (c_X7_kind_r l hst D y base S a p0 hX h0) gL_asked_X7_kind rfl (by decide +kernel) ⟨⟨rfl, rfl⟩, Nat.le_of_ble_eq_true rfl, Nat.le_of_ble_eq_true rfl⟩ hX.1 ⟨by decide, by decide⟩ rfl rfl hl.1 rfl (Nat.le_of_ble_eq_true rfl) ⟨Nat.le_of_ble_eq_true rfl, Nat.le_of_ble_eq_true rfl⟩ dL_asked_236 (fun E ce q9 S236 H locs hx236 hw h1 h2 h3 => zxout hw hx0 hlocks h1 h2 h3 hx236 ⟨Nat.le_of_ble_eq_true rfl, Nat.le_of_ble_eq_true rfl⟩) (fun r236 S236 H locs hp236 hw => ?_)
  exact (show False from hp236.1).elim

set_option maxHeartbeats 4000000 in
set_option maxRecDepth 100000 in
/-- L_ask -/
theorem c_L_ask_k_kind_r (l : Launch) (hst : l.stackTraces = false) (D : va_G) (y : Nat → ClassId) (base : Nat) (S : zS) (a : Nat → Nat) (p0 : Int32) (ar : Nat) (hX : zX S a) (h0 : zX0 S a) (hK9 : zK S ar = 22) (hN9 : zN S ar = 1) (hj0 : zR S 22 ar 0 = p0) : zMi l yL_ask wsL_ask ({ frames := 9, cells := 1, slots := 6, locals := 154 }) [.ref (a 0), .int 107, .ref ar] D y base S (fun (r : Int32) (S1 : zS) => (1 = 1 ∧ r = (-2000000001) ∧ S1 = S)) 1 6 := by
  refine zMetH_of (cc := cL_ask) (maxL := 4) (ret := (some .int)) (own := RL) (hh := zhhA) (by decide +kernel) rfl rfl (Nat.le_of_ble_eq_true rfl) ?_
  intro p e s m args below meth c ls C hr hlocks hx0 hw hl
  have hx := C.1
  have hb := C.2.1
  have hown := C.2.2.2.1
  have hts := C.2.2.2.2
  have hl : lv_has ls 4 [(0, .ref (a 0)), (1, .int 107), (2, .ref ar)] := hl
  refine lv_iload_n hx hb dL_ask_0 rfl (lv_at hl 1 rfl) ?_
  refine lv_tableIn (off := 455) (tgt := 456) hx hb dL_ask_1 (by decide) (by decide) (by decide +kernel) (by decide) ?_
  refine lv_aload_n hx hb dL_ask_456 rfl (lv_at hl 0 rfl) ?_
  refine lv_iload_n hx hb dL_ask_457 rfl (lv_at hl 1 rfl) ?_
  refine lv_aload_n hx hb dL_ask_458 rfl (lv_at hl 2 rfl) ?_
  refine zcS_xi2 (As := [.ref (a 0), .int 107, .ref ar]) (rest := []) (n9 := 3) C hw (c_L_asked_k_kind_r l hst D y base S a p0 ar hX h0 hK9 hN9 hj0) gL_ask_L_asked rfl (by decide +kernel) ⟨⟨rfl, rfl⟩, Nat.le_of_ble_eq_true rfl, Nat.le_of_ble_eq_true rfl⟩ rfl hl.1 rfl (Nat.le_of_ble_eq_true rfl) ⟨Nat.le_of_ble_eq_true rfl, Nat.le_of_ble_eq_true rfl⟩ dL_ask_459 (fun E9 ce q9 S459 H locs hx9 hw h1 h2 h3 => ?_) (fun r459 S459 H locs hp459 hw => ?_)
  · obtain ⟨hx9, hS9⟩ := hx9
    obtain ⟨rfl, hk9⟩ := hx9
    refine zcatch3 (pre := zhhA.take 14) (suf := zhhA.drop 15) (pb := 456) (pe := 462) (ph := 463) (ct := 66) C hw hx0 rfl (by decide) (by decide) (by decide) zLk_ask zcn_ex (by decide +kernel) (by decide) rfl (by decide +kernel) h1 h2 h3 ?_
    refine lv_astore_n (lv' := [(3, .ref q9), (0, .ref (a 0)), (1, .int 107), (2, .ref ar)]) hx hb dL_ask_463 rfl hl (by decide) rfl (fun ls hl => ?_)
    refine lv_ldc (own := RL) (v := (-2000000001)) hx hb hown (hts (.constant RL 68 (-2000000001)) (by decide +kernel)) dL_ask_464 ?_
    exact zri C hw hr hlocks rfl ⟨hk9, rfl, hS9⟩ ⟨Nat.le_of_ble_eq_true rfl, Nat.le_of_ble_eq_true rfl⟩ dL_ask_466
  · exact hp459.1.elim

set_option maxHeartbeats 4000000 in
set_option maxRecDepth 100000 in
/-- L_asked -/
theorem c_L_asked_q_rate_r (l : Launch) (hst : l.stackTraces = false) (D : va_G) (y : Nat → ClassId) (base : Nat) (S : zS) (a : Nat → Nat) (p0 : Int32) (p1 : Int32) (ar : Nat) (hX : zX S a) (h0 : zX0 S a) (hK9 : zK S ar = 22) (hN9 : zN S ar = 2) (hj0 : zR S 22 ar 0 = p0) (hj1 : zR S 22 ar 1 = p1) : zXi l yL_asked wsL_asked ({ frames := 9, cells := 3, slots := 18, locals := 155 }) [.ref (a 0), .int 113, .ref ar] D y base S (fun (r : Int32) (S1 : zS) => False ∧ S1 = S) (fun (E : String) (S1 : zS) => ((E = "java/lang/IndexOutOfBoundsException" ∧ kd_run p0 p1 = 1) ∨ (E = "java/util/NoSuchElementException" ∧ kd_run p0 p1 = 2)) ∧ S1 = S) 3 18 := by
  refine zXet_of (cc := cL_asked) (maxL := 3) (ret := (some .int)) (own := RL) (by decide +kernel) rfl rfl (Nat.le_of_ble_eq_true rfl) ?_
  intro p e s m args below meth c ls C hr hlocks hx0 hw hl
  have hx := C.1
  have hb := C.2.1
  have hown := C.2.2.2.1
  have hts := C.2.2.2.2
  have hl : lv_has ls 3 [(0, .ref (a 0)), (1, .int 113), (2, .ref ar)] := hl
  refine lv_iload_n hx hb dL_asked_0 rfl (lv_at hl 1 rfl) ?_
  refine lv_lookup (off := 271) (tgt := 272) hx hb dL_asked_1 (by decide) (by decide +kernel) (by decide) ?_
  refine lv_aload_n hx hb dL_asked_272 rfl (lv_at hl 0 rfl) ?_
  refine lv_aload_n hx hb dL_asked_273 rfl (lv_at hl 2 rfl) ?_
  refine lv_iconst (v := 0) hx hb dL_asked_274 (by decide) ?_
  refine zald_I (a := ar) C hw hK9 hN9 (zin_of (N := 2) (by decide) (by decide) (by decide)) dL_asked_275 ?_
  refine zrd (x := p0) (zrk hj0 (by decide)) ?_
  refine lv_aload_n hx hb dL_asked_276 rfl (lv_at hl 2 rfl) ?_
  refine lv_iconst (v := 1) hx hb dL_asked_277 (by decide) ?_
  refine zald_I (a := ar) C hw hK9 hN9 (zin_of (N := 2) (by decide) (by decide) (by decide)) dL_asked_278 ?_
  refine zrd (x := p1) (zrk hj1 (by decide)) ?_
  refine zcV_xi (As := [.int p0, .int p1]) (rest := []) (n9 := 2) (b := (a 0)) C hw (c_X7_rate_r l hst D y base S a p0 p1 hX h0) gL_asked_X7_rate rfl (by decide +kernel) ⟨⟨rfl, rfl⟩, Nat.le_of_ble_eq_true rfl, Nat.le_of_ble_eq_true rfl⟩ hX.1 ⟨by decide, by decide⟩ rfl rfl hl.1 rfl (Nat.le_of_ble_eq_true rfl) ⟨Nat.le_of_ble_eq_true rfl, Nat.le_of_ble_eq_true rfl⟩ dL_asked_279 (fun E ce q9 S279 H locs hx279 hw h1 h2 h3 => zxout hw hx0 hlocks h1 h2 h3 hx279 ⟨Nat.le_of_ble_eq_true rfl, Nat.le_of_ble_eq_true rfl⟩) (fun r279 S279 H locs hp279 hw => ?_)
  exact (show False from hp279.1).elim

set_option maxHeartbeats 4000000 in
set_option maxRecDepth 100000 in
/-- L_ask -/
theorem c_L_ask_q_rate_r (l : Launch) (hst : l.stackTraces = false) (D : va_G) (y : Nat → ClassId) (base : Nat) (S : zS) (a : Nat → Nat) (p0 : Int32) (p1 : Int32) (ar : Nat) (hX : zX S a) (h0 : zX0 S a) (hK9 : zK S ar = 22) (hN9 : zN S ar = 2) (hj0 : zR S 22 ar 0 = p0) (hj1 : zR S 22 ar 1 = p1) : zMi l yL_ask wsL_ask ({ frames := 10, cells := 3, slots := 18, locals := 177 }) [.ref (a 0), .int 113, .ref ar] D y base S (fun (r : Int32) (S1 : zS) => (kd_run p0 p1 = 1 ∧ r = (-2000000001) ∧ S1 = S) ∨ (kd_run p0 p1 = 2 ∧ r = (-2000000005) ∧ S1 = S)) 3 18 := by
  refine zMetH_of (cc := cL_ask) (maxL := 4) (ret := (some .int)) (own := RL) (hh := zhhA) (by decide +kernel) rfl rfl (Nat.le_of_ble_eq_true rfl) ?_
  intro p e s m args below meth c ls C hr hlocks hx0 hw hl
  have hx := C.1
  have hb := C.2.1
  have hown := C.2.2.2.1
  have hts := C.2.2.2.2
  have hl : lv_has ls 4 [(0, .ref (a 0)), (1, .int 113), (2, .ref ar)] := hl
  refine lv_iload_n hx hb dL_ask_0 rfl (lv_at hl 1 rfl) ?_
  refine lv_tableIn (off := 455) (tgt := 456) hx hb dL_ask_1 (by decide) (by decide) (by decide +kernel) (by decide) ?_
  refine lv_aload_n hx hb dL_ask_456 rfl (lv_at hl 0 rfl) ?_
  refine lv_iload_n hx hb dL_ask_457 rfl (lv_at hl 1 rfl) ?_
  refine lv_aload_n hx hb dL_ask_458 rfl (lv_at hl 2 rfl) ?_
  refine zcS_xi2 (As := [.ref (a 0), .int 113, .ref ar]) (rest := []) (n9 := 3) C hw (c_L_asked_q_rate_r l hst D y base S a p0 p1 ar hX h0 hK9 hN9 hj0 hj1) gL_ask_L_asked rfl (by decide +kernel) ⟨⟨rfl, rfl⟩, Nat.le_of_ble_eq_true rfl, Nat.le_of_ble_eq_true rfl⟩ rfl hl.1 rfl (Nat.le_of_ble_eq_true rfl) ⟨Nat.le_of_ble_eq_true rfl, Nat.le_of_ble_eq_true rfl⟩ dL_ask_459 (fun E9 ce q9 S459 H locs hx9 hw h1 h2 h3 => ?_) (fun r459 S459 H locs hp459 hw => ?_)
  · obtain ⟨hx9, hS9⟩ := hx9
    rcases hx9 with ⟨rfl, hk9⟩ | ⟨rfl, hk9⟩
    · refine zcatch3 (pre := zhhA.take 14) (suf := zhhA.drop 15) (pb := 456) (pe := 462) (ph := 463) (ct := 66) C hw hx0 rfl (by decide) (by decide) (by decide) zLk_ask zcn_ex (by decide +kernel) (by decide) rfl (by decide +kernel) h1 h2 h3 ?_
      refine lv_astore_n (lv' := [(3, .ref q9), (0, .ref (a 0)), (1, .int 113), (2, .ref ar)]) hx hb dL_ask_463 rfl hl (by decide) rfl (fun ls hl => ?_)
      refine lv_ldc (own := RL) (v := (-2000000001)) hx hb hown (hts (.constant RL 68 (-2000000001)) (by decide +kernel)) dL_ask_464 ?_
      exact zri C hw hr hlocks rfl (Or.inl ⟨hk9, rfl, hS9⟩) ⟨Nat.le_of_ble_eq_true rfl, Nat.le_of_ble_eq_true rfl⟩ dL_ask_466
    · refine zcatch3 (pre := zhhA.take 74) (suf := zhhA.drop 75) (pb := 456) (pe := 462) (ph := 479) (ct := 78) C hw hx0 rfl (by decide) (by decide) (by decide) zLk_ask zcn_ex (by decide +kernel) (by decide) rfl (by decide +kernel) h1 h2 h3 ?_
      refine lv_astore_n (lv' := [(3, .ref q9), (0, .ref (a 0)), (1, .int 113), (2, .ref ar)]) hx hb dL_ask_479 rfl hl (by decide) rfl (fun ls hl => ?_)
      refine lv_ldc (own := RL) (v := (-2000000005)) hx hb hown (hts (.constant RL 80 (-2000000005)) (by decide +kernel)) dL_ask_480 ?_
      exact zri C hw hr hlocks rfl (Or.inr ⟨hk9, rfl, hS9⟩) ⟨Nat.le_of_ble_eq_true rfl, Nat.le_of_ble_eq_true rfl⟩ dL_ask_482
  · exact hp459.1.elim

set_option maxHeartbeats 4000000 in
set_option maxRecDepth 100000 in
/-- L_asked -/
theorem c_L_asked_z_register_r (l : Launch) (hst : l.stackTraces = false) (D : va_G) (y : Nat → ClassId) (base : Nat) (S : zS) (a : Nat → Nat) (p0 : Int32) (p1 : Int32) (ar : Nat) (hX : zX S a) (h0 : zX0 S a) (hK9 : zK S ar = 22) (hN9 : zN S ar = 2) (hj0 : zR S 22 ar 0 = p0) (hj1 : zR S 22 ar 1 = p1) : zXi l yL_asked wsL_asked ({ frames := 8, cells := 2, slots := 12, locals := 134 }) [.ref (a 0), .int 122, .ref ar] D y base S (fun (r : Int32) (S1 : zS) => r = 0 ∧ kd_register p0 p1 = 0 ∧ S1 = S) (fun (E : String) (S1 : zS) => ((E = "java/lang/IllegalArgumentException" ∧ kd_register p0 p1 = 1)) ∧ S1 = S) 2 12 := by
  refine zXet_of (cc := cL_asked) (maxL := 3) (ret := (some .int)) (own := RL) (by decide +kernel) rfl rfl (Nat.le_of_ble_eq_true rfl) ?_
  intro p e s m args below meth c ls C hr hlocks hx0 hw hl
  have hx := C.1
  have hb := C.2.1
  have hown := C.2.2.2.1
  have hts := C.2.2.2.2
  have hl : lv_has ls 3 [(0, .ref (a 0)), (1, .int 122), (2, .ref ar)] := hl
  refine lv_iload_n hx hb dL_asked_0 rfl (lv_at hl 1 rfl) ?_
  refine lv_lookup (off := 282) (tgt := 283) hx hb dL_asked_1 (by decide) (by decide +kernel) (by decide) ?_
  refine lv_aload_n hx hb dL_asked_283 rfl (lv_at hl 0 rfl) ?_
  refine lv_aload_n hx hb dL_asked_284 rfl (lv_at hl 2 rfl) ?_
  refine lv_iconst (v := 0) hx hb dL_asked_285 (by decide) ?_
  refine zald_I (a := ar) C hw hK9 hN9 (zin_of (N := 2) (by decide) (by decide) (by decide)) dL_asked_286 ?_
  refine zrd (x := p0) (zrk hj0 (by decide)) ?_
  refine lv_aload_n hx hb dL_asked_287 rfl (lv_at hl 2 rfl) ?_
  refine lv_iconst (v := 1) hx hb dL_asked_288 (by decide) ?_
  refine zald_I (a := ar) C hw hK9 hN9 (zin_of (N := 2) (by decide) (by decide) (by decide)) dL_asked_289 ?_
  refine zrd (x := p1) (zrk hj1 (by decide)) ?_
  refine zcV_xi (As := [.int p0, .int p1]) (rest := []) (n9 := 2) (b := (a 0)) C hw (c_X7_register_r l hst D y base S a p0 p1 hX h0) gL_asked_X7_register rfl (by decide +kernel) ⟨⟨rfl, rfl⟩, Nat.le_of_ble_eq_true rfl, Nat.le_of_ble_eq_true rfl⟩ hX.1 ⟨by decide, by decide⟩ rfl rfl hl.1 rfl (Nat.le_of_ble_eq_true rfl) ⟨Nat.le_of_ble_eq_true rfl, Nat.le_of_ble_eq_true rfl⟩ dL_asked_290 (fun E ce q9 S290 H locs hx290 hw h1 h2 h3 => zxout hw hx0 hlocks h1 h2 h3 hx290 ⟨Nat.le_of_ble_eq_true rfl, Nat.le_of_ble_eq_true rfl⟩) (fun r290 S290 H locs hp290 hw => ?_)
  exact vx_ret (zri C hw hr hlocks rfl hp290 ⟨Nat.le_of_ble_eq_true rfl, Nat.le_of_ble_eq_true rfl⟩ dL_asked_293)

set_option maxHeartbeats 4000000 in
set_option maxRecDepth 100000 in
/-- L_ask -/
theorem c_L_ask_z_register_r (l : Launch) (hst : l.stackTraces = false) (D : va_G) (y : Nat → ClassId) (base : Nat) (S : zS) (a : Nat → Nat) (p0 : Int32) (p1 : Int32) (ar : Nat) (hX : zX S a) (h0 : zX0 S a) (hK9 : zK S ar = 22) (hN9 : zN S ar = 2) (hj0 : zR S 22 ar 0 = p0) (hj1 : zR S 22 ar 1 = p1) : zMi l yL_ask wsL_ask ({ frames := 9, cells := 2, slots := 12, locals := 156 }) [.ref (a 0), .int 122, .ref ar] D y base S (fun (r : Int32) (S1 : zS) => (kd_register p0 p1 = 1 ∧ r = (-2000000002) ∧ S1 = S) ∨ (kd_register p0 p1 = 0 ∧ r = 0 ∧ S1 = S)) 2 12 := by
  refine zMetH_of (cc := cL_ask) (maxL := 4) (ret := (some .int)) (own := RL) (hh := zhhA) (by decide +kernel) rfl rfl (Nat.le_of_ble_eq_true rfl) ?_
  intro p e s m args below meth c ls C hr hlocks hx0 hw hl
  have hx := C.1
  have hb := C.2.1
  have hown := C.2.2.2.1
  have hts := C.2.2.2.2
  have hl : lv_has ls 4 [(0, .ref (a 0)), (1, .int 122), (2, .ref ar)] := hl
  refine lv_iload_n hx hb dL_ask_0 rfl (lv_at hl 1 rfl) ?_
  refine lv_tableOut (tgt := 456) hx hb dL_ask_1 (by decide) (by decide) ?_
  refine lv_aload_n hx hb dL_ask_456 rfl (lv_at hl 0 rfl) ?_
  refine lv_iload_n hx hb dL_ask_457 rfl (lv_at hl 1 rfl) ?_
  refine lv_aload_n hx hb dL_ask_458 rfl (lv_at hl 2 rfl) ?_
  refine zcS_xi2 (As := [.ref (a 0), .int 122, .ref ar]) (rest := []) (n9 := 3) C hw (c_L_asked_z_register_r l hst D y base S a p0 p1 ar hX h0 hK9 hN9 hj0 hj1) gL_ask_L_asked rfl (by decide +kernel) ⟨⟨rfl, rfl⟩, Nat.le_of_ble_eq_true rfl, Nat.le_of_ble_eq_true rfl⟩ rfl hl.1 rfl (Nat.le_of_ble_eq_true rfl) ⟨Nat.le_of_ble_eq_true rfl, Nat.le_of_ble_eq_true rfl⟩ dL_ask_459 (fun E9 ce q9 S459 H locs hx9 hw h1 h2 h3 => ?_) (fun r459 S459 H locs hp459 hw => ?_)
  · obtain ⟨hx9, hS9⟩ := hx9
    obtain ⟨rfl, hk9⟩ := hx9
    refine zcatch3 (pre := zhhA.take 29) (suf := zhhA.drop 30) (pb := 456) (pe := 462) (ph := 467) (ct := 69) C hw hx0 rfl (by decide) (by decide) (by decide) zLk_ask zcn_ex (by decide +kernel) (by decide) rfl (by decide +kernel) h1 h2 h3 ?_
    refine lv_astore_n (lv' := [(3, .ref q9), (0, .ref (a 0)), (1, .int 122), (2, .ref ar)]) hx hb dL_ask_467 rfl hl (by decide) rfl (fun ls hl => ?_)
    refine lv_ldc (own := RL) (v := (-2000000002)) hx hb hown (hts (.constant RL 71 (-2000000002)) (by decide +kernel)) dL_ask_468 ?_
    exact zri C hw hr hlocks rfl (Or.inl ⟨hk9, rfl, hS9⟩) ⟨Nat.le_of_ble_eq_true rfl, Nat.le_of_ble_eq_true rfl⟩ dL_ask_470
  · exact zri C hw hr hlocks rfl (Or.inr ⟨hp459.2.1, hp459.1, hp459.2.2⟩) ⟨Nat.le_of_ble_eq_true rfl, Nat.le_of_ble_eq_true rfl⟩ dL_ask_462

set_option maxHeartbeats 4000000 in
set_option maxRecDepth 100000 in
/-- L_asked -/
theorem c_L_asked_w_follows_r (l : Launch) (hst : l.stackTraces = false) (D : va_G) (y : Nat → ClassId) (base : Nat) (S : zS) (a : Nat → Nat) (p0 : Int32) (p1 : Int32) (ar : Nat) (hX : zX S a) (h0 : zX0 S a) (hK9 : zK S ar = 22) (hN9 : zN S ar = 2) (hj0 : zR S 22 ar 0 = p0) (hj1 : zR S 22 ar 1 = p1) : zXi l yL_asked wsL_asked ({ frames := 8, cells := 2, slots := 12, locals := 134 }) [.ref (a 0), .int 119, .ref ar] D y base S (fun (r : Int32) (S1 : zS) => r = 0 ∧ kd_follows p0 p1 = 0 ∧ S1 = S) (fun (E : String) (S1 : zS) => ((E = "java/lang/IllegalArgumentException" ∧ kd_follows p0 p1 = 1)) ∧ S1 = S) 2 12 := by
  refine zXet_of (cc := cL_asked) (maxL := 3) (ret := (some .int)) (own := RL) (by decide +kernel) rfl rfl (Nat.le_of_ble_eq_true rfl) ?_
  intro p e s m args below meth c ls C hr hlocks hx0 hw hl
  have hx := C.1
  have hb := C.2.1
  have hown := C.2.2.2.1
  have hts := C.2.2.2.2
  have hl : lv_has ls 3 [(0, .ref (a 0)), (1, .int 119), (2, .ref ar)] := hl
  refine lv_iload_n hx hb dL_asked_0 rfl (lv_at hl 1 rfl) ?_
  refine lv_lookup (off := 293) (tgt := 294) hx hb dL_asked_1 (by decide) (by decide +kernel) (by decide) ?_
  refine lv_aload_n hx hb dL_asked_294 rfl (lv_at hl 0 rfl) ?_
  refine lv_aload_n hx hb dL_asked_295 rfl (lv_at hl 2 rfl) ?_
  refine lv_iconst (v := 0) hx hb dL_asked_296 (by decide) ?_
  refine zald_I (a := ar) C hw hK9 hN9 (zin_of (N := 2) (by decide) (by decide) (by decide)) dL_asked_297 ?_
  refine zrd (x := p0) (zrk hj0 (by decide)) ?_
  refine lv_aload_n hx hb dL_asked_298 rfl (lv_at hl 2 rfl) ?_
  refine lv_iconst (v := 1) hx hb dL_asked_299 (by decide) ?_
  refine zald_I (a := ar) C hw hK9 hN9 (zin_of (N := 2) (by decide) (by decide) (by decide)) dL_asked_300 ?_
  refine zrd (x := p1) (zrk hj1 (by decide)) ?_
  refine zcV_xi (As := [.int p0, .int p1]) (rest := []) (n9 := 2) (b := (a 0)) C hw (c_X7_follows_r l hst D y base S a p0 p1 hX h0) gL_asked_X7_follows rfl (by decide +kernel) ⟨⟨rfl, rfl⟩, Nat.le_of_ble_eq_true rfl, Nat.le_of_ble_eq_true rfl⟩ hX.1 ⟨by decide, by decide⟩ rfl rfl hl.1 rfl (Nat.le_of_ble_eq_true rfl) ⟨Nat.le_of_ble_eq_true rfl, Nat.le_of_ble_eq_true rfl⟩ dL_asked_301 (fun E ce q9 S301 H locs hx301 hw h1 h2 h3 => zxout hw hx0 hlocks h1 h2 h3 hx301 ⟨Nat.le_of_ble_eq_true rfl, Nat.le_of_ble_eq_true rfl⟩) (fun r301 S301 H locs hp301 hw => ?_)
  exact vx_ret (zri C hw hr hlocks rfl hp301 ⟨Nat.le_of_ble_eq_true rfl, Nat.le_of_ble_eq_true rfl⟩ dL_asked_304)

set_option maxHeartbeats 4000000 in
set_option maxRecDepth 100000 in
/-- L_ask -/
theorem c_L_ask_w_follows_r (l : Launch) (hst : l.stackTraces = false) (D : va_G) (y : Nat → ClassId) (base : Nat) (S : zS) (a : Nat → Nat) (p0 : Int32) (p1 : Int32) (ar : Nat) (hX : zX S a) (h0 : zX0 S a) (hK9 : zK S ar = 22) (hN9 : zN S ar = 2) (hj0 : zR S 22 ar 0 = p0) (hj1 : zR S 22 ar 1 = p1) : zMi l yL_ask wsL_ask ({ frames := 9, cells := 2, slots := 12, locals := 156 }) [.ref (a 0), .int 119, .ref ar] D y base S (fun (r : Int32) (S1 : zS) => (kd_follows p0 p1 = 1 ∧ r = (-2000000002) ∧ S1 = S) ∨ (kd_follows p0 p1 = 0 ∧ r = 0 ∧ S1 = S)) 2 12 := by
  refine zMetH_of (cc := cL_ask) (maxL := 4) (ret := (some .int)) (own := RL) (hh := zhhA) (by decide +kernel) rfl rfl (Nat.le_of_ble_eq_true rfl) ?_
  intro p e s m args below meth c ls C hr hlocks hx0 hw hl
  have hx := C.1
  have hb := C.2.1
  have hown := C.2.2.2.1
  have hts := C.2.2.2.2
  have hl : lv_has ls 4 [(0, .ref (a 0)), (1, .int 119), (2, .ref ar)] := hl
  refine lv_iload_n hx hb dL_ask_0 rfl (lv_at hl 1 rfl) ?_
  refine lv_tableOut (tgt := 456) hx hb dL_ask_1 (by decide) (by decide) ?_
  refine lv_aload_n hx hb dL_ask_456 rfl (lv_at hl 0 rfl) ?_
  refine lv_iload_n hx hb dL_ask_457 rfl (lv_at hl 1 rfl) ?_
  refine lv_aload_n hx hb dL_ask_458 rfl (lv_at hl 2 rfl) ?_
  refine zcS_xi2 (As := [.ref (a 0), .int 119, .ref ar]) (rest := []) (n9 := 3) C hw (c_L_asked_w_follows_r l hst D y base S a p0 p1 ar hX h0 hK9 hN9 hj0 hj1) gL_ask_L_asked rfl (by decide +kernel) ⟨⟨rfl, rfl⟩, Nat.le_of_ble_eq_true rfl, Nat.le_of_ble_eq_true rfl⟩ rfl hl.1 rfl (Nat.le_of_ble_eq_true rfl) ⟨Nat.le_of_ble_eq_true rfl, Nat.le_of_ble_eq_true rfl⟩ dL_ask_459 (fun E9 ce q9 S459 H locs hx9 hw h1 h2 h3 => ?_) (fun r459 S459 H locs hp459 hw => ?_)
  · obtain ⟨hx9, hS9⟩ := hx9
    obtain ⟨rfl, hk9⟩ := hx9
    refine zcatch3 (pre := zhhA.take 29) (suf := zhhA.drop 30) (pb := 456) (pe := 462) (ph := 467) (ct := 69) C hw hx0 rfl (by decide) (by decide) (by decide) zLk_ask zcn_ex (by decide +kernel) (by decide) rfl (by decide +kernel) h1 h2 h3 ?_
    refine lv_astore_n (lv' := [(3, .ref q9), (0, .ref (a 0)), (1, .int 119), (2, .ref ar)]) hx hb dL_ask_467 rfl hl (by decide) rfl (fun ls hl => ?_)
    refine lv_ldc (own := RL) (v := (-2000000002)) hx hb hown (hts (.constant RL 71 (-2000000002)) (by decide +kernel)) dL_ask_468 ?_
    exact zri C hw hr hlocks rfl (Or.inl ⟨hk9, rfl, hS9⟩) ⟨Nat.le_of_ble_eq_true rfl, Nat.le_of_ble_eq_true rfl⟩ dL_ask_470
  · exact zri C hw hr hlocks rfl (Or.inr ⟨hp459.2.1, hp459.1, hp459.2.2⟩) ⟨Nat.le_of_ble_eq_true rfl, Nat.le_of_ble_eq_true rfl⟩ dL_ask_462

set_option maxHeartbeats 4000000 in
set_option maxRecDepth 100000 in
/-- L_asked -/
theorem c_L_asked_A_alike_r (l : Launch) (hst : l.stackTraces = false) (D : va_G) (y : Nat → ClassId) (base : Nat) (S : zS) (a : Nat → Nat) (p0 : Int32) (ar : Nat) (hX : zX S a) (h0 : zX0 S a) (hK9 : zK S ar = 22) (hN9 : zN S ar = 1) (hj0 : zR S 22 ar 0 = p0) : zXi l yL_asked wsL_asked ({ frames := 8, cells := 1, slots := 6, locals := 133 }) [.ref (a 0), .int 65, .ref ar] D y base S (fun (r : Int32) (S1 : zS) => r = 0 ∧ kd_alike p0 = 0 ∧ S1 = S) (fun (E : String) (S1 : zS) => ((E = "java/lang/IllegalArgumentException" ∧ kd_alike p0 = 1)) ∧ S1 = S) 1 6 := by
  refine zXet_of (cc := cL_asked) (maxL := 3) (ret := (some .int)) (own := RL) (by decide +kernel) rfl rfl (Nat.le_of_ble_eq_true rfl) ?_
  intro p e s m args below meth c ls C hr hlocks hx0 hw hl
  have hx := C.1
  have hb := C.2.1
  have hown := C.2.2.2.1
  have hts := C.2.2.2.2
  have hl : lv_has ls 3 [(0, .ref (a 0)), (1, .int 65), (2, .ref ar)] := hl
  refine lv_iload_n hx hb dL_asked_0 rfl (lv_at hl 1 rfl) ?_
  refine lv_lookup (off := 304) (tgt := 305) hx hb dL_asked_1 (by decide) (by decide +kernel) (by decide) ?_
  refine lv_aload_n hx hb dL_asked_305 rfl (lv_at hl 0 rfl) ?_
  refine lv_aload_n hx hb dL_asked_306 rfl (lv_at hl 2 rfl) ?_
  refine lv_iconst (v := 0) hx hb dL_asked_307 (by decide) ?_
  refine zald_I (a := ar) C hw hK9 hN9 (zin_of (N := 1) (by decide) (by decide) (by decide)) dL_asked_308 ?_
  refine zrd (x := p0) (zrk hj0 (by decide)) ?_
  refine zcV_xi (As := [.int p0]) (rest := []) (n9 := 1) (b := (a 0)) C hw (c_X7_alike_r l hst D y base S a p0 hX h0) gL_asked_X7_alike rfl (by decide +kernel) ⟨⟨rfl, rfl⟩, Nat.le_of_ble_eq_true rfl, Nat.le_of_ble_eq_true rfl⟩ hX.1 ⟨by decide, by decide⟩ rfl rfl hl.1 rfl (Nat.le_of_ble_eq_true rfl) ⟨Nat.le_of_ble_eq_true rfl, Nat.le_of_ble_eq_true rfl⟩ dL_asked_309 (fun E ce q9 S309 H locs hx309 hw h1 h2 h3 => zxout hw hx0 hlocks h1 h2 h3 hx309 ⟨Nat.le_of_ble_eq_true rfl, Nat.le_of_ble_eq_true rfl⟩) (fun r309 S309 H locs hp309 hw => ?_)
  exact vx_ret (zri C hw hr hlocks rfl hp309 ⟨Nat.le_of_ble_eq_true rfl, Nat.le_of_ble_eq_true rfl⟩ dL_asked_312)

set_option maxHeartbeats 4000000 in
set_option maxRecDepth 100000 in
/-- L_ask -/
theorem c_L_ask_A_alike_r (l : Launch) (hst : l.stackTraces = false) (D : va_G) (y : Nat → ClassId) (base : Nat) (S : zS) (a : Nat → Nat) (p0 : Int32) (ar : Nat) (hX : zX S a) (h0 : zX0 S a) (hK9 : zK S ar = 22) (hN9 : zN S ar = 1) (hj0 : zR S 22 ar 0 = p0) : zMi l yL_ask wsL_ask ({ frames := 9, cells := 1, slots := 6, locals := 155 }) [.ref (a 0), .int 65, .ref ar] D y base S (fun (r : Int32) (S1 : zS) => (kd_alike p0 = 1 ∧ r = (-2000000002) ∧ S1 = S) ∨ (kd_alike p0 = 0 ∧ r = 0 ∧ S1 = S)) 1 6 := by
  refine zMetH_of (cc := cL_ask) (maxL := 4) (ret := (some .int)) (own := RL) (hh := zhhA) (by decide +kernel) rfl rfl (Nat.le_of_ble_eq_true rfl) ?_
  intro p e s m args below meth c ls C hr hlocks hx0 hw hl
  have hx := C.1
  have hb := C.2.1
  have hown := C.2.2.2.1
  have hts := C.2.2.2.2
  have hl : lv_has ls 4 [(0, .ref (a 0)), (1, .int 65), (2, .ref ar)] := hl
  refine lv_iload_n hx hb dL_ask_0 rfl (lv_at hl 1 rfl) ?_
  refine lv_tableOut (tgt := 456) hx hb dL_ask_1 (by decide) (by decide) ?_
  refine lv_aload_n hx hb dL_ask_456 rfl (lv_at hl 0 rfl) ?_
  refine lv_iload_n hx hb dL_ask_457 rfl (lv_at hl 1 rfl) ?_
  refine lv_aload_n hx hb dL_ask_458 rfl (lv_at hl 2 rfl) ?_
  refine zcS_xi2 (As := [.ref (a 0), .int 65, .ref ar]) (rest := []) (n9 := 3) C hw (c_L_asked_A_alike_r l hst D y base S a p0 ar hX h0 hK9 hN9 hj0) gL_ask_L_asked rfl (by decide +kernel) ⟨⟨rfl, rfl⟩, Nat.le_of_ble_eq_true rfl, Nat.le_of_ble_eq_true rfl⟩ rfl hl.1 rfl (Nat.le_of_ble_eq_true rfl) ⟨Nat.le_of_ble_eq_true rfl, Nat.le_of_ble_eq_true rfl⟩ dL_ask_459 (fun E9 ce q9 S459 H locs hx9 hw h1 h2 h3 => ?_) (fun r459 S459 H locs hp459 hw => ?_)
  · obtain ⟨hx9, hS9⟩ := hx9
    obtain ⟨rfl, hk9⟩ := hx9
    refine zcatch3 (pre := zhhA.take 29) (suf := zhhA.drop 30) (pb := 456) (pe := 462) (ph := 467) (ct := 69) C hw hx0 rfl (by decide) (by decide) (by decide) zLk_ask zcn_ex (by decide +kernel) (by decide) rfl (by decide +kernel) h1 h2 h3 ?_
    refine lv_astore_n (lv' := [(3, .ref q9), (0, .ref (a 0)), (1, .int 65), (2, .ref ar)]) hx hb dL_ask_467 rfl hl (by decide) rfl (fun ls hl => ?_)
    refine lv_ldc (own := RL) (v := (-2000000002)) hx hb hown (hts (.constant RL 71 (-2000000002)) (by decide +kernel)) dL_ask_468 ?_
    exact zri C hw hr hlocks rfl (Or.inl ⟨hk9, rfl, hS9⟩) ⟨Nat.le_of_ble_eq_true rfl, Nat.le_of_ble_eq_true rfl⟩ dL_ask_470
  · exact zri C hw hr hlocks rfl (Or.inr ⟨hp459.2.1, hp459.1, hp459.2.2⟩) ⟨Nat.le_of_ble_eq_true rfl, Nat.le_of_ble_eq_true rfl⟩ dL_ask_462

set_option maxHeartbeats 4000000 in
set_option maxRecDepth 100000 in
/-- L_asked -/
theorem c_L_asked_d_differs_r (l : Launch) (hst : l.stackTraces = false) (D : va_G) (y : Nat → ClassId) (base : Nat) (S : zS) (a : Nat → Nat) (p0 : Int32) (ar : Nat) (hX : zX S a) (h0 : zX0 S a) (hK9 : zK S ar = 22) (hN9 : zN S ar = 1) (hj0 : zR S 22 ar 0 = p0) : zXi l yL_asked wsL_asked ({ frames := 8, cells := 2, slots := 12, locals := 134 }) [.ref (a 0), .int 100, .ref ar] D y base S (fun (r : Int32) (S1 : zS) => False ∧ S1 = S) (fun (E : String) (S1 : zS) => ((E = "java/lang/IllegalArgumentException" ∧ kd_differs p0 = 1) ∨ (E = "java/util/NoSuchElementException" ∧ kd_differs p0 = 2)) ∧ S1 = S) 2 12 := by
  refine zXet_of (cc := cL_asked) (maxL := 3) (ret := (some .int)) (own := RL) (by decide +kernel) rfl rfl (Nat.le_of_ble_eq_true rfl) ?_
  intro p e s m args below meth c ls C hr hlocks hx0 hw hl
  have hx := C.1
  have hb := C.2.1
  have hown := C.2.2.2.1
  have hts := C.2.2.2.2
  have hl : lv_has ls 3 [(0, .ref (a 0)), (1, .int 100), (2, .ref ar)] := hl
  refine lv_iload_n hx hb dL_asked_0 rfl (lv_at hl 1 rfl) ?_
  refine lv_lookup (off := 312) (tgt := 313) hx hb dL_asked_1 (by decide) (by decide +kernel) (by decide) ?_
  refine lv_aload_n hx hb dL_asked_313 rfl (lv_at hl 0 rfl) ?_
  refine lv_aload_n hx hb dL_asked_314 rfl (lv_at hl 2 rfl) ?_
  refine lv_iconst (v := 0) hx hb dL_asked_315 (by decide) ?_
  refine zald_I (a := ar) C hw hK9 hN9 (zin_of (N := 1) (by decide) (by decide) (by decide)) dL_asked_316 ?_
  refine zrd (x := p0) (zrk hj0 (by decide)) ?_
  refine zcV_xi (As := [.int p0]) (rest := []) (n9 := 1) (b := (a 0)) C hw (c_X7_differs_r l hst D y base S a p0 hX h0) gL_asked_X7_differs rfl (by decide +kernel) ⟨⟨rfl, rfl⟩, Nat.le_of_ble_eq_true rfl, Nat.le_of_ble_eq_true rfl⟩ hX.1 ⟨by decide, by decide⟩ rfl rfl hl.1 rfl (Nat.le_of_ble_eq_true rfl) ⟨Nat.le_of_ble_eq_true rfl, Nat.le_of_ble_eq_true rfl⟩ dL_asked_317 (fun E ce q9 S317 H locs hx317 hw h1 h2 h3 => zxout hw hx0 hlocks h1 h2 h3 hx317 ⟨Nat.le_of_ble_eq_true rfl, Nat.le_of_ble_eq_true rfl⟩) (fun r317 S317 H locs hp317 hw => ?_)
  exact (show False from hp317.1).elim

set_option maxHeartbeats 4000000 in
set_option maxRecDepth 100000 in
/-- L_ask -/
theorem c_L_ask_d_differs_r (l : Launch) (hst : l.stackTraces = false) (D : va_G) (y : Nat → ClassId) (base : Nat) (S : zS) (a : Nat → Nat) (p0 : Int32) (ar : Nat) (hX : zX S a) (h0 : zX0 S a) (hK9 : zK S ar = 22) (hN9 : zN S ar = 1) (hj0 : zR S 22 ar 0 = p0) : zMi l yL_ask wsL_ask ({ frames := 9, cells := 2, slots := 12, locals := 156 }) [.ref (a 0), .int 100, .ref ar] D y base S (fun (r : Int32) (S1 : zS) => (kd_differs p0 = 1 ∧ r = (-2000000002) ∧ S1 = S) ∨ (kd_differs p0 = 2 ∧ r = (-2000000005) ∧ S1 = S)) 2 12 := by
  refine zMetH_of (cc := cL_ask) (maxL := 4) (ret := (some .int)) (own := RL) (hh := zhhA) (by decide +kernel) rfl rfl (Nat.le_of_ble_eq_true rfl) ?_
  intro p e s m args below meth c ls C hr hlocks hx0 hw hl
  have hx := C.1
  have hb := C.2.1
  have hown := C.2.2.2.1
  have hts := C.2.2.2.2
  have hl : lv_has ls 4 [(0, .ref (a 0)), (1, .int 100), (2, .ref ar)] := hl
  refine lv_iload_n hx hb dL_ask_0 rfl (lv_at hl 1 rfl) ?_
  refine lv_tableIn (off := 455) (tgt := 456) hx hb dL_ask_1 (by decide) (by decide) (by decide +kernel) (by decide) ?_
  refine lv_aload_n hx hb dL_ask_456 rfl (lv_at hl 0 rfl) ?_
  refine lv_iload_n hx hb dL_ask_457 rfl (lv_at hl 1 rfl) ?_
  refine lv_aload_n hx hb dL_ask_458 rfl (lv_at hl 2 rfl) ?_
  refine zcS_xi2 (As := [.ref (a 0), .int 100, .ref ar]) (rest := []) (n9 := 3) C hw (c_L_asked_d_differs_r l hst D y base S a p0 ar hX h0 hK9 hN9 hj0) gL_ask_L_asked rfl (by decide +kernel) ⟨⟨rfl, rfl⟩, Nat.le_of_ble_eq_true rfl, Nat.le_of_ble_eq_true rfl⟩ rfl hl.1 rfl (Nat.le_of_ble_eq_true rfl) ⟨Nat.le_of_ble_eq_true rfl, Nat.le_of_ble_eq_true rfl⟩ dL_ask_459 (fun E9 ce q9 S459 H locs hx9 hw h1 h2 h3 => ?_) (fun r459 S459 H locs hp459 hw => ?_)
  · obtain ⟨hx9, hS9⟩ := hx9
    rcases hx9 with ⟨rfl, hk9⟩ | ⟨rfl, hk9⟩
    · refine zcatch3 (pre := zhhA.take 29) (suf := zhhA.drop 30) (pb := 456) (pe := 462) (ph := 467) (ct := 69) C hw hx0 rfl (by decide) (by decide) (by decide) zLk_ask zcn_ex (by decide +kernel) (by decide) rfl (by decide +kernel) h1 h2 h3 ?_
      refine lv_astore_n (lv' := [(3, .ref q9), (0, .ref (a 0)), (1, .int 100), (2, .ref ar)]) hx hb dL_ask_467 rfl hl (by decide) rfl (fun ls hl => ?_)
      refine lv_ldc (own := RL) (v := (-2000000002)) hx hb hown (hts (.constant RL 71 (-2000000002)) (by decide +kernel)) dL_ask_468 ?_
      exact zri C hw hr hlocks rfl (Or.inl ⟨hk9, rfl, hS9⟩) ⟨Nat.le_of_ble_eq_true rfl, Nat.le_of_ble_eq_true rfl⟩ dL_ask_470
    · refine zcatch3 (pre := zhhA.take 74) (suf := zhhA.drop 75) (pb := 456) (pe := 462) (ph := 479) (ct := 78) C hw hx0 rfl (by decide) (by decide) (by decide) zLk_ask zcn_ex (by decide +kernel) (by decide) rfl (by decide +kernel) h1 h2 h3 ?_
      refine lv_astore_n (lv' := [(3, .ref q9), (0, .ref (a 0)), (1, .int 100), (2, .ref ar)]) hx hb dL_ask_479 rfl hl (by decide) rfl (fun ls hl => ?_)
      refine lv_ldc (own := RL) (v := (-2000000005)) hx hb hown (hts (.constant RL 80 (-2000000005)) (by decide +kernel)) dL_ask_480 ?_
      exact zri C hw hr hlocks rfl (Or.inr ⟨hk9, rfl, hS9⟩) ⟨Nat.le_of_ble_eq_true rfl, Nat.le_of_ble_eq_true rfl⟩ dL_ask_482
  · exact hp459.1.elim

set_option maxHeartbeats 4000000 in
set_option maxRecDepth 100000 in
/-- L_asked -/
theorem c_L_asked_o_best_r (l : Launch) (hst : l.stackTraces = false) (D : va_G) (y : Nat → ClassId) (base : Nat) (S : zS) (a : Nat → Nat) (p0 : Int32) (ar : Nat) (hX : zX S a) (h0 : zX0 S a) (hK9 : zK S ar = 22) (hN9 : zN S ar = 1) (hj0 : zR S 22 ar 0 = p0) : zXi l yL_asked wsL_asked ({ frames := 8, cells := 2, slots := 12, locals := 138 }) [.ref (a 0), .int 111, .ref ar] D y base S (fun (r : Int32) (S1 : zS) => False ∧ S1 = S) (fun (E : String) (S1 : zS) => ((E = "java/lang/IllegalArgumentException" ∧ kd_best p0 = 1) ∨ (E = "java/lang/UnsupportedOperationException" ∧ kd_best p0 = 2)) ∧ S1 = S) 2 12 := by
  refine zXet_of (cc := cL_asked) (maxL := 3) (ret := (some .int)) (own := RL) (by decide +kernel) rfl rfl (Nat.le_of_ble_eq_true rfl) ?_
  intro p e s m args below meth c ls C hr hlocks hx0 hw hl
  have hx := C.1
  have hb := C.2.1
  have hown := C.2.2.2.1
  have hts := C.2.2.2.2
  have hl : lv_has ls 3 [(0, .ref (a 0)), (1, .int 111), (2, .ref ar)] := hl
  refine lv_iload_n hx hb dL_asked_0 rfl (lv_at hl 1 rfl) ?_
  refine lv_lookup (off := 320) (tgt := 321) hx hb dL_asked_1 (by decide) (by decide +kernel) (by decide) ?_
  refine lv_aload_n hx hb dL_asked_321 rfl (lv_at hl 0 rfl) ?_
  refine lv_aload_n hx hb dL_asked_322 rfl (lv_at hl 2 rfl) ?_
  refine lv_iconst (v := 0) hx hb dL_asked_323 (by decide) ?_
  refine zald_I (a := ar) C hw hK9 hN9 (zin_of (N := 1) (by decide) (by decide) (by decide)) dL_asked_324 ?_
  refine zrd (x := p0) (zrk hj0 (by decide)) ?_
  refine zcV_xi (As := [.int p0]) (rest := []) (n9 := 1) (b := (a 0)) C hw (c_X7_best_r l hst D y base S a p0 hX h0) gL_asked_X7_best rfl (by decide +kernel) ⟨⟨rfl, rfl⟩, Nat.le_of_ble_eq_true rfl, Nat.le_of_ble_eq_true rfl⟩ hX.1 ⟨by decide, by decide⟩ rfl rfl hl.1 rfl (Nat.le_of_ble_eq_true rfl) ⟨Nat.le_of_ble_eq_true rfl, Nat.le_of_ble_eq_true rfl⟩ dL_asked_325 (fun E ce q9 S325 H locs hx325 hw h1 h2 h3 => zxout hw hx0 hlocks h1 h2 h3 hx325 ⟨Nat.le_of_ble_eq_true rfl, Nat.le_of_ble_eq_true rfl⟩) (fun r325 S325 H locs hp325 hw => ?_)
  exact (show False from hp325.1).elim

set_option maxHeartbeats 4000000 in
set_option maxRecDepth 100000 in
/-- L_ask -/
theorem c_L_ask_o_best_r (l : Launch) (hst : l.stackTraces = false) (D : va_G) (y : Nat → ClassId) (base : Nat) (S : zS) (a : Nat → Nat) (p0 : Int32) (ar : Nat) (hX : zX S a) (h0 : zX0 S a) (hK9 : zK S ar = 22) (hN9 : zN S ar = 1) (hj0 : zR S 22 ar 0 = p0) : zMi l yL_ask wsL_ask ({ frames := 9, cells := 2, slots := 12, locals := 160 }) [.ref (a 0), .int 111, .ref ar] D y base S (fun (r : Int32) (S1 : zS) => (kd_best p0 = 1 ∧ r = (-2000000002) ∧ S1 = S) ∨ (kd_best p0 = 2 ∧ r = (-2000000004) ∧ S1 = S)) 2 12 := by
  refine zMetH_of (cc := cL_ask) (maxL := 4) (ret := (some .int)) (own := RL) (hh := zhhA) (by decide +kernel) rfl rfl (Nat.le_of_ble_eq_true rfl) ?_
  intro p e s m args below meth c ls C hr hlocks hx0 hw hl
  have hx := C.1
  have hb := C.2.1
  have hown := C.2.2.2.1
  have hts := C.2.2.2.2
  have hl : lv_has ls 4 [(0, .ref (a 0)), (1, .int 111), (2, .ref ar)] := hl
  refine lv_iload_n hx hb dL_ask_0 rfl (lv_at hl 1 rfl) ?_
  refine lv_tableIn (off := 455) (tgt := 456) hx hb dL_ask_1 (by decide) (by decide) (by decide +kernel) (by decide) ?_
  refine lv_aload_n hx hb dL_ask_456 rfl (lv_at hl 0 rfl) ?_
  refine lv_iload_n hx hb dL_ask_457 rfl (lv_at hl 1 rfl) ?_
  refine lv_aload_n hx hb dL_ask_458 rfl (lv_at hl 2 rfl) ?_
  refine zcS_xi2 (As := [.ref (a 0), .int 111, .ref ar]) (rest := []) (n9 := 3) C hw (c_L_asked_o_best_r l hst D y base S a p0 ar hX h0 hK9 hN9 hj0) gL_ask_L_asked rfl (by decide +kernel) ⟨⟨rfl, rfl⟩, Nat.le_of_ble_eq_true rfl, Nat.le_of_ble_eq_true rfl⟩ rfl hl.1 rfl (Nat.le_of_ble_eq_true rfl) ⟨Nat.le_of_ble_eq_true rfl, Nat.le_of_ble_eq_true rfl⟩ dL_ask_459 (fun E9 ce q9 S459 H locs hx9 hw h1 h2 h3 => ?_) (fun r459 S459 H locs hp459 hw => ?_)
  · obtain ⟨hx9, hS9⟩ := hx9
    rcases hx9 with ⟨rfl, hk9⟩ | ⟨rfl, hk9⟩
    · refine zcatch3 (pre := zhhA.take 29) (suf := zhhA.drop 30) (pb := 456) (pe := 462) (ph := 467) (ct := 69) C hw hx0 rfl (by decide) (by decide) (by decide) zLk_ask zcn_ex (by decide +kernel) (by decide) rfl (by decide +kernel) h1 h2 h3 ?_
      refine lv_astore_n (lv' := [(3, .ref q9), (0, .ref (a 0)), (1, .int 111), (2, .ref ar)]) hx hb dL_ask_467 rfl hl (by decide) rfl (fun ls hl => ?_)
      refine lv_ldc (own := RL) (v := (-2000000002)) hx hb hown (hts (.constant RL 71 (-2000000002)) (by decide +kernel)) dL_ask_468 ?_
      exact zri C hw hr hlocks rfl (Or.inl ⟨hk9, rfl, hS9⟩) ⟨Nat.le_of_ble_eq_true rfl, Nat.le_of_ble_eq_true rfl⟩ dL_ask_470
    · refine zcatch3 (pre := zhhA.take 59) (suf := zhhA.drop 60) (pb := 456) (pe := 462) (ph := 475) (ct := 75) C hw hx0 rfl (by decide) (by decide) (by decide) zLk_ask zcn_ex (by decide +kernel) (by decide) rfl (by decide +kernel) h1 h2 h3 ?_
      refine lv_astore_n (lv' := [(3, .ref q9), (0, .ref (a 0)), (1, .int 111), (2, .ref ar)]) hx hb dL_ask_475 rfl hl (by decide) rfl (fun ls hl => ?_)
      refine lv_ldc (own := RL) (v := (-2000000004)) hx hb hown (hts (.constant RL 77 (-2000000004)) (by decide +kernel)) dL_ask_476 ?_
      exact zri C hw hr hlocks rfl (Or.inr ⟨hk9, rfl, hS9⟩) ⟨Nat.le_of_ble_eq_true rfl, Nat.le_of_ble_eq_true rfl⟩ dL_ask_478
  · exact hp459.1.elim

