set_option maxHeartbeats 4000000 in
set_option maxRecDepth 100000 in
/-- L_ask -/
theorem c_L_ask_I_idle_g (l : Launch) (hst : l.stackTraces = false) (D : va_G) (y : Nat → ClassId) (base : Nat) (S : zS) (a : Nat → Nat) (w : Nat) (p1 : Int32) (ar : Nat) (hX : zX S a) (hDs : zDs a) (hw4 : w < 4) (hz : p1 = 0 ∨ p1 = 1) (h160 : zI S 160 (a (10 + w)) = 0 ∨ zI S 160 (a (10 + w)) = 1) (hK9 : zK S ar = 22) (hN9 : zN S ar = 2) (hj0 : zR S 22 ar 0 = (nI w)) (hj1 : zR S 22 ar 1 = p1) : zMi l yL_ask wsL_ask ({ frames := 8, cells := 1, slots := 6, locals := 133 }) [.ref (a 0), .int 73, .ref ar] D y base S (fun (r : Int32) (S1 : zS) => r = zI S 160 (a (10 + w)) ∧ S1 = zsI S 160 (a (10 + w)) p1) 1 6 := by
  refine zMetH_of (cc := cL_ask) (maxL := 4) (ret := (some .int)) (own := RL) (hh := zhhA) (by decide +kernel) rfl rfl (Nat.le_of_ble_eq_true rfl) ?_
  intro p e s m args below meth c ls C hr hlocks hx0 hw hl
  have hx := C.1
  have hb := C.2.1
  have hown := C.2.2.2.1
  have hts := C.2.2.2.2
  have hl : lv_has ls 4 [(0, .ref (a 0)), (1, .int 73), (2, .ref ar)] := hl
  refine lv_iload_n hx hb dL_ask_0 rfl (lv_at hl 1 rfl) ?_
  refine lv_tableIn (off := 215) (tgt := 216) hx hb dL_ask_1 (by decide) (by decide) (by decide +kernel) (by decide) ?_
  refine lv_aload_n hx hb dL_ask_216 rfl (lv_at hl 0 rfl) ?_
  refine lv_aload_n hx hb dL_ask_217 rfl (lv_at hl 2 rfl) ?_
  refine lv_iconst (v := 0) hx hb dL_ask_218 (by decide) ?_
  refine zald_I (a := ar) C hw hK9 hN9 (zin_of (N := 2) (by decide) (by decide) (by decide)) dL_ask_219 ?_
  refine zrd (x := (nI w)) (zrk hj0 (by decide)) ?_
  refine lv_aload_n hx hb dL_ask_220 rfl (lv_at hl 2 rfl) ?_
  refine lv_iconst (v := 1) hx hb dL_ask_221 (by decide) ?_
  refine zald_I (a := ar) C hw hK9 hN9 (zin_of (N := 2) (by decide) (by decide) (by decide)) dL_ask_222 ?_
  refine zrd (x := p1) (zrk hj1 (by decide)) ?_
  refine lv_iconst (v := 1) hx hb dL_ask_223 (by decide) ?_
  have jn_1 : ∀ (rx_2 : Int32) (H : Heap) (locs : List Loc) (ls : Array Slot), zW D y base S s H locs → lv_has ls 4 [(0, .ref (a 0)), (1, .int 73), (2, .ref ar)] → (p1 = rx_2) → W p l e (headSpec wsL_ask ({ frames := 8, cells := 1, slots := 6, locals := 133 })).room s m args below meth c H locs 0 0 (MQ below (va_Qi (fun (r : Int32) (S1 : zS) => r = zI S 160 (a (10 + w)) ∧ S1 = zsI S 160 (a (10 + w)) p1) (zPost D y base) (zA base)) args s 1 6 (zA base)) (F0 m 232 ls [.int rx_2, .int (nI w), .ref (a 0)]) := by
    intro rx_2 H locs ls hw hl f_3
    subst f_3
    refine zcV_xi (As := [.int (nI w), .int p1]) (rest := []) (n9 := 2) (b := (a 0)) C hw (c_X7_idle_g l hst D y base S a w p1 hX hDs hw4 hz h160) gL_ask_X7_idle rfl (by decide +kernel) ⟨⟨rfl, rfl⟩, Nat.le_of_ble_eq_true rfl, Nat.le_of_ble_eq_true rfl⟩ hX.1 ⟨by decide, by decide⟩ rfl rfl hl.1 rfl (Nat.le_of_ble_eq_true rfl) ⟨Nat.le_of_ble_eq_true rfl, Nat.le_of_ble_eq_true rfl⟩ dL_ask_232 (fun E9 ce q9 S232 H locs hx9 hw h1 h2 h3 => ?_) (fun r232 S232 H locs hp232 hw => ?_)
    · exact hx9.1.elim
    · refine lv_if_eq (tgt := 242) hx hb dL_ask_235 (by decide) (fun c235 => ?_) (fun c235 => ?_)
      · refine lv_iconst (v := 0) hx hb dL_ask_242 (by decide) ?_
        exact zri C hw hr hlocks rfl ⟨c235.symm.trans hp232.1, hp232.2⟩ ⟨Nat.le_of_ble_eq_true rfl, Nat.le_of_ble_eq_true rfl⟩ dL_ask_243
      · refine lv_iconst (v := 1) hx hb dL_ask_238 (by decide) ?_
        refine lv_goto (tgt := 243) hx hb dL_ask_239 (by decide) ?_
        exact zri C hw hr hlocks rfl ⟨(by rcases h160 with h | h; exact absurd (hp232.1.trans h) c235; exact (hp232.1.trans h).symm.trans hp232.1), hp232.2⟩ ⟨Nat.le_of_ble_eq_true rfl, Nat.le_of_ble_eq_true rfl⟩ dL_ask_243
  refine lv_icmp_ne (tgt := 231) hx hb dL_ask_224 (by decide) (fun c224 => ?_) (fun c224 => ?_)
  · refine lv_iconst (v := 0) hx hb dL_ask_231 (by decide) ?_
    exact jn_1 0 _ _ _ hw (lv_sub hl [0, 1, 2] rfl) (by first | exact c224 | exact zn1 (by assumption) c224 | exact zn1 (zb_01 _) c224)
  · refine lv_iconst (v := 1) hx hb dL_ask_227 (by decide) ?_
    refine lv_goto (tgt := 232) hx hb dL_ask_228 (by decide) ?_
    exact jn_1 1 _ _ _ hw (lv_sub hl [0, 1, 2] rfl) (by first | exact c224 | exact zn1 (by assumption) c224 | exact zn1 (zb_01 _) c224)

set_option maxHeartbeats 4000000 in
set_option maxRecDepth 100000 in
/-- L_ask -/
theorem c_L_ask_s_serial_g (l : Launch) (hst : l.stackTraces = false) (D : va_G) (y : Nat → ClassId) (base : Nat) (S : zS) (a : Nat → Nat) (w : Nat) (v : Nat) (ta : Nat) (bt : Nat) (pr : Int32) (F : Nat → Int → Bool) (N : Nat → Nat) (A1 : Int32) (A2 : Int32) (rg : Nat → Int32) (ns : Nat) (L : List zNt) (ar : Nat) (hX : zX S a) (hDs : zDs a) (hw4 : w < 4) (hv : v < 256) (hta : ta + 12 * bt ≤ 9999) (hhb : 2 ≤ bt ∧ bt ≤ 50) (hpr : pr = 110 ∨ pr = 101 ∨ pr = 111) (hOb : zOb S a F N A1 A2 rg ns L) (hN : N w + 11 ≤ 300) (hK9 : zK S ar = 22) (hN9 : zN S ar = 5) (hj0 : zR S 22 ar 0 = (nI w)) (hj1 : zR S 22 ar 1 = (nI v)) (hj2 : zR S 22 ar 2 = (nI ta)) (hj3 : zR S 22 ar 3 = (nI bt)) (hj4 : zR S 22 ar 4 = pr) (hic : ((pr.toUInt32 % 65536).toInt32) = pr) : zMi l yL_ask wsL_ask ({ frames := 8, cells := 6, slots := 36, locals := 141 }) [.ref (a 0), .int 115, .ref ar] D y base S (fun (r : Int32) (S1 : zS) => r = nI (ta + zsbN pr * bt) ∧ ∃ n9, n9 ≤ N w + zsbN pr ∧ zOb S1 a (zup F w (fun t => xor (F w t) (xor true ((zpt 1 (zlS (nI v) pr) (ztk (nI ta) (nI bt)) (zsbN pr)) t)))) (zup N w n9) A1 A2 rg ns L) 6 36 := by
  refine zMetH_of (cc := cL_ask) (maxL := 4) (ret := (some .int)) (own := RL) (hh := zhhA) (by decide +kernel) rfl rfl (Nat.le_of_ble_eq_true rfl) ?_
  intro p e s m args below meth c ls C hr hlocks hx0 hw hl
  have hx := C.1
  have hb := C.2.1
  have hown := C.2.2.2.1
  have hts := C.2.2.2.2
  have hl : lv_has ls 4 [(0, .ref (a 0)), (1, .int 115), (2, .ref ar)] := hl
  refine lv_iload_n hx hb dL_ask_0 rfl (lv_at hl 1 rfl) ?_
  refine lv_tableIn (off := 295) (tgt := 296) hx hb dL_ask_1 (by decide) (by decide) (by decide +kernel) (by decide) ?_
  refine lv_aload_n hx hb dL_ask_296 rfl (lv_at hl 0 rfl) ?_
  refine lv_aload_n hx hb dL_ask_297 rfl (lv_at hl 2 rfl) ?_
  refine lv_iconst (v := 0) hx hb dL_ask_298 (by decide) ?_
  refine zald_I (a := ar) C hw hK9 hN9 (zin_of (N := 5) (by decide) (by decide) (by decide)) dL_ask_299 ?_
  refine zrd (x := (nI w)) (zrk hj0 (by decide)) ?_
  refine lv_aload_n hx hb dL_ask_300 rfl (lv_at hl 2 rfl) ?_
  refine lv_iconst (v := 1) hx hb dL_ask_301 (by decide) ?_
  refine zald_I (a := ar) C hw hK9 hN9 (zin_of (N := 5) (by decide) (by decide) (by decide)) dL_ask_302 ?_
  refine zrd (x := (nI v)) (zrk hj1 (by decide)) ?_
  refine lv_aload_n hx hb dL_ask_303 rfl (lv_at hl 2 rfl) ?_
  refine lv_iconst (v := 2) hx hb dL_ask_304 (by decide) ?_
  refine zald_I (a := ar) C hw hK9 hN9 (zin_of (N := 5) (by decide) (by decide) (by decide)) dL_ask_305 ?_
  refine zrd (x := (nI ta)) (zrk hj2 (by decide)) ?_
  refine lv_aload_n hx hb dL_ask_306 rfl (lv_at hl 2 rfl) ?_
  refine lv_iconst (v := 3) hx hb dL_ask_307 (by decide) ?_
  refine zald_I (a := ar) C hw hK9 hN9 (zin_of (N := 5) (by decide) (by decide) (by decide)) dL_ask_308 ?_
  refine zrd (x := (nI bt)) (zrk hj3 (by decide)) ?_
  refine lv_aload_n hx hb dL_ask_309 rfl (lv_at hl 2 rfl) ?_
  refine lv_iconst (v := 4) hx hb dL_ask_310 (by decide) ?_
  refine zald_I (a := ar) C hw hK9 hN9 (zin_of (N := 5) (by decide) (by decide) (by decide)) dL_ask_311 ?_
  refine zrd (x := pr) (zrk hj4 (by decide)) ?_
  refine lv_i2c (v := (pr.toUInt32 % 65536).toInt32) hx hb dL_ask_312 rfl ?_
  refine zrd (x := pr) hic ?_
  refine zcV_xi (As := [.int (nI w), .int (nI v), .int (nI ta), .int (nI bt), .int pr]) (rest := []) (n9 := 5) (b := (a 0)) C hw (c_X7_serial_g l hst D y base S a w v ta bt pr F N A1 A2 rg ns L hX hDs hw4 hv hta hhb hpr hOb hN) gL_ask_X7_serial rfl (by decide +kernel) ⟨⟨rfl, rfl⟩, Nat.le_of_ble_eq_true rfl, Nat.le_of_ble_eq_true rfl⟩ hX.1 ⟨by decide, by decide⟩ rfl rfl hl.1 rfl (Nat.le_of_ble_eq_true rfl) ⟨Nat.le_of_ble_eq_true rfl, Nat.le_of_ble_eq_true rfl⟩ dL_ask_313 (fun E9 ce q9 S313 H locs hx9 hw h1 h2 h3 => ?_) (fun r313 S313 H locs hp313 hw => ?_)
  · exact hx9.1.elim
  · exact zri C hw hr hlocks rfl hp313 ⟨Nat.le_of_ble_eq_true rfl, Nat.le_of_ble_eq_true rfl⟩ dL_ask_316

set_option maxHeartbeats 4000000 in
set_option maxRecDepth 100000 in
/-- L_ask -/
theorem c_L_ask_t_twoWires_g (l : Launch) (hst : l.stackTraces = false) (D : va_G) (y : Nat → ClassId) (base : Nat) (S : zS) (a : Nat → Nat) (c0 : Nat) (d0 : Nat) (ad : Nat) (rd : Bool) (ri : Nat) (v : Nat) (ta : Nat) (bt : Nat) (F : Nat → Int → Bool) (N : Nat → Nat) (A1 : Int32) (A2 : Int32) (rg : Nat → Int32) (ns : Nat) (L : List zNt) (ar : Nat) (hX : zX S a) (hDs : zDs a) (hc04 : c0 < 4) (hd04 : d0 < 4) (hne : c0 ≠ d0) (had : ad < 128) (hri : ri < 16) (hv : v < 256) (hta : ta + 60 * bt ≤ 9999) (hbt : 1 ≤ bt ∧ bt ≤ 50) (hOb : zOb S a F N A1 A2 rg ns L) (hNc0 : N c0 + 56 ≤ 300) (hNd0 : N d0 + 30 ≤ 300) (hK9 : zK S ar = 22) (hN9 : zN S ar = 8) (hj0 : zR S 22 ar 0 = (nI c0)) (hj1 : zR S 22 ar 1 = (nI d0)) (hj2 : zR S 22 ar 2 = (nI ad)) (hj3 : zR S 22 ar 3 = (zb (rd = true))) (hj4 : zR S 22 ar 4 = (nI ri)) (hj5 : zR S 22 ar 5 = (nI v)) (hj6 : zR S 22 ar 6 = (nI ta)) (hj7 : zR S 22 ar 7 = (nI bt)) : zMi l yL_ask wsL_ask ({ frames := 8, cells := 9, slots := 54, locals := 141 }) [.ref (a 0), .int 116, .ref ar] D y base S (fun (r : Int32) (S1 : zS) => r = nI (ta + 57 * bt) ∧ ∃ n1 n2, n1 ≤ N c0 + 56 ∧ n2 ≤ N d0 + 30 ∧ zOb S1 a (zup (zup F c0 (fun t => xor (F c0 t) (xor true ((zpt 1 zlC (fun j => ztk (nI ta) (nI bt) (zmC j)) 56) t)))) d0 (fun t => xor (F d0 t) (xor true ((zpt 1 (zlD (zwg A1 A2 rd ad ri v)) (fun j => ztk (nI ta) (nI bt) (zmD j)) 30) t)))) (zup (zup N c0 n1) d0 n2) A1 A2 rg ns L) 9 54 := by
  refine zMetH_of (cc := cL_ask) (maxL := 4) (ret := (some .int)) (own := RL) (hh := zhhA) (by decide +kernel) rfl rfl (Nat.le_of_ble_eq_true rfl) ?_
  intro p e s m args below meth c ls C hr hlocks hx0 hw hl
  have hx := C.1
  have hb := C.2.1
  have hown := C.2.2.2.1
  have hts := C.2.2.2.2
  have hl : lv_has ls 4 [(0, .ref (a 0)), (1, .int 116), (2, .ref ar)] := hl
  refine lv_iload_n hx hb dL_ask_0 rfl (lv_at hl 1 rfl) ?_
  refine lv_tableIn (off := 316) (tgt := 317) hx hb dL_ask_1 (by decide) (by decide) (by decide +kernel) (by decide) ?_
  refine lv_aload_n hx hb dL_ask_317 rfl (lv_at hl 0 rfl) ?_
  refine lv_aload_n hx hb dL_ask_318 rfl (lv_at hl 2 rfl) ?_
  refine lv_iconst (v := 0) hx hb dL_ask_319 (by decide) ?_
  refine zald_I (a := ar) C hw hK9 hN9 (zin_of (N := 8) (by decide) (by decide) (by decide)) dL_ask_320 ?_
  refine zrd (x := (nI c0)) (zrk hj0 (by decide)) ?_
  refine lv_aload_n hx hb dL_ask_321 rfl (lv_at hl 2 rfl) ?_
  refine lv_iconst (v := 1) hx hb dL_ask_322 (by decide) ?_
  refine zald_I (a := ar) C hw hK9 hN9 (zin_of (N := 8) (by decide) (by decide) (by decide)) dL_ask_323 ?_
  refine zrd (x := (nI d0)) (zrk hj1 (by decide)) ?_
  refine lv_aload_n hx hb dL_ask_324 rfl (lv_at hl 2 rfl) ?_
  refine lv_iconst (v := 2) hx hb dL_ask_325 (by decide) ?_
  refine zald_I (a := ar) C hw hK9 hN9 (zin_of (N := 8) (by decide) (by decide) (by decide)) dL_ask_326 ?_
  refine zrd (x := (nI ad)) (zrk hj2 (by decide)) ?_
  refine lv_aload_n hx hb dL_ask_327 rfl (lv_at hl 2 rfl) ?_
  refine lv_iconst (v := 3) hx hb dL_ask_328 (by decide) ?_
  refine zald_I (a := ar) C hw hK9 hN9 (zin_of (N := 8) (by decide) (by decide) (by decide)) dL_ask_329 ?_
  refine zrd (x := (zb (rd = true))) (zrk hj3 (by decide)) ?_
  refine lv_iconst (v := 1) hx hb dL_ask_330 (by decide) ?_
  have jn_1 : ∀ (rx_2 : Int32) (H : Heap) (locs : List Loc) (ls : Array Slot), zW D y base S s H locs → lv_has ls 4 [(0, .ref (a 0)), (1, .int 116), (2, .ref ar)] → ((zb (rd = true)) = rx_2) → W p l e (headSpec wsL_ask ({ frames := 8, cells := 9, slots := 54, locals := 141 })).room s m args below meth c H locs 0 0 (MQ below (va_Qi (fun (r : Int32) (S1 : zS) => r = nI (ta + 57 * bt) ∧ ∃ n1 n2, n1 ≤ N c0 + 56 ∧ n2 ≤ N d0 + 30 ∧ zOb S1 a (zup (zup F c0 (fun t => xor (F c0 t) (xor true ((zpt 1 zlC (fun j => ztk (nI ta) (nI bt) (zmC j)) 56) t)))) d0 (fun t => xor (F d0 t) (xor true ((zpt 1 (zlD (zwg A1 A2 rd ad ri v)) (fun j => ztk (nI ta) (nI bt) (zmD j)) 30) t)))) (zup (zup N c0 n1) d0 n2) A1 A2 rg ns L) (zPost D y base) (zA base)) args s 9 54 (zA base)) (F0 m 339 ls [.int rx_2, .int (nI ad), .int (nI d0), .int (nI c0), .ref (a 0)]) := by
    intro rx_2 H locs ls hw hl f_3
    subst f_3
    refine lv_aload_n hx hb dL_ask_339 rfl (lv_at hl 2 rfl) ?_
    refine lv_iconst (v := 4) hx hb dL_ask_340 (by decide) ?_
    refine zald_I (a := ar) C hw hK9 hN9 (zin_of (N := 8) (by decide) (by decide) (by decide)) dL_ask_341 ?_
    refine zrd (x := (nI ri)) (zrk hj4 (by decide)) ?_
    refine lv_aload_n hx hb dL_ask_342 rfl (lv_at hl 2 rfl) ?_
    refine lv_iconst (v := 5) hx hb dL_ask_343 (by decide) ?_
    refine zald_I (a := ar) C hw hK9 hN9 (zin_of (N := 8) (by decide) (by decide) (by decide)) dL_ask_344 ?_
    refine zrd (x := (nI v)) (zrk hj5 (by decide)) ?_
    refine lv_aload_n hx hb dL_ask_345 rfl (lv_at hl 2 rfl) ?_
    refine lv_bipush (v := 6) hx hb dL_ask_346 (by decide) ?_
    refine zald_I (a := ar) C hw hK9 hN9 (zin_of (N := 8) (by decide) (by decide) (by decide)) dL_ask_348 ?_
    refine zrd (x := (nI ta)) (zrk hj6 (by decide)) ?_
    refine lv_aload_n hx hb dL_ask_349 rfl (lv_at hl 2 rfl) ?_
    refine lv_bipush (v := 7) hx hb dL_ask_350 (by decide) ?_
    refine zald_I (a := ar) C hw hK9 hN9 (zin_of (N := 8) (by decide) (by decide) (by decide)) dL_ask_352 ?_
    refine zrd (x := (nI bt)) (zrk hj7 (by decide)) ?_
    refine zcV_xi (As := [.int (nI c0), .int (nI d0), .int (nI ad), .int (zb (rd = true)), .int (nI ri), .int (nI v), .int (nI ta), .int (nI bt)]) (rest := []) (n9 := 8) (b := (a 0)) C hw (c_X7_twoWires_g l hst D y base S a c0 d0 ad rd ri v ta bt F N A1 A2 rg ns L hX hDs hc04 hd04 hne had hri hv hta hbt hOb hNc0 hNd0) gL_ask_X7_twoWires rfl (by decide +kernel) ⟨⟨rfl, rfl⟩, Nat.le_of_ble_eq_true rfl, Nat.le_of_ble_eq_true rfl⟩ hX.1 ⟨by decide, by decide⟩ rfl rfl hl.1 rfl (Nat.le_of_ble_eq_true rfl) ⟨Nat.le_of_ble_eq_true rfl, Nat.le_of_ble_eq_true rfl⟩ dL_ask_353 (fun E9 ce q9 S353 H locs hx9 hw h1 h2 h3 => ?_) (fun r353 S353 H locs hp353 hw => ?_)
    · exact hx9.1.elim
    · exact zri C hw hr hlocks rfl hp353 ⟨Nat.le_of_ble_eq_true rfl, Nat.le_of_ble_eq_true rfl⟩ dL_ask_356
  refine lv_icmp_ne (tgt := 338) hx hb dL_ask_331 (by decide) (fun c331 => ?_) (fun c331 => ?_)
  · refine lv_iconst (v := 0) hx hb dL_ask_338 (by decide) ?_
    exact jn_1 0 _ _ _ hw (lv_sub hl [0, 1, 2] rfl) (by first | exact c331 | exact zn1 (by assumption) c331 | exact zn1 (zb_01 _) c331)
  · refine lv_iconst (v := 1) hx hb dL_ask_334 (by decide) ?_
    refine lv_goto (tgt := 339) hx hb dL_ask_335 (by decide) ?_
    exact jn_1 1 _ _ _ hw (lv_sub hl [0, 1, 2] rfl) (by first | exact c331 | exact zn1 (by assumption) c331 | exact zn1 (zb_01 _) c331)

set_option maxHeartbeats 4000000 in
set_option maxRecDepth 100000 in
/-- L_ask -/
theorem c_L_ask_f_fourWires_g (l : Launch) (hst : l.stackTraces = false) (D : va_G) (y : Nat → ClassId) (base : Nat) (S : zS) (a : Nat → Nat) (c0 : Nat) (d0 : Nat) (z0 : Nat) (v : Nat) (ta : Nat) (bt : Nat) (md : Nat) (F : Nat → Int → Bool) (N : Nat → Nat) (A1 : Int32) (A2 : Int32) (rg : Nat → Int32) (ns : Nat) (L : List zNt) (ar : Nat) (hX : zX S a) (hDs : zDs a) (hc04 : c0 < 4) (hd04 : d0 < 4) (hz04 : z0 < 4) (hne : c0 ≠ d0 ∧ c0 ≠ z0 ∧ d0 ≠ z0) (hv : v < 256) (hta : ta + 20 * bt ≤ 9999) (hbt : 1 ≤ bt ∧ bt ≤ 50) (hmd : md < 4) (hOb : zOb S a F N A1 A2 rg ns L) (hNc0 : N c0 + 16 ≤ 300) (hNd0 : N d0 + 9 ≤ 300) (hNz0 : N z0 + 2 ≤ 300) (hK9 : zK S ar = 22) (hN9 : zN S ar = 7) (hj0 : zR S 22 ar 0 = (nI c0)) (hj1 : zR S 22 ar 1 = (nI d0)) (hj2 : zR S 22 ar 2 = (nI z0)) (hj3 : zR S 22 ar 3 = (nI v)) (hj4 : zR S 22 ar 4 = (nI ta)) (hj5 : zR S 22 ar 5 = (nI bt)) (hj6 : zR S 22 ar 6 = (nI md)) : zMi l yL_ask wsL_ask ({ frames := 9, cells := 11, slots := 66, locals := 161 }) [.ref (a 0), .int 102, .ref ar] D y base S (fun (r : Int32) (S1 : zS) => r = nI (ta + 17 * bt) ∧ ∃ n1 n2 n3, n1 ≤ N c0 + 16 ∧ n2 ≤ N d0 + 9 ∧ n3 ≤ N z0 + 2 ∧ zOb S1 a (zup (zup (zup F c0 (fun t => xor (F c0 t) (xor (decide ((zge2 (nI md)) = 1)) ((zpt (zge2 (nI md)) (zlF (zge2 (nI md))) (fun j => ztk (nI ta) (nI bt) (j + 1)) 16) t)))) d0 (fun t => xor (F d0 t) (xor false ((zpt 0 (zlG (nI v)) (fun j => ztk (nI ta) (nI bt) (zmG (zlt2 (nI md)) j)) 9) t)))) z0 (fun t => xor (F z0 t) (xor true ((zpt 1 zlL (fun j => ztk (nI ta) (nI bt) (zmL j)) 2) t)))) (zup (zup (zup N c0 n1) d0 n2) z0 n3) A1 A2 rg ns L) 11 66 := by
  refine zMetH_of (cc := cL_ask) (maxL := 4) (ret := (some .int)) (own := RL) (hh := zhhA) (by decide +kernel) rfl rfl (Nat.le_of_ble_eq_true rfl) ?_
  intro p e s m args below meth c ls C hr hlocks hx0 hw hl
  have hx := C.1
  have hb := C.2.1
  have hown := C.2.2.2.1
  have hts := C.2.2.2.2
  have hl : lv_has ls 4 [(0, .ref (a 0)), (1, .int 102), (2, .ref ar)] := hl
  refine lv_iload_n hx hb dL_ask_0 rfl (lv_at hl 1 rfl) ?_
  refine lv_tableIn (off := 356) (tgt := 357) hx hb dL_ask_1 (by decide) (by decide) (by decide +kernel) (by decide) ?_
  refine lv_aload_n hx hb dL_ask_357 rfl (lv_at hl 0 rfl) ?_
  refine lv_aload_n hx hb dL_ask_358 rfl (lv_at hl 2 rfl) ?_
  refine lv_iconst (v := 0) hx hb dL_ask_359 (by decide) ?_
  refine zald_I (a := ar) C hw hK9 hN9 (zin_of (N := 7) (by decide) (by decide) (by decide)) dL_ask_360 ?_
  refine zrd (x := (nI c0)) (zrk hj0 (by decide)) ?_
  refine lv_aload_n hx hb dL_ask_361 rfl (lv_at hl 2 rfl) ?_
  refine lv_iconst (v := 1) hx hb dL_ask_362 (by decide) ?_
  refine zald_I (a := ar) C hw hK9 hN9 (zin_of (N := 7) (by decide) (by decide) (by decide)) dL_ask_363 ?_
  refine zrd (x := (nI d0)) (zrk hj1 (by decide)) ?_
  refine lv_aload_n hx hb dL_ask_364 rfl (lv_at hl 2 rfl) ?_
  refine lv_iconst (v := 2) hx hb dL_ask_365 (by decide) ?_
  refine zald_I (a := ar) C hw hK9 hN9 (zin_of (N := 7) (by decide) (by decide) (by decide)) dL_ask_366 ?_
  refine zrd (x := (nI z0)) (zrk hj2 (by decide)) ?_
  refine lv_aload_n hx hb dL_ask_367 rfl (lv_at hl 2 rfl) ?_
  refine lv_iconst (v := 3) hx hb dL_ask_368 (by decide) ?_
  refine zald_I (a := ar) C hw hK9 hN9 (zin_of (N := 7) (by decide) (by decide) (by decide)) dL_ask_369 ?_
  refine zrd (x := (nI v)) (zrk hj3 (by decide)) ?_
  refine lv_aload_n hx hb dL_ask_370 rfl (lv_at hl 2 rfl) ?_
  refine lv_iconst (v := 4) hx hb dL_ask_371 (by decide) ?_
  refine zald_I (a := ar) C hw hK9 hN9 (zin_of (N := 7) (by decide) (by decide) (by decide)) dL_ask_372 ?_
  refine zrd (x := (nI ta)) (zrk hj4 (by decide)) ?_
  refine lv_aload_n hx hb dL_ask_373 rfl (lv_at hl 2 rfl) ?_
  refine lv_iconst (v := 5) hx hb dL_ask_374 (by decide) ?_
  refine zald_I (a := ar) C hw hK9 hN9 (zin_of (N := 7) (by decide) (by decide) (by decide)) dL_ask_375 ?_
  refine zrd (x := (nI bt)) (zrk hj5 (by decide)) ?_
  refine lv_aload_n hx hb dL_ask_376 rfl (lv_at hl 2 rfl) ?_
  refine lv_bipush (v := 6) hx hb dL_ask_377 (by decide) ?_
  refine zald_I (a := ar) C hw hK9 hN9 (zin_of (N := 7) (by decide) (by decide) (by decide)) dL_ask_379 ?_
  refine zrd (x := (nI md)) (zrk hj6 (by decide)) ?_
  refine zcV_xi (As := [.int (nI c0), .int (nI d0), .int (nI z0), .int (nI v), .int (nI ta), .int (nI bt), .int (nI md)]) (rest := []) (n9 := 7) (b := (a 0)) C hw (c_X7_fourWires_g l hst D y base S a c0 d0 z0 v ta bt md F N A1 A2 rg ns L hX hDs hc04 hd04 hz04 hne hv hta hbt hmd hOb hNc0 hNd0 hNz0) gL_ask_X7_fourWires rfl (by decide +kernel) ⟨⟨rfl, rfl⟩, Nat.le_of_ble_eq_true rfl, Nat.le_of_ble_eq_true rfl⟩ hX.1 ⟨by decide, by decide⟩ rfl rfl hl.1 rfl (Nat.le_of_ble_eq_true rfl) ⟨Nat.le_of_ble_eq_true rfl, Nat.le_of_ble_eq_true rfl⟩ dL_ask_380 (fun E9 ce q9 S380 H locs hx9 hw h1 h2 h3 => ?_) (fun r380 S380 H locs hp380 hw => ?_)
  · exact hx9.1.elim
  · exact zri C hw hr hlocks rfl hp380 ⟨Nat.le_of_ble_eq_true rfl, Nat.le_of_ble_eq_true rfl⟩ dL_ask_383

set_option maxHeartbeats 4000000 in
set_option maxRecDepth 100000 in
/-- L_ask -/
theorem c_L_ask_C_capture_g (l : Launch) (hst : l.stackTraces = false) (D : va_G) (y : Nat → ClassId) (base : Nat) (S : zS) (a : Nat → Nat) (q : Nat) (fr : Nat) (sp : Nat) (mm : Nat) (F : Nat → Int → Bool) (N : Nat → Nat) (ar : Nat) (hX : zX S a) (hDs : zDs a) (hq2 : q < 2) (hsp : 1 ≤ sp ∧ sp ≤ 99) (hmm : 1 ≤ mm ∧ mm ≤ 400) (hend : fr + sp * (mm - 1) ≤ 9999) (hWv : zWv S a F N) (hK9 : zK S ar = 22) (hN9 : zN S ar = 4) (hj0 : zR S 22 ar 0 = (nI q)) (hj1 : zR S 22 ar 1 = (nI fr)) (hj2 : zR S 22 ar 2 = (nI sp)) (hj3 : zR S 22 ar 3 = (nI mm)) : zMi l yL_ask wsL_ask ({ frames := 8, cells := 5, slots := 30, locals := 138 }) [.ref (a 0), .int 67, .ref ar] D y base S (fun (r : Int32) (S1 : zS) => (∃ k, r = nI k ∧ k ≤ 400 ∧ ((∃ w j, w < 4 ∧ j + 1 < mm ∧ ¬ F w ((fr + (j + 1) * sp : Nat) : Int) = F w ((fr + j * sp : Nat) : Int)) → 0 < k)) ∧ zCp S1 (a (40 + q)) (a (50 + q)) mm (fun w j => F w ((fr + j * sp : Nat) : Int)) ∧ zFr S S1 (fun t x => t = 64 ∧ x = a (40 + q)) (fun k x => k = 22 ∧ x = a (50 + q))) 5 30 := by
  refine zMetH_of (cc := cL_ask) (maxL := 4) (ret := (some .int)) (own := RL) (hh := zhhA) (by decide +kernel) rfl rfl (Nat.le_of_ble_eq_true rfl) ?_
  intro p e s m args below meth c ls C hr hlocks hx0 hw hl
  have hx := C.1
  have hb := C.2.1
  have hown := C.2.2.2.1
  have hts := C.2.2.2.2
  have hl : lv_has ls 4 [(0, .ref (a 0)), (1, .int 67), (2, .ref ar)] := hl
  refine lv_iload_n hx hb dL_ask_0 rfl (lv_at hl 1 rfl) ?_
  refine lv_tableIn (off := 383) (tgt := 384) hx hb dL_ask_1 (by decide) (by decide) (by decide +kernel) (by decide) ?_
  refine lv_aload_n hx hb dL_ask_384 rfl (lv_at hl 0 rfl) ?_
  refine lv_aload_n hx hb dL_ask_385 rfl (lv_at hl 2 rfl) ?_
  refine lv_iconst (v := 0) hx hb dL_ask_386 (by decide) ?_
  refine zald_I (a := ar) C hw hK9 hN9 (zin_of (N := 4) (by decide) (by decide) (by decide)) dL_ask_387 ?_
  refine zrd (x := (nI q)) (zrk hj0 (by decide)) ?_
  refine lv_aload_n hx hb dL_ask_388 rfl (lv_at hl 2 rfl) ?_
  refine lv_iconst (v := 1) hx hb dL_ask_389 (by decide) ?_
  refine zald_I (a := ar) C hw hK9 hN9 (zin_of (N := 4) (by decide) (by decide) (by decide)) dL_ask_390 ?_
  refine zrd (x := (nI fr)) (zrk hj1 (by decide)) ?_
  refine lv_aload_n hx hb dL_ask_391 rfl (lv_at hl 2 rfl) ?_
  refine lv_iconst (v := 2) hx hb dL_ask_392 (by decide) ?_
  refine zald_I (a := ar) C hw hK9 hN9 (zin_of (N := 4) (by decide) (by decide) (by decide)) dL_ask_393 ?_
  refine zrd (x := (nI sp)) (zrk hj2 (by decide)) ?_
  refine lv_aload_n hx hb dL_ask_394 rfl (lv_at hl 2 rfl) ?_
  refine lv_iconst (v := 3) hx hb dL_ask_395 (by decide) ?_
  refine zald_I (a := ar) C hw hK9 hN9 (zin_of (N := 4) (by decide) (by decide) (by decide)) dL_ask_396 ?_
  refine zrd (x := (nI mm)) (zrk hj3 (by decide)) ?_
  refine zcV_xi (As := [.int (nI q), .int (nI fr), .int (nI sp), .int (nI mm)]) (rest := []) (n9 := 4) (b := (a 0)) C hw (c_X7_capture_g l hst D y base S a q fr sp mm F N hX hDs hq2 hsp hmm hend hWv) gL_ask_X7_capture rfl (by decide +kernel) ⟨⟨rfl, rfl⟩, Nat.le_of_ble_eq_true rfl, Nat.le_of_ble_eq_true rfl⟩ hX.1 ⟨by decide, by decide⟩ rfl rfl hl.1 rfl (Nat.le_of_ble_eq_true rfl) ⟨Nat.le_of_ble_eq_true rfl, Nat.le_of_ble_eq_true rfl⟩ dL_ask_397 (fun E9 ce q9 S397 H locs hx9 hw h1 h2 h3 => ?_) (fun r397 S397 H locs hp397 hw => ?_)
  · exact hx9.1.elim
  · exact zri C hw hr hlocks rfl hp397 ⟨Nat.le_of_ble_eq_true rfl, Nat.le_of_ble_eq_true rfl⟩ dL_ask_400

set_option maxHeartbeats 4000000 in
set_option maxRecDepth 100000 in
/-- L_ask -/
theorem c_L_ask_g_glitch_g (l : Launch) (hst : l.stackTraces = false) (D : va_G) (y : Nat → ClassId) (base : Nat) (S : zS) (a : Nat → Nat) (w : Nat) (ta : Nat) (wd : Nat) (F : Nat → Int → Bool) (N : Nat → Nat) (A1 : Int32) (A2 : Int32) (rg : Nat → Int32) (ns : Nat) (L : List zNt) (ar : Nat) (hX : zX S a) (hDs : zDs a) (hw4 : w < 4) (hta : ta + wd ≤ 9999) (hwd : 1 ≤ wd ∧ wd ≤ 99) (hOb : zOb S a F N A1 A2 rg ns L) (hK9 : zK S ar = 22) (hN9 : zN S ar = 3) (hj0 : zR S 22 ar 0 = (nI w)) (hj1 : zR S 22 ar 1 = (nI ta)) (hj2 : zR S 22 ar 2 = (nI wd)) : zMi l yL_ask wsL_ask ({ frames := 8, cells := 5, slots := 30, locals := 136 }) [.ref (a 0), .int 103, .ref ar] D y base S (fun (r : Int32) (S1 : zS) => ((N w : Int) + zsm (zhp (F w) (fun j => ta + j * wd)) 2 ≤ 300 ∧ ∃ n9 : Nat, (n9 : Int) = (N w : Int) + zsm (zhp (F w) (fun j => ta + j * wd)) 2 ∧ r = nI n9 ∧ zOb S1 a (zup F w (fun t => xor (F w t) (xor (decide ((ta : Int) ≤ t)) (decide (((ta + wd : Nat) : Int) ≤ t))))) (zup N w n9) A1 A2 rg ns L) ∨ (r = (-2000000003) ∧ ¬ (N w : Int) + zsm (zhp (F w) (fun j => ta + j * wd)) 2 ≤ 300 ∧ zOb S1 a F N A1 A2 rg ns L)) 5 30 := by
  refine zMetH_of (cc := cL_ask) (maxL := 4) (ret := (some .int)) (own := RL) (hh := zhhA) (by decide +kernel) rfl rfl (Nat.le_of_ble_eq_true rfl) ?_
  intro p e s m args below meth c ls C hr hlocks hx0 hw hl
  have hx := C.1
  have hb := C.2.1
  have hown := C.2.2.2.1
  have hts := C.2.2.2.2
  have hl : lv_has ls 4 [(0, .ref (a 0)), (1, .int 103), (2, .ref ar)] := hl
  refine lv_iload_n hx hb dL_ask_0 rfl (lv_at hl 1 rfl) ?_
  refine lv_tableIn (off := 273) (tgt := 274) hx hb dL_ask_1 (by decide) (by decide) (by decide +kernel) (by decide) ?_
  refine lv_aload_n hx hb dL_ask_274 rfl (lv_at hl 0 rfl) ?_
  refine lv_aload_n hx hb dL_ask_275 rfl (lv_at hl 2 rfl) ?_
  refine lv_iconst (v := 0) hx hb dL_ask_276 (by decide) ?_
  refine zald_I (a := ar) C hw hK9 hN9 (zin_of (N := 3) (by decide) (by decide) (by decide)) dL_ask_277 ?_
  refine zrd (x := (nI w)) (zrk hj0 (by decide)) ?_
  refine lv_aload_n hx hb dL_ask_278 rfl (lv_at hl 2 rfl) ?_
  refine lv_iconst (v := 1) hx hb dL_ask_279 (by decide) ?_
  refine zald_I (a := ar) C hw hK9 hN9 (zin_of (N := 3) (by decide) (by decide) (by decide)) dL_ask_280 ?_
  refine zrd (x := (nI ta)) (zrk hj1 (by decide)) ?_
  refine lv_aload_n hx hb dL_ask_281 rfl (lv_at hl 2 rfl) ?_
  refine lv_iconst (v := 2) hx hb dL_ask_282 (by decide) ?_
  refine zald_I (a := ar) C hw hK9 hN9 (zin_of (N := 3) (by decide) (by decide) (by decide)) dL_ask_283 ?_
  refine zrd (x := (nI wd)) (zrk hj2 (by decide)) ?_
  refine zcV_xi (As := [.int (nI w), .int (nI ta), .int (nI wd)]) (rest := []) (n9 := 3) (b := (a 0)) C hw (c_X7_glitch_g l hst D y base S a w ta wd F N A1 A2 rg ns L hX hDs hw4 hta hwd hOb) gL_ask_X7_glitch rfl (by decide +kernel) ⟨⟨rfl, rfl⟩, Nat.le_of_ble_eq_true rfl, Nat.le_of_ble_eq_true rfl⟩ hX.1 ⟨by decide, by decide⟩ rfl rfl hl.1 rfl (Nat.le_of_ble_eq_true rfl) ⟨Nat.le_of_ble_eq_true rfl, Nat.le_of_ble_eq_true rfl⟩ dL_ask_284 (fun E9 ce q9 S284 H locs hx9 hw h1 h2 h3 => ?_) (fun r284 S284 H locs hp284 hw => ?_)
  · obtain ⟨⟨rfl, hk9⟩, hS9⟩ := hx9
    refine zcatch3 (pre := zhhA.take 33) (suf := zhhA.drop 34) (pb := 274) (pe := 287) (ph := 471) (ct := 72) C hw hx0 rfl (by decide) (by decide) (by decide) zLk_ask zcn_ex (by decide +kernel) (by decide) rfl (by decide +kernel) h1 h2 h3 ?_
    refine lv_astore_n (lv' := [(3, .ref q9), (0, .ref (a 0)), (1, .int 103), (2, .ref ar)]) hx hb dL_ask_471 rfl hl (by decide) rfl (fun ls hl => ?_)
    refine lv_ldc (own := RL) (v := (-2000000003)) hx hb hown (hts (.constant RL 74 (-2000000003)) (by decide +kernel)) dL_ask_472 ?_
    exact zri C hw hr hlocks rfl (Or.inr ⟨rfl, hk9, hS9⟩) ⟨Nat.le_of_ble_eq_true rfl, Nat.le_of_ble_eq_true rfl⟩ dL_ask_474
  · exact zri C hw hr hlocks rfl (Or.inl hp284) ⟨Nat.le_of_ble_eq_true rfl, Nat.le_of_ble_eq_true rfl⟩ dL_ask_287

set_option maxHeartbeats 4000000 in
set_option maxRecDepth 100000 in
/-- L_ask -/
theorem c_L_ask_F_flip_g (l : Launch) (hst : l.stackTraces = false) (D : va_G) (y : Nat → ClassId) (base : Nat) (S : zS) (a : Nat → Nat) (w : Nat) (ta : Nat) (F : Nat → Int → Bool) (N : Nat → Nat) (A1 : Int32) (A2 : Int32) (rg : Nat → Int32) (ns : Nat) (L : List zNt) (ar : Nat) (hX : zX S a) (hDs : zDs a) (hw4 : w < 4) (hta : ta ≤ 9999) (hOb : zOb S a F N A1 A2 rg ns L) (hK9 : zK S ar = 22) (hN9 : zN S ar = 2) (hj0 : zR S 22 ar 0 = (nI w)) (hj1 : zR S 22 ar 1 = (nI ta)) : zMi l yL_ask wsL_ask ({ frames := 8, cells := 3, slots := 18, locals := 135 }) [.ref (a 0), .int 70, .ref ar] D y base S (fun (r : Int32) (S1 : zS) => ((N w : Int) + zsm (zhp (F w) (fun _ => ta)) 1 ≤ 300 ∧ ∃ n9 : Nat, (n9 : Int) = (N w : Int) + zsm (zhp (F w) (fun _ => ta)) 1 ∧ r = nI n9 ∧ zOb S1 a (zup F w (fun t => xor (F w t) (decide ((ta : Int) ≤ t)))) (zup N w n9) A1 A2 rg ns L) ∨ (r = (-2000000003) ∧ ¬ (N w : Int) + zsm (zhp (F w) (fun _ => ta)) 1 ≤ 300 ∧ zOb S1 a F N A1 A2 rg ns L)) 3 18 := by
  refine zMetH_of (cc := cL_ask) (maxL := 4) (ret := (some .int)) (own := RL) (hh := zhhA) (by decide +kernel) rfl rfl (Nat.le_of_ble_eq_true rfl) ?_
  intro p e s m args below meth c ls C hr hlocks hx0 hw hl
  have hx := C.1
  have hb := C.2.1
  have hown := C.2.2.2.1
  have hts := C.2.2.2.2
  have hl : lv_has ls 4 [(0, .ref (a 0)), (1, .int 70), (2, .ref ar)] := hl
  refine lv_iload_n hx hb dL_ask_0 rfl (lv_at hl 1 rfl) ?_
  refine lv_tableIn (off := 243) (tgt := 244) hx hb dL_ask_1 (by decide) (by decide) (by decide +kernel) (by decide) ?_
  refine lv_aload_n hx hb dL_ask_244 rfl (lv_at hl 0 rfl) ?_
  refine lv_aload_n hx hb dL_ask_245 rfl (lv_at hl 2 rfl) ?_
  refine lv_iconst (v := 0) hx hb dL_ask_246 (by decide) ?_
  refine zald_I (a := ar) C hw hK9 hN9 (zin_of (N := 2) (by decide) (by decide) (by decide)) dL_ask_247 ?_
  refine zrd (x := (nI w)) (zrk hj0 (by decide)) ?_
  refine lv_aload_n hx hb dL_ask_248 rfl (lv_at hl 2 rfl) ?_
  refine lv_iconst (v := 1) hx hb dL_ask_249 (by decide) ?_
  refine zald_I (a := ar) C hw hK9 hN9 (zin_of (N := 2) (by decide) (by decide) (by decide)) dL_ask_250 ?_
  refine zrd (x := (nI ta)) (zrk hj1 (by decide)) ?_
  refine zcV_xi (As := [.int (nI w), .int (nI ta)]) (rest := []) (n9 := 2) (b := (a 0)) C hw (c_X7_flip_g l hst D y base S a w ta F N A1 A2 rg ns L hX hDs hw4 hta hOb) gL_ask_X7_flip rfl (by decide +kernel) ⟨⟨rfl, rfl⟩, Nat.le_of_ble_eq_true rfl, Nat.le_of_ble_eq_true rfl⟩ hX.1 ⟨by decide, by decide⟩ rfl rfl hl.1 rfl (Nat.le_of_ble_eq_true rfl) ⟨Nat.le_of_ble_eq_true rfl, Nat.le_of_ble_eq_true rfl⟩ dL_ask_251 (fun E9 ce q9 S251 H locs hx9 hw h1 h2 h3 => ?_) (fun r251 S251 H locs hp251 hw => ?_)
  · obtain ⟨⟨rfl, hk9⟩, hS9⟩ := hx9
    refine zcatch3 (pre := zhhA.take 31) (suf := zhhA.drop 32) (pb := 244) (pe := 254) (ph := 471) (ct := 72) C hw hx0 rfl (by decide) (by decide) (by decide) zLk_ask zcn_ex (by decide +kernel) (by decide) rfl (by decide +kernel) h1 h2 h3 ?_
    refine lv_astore_n (lv' := [(3, .ref q9), (0, .ref (a 0)), (1, .int 70), (2, .ref ar)]) hx hb dL_ask_471 rfl hl (by decide) rfl (fun ls hl => ?_)
    refine lv_ldc (own := RL) (v := (-2000000003)) hx hb hown (hts (.constant RL 74 (-2000000003)) (by decide +kernel)) dL_ask_472 ?_
    exact zri C hw hr hlocks rfl (Or.inr ⟨rfl, hk9, hS9⟩) ⟨Nat.le_of_ble_eq_true rfl, Nat.le_of_ble_eq_true rfl⟩ dL_ask_474
  · exact zri C hw hr hlocks rfl (Or.inl hp251) ⟨Nat.le_of_ble_eq_true rfl, Nat.le_of_ble_eq_true rfl⟩ dL_ask_254

set_option maxHeartbeats 4000000 in
set_option maxRecDepth 100000 in
/-- L_asked -/
theorem c_L_asked_p_step_t (l : Launch) (hst : l.stackTraces = false) (D : va_G) (y : Nat → ClassId) (base : Nat) (S : zS) (a : Nat → Nat) (p1 : Int32) (v : Nat) (n : Nat) (ar : Nat) (hX : zX S a) (hDs : zDs a) (hv : 1 ≤ v ∧ v ≤ 400) (hSt : zSt S (a 3) (a 7) (a 9) (nI v) n) (hn6 : n ≤ 6) (hK9 : zK S ar = 22) (hN9 : zN S ar = 3) (hj0 : zR S 22 ar 0 = (116 : Int32)) (hj1 : zR S 22 ar 1 = p1) (hj2 : zR S 22 ar 2 = (nI v)) : zXi l yL_asked wsL_asked ({ frames := 8, cells := 3, slots := 18, locals := 135 }) [.ref (a 0), .int 112, .ref ar] D y base S (fun (r : Int32) (S1 : zS) => (n < 6 ∧ r = nI (n + 1)) ∧ zSt S1 (a 3) (a 7) (a 9) (nI v) (n + 1) ∧ zFr S S1 (zTI (a 3)) (zTR (a 7) (a 8) (a 9))) (fun (E : String) (S1 : zS) => (E = "java/lang/IllegalStateException" ∧ n = 6) ∧ S1 = S) 3 18 := by
  refine zXet_of (cc := cL_asked) (maxL := 3) (ret := (some .int)) (own := RL) (by decide +kernel) rfl rfl (Nat.le_of_ble_eq_true rfl) ?_
  intro p e s m args below meth c ls C hr hlocks hx0 hw hl
  have hx := C.1
  have hb := C.2.1
  have hown := C.2.2.2.1
  have hts := C.2.2.2.2
  have hl : lv_has ls 3 [(0, .ref (a 0)), (1, .int 112), (2, .ref ar)] := hl
  refine lv_iload_n hx hb dL_asked_0 rfl (lv_at hl 1 rfl) ?_
  refine lv_lookup (off := 156) (tgt := 157) hx hb dL_asked_1 (by decide) (by decide +kernel) (by decide) ?_
  refine lv_aload_n hx hb dL_asked_157 rfl (lv_at hl 0 rfl) ?_
  refine lv_aload_n hx hb dL_asked_158 rfl (lv_at hl 2 rfl) ?_
  refine lv_iconst (v := 0) hx hb dL_asked_159 (by decide) ?_
  refine zald_I (a := ar) C hw hK9 hN9 (zin_of (N := 3) (by decide) (by decide) (by decide)) dL_asked_160 ?_
  refine zrd (x := (116 : Int32)) (zrk hj0 (by decide)) ?_
  refine lv_i2c (v := ((116 : Int32).toUInt32 % 65536).toInt32) hx hb dL_asked_161 rfl ?_
  refine zrd (x := 116) (by decide) ?_
  refine lv_aload_n hx hb dL_asked_162 rfl (lv_at hl 2 rfl) ?_
  refine lv_iconst (v := 1) hx hb dL_asked_163 (by decide) ?_
  refine zald_I (a := ar) C hw hK9 hN9 (zin_of (N := 3) (by decide) (by decide) (by decide)) dL_asked_164 ?_
  refine zrd (x := p1) (zrk hj1 (by decide)) ?_
  refine lv_aload_n hx hb dL_asked_165 rfl (lv_at hl 2 rfl) ?_
  refine lv_iconst (v := 2) hx hb dL_asked_166 (by decide) ?_
  refine zald_I (a := ar) C hw hK9 hN9 (zin_of (N := 3) (by decide) (by decide) (by decide)) dL_asked_167 ?_
  refine zrd (x := (nI v)) (zrk hj2 (by decide)) ?_
  refine zcV_xi (As := [.int 116, .int p1, .int (nI v)]) (rest := []) (n9 := 3) (b := (a 0)) C hw (c_X7_step_t l hst D y base S a p1 v n hX hDs hv hSt hn6) gL_asked_X7_step rfl (by decide +kernel) ⟨⟨rfl, rfl⟩, Nat.le_of_ble_eq_true rfl, Nat.le_of_ble_eq_true rfl⟩ hX.1 ⟨by decide, by decide⟩ rfl rfl hl.1 rfl (Nat.le_of_ble_eq_true rfl) ⟨Nat.le_of_ble_eq_true rfl, Nat.le_of_ble_eq_true rfl⟩ dL_asked_168 (fun E ce q9 S168 H locs hx168 hw h1 h2 h3 => zxout hw hx0 hlocks h1 h2 h3 hx168 ⟨Nat.le_of_ble_eq_true rfl, Nat.le_of_ble_eq_true rfl⟩) (fun r168 S168 H locs hp168 hw => ?_)
  exact vx_ret (zri C hw hr hlocks rfl hp168 ⟨Nat.le_of_ble_eq_true rfl, Nat.le_of_ble_eq_true rfl⟩ dL_asked_171)

set_option maxHeartbeats 4000000 in
set_option maxRecDepth 100000 in
/-- L_ask -/
theorem c_L_ask_p_step_t (l : Launch) (hst : l.stackTraces = false) (D : va_G) (y : Nat → ClassId) (base : Nat) (S : zS) (a : Nat → Nat) (p1 : Int32) (v : Nat) (n : Nat) (ar : Nat) (hX : zX S a) (hDs : zDs a) (hv : 1 ≤ v ∧ v ≤ 400) (hSt : zSt S (a 3) (a 7) (a 9) (nI v) n) (hn6 : n ≤ 6) (hK9 : zK S ar = 22) (hN9 : zN S ar = 3) (hj0 : zR S 22 ar 0 = (116 : Int32)) (hj1 : zR S 22 ar 1 = p1) (hj2 : zR S 22 ar 2 = (nI v)) : zMi l yL_ask wsL_ask ({ frames := 9, cells := 3, slots := 18, locals := 157 }) [.ref (a 0), .int 112, .ref ar] D y base S (fun (r : Int32) (S1 : zS) => ((n < 6 ∧ r = nI (n + 1)) ∧ zSt S1 (a 3) (a 7) (a 9) (nI v) (n + 1) ∧ zFr S S1 (zTI (a 3)) (zTR (a 7) (a 8) (a 9))) ∨ (r = (-2000000003) ∧ n = 6 ∧ S1 = S)) 3 18 := by
  refine zMetH_of (cc := cL_ask) (maxL := 4) (ret := (some .int)) (own := RL) (hh := zhhA) (by decide +kernel) rfl rfl (Nat.le_of_ble_eq_true rfl) ?_
  intro p e s m args below meth c ls C hr hlocks hx0 hw hl
  have hx := C.1
  have hb := C.2.1
  have hown := C.2.2.2.1
  have hts := C.2.2.2.2
  have hl : lv_has ls 4 [(0, .ref (a 0)), (1, .int 112), (2, .ref ar)] := hl
  refine lv_iload_n hx hb dL_ask_0 rfl (lv_at hl 1 rfl) ?_
  refine lv_tableIn (off := 455) (tgt := 456) hx hb dL_ask_1 (by decide) (by decide) (by decide +kernel) (by decide) ?_
  refine lv_aload_n hx hb dL_ask_456 rfl (lv_at hl 0 rfl) ?_
  refine lv_iload_n hx hb dL_ask_457 rfl (lv_at hl 1 rfl) ?_
  refine lv_aload_n hx hb dL_ask_458 rfl (lv_at hl 2 rfl) ?_
  refine zcS_xi2 (As := [.ref (a 0), .int 112, .ref ar]) (rest := []) (n9 := 3) C hw (c_L_asked_p_step_t l hst D y base S a p1 v n ar hX hDs hv hSt hn6 hK9 hN9 hj0 hj1 hj2) gL_ask_L_asked rfl (by decide +kernel) ⟨⟨rfl, rfl⟩, Nat.le_of_ble_eq_true rfl, Nat.le_of_ble_eq_true rfl⟩ rfl hl.1 rfl (Nat.le_of_ble_eq_true rfl) ⟨Nat.le_of_ble_eq_true rfl, Nat.le_of_ble_eq_true rfl⟩ dL_ask_459 (fun E9 ce q9 S459 H locs hx9 hw h1 h2 h3 => ?_) (fun r459 S459 H locs hp459 hw => ?_)
  · obtain ⟨⟨rfl, hk9⟩, hS9⟩ := hx9
    refine zcatch3 (pre := zhhA.take 44) (suf := zhhA.drop 45) (pb := 456) (pe := 462) (ph := 471) (ct := 72) C hw hx0 rfl (by decide) (by decide) (by decide) zLk_ask zcn_ex (by decide +kernel) (by decide) rfl (by decide +kernel) h1 h2 h3 ?_
    refine lv_astore_n (lv' := [(3, .ref q9), (0, .ref (a 0)), (1, .int 112), (2, .ref ar)]) hx hb dL_ask_471 rfl hl (by decide) rfl (fun ls hl => ?_)
    refine lv_ldc (own := RL) (v := (-2000000003)) hx hb hown (hts (.constant RL 74 (-2000000003)) (by decide +kernel)) dL_ask_472 ?_
    exact zri C hw hr hlocks rfl (Or.inr ⟨rfl, hk9, hS9⟩) ⟨Nat.le_of_ble_eq_true rfl, Nat.le_of_ble_eq_true rfl⟩ dL_ask_474
  · exact zri C hw hr hlocks rfl (Or.inl hp459) ⟨Nat.le_of_ble_eq_true rfl, Nat.le_of_ble_eq_true rfl⟩ dL_ask_462

set_option maxHeartbeats 4000000 in
set_option maxRecDepth 100000 in
/-- L_asked -/
theorem c_L_asked_T_trigger_t (l : Launch) (hst : l.stackTraces = false) (D : va_G) (y : Nat → ClassId) (base : Nat) (S : zS) (a : Nat → Nat) (q : Nat) (n : Nat) (ar : Nat) (hX : zX S a) (hDs : zDs a) (hq2 : q < 2) (hSt : zSt S (a 3) (a 7) (a 9) 400 n) (hn1 : 1 ≤ n ∧ n ≤ 6) (hm : zI S 64 (a (40 + q)) = nI 400) (hK9 : zK S ar = 22) (hN9 : zN S ar = 1) (hj0 : zR S 22 ar 0 = (nI q)) : zXi l yL_asked wsL_asked ({ frames := 8, cells := 3, slots := 18, locals := 132 }) [.ref (a 0), .int 84, .ref ar] D y base S (fun (r : Int32) (S1 : zS) => (n = 1 ∧ r = 399) ∧ S1 = S) (fun (E : String) (S1 : zS) => (E = "java/util/NoSuchElementException" ∧ ¬ n = 1) ∧ S1 = S) 3 18 := by
  refine zXet_of (cc := cL_asked) (maxL := 3) (ret := (some .int)) (own := RL) (by decide +kernel) rfl rfl (Nat.le_of_ble_eq_true rfl) ?_
  intro p e s m args below meth c ls C hr hlocks hx0 hw hl
  have hx := C.1
  have hb := C.2.1
  have hown := C.2.2.2.1
  have hts := C.2.2.2.2
  have hl : lv_has ls 3 [(0, .ref (a 0)), (1, .int 84), (2, .ref ar)] := hl
  refine lv_iload_n hx hb dL_asked_0 rfl (lv_at hl 1 rfl) ?_
  refine lv_lookup (off := 171) (tgt := 172) hx hb dL_asked_1 (by decide) (by decide +kernel) (by decide) ?_
  refine lv_aload_n hx hb dL_asked_172 rfl (lv_at hl 0 rfl) ?_
  refine lv_aload_n hx hb dL_asked_173 rfl (lv_at hl 2 rfl) ?_
  refine lv_iconst (v := 0) hx hb dL_asked_174 (by decide) ?_
  refine zald_I (a := ar) C hw hK9 hN9 (zin_of (N := 1) (by decide) (by decide) (by decide)) dL_asked_175 ?_
  refine zrd (x := (nI q)) (zrk hj0 (by decide)) ?_
  refine zcV_xi (As := [.int (nI q)]) (rest := []) (n9 := 1) (b := (a 0)) C hw (c_X7_trigger_t l hst D y base S a q n hX hDs hq2 hSt hn1 hm) gL_asked_X7_trigger rfl (by decide +kernel) ⟨⟨rfl, rfl⟩, Nat.le_of_ble_eq_true rfl, Nat.le_of_ble_eq_true rfl⟩ hX.1 ⟨by decide, by decide⟩ rfl rfl hl.1 rfl (Nat.le_of_ble_eq_true rfl) ⟨Nat.le_of_ble_eq_true rfl, Nat.le_of_ble_eq_true rfl⟩ dL_asked_176 (fun E ce q9 S176 H locs hx176 hw h1 h2 h3 => zxout hw hx0 hlocks h1 h2 h3 hx176 ⟨Nat.le_of_ble_eq_true rfl, Nat.le_of_ble_eq_true rfl⟩) (fun r176 S176 H locs hp176 hw => ?_)
  exact vx_ret (zri C hw hr hlocks rfl hp176 ⟨Nat.le_of_ble_eq_true rfl, Nat.le_of_ble_eq_true rfl⟩ dL_asked_179)

set_option maxHeartbeats 4000000 in
set_option maxRecDepth 100000 in
/-- L_ask -/
theorem c_L_ask_T_trigger_t (l : Launch) (hst : l.stackTraces = false) (D : va_G) (y : Nat → ClassId) (base : Nat) (S : zS) (a : Nat → Nat) (q : Nat) (n : Nat) (ar : Nat) (hX : zX S a) (hDs : zDs a) (hq2 : q < 2) (hSt : zSt S (a 3) (a 7) (a 9) 400 n) (hn1 : 1 ≤ n ∧ n ≤ 6) (hm : zI S 64 (a (40 + q)) = nI 400) (hK9 : zK S ar = 22) (hN9 : zN S ar = 1) (hj0 : zR S 22 ar 0 = (nI q)) : zMi l yL_ask wsL_ask ({ frames := 9, cells := 3, slots := 18, locals := 154 }) [.ref (a 0), .int 84, .ref ar] D y base S (fun (r : Int32) (S1 : zS) => ((n = 1 ∧ r = 399) ∧ S1 = S) ∨ (r = (-2000000005) ∧ ¬ n = 1 ∧ S1 = S)) 3 18 := by
  refine zMetH_of (cc := cL_ask) (maxL := 4) (ret := (some .int)) (own := RL) (hh := zhhA) (by decide +kernel) rfl rfl (Nat.le_of_ble_eq_true rfl) ?_
  intro p e s m args below meth c ls C hr hlocks hx0 hw hl
  have hx := C.1
  have hb := C.2.1
  have hown := C.2.2.2.1
  have hts := C.2.2.2.2
  have hl : lv_has ls 4 [(0, .ref (a 0)), (1, .int 84), (2, .ref ar)] := hl
  refine lv_iload_n hx hb dL_ask_0 rfl (lv_at hl 1 rfl) ?_
  refine lv_tableIn (off := 455) (tgt := 456) hx hb dL_ask_1 (by decide) (by decide) (by decide +kernel) (by decide) ?_
  refine lv_aload_n hx hb dL_ask_456 rfl (lv_at hl 0 rfl) ?_
  refine lv_iload_n hx hb dL_ask_457 rfl (lv_at hl 1 rfl) ?_
  refine lv_aload_n hx hb dL_ask_458 rfl (lv_at hl 2 rfl) ?_
  refine zcS_xi2 (As := [.ref (a 0), .int 84, .ref ar]) (rest := []) (n9 := 3) C hw (c_L_asked_T_trigger_t l hst D y base S a q n ar hX hDs hq2 hSt hn1 hm hK9 hN9 hj0) gL_ask_L_asked rfl (by decide +kernel) ⟨⟨rfl, rfl⟩, Nat.le_of_ble_eq_true rfl, Nat.le_of_ble_eq_true rfl⟩ rfl hl.1 rfl (Nat.le_of_ble_eq_true rfl) ⟨Nat.le_of_ble_eq_true rfl, Nat.le_of_ble_eq_true rfl⟩ dL_ask_459 (fun E9 ce q9 S459 H locs hx9 hw h1 h2 h3 => ?_) (fun r459 S459 H locs hp459 hw => ?_)
  · obtain ⟨⟨rfl, hk9⟩, hS9⟩ := hx9
    refine zcatch3 (pre := zhhA.take 74) (suf := zhhA.drop 75) (pb := 456) (pe := 462) (ph := 479) (ct := 78) C hw hx0 rfl (by decide) (by decide) (by decide) zLk_ask zcn_ex (by decide +kernel) (by decide) rfl (by decide +kernel) h1 h2 h3 ?_
    refine lv_astore_n (lv' := [(3, .ref q9), (0, .ref (a 0)), (1, .int 84), (2, .ref ar)]) hx hb dL_ask_479 rfl hl (by decide) rfl (fun ls hl => ?_)
    refine lv_ldc (own := RL) (v := (-2000000005)) hx hb hown (hts (.constant RL 80 (-2000000005)) (by decide +kernel)) dL_ask_480 ?_
    exact zri C hw hr hlocks rfl (Or.inr ⟨rfl, hk9, hS9⟩) ⟨Nat.le_of_ble_eq_true rfl, Nat.le_of_ble_eq_true rfl⟩ dL_ask_482
  · exact zri C hw hr hlocks rfl (Or.inl hp459) ⟨Nat.le_of_ble_eq_true rfl, Nat.le_of_ble_eq_true rfl⟩ dL_ask_462

set_option maxHeartbeats 4000000 in
set_option maxRecDepth 100000 in
/-- L_asked -/
theorem c_L_asked_1_decodeSerial_g (l : Launch) (hst : l.stackTraces = false) (D : va_G) (y : Nat → ClassId) (base : Nat) (S : zS) (a : Nat → Nat) (q : Nat) (w : Nat) (pr : Int32) (mm : Nat) (M : Nat → Nat → Bool) (ar : Nat) (hX : zX S a) (hNts : zNts S (a 4) (a 60) (a 61) (a 62) (a 63) (a 64)) (hDs : zDs a) (hq2 : q < 2) (hw4 : w < 4) (hpr : pr = 110 ∨ pr = 101 ∨ pr = 111) (hM : zCp S (a (40 + q)) (a (50 + q)) mm M) (hmm : 1 ≤ mm ∧ mm ≤ 200) (hK9 : zK S ar = 22) (hN9 : zN S ar = 4) (hj0 : zR S 22 ar 0 = (nI q)) (hj1 : zR S 22 ar 1 = (nI w)) (hj2 : zR S 22 ar 2 = (20 : Int32)) (hj3 : zR S 22 ar 3 = pr) (hic : ((pr.toUInt32 % 65536).toInt32) = pr) : zXi l yL_asked wsL_asked ({ frames := 8, cells := 4, slots := 24, locals := 139 }) [.ref (a 0), .int 49, .ref ar] D y base S (fun (r : Int32) (S1 : zS) => r = nI (zDS (M w) mm pr (mm - 1)).2.length ∧ zNo S1 (a 4) (a 60) (a 61) (a 62) (a 63) (a 64) (zDS (M w) mm pr (mm - 1)).2 ∧ zDc S S1 a ∧ zFr S S1 (zNI (a 4)) (zNR (a 60) (a 61) (a 62) (a 63) (a 64))) (fun (E : String) (S1 : zS) => False ∧ S1 = S) 4 24 := by
  refine zXet_of (cc := cL_asked) (maxL := 3) (ret := (some .int)) (own := RL) (by decide +kernel) rfl rfl (Nat.le_of_ble_eq_true rfl) ?_
  intro p e s m args below meth c ls C hr hlocks hx0 hw hl
  have hx := C.1
  have hb := C.2.1
  have hown := C.2.2.2.1
  have hts := C.2.2.2.2
  have hl : lv_has ls 3 [(0, .ref (a 0)), (1, .int 49), (2, .ref ar)] := hl
  refine lv_iload_n hx hb dL_asked_0 rfl (lv_at hl 1 rfl) ?_
  refine lv_lookup (off := 179) (tgt := 180) hx hb dL_asked_1 (by decide) (by decide +kernel) (by decide) ?_
  refine lv_aload_n hx hb dL_asked_180 rfl (lv_at hl 0 rfl) ?_
  refine lv_aload_n hx hb dL_asked_181 rfl (lv_at hl 2 rfl) ?_
  refine lv_iconst (v := 0) hx hb dL_asked_182 (by decide) ?_
  refine zald_I (a := ar) C hw hK9 hN9 (zin_of (N := 4) (by decide) (by decide) (by decide)) dL_asked_183 ?_
  refine zrd (x := (nI q)) (zrk hj0 (by decide)) ?_
  refine lv_aload_n hx hb dL_asked_184 rfl (lv_at hl 2 rfl) ?_
  refine lv_iconst (v := 1) hx hb dL_asked_185 (by decide) ?_
  refine zald_I (a := ar) C hw hK9 hN9 (zin_of (N := 4) (by decide) (by decide) (by decide)) dL_asked_186 ?_
  refine zrd (x := (nI w)) (zrk hj1 (by decide)) ?_
  refine lv_aload_n hx hb dL_asked_187 rfl (lv_at hl 2 rfl) ?_
  refine lv_iconst (v := 2) hx hb dL_asked_188 (by decide) ?_
  refine zald_I (a := ar) C hw hK9 hN9 (zin_of (N := 4) (by decide) (by decide) (by decide)) dL_asked_189 ?_
  refine zrd (x := (20 : Int32)) (zrk hj2 (by decide)) ?_
  refine lv_aload_n hx hb dL_asked_190 rfl (lv_at hl 2 rfl) ?_
  refine lv_iconst (v := 3) hx hb dL_asked_191 (by decide) ?_
  refine zald_I (a := ar) C hw hK9 hN9 (zin_of (N := 4) (by decide) (by decide) (by decide)) dL_asked_192 ?_
  refine zrd (x := pr) (zrk hj3 (by decide)) ?_
  refine lv_i2c (v := (pr.toUInt32 % 65536).toInt32) hx hb dL_asked_193 rfl ?_
  refine zrd (x := pr) hic ?_
  refine zcV_xi (As := [.int (nI q), .int (nI w), .int (20 : Int32), .int pr]) (rest := []) (n9 := 4) (b := (a 0)) C hw (c_X7_decodeSerial_g l hst D y base S a q w pr mm M hX hNts hDs hq2 hw4 hpr hM hmm) gL_asked_X7_decodeSerial rfl (by decide +kernel) ⟨⟨rfl, rfl⟩, Nat.le_of_ble_eq_true rfl, Nat.le_of_ble_eq_true rfl⟩ hX.1 ⟨by decide, by decide⟩ rfl rfl hl.1 rfl (Nat.le_of_ble_eq_true rfl) ⟨Nat.le_of_ble_eq_true rfl, Nat.le_of_ble_eq_true rfl⟩ dL_asked_194 (fun E ce q9 S194 H locs hx194 hw h1 h2 h3 => zxout hw hx0 hlocks h1 h2 h3 hx194 ⟨Nat.le_of_ble_eq_true rfl, Nat.le_of_ble_eq_true rfl⟩) (fun r194 S194 H locs hp194 hw => ?_)
  exact vx_ret (zri C hw hr hlocks rfl hp194 ⟨Nat.le_of_ble_eq_true rfl, Nat.le_of_ble_eq_true rfl⟩ dL_asked_197)

set_option maxHeartbeats 4000000 in
set_option maxRecDepth 100000 in
/-- L_ask -/
theorem c_L_ask_1_decodeSerial_g (l : Launch) (hst : l.stackTraces = false) (D : va_G) (y : Nat → ClassId) (base : Nat) (S : zS) (a : Nat → Nat) (q : Nat) (w : Nat) (pr : Int32) (mm : Nat) (M : Nat → Nat → Bool) (ar : Nat) (hX : zX S a) (hNts : zNts S (a 4) (a 60) (a 61) (a 62) (a 63) (a 64)) (hDs : zDs a) (hq2 : q < 2) (hw4 : w < 4) (hpr : pr = 110 ∨ pr = 101 ∨ pr = 111) (hM : zCp S (a (40 + q)) (a (50 + q)) mm M) (hmm : 1 ≤ mm ∧ mm ≤ 200) (hK9 : zK S ar = 22) (hN9 : zN S ar = 4) (hj0 : zR S 22 ar 0 = (nI q)) (hj1 : zR S 22 ar 1 = (nI w)) (hj2 : zR S 22 ar 2 = (20 : Int32)) (hj3 : zR S 22 ar 3 = pr) (hic : ((pr.toUInt32 % 65536).toInt32) = pr) : zMi l yL_ask wsL_ask ({ frames := 9, cells := 4, slots := 24, locals := 161 }) [.ref (a 0), .int 49, .ref ar] D y base S (fun (r : Int32) (S1 : zS) => r = nI (zDS (M w) mm pr (mm - 1)).2.length ∧ zNo S1 (a 4) (a 60) (a 61) (a 62) (a 63) (a 64) (zDS (M w) mm pr (mm - 1)).2 ∧ zDc S S1 a ∧ zFr S S1 (zNI (a 4)) (zNR (a 60) (a 61) (a 62) (a 63) (a 64))) 4 24 := by
  refine zMetH_of (cc := cL_ask) (maxL := 4) (ret := (some .int)) (own := RL) (hh := zhhA) (by decide +kernel) rfl rfl (Nat.le_of_ble_eq_true rfl) ?_
  intro p e s m args below meth c ls C hr hlocks hx0 hw hl
  have hx := C.1
  have hb := C.2.1
  have hown := C.2.2.2.1
  have hts := C.2.2.2.2
  have hl : lv_has ls 4 [(0, .ref (a 0)), (1, .int 49), (2, .ref ar)] := hl
  refine lv_iload_n hx hb dL_ask_0 rfl (lv_at hl 1 rfl) ?_
  refine lv_tableOut (tgt := 456) hx hb dL_ask_1 (by decide) (by decide) ?_
  refine lv_aload_n hx hb dL_ask_456 rfl (lv_at hl 0 rfl) ?_
  refine lv_iload_n hx hb dL_ask_457 rfl (lv_at hl 1 rfl) ?_
  refine lv_aload_n hx hb dL_ask_458 rfl (lv_at hl 2 rfl) ?_
  refine zcS_xi2 (As := [.ref (a 0), .int 49, .ref ar]) (rest := []) (n9 := 3) C hw (c_L_asked_1_decodeSerial_g l hst D y base S a q w pr mm M ar hX hNts hDs hq2 hw4 hpr hM hmm hK9 hN9 hj0 hj1 hj2 hj3 hic) gL_ask_L_asked rfl (by decide +kernel) ⟨⟨rfl, rfl⟩, Nat.le_of_ble_eq_true rfl, Nat.le_of_ble_eq_true rfl⟩ rfl hl.1 rfl (Nat.le_of_ble_eq_true rfl) ⟨Nat.le_of_ble_eq_true rfl, Nat.le_of_ble_eq_true rfl⟩ dL_ask_459 (fun E9 ce q9 S459 H locs hx9 hw h1 h2 h3 => ?_) (fun r459 S459 H locs hp459 hw => ?_)
  · exact hx9.1.elim
  · exact zri C hw hr hlocks rfl hp459 ⟨Nat.le_of_ble_eq_true rfl, Nat.le_of_ble_eq_true rfl⟩ dL_ask_462

set_option maxHeartbeats 4000000 in
set_option maxRecDepth 100000 in
/-- L_asked -/
theorem c_L_asked_2_decodeTwo_g (l : Launch) (hst : l.stackTraces = false) (D : va_G) (y : Nat → ClassId) (base : Nat) (S : zS) (a : Nat → Nat) (q : Nat) (w : Nat) (v : Nat) (mm : Nat) (M : Nat → Nat → Bool) (ar : Nat) (hX : zX S a) (hNts : zNts S (a 4) (a 60) (a 61) (a 62) (a 63) (a 64)) (hDs : zDs a) (hq2 : q < 2) (hw4 : w < 4) (hv4 : v < 4) (hwv : w ≠ v) (hM : zCp S (a (40 + q)) (a (50 + q)) mm M) (hmm : 1 ≤ mm ∧ mm ≤ 200) (hK9 : zK S ar = 22) (hN9 : zN S ar = 3) (hj0 : zR S 22 ar 0 = (nI q)) (hj1 : zR S 22 ar 1 = (nI w)) (hj2 : zR S 22 ar 2 = (nI v)) : zXi l yL_asked wsL_asked ({ frames := 8, cells := 5, slots := 34, locals := 137 }) [.ref (a 0), .int 50, .ref ar] D y base S (fun (r : Int32) (S1 : zS) => r = nI (zRT (M w) (M v) (zR S 22 (a 6)) (mm - 1)).2.2.2.2.2.2.2.1.length ∧ zNo S1 (a 4) (a 60) (a 61) (a 62) (a 63) (a 64) (zRT (M w) (M v) (zR S 22 (a 6)) (mm - 1)).2.2.2.2.2.2.2.1 ∧ zR S1 22 (a 6) = (zRT (M w) (M v) (zR S 22 (a 6)) (mm - 1)).2.2.2.2.2.2.2.2 ∧ zDc S S1 a) (fun (E : String) (S1 : zS) => False ∧ S1 = S) 5 34 := by
  refine zXet_of (cc := cL_asked) (maxL := 3) (ret := (some .int)) (own := RL) (by decide +kernel) rfl rfl (Nat.le_of_ble_eq_true rfl) ?_
  intro p e s m args below meth c ls C hr hlocks hx0 hw hl
  have hx := C.1
  have hb := C.2.1
  have hown := C.2.2.2.1
  have hts := C.2.2.2.2
  have hl : lv_has ls 3 [(0, .ref (a 0)), (1, .int 50), (2, .ref ar)] := hl
  refine lv_iload_n hx hb dL_asked_0 rfl (lv_at hl 1 rfl) ?_
  refine lv_lookup (off := 197) (tgt := 198) hx hb dL_asked_1 (by decide) (by decide +kernel) (by decide) ?_
  refine lv_aload_n hx hb dL_asked_198 rfl (lv_at hl 0 rfl) ?_
  refine lv_aload_n hx hb dL_asked_199 rfl (lv_at hl 2 rfl) ?_
  refine lv_iconst (v := 0) hx hb dL_asked_200 (by decide) ?_
  refine zald_I (a := ar) C hw hK9 hN9 (zin_of (N := 3) (by decide) (by decide) (by decide)) dL_asked_201 ?_
  refine zrd (x := (nI q)) (zrk hj0 (by decide)) ?_
  refine lv_aload_n hx hb dL_asked_202 rfl (lv_at hl 2 rfl) ?_
  refine lv_iconst (v := 1) hx hb dL_asked_203 (by decide) ?_
  refine zald_I (a := ar) C hw hK9 hN9 (zin_of (N := 3) (by decide) (by decide) (by decide)) dL_asked_204 ?_
  refine zrd (x := (nI w)) (zrk hj1 (by decide)) ?_
  refine lv_aload_n hx hb dL_asked_205 rfl (lv_at hl 2 rfl) ?_
  refine lv_iconst (v := 2) hx hb dL_asked_206 (by decide) ?_
  refine zald_I (a := ar) C hw hK9 hN9 (zin_of (N := 3) (by decide) (by decide) (by decide)) dL_asked_207 ?_
  refine zrd (x := (nI v)) (zrk hj2 (by decide)) ?_
  refine zcV_xi (As := [.int (nI q), .int (nI w), .int (nI v)]) (rest := []) (n9 := 3) (b := (a 0)) C hw (c_X7_decodeTwo_g l hst D y base S a q w v mm M hX hNts hDs hq2 hw4 hv4 hwv hM hmm) gL_asked_X7_decodeTwo rfl (by decide +kernel) ⟨⟨rfl, rfl⟩, Nat.le_of_ble_eq_true rfl, Nat.le_of_ble_eq_true rfl⟩ hX.1 ⟨by decide, by decide⟩ rfl rfl hl.1 rfl (Nat.le_of_ble_eq_true rfl) ⟨Nat.le_of_ble_eq_true rfl, Nat.le_of_ble_eq_true rfl⟩ dL_asked_208 (fun E ce q9 S208 H locs hx208 hw h1 h2 h3 => zxout hw hx0 hlocks h1 h2 h3 hx208 ⟨Nat.le_of_ble_eq_true rfl, Nat.le_of_ble_eq_true rfl⟩) (fun r208 S208 H locs hp208 hw => ?_)
  exact vx_ret (zri C hw hr hlocks rfl hp208 ⟨Nat.le_of_ble_eq_true rfl, Nat.le_of_ble_eq_true rfl⟩ dL_asked_211)

set_option maxHeartbeats 4000000 in
set_option maxRecDepth 100000 in
/-- L_ask -/
theorem c_L_ask_2_decodeTwo_g (l : Launch) (hst : l.stackTraces = false) (D : va_G) (y : Nat → ClassId) (base : Nat) (S : zS) (a : Nat → Nat) (q : Nat) (w : Nat) (v : Nat) (mm : Nat) (M : Nat → Nat → Bool) (ar : Nat) (hX : zX S a) (hNts : zNts S (a 4) (a 60) (a 61) (a 62) (a 63) (a 64)) (hDs : zDs a) (hq2 : q < 2) (hw4 : w < 4) (hv4 : v < 4) (hwv : w ≠ v) (hM : zCp S (a (40 + q)) (a (50 + q)) mm M) (hmm : 1 ≤ mm ∧ mm ≤ 200) (hK9 : zK S ar = 22) (hN9 : zN S ar = 3) (hj0 : zR S 22 ar 0 = (nI q)) (hj1 : zR S 22 ar 1 = (nI w)) (hj2 : zR S 22 ar 2 = (nI v)) : zMi l yL_ask wsL_ask ({ frames := 9, cells := 5, slots := 34, locals := 159 }) [.ref (a 0), .int 50, .ref ar] D y base S (fun (r : Int32) (S1 : zS) => r = nI (zRT (M w) (M v) (zR S 22 (a 6)) (mm - 1)).2.2.2.2.2.2.2.1.length ∧ zNo S1 (a 4) (a 60) (a 61) (a 62) (a 63) (a 64) (zRT (M w) (M v) (zR S 22 (a 6)) (mm - 1)).2.2.2.2.2.2.2.1 ∧ zR S1 22 (a 6) = (zRT (M w) (M v) (zR S 22 (a 6)) (mm - 1)).2.2.2.2.2.2.2.2 ∧ zDc S S1 a) 5 34 := by
  refine zMetH_of (cc := cL_ask) (maxL := 4) (ret := (some .int)) (own := RL) (hh := zhhA) (by decide +kernel) rfl rfl (Nat.le_of_ble_eq_true rfl) ?_
  intro p e s m args below meth c ls C hr hlocks hx0 hw hl
  have hx := C.1
  have hb := C.2.1
  have hown := C.2.2.2.1
  have hts := C.2.2.2.2
  have hl : lv_has ls 4 [(0, .ref (a 0)), (1, .int 50), (2, .ref ar)] := hl
  refine lv_iload_n hx hb dL_ask_0 rfl (lv_at hl 1 rfl) ?_
  refine lv_tableOut (tgt := 456) hx hb dL_ask_1 (by decide) (by decide) ?_
  refine lv_aload_n hx hb dL_ask_456 rfl (lv_at hl 0 rfl) ?_
  refine lv_iload_n hx hb dL_ask_457 rfl (lv_at hl 1 rfl) ?_
  refine lv_aload_n hx hb dL_ask_458 rfl (lv_at hl 2 rfl) ?_
  refine zcS_xi2 (As := [.ref (a 0), .int 50, .ref ar]) (rest := []) (n9 := 3) C hw (c_L_asked_2_decodeTwo_g l hst D y base S a q w v mm M ar hX hNts hDs hq2 hw4 hv4 hwv hM hmm hK9 hN9 hj0 hj1 hj2) gL_ask_L_asked rfl (by decide +kernel) ⟨⟨rfl, rfl⟩, Nat.le_of_ble_eq_true rfl, Nat.le_of_ble_eq_true rfl⟩ rfl hl.1 rfl (Nat.le_of_ble_eq_true rfl) ⟨Nat.le_of_ble_eq_true rfl, Nat.le_of_ble_eq_true rfl⟩ dL_ask_459 (fun E9 ce q9 S459 H locs hx9 hw h1 h2 h3 => ?_) (fun r459 S459 H locs hp459 hw => ?_)
  · exact hx9.1.elim
  · exact zri C hw hr hlocks rfl hp459 ⟨Nat.le_of_ble_eq_true rfl, Nat.le_of_ble_eq_true rfl⟩ dL_ask_462

set_option maxHeartbeats 4000000 in
set_option maxRecDepth 100000 in
/-- L_asked -/
theorem c_L_asked_4_decodeFour_g (l : Launch) (hst : l.stackTraces = false) (D : va_G) (y : Nat → ClassId) (base : Nat) (S : zS) (a : Nat → Nat) (q : Nat) (w : Nat) (v : Nat) (z : Nat) (md : Nat) (mm : Nat) (M : Nat → Nat → Bool) (ar : Nat) (hX : zX S a) (hNts : zNts S (a 4) (a 60) (a 61) (a 62) (a 63) (a 64)) (hDs : zDs a) (hq2 : q < 2) (hw4 : w < 4) (hv4 : v < 4) (hz4 : z < 4) (hmd : md < 4) (hne : w ≠ v ∧ w ≠ z ∧ v ≠ z) (hM : zCp S (a (40 + q)) (a (50 + q)) mm M) (hmm : 1 ≤ mm ∧ mm ≤ 200) (hK9 : zK S ar = 22) (hN9 : zN S ar = 5) (hj0 : zR S 22 ar 0 = (nI q)) (hj1 : zR S 22 ar 1 = (nI w)) (hj2 : zR S 22 ar 2 = (nI v)) (hj3 : zR S 22 ar 3 = (nI z)) (hj4 : zR S 22 ar 4 = (nI md)) : zXi l yL_asked wsL_asked ({ frames := 9, cells := 9, slots := 52, locals := 162 }) [.ref (a 0), .int 52, .ref ar] D y base S (fun (r : Int32) (S1 : zS) => r = nI (zFR (M z) (M w) (M v) (decide (md = 0 ∨ md = 3)) (mm - 1)).2.2.length ∧ zNo S1 (a 4) (a 60) (a 61) (a 62) (a 63) (a 64) (zFR (M z) (M w) (M v) (decide (md = 0 ∨ md = 3)) (mm - 1)).2.2 ∧ zDc S S1 a) (fun (E : String) (S1 : zS) => False ∧ S1 = S) 9 52 := by
  refine zXet_of (cc := cL_asked) (maxL := 3) (ret := (some .int)) (own := RL) (by decide +kernel) rfl rfl (Nat.le_of_ble_eq_true rfl) ?_
  intro p e s m args below meth c ls C hr hlocks hx0 hw hl
  have hx := C.1
  have hb := C.2.1
  have hown := C.2.2.2.1
  have hts := C.2.2.2.2
  have hl : lv_has ls 3 [(0, .ref (a 0)), (1, .int 52), (2, .ref ar)] := hl
  refine lv_iload_n hx hb dL_asked_0 rfl (lv_at hl 1 rfl) ?_
  refine lv_lookup (off := 211) (tgt := 212) hx hb dL_asked_1 (by decide) (by decide +kernel) (by decide) ?_
  refine lv_aload_n hx hb dL_asked_212 rfl (lv_at hl 0 rfl) ?_
  refine lv_aload_n hx hb dL_asked_213 rfl (lv_at hl 2 rfl) ?_
  refine lv_iconst (v := 0) hx hb dL_asked_214 (by decide) ?_
  refine zald_I (a := ar) C hw hK9 hN9 (zin_of (N := 5) (by decide) (by decide) (by decide)) dL_asked_215 ?_
  refine zrd (x := (nI q)) (zrk hj0 (by decide)) ?_
  refine lv_aload_n hx hb dL_asked_216 rfl (lv_at hl 2 rfl) ?_
  refine lv_iconst (v := 1) hx hb dL_asked_217 (by decide) ?_
  refine zald_I (a := ar) C hw hK9 hN9 (zin_of (N := 5) (by decide) (by decide) (by decide)) dL_asked_218 ?_
  refine zrd (x := (nI w)) (zrk hj1 (by decide)) ?_
  refine lv_aload_n hx hb dL_asked_219 rfl (lv_at hl 2 rfl) ?_
  refine lv_iconst (v := 2) hx hb dL_asked_220 (by decide) ?_
  refine zald_I (a := ar) C hw hK9 hN9 (zin_of (N := 5) (by decide) (by decide) (by decide)) dL_asked_221 ?_
  refine zrd (x := (nI v)) (zrk hj2 (by decide)) ?_
  refine lv_aload_n hx hb dL_asked_222 rfl (lv_at hl 2 rfl) ?_
  refine lv_iconst (v := 3) hx hb dL_asked_223 (by decide) ?_
  refine zald_I (a := ar) C hw hK9 hN9 (zin_of (N := 5) (by decide) (by decide) (by decide)) dL_asked_224 ?_
  refine zrd (x := (nI z)) (zrk hj3 (by decide)) ?_
  refine lv_aload_n hx hb dL_asked_225 rfl (lv_at hl 2 rfl) ?_
  refine lv_iconst (v := 4) hx hb dL_asked_226 (by decide) ?_
  refine zald_I (a := ar) C hw hK9 hN9 (zin_of (N := 5) (by decide) (by decide) (by decide)) dL_asked_227 ?_
  refine zrd (x := (nI md)) (zrk hj4 (by decide)) ?_
  refine zcV_xi (As := [.int (nI q), .int (nI w), .int (nI v), .int (nI z), .int (nI md)]) (rest := []) (n9 := 5) (b := (a 0)) C hw (c_X7_decodeFour_g l hst D y base S a q w v z md mm M hX hNts hDs hq2 hw4 hv4 hz4 hmd hne hM hmm) gL_asked_X7_decodeFour rfl (by decide +kernel) ⟨⟨rfl, rfl⟩, Nat.le_of_ble_eq_true rfl, Nat.le_of_ble_eq_true rfl⟩ hX.1 ⟨by decide, by decide⟩ rfl rfl hl.1 rfl (Nat.le_of_ble_eq_true rfl) ⟨Nat.le_of_ble_eq_true rfl, Nat.le_of_ble_eq_true rfl⟩ dL_asked_228 (fun E ce q9 S228 H locs hx228 hw h1 h2 h3 => zxout hw hx0 hlocks h1 h2 h3 hx228 ⟨Nat.le_of_ble_eq_true rfl, Nat.le_of_ble_eq_true rfl⟩) (fun r228 S228 H locs hp228 hw => ?_)
  exact vx_ret (zri C hw hr hlocks rfl hp228 ⟨Nat.le_of_ble_eq_true rfl, Nat.le_of_ble_eq_true rfl⟩ dL_asked_231)

set_option maxHeartbeats 4000000 in
set_option maxRecDepth 100000 in
/-- L_ask -/
theorem c_L_ask_4_decodeFour_g (l : Launch) (hst : l.stackTraces = false) (D : va_G) (y : Nat → ClassId) (base : Nat) (S : zS) (a : Nat → Nat) (q : Nat) (w : Nat) (v : Nat) (z : Nat) (md : Nat) (mm : Nat) (M : Nat → Nat → Bool) (ar : Nat) (hX : zX S a) (hNts : zNts S (a 4) (a 60) (a 61) (a 62) (a 63) (a 64)) (hDs : zDs a) (hq2 : q < 2) (hw4 : w < 4) (hv4 : v < 4) (hz4 : z < 4) (hmd : md < 4) (hne : w ≠ v ∧ w ≠ z ∧ v ≠ z) (hM : zCp S (a (40 + q)) (a (50 + q)) mm M) (hmm : 1 ≤ mm ∧ mm ≤ 200) (hK9 : zK S ar = 22) (hN9 : zN S ar = 5) (hj0 : zR S 22 ar 0 = (nI q)) (hj1 : zR S 22 ar 1 = (nI w)) (hj2 : zR S 22 ar 2 = (nI v)) (hj3 : zR S 22 ar 3 = (nI z)) (hj4 : zR S 22 ar 4 = (nI md)) : zMi l yL_ask wsL_ask ({ frames := 10, cells := 9, slots := 52, locals := 184 }) [.ref (a 0), .int 52, .ref ar] D y base S (fun (r : Int32) (S1 : zS) => r = nI (zFR (M z) (M w) (M v) (decide (md = 0 ∨ md = 3)) (mm - 1)).2.2.length ∧ zNo S1 (a 4) (a 60) (a 61) (a 62) (a 63) (a 64) (zFR (M z) (M w) (M v) (decide (md = 0 ∨ md = 3)) (mm - 1)).2.2 ∧ zDc S S1 a) 9 52 := by
  refine zMetH_of (cc := cL_ask) (maxL := 4) (ret := (some .int)) (own := RL) (hh := zhhA) (by decide +kernel) rfl rfl (Nat.le_of_ble_eq_true rfl) ?_
  intro p e s m args below meth c ls C hr hlocks hx0 hw hl
  have hx := C.1
  have hb := C.2.1
  have hown := C.2.2.2.1
  have hts := C.2.2.2.2
  have hl : lv_has ls 4 [(0, .ref (a 0)), (1, .int 52), (2, .ref ar)] := hl
  refine lv_iload_n hx hb dL_ask_0 rfl (lv_at hl 1 rfl) ?_
  refine lv_tableOut (tgt := 456) hx hb dL_ask_1 (by decide) (by decide) ?_
  refine lv_aload_n hx hb dL_ask_456 rfl (lv_at hl 0 rfl) ?_
  refine lv_iload_n hx hb dL_ask_457 rfl (lv_at hl 1 rfl) ?_
  refine lv_aload_n hx hb dL_ask_458 rfl (lv_at hl 2 rfl) ?_
  refine zcS_xi2 (As := [.ref (a 0), .int 52, .ref ar]) (rest := []) (n9 := 3) C hw (c_L_asked_4_decodeFour_g l hst D y base S a q w v z md mm M ar hX hNts hDs hq2 hw4 hv4 hz4 hmd hne hM hmm hK9 hN9 hj0 hj1 hj2 hj3 hj4) gL_ask_L_asked rfl (by decide +kernel) ⟨⟨rfl, rfl⟩, Nat.le_of_ble_eq_true rfl, Nat.le_of_ble_eq_true rfl⟩ rfl hl.1 rfl (Nat.le_of_ble_eq_true rfl) ⟨Nat.le_of_ble_eq_true rfl, Nat.le_of_ble_eq_true rfl⟩ dL_ask_459 (fun E9 ce q9 S459 H locs hx9 hw h1 h2 h3 => ?_) (fun r459 S459 H locs hp459 hw => ?_)
  · exact hx9.1.elim
  · exact zri C hw hr hlocks rfl hp459 ⟨Nat.le_of_ble_eq_true rfl, Nat.le_of_ble_eq_true rfl⟩ dL_ask_462

set_option maxHeartbeats 4000000 in
set_option maxRecDepth 100000 in
/-- L_asked -/
theorem c_L_asked_k_kind_g (l : Launch) (hst : l.stackTraces = false) (D : va_G) (y : Nat → ClassId) (base : Nat) (S : zS) (a : Nat → Nat) (n : Nat) (L : List zNt) (x : zNt) (ar : Nat) (hX : zX S a) (hNts : zNts S (a 4) (a 60) (a 61) (a 62) (a 63) (a 64)) (hDs : zDs a) (hNo : zNo S (a 4) (a 60) (a 61) (a 62) (a 63) (a 64)  L) (hx9 : L[n]? = some x) (hch : narrow .char (.int x.1) = .int x.1) (hK9 : zK S ar = 22) (hN9 : zN S ar = 1) (hj0 : zR S 22 ar 0 = (nI n)) : zXi l yL_asked wsL_asked ({ frames := 2, cells := 0, slots := 0, locals := 42 }) [.ref (a 0), .int 107, .ref ar] D y base S (fun (r : Int32) (S1 : zS) => r = x.1 ∧ S1 = S) (fun (E : String) (S1 : zS) => False ∧ S1 = S) 0 0 := by
  refine zXet_of (cc := cL_asked) (maxL := 3) (ret := (some .int)) (own := RL) (by decide +kernel) rfl rfl (Nat.le_of_ble_eq_true rfl) ?_
  intro p e s m args below meth c ls C hr hlocks hx0 hw hl
  have hx := C.1
  have hb := C.2.1
  have hown := C.2.2.2.1
  have hts := C.2.2.2.2
  have hl : lv_has ls 3 [(0, .ref (a 0)), (1, .int 107), (2, .ref ar)] := hl
  refine lv_iload_n hx hb dL_asked_0 rfl (lv_at hl 1 rfl) ?_
  refine lv_lookup (off := 231) (tgt := 232) hx hb dL_asked_1 (by decide) (by decide +kernel) (by decide) ?_
  refine lv_aload_n hx hb dL_asked_232 rfl (lv_at hl 0 rfl) ?_
  refine lv_aload_n hx hb dL_asked_233 rfl (lv_at hl 2 rfl) ?_
  refine lv_iconst (v := 0) hx hb dL_asked_234 (by decide) ?_
  refine zald_I (a := ar) C hw hK9 hN9 (zin_of (N := 1) (by decide) (by decide) (by decide)) dL_asked_235 ?_
  refine zrd (x := (nI n)) (zrk hj0 (by decide)) ?_
  refine zcV_xi (As := [.int (nI n)]) (rest := []) (n9 := 1) (b := (a 0)) C hw (c_X7_kind_g l hst D y base S a n L x hX hNts hDs hNo hx9 hch) gL_asked_X7_kind rfl (by decide +kernel) ⟨⟨rfl, rfl⟩, Nat.le_of_ble_eq_true rfl, Nat.le_of_ble_eq_true rfl⟩ hX.1 ⟨by decide, by decide⟩ rfl rfl hl.1 rfl (Nat.le_of_ble_eq_true rfl) ⟨Nat.le_of_ble_eq_true rfl, Nat.le_of_ble_eq_true rfl⟩ dL_asked_236 (fun E ce q9 S236 H locs hx236 hw h1 h2 h3 => zxout hw hx0 hlocks h1 h2 h3 hx236 ⟨Nat.le_of_ble_eq_true rfl, Nat.le_of_ble_eq_true rfl⟩) (fun r236 S236 H locs hp236 hw => ?_)
  exact vx_ret (zri C hw hr hlocks rfl hp236 ⟨Nat.le_of_ble_eq_true rfl, Nat.le_of_ble_eq_true rfl⟩ dL_asked_239)

set_option maxHeartbeats 4000000 in
set_option maxRecDepth 100000 in
/-- L_ask -/
theorem c_L_ask_k_kind_g (l : Launch) (hst : l.stackTraces = false) (D : va_G) (y : Nat → ClassId) (base : Nat) (S : zS) (a : Nat → Nat) (n : Nat) (L : List zNt) (x : zNt) (ar : Nat) (hX : zX S a) (hNts : zNts S (a 4) (a 60) (a 61) (a 62) (a 63) (a 64)) (hDs : zDs a) (hNo : zNo S (a 4) (a 60) (a 61) (a 62) (a 63) (a 64)  L) (hx9 : L[n]? = some x) (hch : narrow .char (.int x.1) = .int x.1) (hK9 : zK S ar = 22) (hN9 : zN S ar = 1) (hj0 : zR S 22 ar 0 = (nI n)) : zMi l yL_ask wsL_ask ({ frames := 3, cells := 0, slots := 0, locals := 64 }) [.ref (a 0), .int 107, .ref ar] D y base S (fun (r : Int32) (S1 : zS) => r = x.1 ∧ S1 = S) 0 0 := by
  refine zMetH_of (cc := cL_ask) (maxL := 4) (ret := (some .int)) (own := RL) (hh := zhhA) (by decide +kernel) rfl rfl (Nat.le_of_ble_eq_true rfl) ?_
  intro p e s m args below meth c ls C hr hlocks hx0 hw hl
  have hx := C.1
  have hb := C.2.1
  have hown := C.2.2.2.1
  have hts := C.2.2.2.2
  have hl : lv_has ls 4 [(0, .ref (a 0)), (1, .int 107), (2, .ref ar)] := hl
  refine lv_iload_n hx hb dL_ask_0 rfl (lv_at hl 1 rfl) ?_
  refine lv_tableIn (off := 455) (tgt := 456) hx hb dL_ask_1 (by decide) (by decide) (by decide +kernel) (by decide) ?_
  refine lv_aload_n hx hb dL_ask_456 rfl (lv_at hl 0 rfl) ?_
  refine lv_iload_n hx hb dL_ask_457 rfl (lv_at hl 1 rfl) ?_
  refine lv_aload_n hx hb dL_ask_458 rfl (lv_at hl 2 rfl) ?_
  refine zcS_xi2 (As := [.ref (a 0), .int 107, .ref ar]) (rest := []) (n9 := 3) C hw (c_L_asked_k_kind_g l hst D y base S a n L x ar hX hNts hDs hNo hx9 hch hK9 hN9 hj0) gL_ask_L_asked rfl (by decide +kernel) ⟨⟨rfl, rfl⟩, Nat.le_of_ble_eq_true rfl, Nat.le_of_ble_eq_true rfl⟩ rfl hl.1 rfl (Nat.le_of_ble_eq_true rfl) ⟨Nat.le_of_ble_eq_true rfl, Nat.le_of_ble_eq_true rfl⟩ dL_ask_459 (fun E9 ce q9 S459 H locs hx9 hw h1 h2 h3 => ?_) (fun r459 S459 H locs hp459 hw => ?_)
  · exact hx9.1.elim
  · exact zri C hw hr hlocks rfl hp459 ⟨Nat.le_of_ble_eq_true rfl, Nat.le_of_ble_eq_true rfl⟩ dL_ask_462

set_option maxHeartbeats 4000000 in
set_option maxRecDepth 100000 in
/-- L_asked -/
theorem c_L_asked_b_begin_g (l : Launch) (hst : l.stackTraces = false) (D : va_G) (y : Nat → ClassId) (base : Nat) (S : zS) (a : Nat → Nat) (n : Nat) (L : List zNt) (x : zNt) (ar : Nat) (hX : zX S a) (hNts : zNts S (a 4) (a 60) (a 61) (a 62) (a 63) (a 64)) (hDs : zDs a) (hNo : zNo S (a 4) (a 60) (a 61) (a 62) (a 63) (a 64)  L) (hx9 : L[n]? = some x) (hK9 : zK S ar = 22) (hN9 : zN S ar = 1) (hj0 : zR S 22 ar 0 = (nI n)) : zXi l yL_asked wsL_asked ({ frames := 2, cells := 0, slots := 0, locals := 42 }) [.ref (a 0), .int 98, .ref ar] D y base S (fun (r : Int32) (S1 : zS) => r = x.2.1 ∧ S1 = S) (fun (E : String) (S1 : zS) => False ∧ S1 = S) 0 0 := by
  refine zXet_of (cc := cL_asked) (maxL := 3) (ret := (some .int)) (own := RL) (by decide +kernel) rfl rfl (Nat.le_of_ble_eq_true rfl) ?_
  intro p e s m args below meth c ls C hr hlocks hx0 hw hl
  have hx := C.1
  have hb := C.2.1
  have hown := C.2.2.2.1
  have hts := C.2.2.2.2
  have hl : lv_has ls 3 [(0, .ref (a 0)), (1, .int 98), (2, .ref ar)] := hl
  refine lv_iload_n hx hb dL_asked_0 rfl (lv_at hl 1 rfl) ?_
  refine lv_lookup (off := 239) (tgt := 240) hx hb dL_asked_1 (by decide) (by decide +kernel) (by decide) ?_
  refine lv_aload_n hx hb dL_asked_240 rfl (lv_at hl 0 rfl) ?_
  refine lv_aload_n hx hb dL_asked_241 rfl (lv_at hl 2 rfl) ?_
  refine lv_iconst (v := 0) hx hb dL_asked_242 (by decide) ?_
  refine zald_I (a := ar) C hw hK9 hN9 (zin_of (N := 1) (by decide) (by decide) (by decide)) dL_asked_243 ?_
  refine zrd (x := (nI n)) (zrk hj0 (by decide)) ?_
  refine zcV_xi (As := [.int (nI n)]) (rest := []) (n9 := 1) (b := (a 0)) C hw (c_X7_begin_g l hst D y base S a n L x hX hNts hDs hNo hx9) gL_asked_X7_begin rfl (by decide +kernel) ⟨⟨rfl, rfl⟩, Nat.le_of_ble_eq_true rfl, Nat.le_of_ble_eq_true rfl⟩ hX.1 ⟨by decide, by decide⟩ rfl rfl hl.1 rfl (Nat.le_of_ble_eq_true rfl) ⟨Nat.le_of_ble_eq_true rfl, Nat.le_of_ble_eq_true rfl⟩ dL_asked_244 (fun E ce q9 S244 H locs hx244 hw h1 h2 h3 => zxout hw hx0 hlocks h1 h2 h3 hx244 ⟨Nat.le_of_ble_eq_true rfl, Nat.le_of_ble_eq_true rfl⟩) (fun r244 S244 H locs hp244 hw => ?_)
  exact vx_ret (zri C hw hr hlocks rfl hp244 ⟨Nat.le_of_ble_eq_true rfl, Nat.le_of_ble_eq_true rfl⟩ dL_asked_247)

set_option maxHeartbeats 4000000 in
set_option maxRecDepth 100000 in
/-- L_ask -/
theorem c_L_ask_b_begin_g (l : Launch) (hst : l.stackTraces = false) (D : va_G) (y : Nat → ClassId) (base : Nat) (S : zS) (a : Nat → Nat) (n : Nat) (L : List zNt) (x : zNt) (ar : Nat) (hX : zX S a) (hNts : zNts S (a 4) (a 60) (a 61) (a 62) (a 63) (a 64)) (hDs : zDs a) (hNo : zNo S (a 4) (a 60) (a 61) (a 62) (a 63) (a 64)  L) (hx9 : L[n]? = some x) (hK9 : zK S ar = 22) (hN9 : zN S ar = 1) (hj0 : zR S 22 ar 0 = (nI n)) : zMi l yL_ask wsL_ask ({ frames := 3, cells := 0, slots := 0, locals := 64 }) [.ref (a 0), .int 98, .ref ar] D y base S (fun (r : Int32) (S1 : zS) => r = x.2.1 ∧ S1 = S) 0 0 := by
  refine zMetH_of (cc := cL_ask) (maxL := 4) (ret := (some .int)) (own := RL) (hh := zhhA) (by decide +kernel) rfl rfl (Nat.le_of_ble_eq_true rfl) ?_
  intro p e s m args below meth c ls C hr hlocks hx0 hw hl
  have hx := C.1
  have hb := C.2.1
  have hown := C.2.2.2.1
  have hts := C.2.2.2.2
  have hl : lv_has ls 4 [(0, .ref (a 0)), (1, .int 98), (2, .ref ar)] := hl
  refine lv_iload_n hx hb dL_ask_0 rfl (lv_at hl 1 rfl) ?_
  refine lv_tableIn (off := 455) (tgt := 456) hx hb dL_ask_1 (by decide) (by decide) (by decide +kernel) (by decide) ?_
  refine lv_aload_n hx hb dL_ask_456 rfl (lv_at hl 0 rfl) ?_
  refine lv_iload_n hx hb dL_ask_457 rfl (lv_at hl 1 rfl) ?_
  refine lv_aload_n hx hb dL_ask_458 rfl (lv_at hl 2 rfl) ?_
  refine zcS_xi2 (As := [.ref (a 0), .int 98, .ref ar]) (rest := []) (n9 := 3) C hw (c_L_asked_b_begin_g l hst D y base S a n L x ar hX hNts hDs hNo hx9 hK9 hN9 hj0) gL_ask_L_asked rfl (by decide +kernel) ⟨⟨rfl, rfl⟩, Nat.le_of_ble_eq_true rfl, Nat.le_of_ble_eq_true rfl⟩ rfl hl.1 rfl (Nat.le_of_ble_eq_true rfl) ⟨Nat.le_of_ble_eq_true rfl, Nat.le_of_ble_eq_true rfl⟩ dL_ask_459 (fun E9 ce q9 S459 H locs hx9 hw h1 h2 h3 => ?_) (fun r459 S459 H locs hp459 hw => ?_)
  · exact hx9.1.elim
  · exact zri C hw hr hlocks rfl hp459 ⟨Nat.le_of_ble_eq_true rfl, Nat.le_of_ble_eq_true rfl⟩ dL_ask_462

set_option maxHeartbeats 4000000 in
set_option maxRecDepth 100000 in
/-- L_asked -/
theorem c_L_asked_e_end_g (l : Launch) (hst : l.stackTraces = false) (D : va_G) (y : Nat → ClassId) (base : Nat) (S : zS) (a : Nat → Nat) (n : Nat) (L : List zNt) (x : zNt) (ar : Nat) (hX : zX S a) (hNts : zNts S (a 4) (a 60) (a 61) (a 62) (a 63) (a 64)) (hDs : zDs a) (hNo : zNo S (a 4) (a 60) (a 61) (a 62) (a 63) (a 64)  L) (hx9 : L[n]? = some x) (hK9 : zK S ar = 22) (hN9 : zN S ar = 1) (hj0 : zR S 22 ar 0 = (nI n)) : zXi l yL_asked wsL_asked ({ frames := 2, cells := 0, slots := 0, locals := 42 }) [.ref (a 0), .int 101, .ref ar] D y base S (fun (r : Int32) (S1 : zS) => r = x.2.2.1 ∧ S1 = S) (fun (E : String) (S1 : zS) => False ∧ S1 = S) 0 0 := by
  refine zXet_of (cc := cL_asked) (maxL := 3) (ret := (some .int)) (own := RL) (by decide +kernel) rfl rfl (Nat.le_of_ble_eq_true rfl) ?_
  intro p e s m args below meth c ls C hr hlocks hx0 hw hl
  have hx := C.1
  have hb := C.2.1
  have hown := C.2.2.2.1
  have hts := C.2.2.2.2
  have hl : lv_has ls 3 [(0, .ref (a 0)), (1, .int 101), (2, .ref ar)] := hl
  refine lv_iload_n hx hb dL_asked_0 rfl (lv_at hl 1 rfl) ?_
  refine lv_lookup (off := 247) (tgt := 248) hx hb dL_asked_1 (by decide) (by decide +kernel) (by decide) ?_
  refine lv_aload_n hx hb dL_asked_248 rfl (lv_at hl 0 rfl) ?_
  refine lv_aload_n hx hb dL_asked_249 rfl (lv_at hl 2 rfl) ?_
  refine lv_iconst (v := 0) hx hb dL_asked_250 (by decide) ?_
  refine zald_I (a := ar) C hw hK9 hN9 (zin_of (N := 1) (by decide) (by decide) (by decide)) dL_asked_251 ?_
  refine zrd (x := (nI n)) (zrk hj0 (by decide)) ?_
  refine zcV_xi (As := [.int (nI n)]) (rest := []) (n9 := 1) (b := (a 0)) C hw (c_X7_end_g l hst D y base S a n L x hX hNts hDs hNo hx9) gL_asked_X7_end rfl (by decide +kernel) ⟨⟨rfl, rfl⟩, Nat.le_of_ble_eq_true rfl, Nat.le_of_ble_eq_true rfl⟩ hX.1 ⟨by decide, by decide⟩ rfl rfl hl.1 rfl (Nat.le_of_ble_eq_true rfl) ⟨Nat.le_of_ble_eq_true rfl, Nat.le_of_ble_eq_true rfl⟩ dL_asked_252 (fun E ce q9 S252 H locs hx252 hw h1 h2 h3 => zxout hw hx0 hlocks h1 h2 h3 hx252 ⟨Nat.le_of_ble_eq_true rfl, Nat.le_of_ble_eq_true rfl⟩) (fun r252 S252 H locs hp252 hw => ?_)
  exact vx_ret (zri C hw hr hlocks rfl hp252 ⟨Nat.le_of_ble_eq_true rfl, Nat.le_of_ble_eq_true rfl⟩ dL_asked_255)

set_option maxHeartbeats 4000000 in
set_option maxRecDepth 100000 in
/-- L_ask -/
theorem c_L_ask_e_end_g (l : Launch) (hst : l.stackTraces = false) (D : va_G) (y : Nat → ClassId) (base : Nat) (S : zS) (a : Nat → Nat) (n : Nat) (L : List zNt) (x : zNt) (ar : Nat) (hX : zX S a) (hNts : zNts S (a 4) (a 60) (a 61) (a 62) (a 63) (a 64)) (hDs : zDs a) (hNo : zNo S (a 4) (a 60) (a 61) (a 62) (a 63) (a 64)  L) (hx9 : L[n]? = some x) (hK9 : zK S ar = 22) (hN9 : zN S ar = 1) (hj0 : zR S 22 ar 0 = (nI n)) : zMi l yL_ask wsL_ask ({ frames := 3, cells := 0, slots := 0, locals := 64 }) [.ref (a 0), .int 101, .ref ar] D y base S (fun (r : Int32) (S1 : zS) => r = x.2.2.1 ∧ S1 = S) 0 0 := by
  refine zMetH_of (cc := cL_ask) (maxL := 4) (ret := (some .int)) (own := RL) (hh := zhhA) (by decide +kernel) rfl rfl (Nat.le_of_ble_eq_true rfl) ?_
  intro p e s m args below meth c ls C hr hlocks hx0 hw hl
  have hx := C.1
  have hb := C.2.1
  have hown := C.2.2.2.1
  have hts := C.2.2.2.2
  have hl : lv_has ls 4 [(0, .ref (a 0)), (1, .int 101), (2, .ref ar)] := hl
  refine lv_iload_n hx hb dL_ask_0 rfl (lv_at hl 1 rfl) ?_
  refine lv_tableIn (off := 455) (tgt := 456) hx hb dL_ask_1 (by decide) (by decide) (by decide +kernel) (by decide) ?_
  refine lv_aload_n hx hb dL_ask_456 rfl (lv_at hl 0 rfl) ?_
  refine lv_iload_n hx hb dL_ask_457 rfl (lv_at hl 1 rfl) ?_
  refine lv_aload_n hx hb dL_ask_458 rfl (lv_at hl 2 rfl) ?_
  refine zcS_xi2 (As := [.ref (a 0), .int 101, .ref ar]) (rest := []) (n9 := 3) C hw (c_L_asked_e_end_g l hst D y base S a n L x ar hX hNts hDs hNo hx9 hK9 hN9 hj0) gL_ask_L_asked rfl (by decide +kernel) ⟨⟨rfl, rfl⟩, Nat.le_of_ble_eq_true rfl, Nat.le_of_ble_eq_true rfl⟩ rfl hl.1 rfl (Nat.le_of_ble_eq_true rfl) ⟨Nat.le_of_ble_eq_true rfl, Nat.le_of_ble_eq_true rfl⟩ dL_ask_459 (fun E9 ce q9 S459 H locs hx9 hw h1 h2 h3 => ?_) (fun r459 S459 H locs hp459 hw => ?_)
  · exact hx9.1.elim
  · exact zri C hw hr hlocks rfl hp459 ⟨Nat.le_of_ble_eq_true rfl, Nat.le_of_ble_eq_true rfl⟩ dL_ask_462

set_option maxHeartbeats 4000000 in
set_option maxRecDepth 100000 in
/-- L_asked -/
theorem c_L_asked_v_value_g (l : Launch) (hst : l.stackTraces = false) (D : va_G) (y : Nat → ClassId) (base : Nat) (S : zS) (a : Nat → Nat) (n : Nat) (L : List zNt) (x : zNt) (ar : Nat) (hX : zX S a) (hNts : zNts S (a 4) (a 60) (a 61) (a 62) (a 63) (a 64)) (hDs : zDs a) (hNo : zNo S (a 4) (a 60) (a 61) (a 62) (a 63) (a 64)  L) (hx9 : L[n]? = some x) (hK9 : zK S ar = 22) (hN9 : zN S ar = 1) (hj0 : zR S 22 ar 0 = (nI n)) : zXi l yL_asked wsL_asked ({ frames := 2, cells := 0, slots := 0, locals := 42 }) [.ref (a 0), .int 118, .ref ar] D y base S (fun (r : Int32) (S1 : zS) => r = x.2.2.2.1 ∧ S1 = S) (fun (E : String) (S1 : zS) => False ∧ S1 = S) 0 0 := by
  refine zXet_of (cc := cL_asked) (maxL := 3) (ret := (some .int)) (own := RL) (by decide +kernel) rfl rfl (Nat.le_of_ble_eq_true rfl) ?_
  intro p e s m args below meth c ls C hr hlocks hx0 hw hl
  have hx := C.1
  have hb := C.2.1
  have hown := C.2.2.2.1
  have hts := C.2.2.2.2
  have hl : lv_has ls 3 [(0, .ref (a 0)), (1, .int 118), (2, .ref ar)] := hl
  refine lv_iload_n hx hb dL_asked_0 rfl (lv_at hl 1 rfl) ?_
  refine lv_lookup (off := 255) (tgt := 256) hx hb dL_asked_1 (by decide) (by decide +kernel) (by decide) ?_
  refine lv_aload_n hx hb dL_asked_256 rfl (lv_at hl 0 rfl) ?_
  refine lv_aload_n hx hb dL_asked_257 rfl (lv_at hl 2 rfl) ?_
  refine lv_iconst (v := 0) hx hb dL_asked_258 (by decide) ?_
  refine zald_I (a := ar) C hw hK9 hN9 (zin_of (N := 1) (by decide) (by decide) (by decide)) dL_asked_259 ?_
  refine zrd (x := (nI n)) (zrk hj0 (by decide)) ?_
  refine zcV_xi (As := [.int (nI n)]) (rest := []) (n9 := 1) (b := (a 0)) C hw (c_X7_value_g l hst D y base S a n L x hX hNts hDs hNo hx9) gL_asked_X7_value rfl (by decide +kernel) ⟨⟨rfl, rfl⟩, Nat.le_of_ble_eq_true rfl, Nat.le_of_ble_eq_true rfl⟩ hX.1 ⟨by decide, by decide⟩ rfl rfl hl.1 rfl (Nat.le_of_ble_eq_true rfl) ⟨Nat.le_of_ble_eq_true rfl, Nat.le_of_ble_eq_true rfl⟩ dL_asked_260 (fun E ce q9 S260 H locs hx260 hw h1 h2 h3 => zxout hw hx0 hlocks h1 h2 h3 hx260 ⟨Nat.le_of_ble_eq_true rfl, Nat.le_of_ble_eq_true rfl⟩) (fun r260 S260 H locs hp260 hw => ?_)
  exact vx_ret (zri C hw hr hlocks rfl hp260 ⟨Nat.le_of_ble_eq_true rfl, Nat.le_of_ble_eq_true rfl⟩ dL_asked_263)

set_option maxHeartbeats 4000000 in
set_option maxRecDepth 100000 in
/-- L_ask -/
theorem c_L_ask_v_value_g (l : Launch) (hst : l.stackTraces = false) (D : va_G) (y : Nat → ClassId) (base : Nat) (S : zS) (a : Nat → Nat) (n : Nat) (L : List zNt) (x : zNt) (ar : Nat) (hX : zX S a) (hNts : zNts S (a 4) (a 60) (a 61) (a 62) (a 63) (a 64)) (hDs : zDs a) (hNo : zNo S (a 4) (a 60) (a 61) (a 62) (a 63) (a 64)  L) (hx9 : L[n]? = some x) (hK9 : zK S ar = 22) (hN9 : zN S ar = 1) (hj0 : zR S 22 ar 0 = (nI n)) : zMi l yL_ask wsL_ask ({ frames := 3, cells := 0, slots := 0, locals := 64 }) [.ref (a 0), .int 118, .ref ar] D y base S (fun (r : Int32) (S1 : zS) => r = x.2.2.2.1 ∧ S1 = S) 0 0 := by
  refine zMetH_of (cc := cL_ask) (maxL := 4) (ret := (some .int)) (own := RL) (hh := zhhA) (by decide +kernel) rfl rfl (Nat.le_of_ble_eq_true rfl) ?_
  intro p e s m args below meth c ls C hr hlocks hx0 hw hl
  have hx := C.1
  have hb := C.2.1
  have hown := C.2.2.2.1
  have hts := C.2.2.2.2
  have hl : lv_has ls 4 [(0, .ref (a 0)), (1, .int 118), (2, .ref ar)] := hl
  refine lv_iload_n hx hb dL_ask_0 rfl (lv_at hl 1 rfl) ?_
  refine lv_tableOut (tgt := 456) hx hb dL_ask_1 (by decide) (by decide) ?_
  refine lv_aload_n hx hb dL_ask_456 rfl (lv_at hl 0 rfl) ?_
  refine lv_iload_n hx hb dL_ask_457 rfl (lv_at hl 1 rfl) ?_
  refine lv_aload_n hx hb dL_ask_458 rfl (lv_at hl 2 rfl) ?_
  refine zcS_xi2 (As := [.ref (a 0), .int 118, .ref ar]) (rest := []) (n9 := 3) C hw (c_L_asked_v_value_g l hst D y base S a n L x ar hX hNts hDs hNo hx9 hK9 hN9 hj0) gL_ask_L_asked rfl (by decide +kernel) ⟨⟨rfl, rfl⟩, Nat.le_of_ble_eq_true rfl, Nat.le_of_ble_eq_true rfl⟩ rfl hl.1 rfl (Nat.le_of_ble_eq_true rfl) ⟨Nat.le_of_ble_eq_true rfl, Nat.le_of_ble_eq_true rfl⟩ dL_ask_459 (fun E9 ce q9 S459 H locs hx9 hw h1 h2 h3 => ?_) (fun r459 S459 H locs hp459 hw => ?_)
  · exact hx9.1.elim
  · exact zri C hw hr hlocks rfl hp459 ⟨Nat.le_of_ble_eq_true rfl, Nat.le_of_ble_eq_true rfl⟩ dL_ask_462

set_option maxHeartbeats 4000000 in
set_option maxRecDepth 100000 in
/-- L_asked -/
theorem c_L_asked_x_fault_g (l : Launch) (hst : l.stackTraces = false) (D : va_G) (y : Nat → ClassId) (base : Nat) (S : zS) (a : Nat → Nat) (n : Nat) (L : List zNt) (x : zNt) (ar : Nat) (hX : zX S a) (hNts : zNts S (a 4) (a 60) (a 61) (a 62) (a 63) (a 64)) (hDs : zDs a) (hNo : zNo S (a 4) (a 60) (a 61) (a 62) (a 63) (a 64)  L) (hx9 : L[n]? = some x) (hch : narrow .char (.int x.2.2.2.2) = .int x.2.2.2.2) (hK9 : zK S ar = 22) (hN9 : zN S ar = 1) (hj0 : zR S 22 ar 0 = (nI n)) : zXi l yL_asked wsL_asked ({ frames := 2, cells := 0, slots := 0, locals := 42 }) [.ref (a 0), .int 120, .ref ar] D y base S (fun (r : Int32) (S1 : zS) => r = x.2.2.2.2 ∧ S1 = S) (fun (E : String) (S1 : zS) => False ∧ S1 = S) 0 0 := by
  refine zXet_of (cc := cL_asked) (maxL := 3) (ret := (some .int)) (own := RL) (by decide +kernel) rfl rfl (Nat.le_of_ble_eq_true rfl) ?_
  intro p e s m args below meth c ls C hr hlocks hx0 hw hl
  have hx := C.1
  have hb := C.2.1
  have hown := C.2.2.2.1
  have hts := C.2.2.2.2
  have hl : lv_has ls 3 [(0, .ref (a 0)), (1, .int 120), (2, .ref ar)] := hl
  refine lv_iload_n hx hb dL_asked_0 rfl (lv_at hl 1 rfl) ?_
  refine lv_lookup (off := 263) (tgt := 264) hx hb dL_asked_1 (by decide) (by decide +kernel) (by decide) ?_
  refine lv_aload_n hx hb dL_asked_264 rfl (lv_at hl 0 rfl) ?_
  refine lv_aload_n hx hb dL_asked_265 rfl (lv_at hl 2 rfl) ?_
  refine lv_iconst (v := 0) hx hb dL_asked_266 (by decide) ?_
  refine zald_I (a := ar) C hw hK9 hN9 (zin_of (N := 1) (by decide) (by decide) (by decide)) dL_asked_267 ?_
  refine zrd (x := (nI n)) (zrk hj0 (by decide)) ?_
  refine zcV_xi (As := [.int (nI n)]) (rest := []) (n9 := 1) (b := (a 0)) C hw (c_X7_fault_g l hst D y base S a n L x hX hNts hDs hNo hx9 hch) gL_asked_X7_fault rfl (by decide +kernel) ⟨⟨rfl, rfl⟩, Nat.le_of_ble_eq_true rfl, Nat.le_of_ble_eq_true rfl⟩ hX.1 ⟨by decide, by decide⟩ rfl rfl hl.1 rfl (Nat.le_of_ble_eq_true rfl) ⟨Nat.le_of_ble_eq_true rfl, Nat.le_of_ble_eq_true rfl⟩ dL_asked_268 (fun E ce q9 S268 H locs hx268 hw h1 h2 h3 => zxout hw hx0 hlocks h1 h2 h3 hx268 ⟨Nat.le_of_ble_eq_true rfl, Nat.le_of_ble_eq_true rfl⟩) (fun r268 S268 H locs hp268 hw => ?_)
  exact vx_ret (zri C hw hr hlocks rfl hp268 ⟨Nat.le_of_ble_eq_true rfl, Nat.le_of_ble_eq_true rfl⟩ dL_asked_271)

set_option maxHeartbeats 4000000 in
set_option maxRecDepth 100000 in
/-- L_ask -/
theorem c_L_ask_x_fault_g (l : Launch) (hst : l.stackTraces = false) (D : va_G) (y : Nat → ClassId) (base : Nat) (S : zS) (a : Nat → Nat) (n : Nat) (L : List zNt) (x : zNt) (ar : Nat) (hX : zX S a) (hNts : zNts S (a 4) (a 60) (a 61) (a 62) (a 63) (a 64)) (hDs : zDs a) (hNo : zNo S (a 4) (a 60) (a 61) (a 62) (a 63) (a 64)  L) (hx9 : L[n]? = some x) (hch : narrow .char (.int x.2.2.2.2) = .int x.2.2.2.2) (hK9 : zK S ar = 22) (hN9 : zN S ar = 1) (hj0 : zR S 22 ar 0 = (nI n)) : zMi l yL_ask wsL_ask ({ frames := 3, cells := 0, slots := 0, locals := 64 }) [.ref (a 0), .int 120, .ref ar] D y base S (fun (r : Int32) (S1 : zS) => r = x.2.2.2.2 ∧ S1 = S) 0 0 := by
  refine zMetH_of (cc := cL_ask) (maxL := 4) (ret := (some .int)) (own := RL) (hh := zhhA) (by decide +kernel) rfl rfl (Nat.le_of_ble_eq_true rfl) ?_
  intro p e s m args below meth c ls C hr hlocks hx0 hw hl
  have hx := C.1
  have hb := C.2.1
  have hown := C.2.2.2.1
  have hts := C.2.2.2.2
  have hl : lv_has ls 4 [(0, .ref (a 0)), (1, .int 120), (2, .ref ar)] := hl
  refine lv_iload_n hx hb dL_ask_0 rfl (lv_at hl 1 rfl) ?_
  refine lv_tableOut (tgt := 456) hx hb dL_ask_1 (by decide) (by decide) ?_
  refine lv_aload_n hx hb dL_ask_456 rfl (lv_at hl 0 rfl) ?_
  refine lv_iload_n hx hb dL_ask_457 rfl (lv_at hl 1 rfl) ?_
  refine lv_aload_n hx hb dL_ask_458 rfl (lv_at hl 2 rfl) ?_
  refine zcS_xi2 (As := [.ref (a 0), .int 120, .ref ar]) (rest := []) (n9 := 3) C hw (c_L_asked_x_fault_g l hst D y base S a n L x ar hX hNts hDs hNo hx9 hch hK9 hN9 hj0) gL_ask_L_asked rfl (by decide +kernel) ⟨⟨rfl, rfl⟩, Nat.le_of_ble_eq_true rfl, Nat.le_of_ble_eq_true rfl⟩ rfl hl.1 rfl (Nat.le_of_ble_eq_true rfl) ⟨Nat.le_of_ble_eq_true rfl, Nat.le_of_ble_eq_true rfl⟩ dL_ask_459 (fun E9 ce q9 S459 H locs hx9 hw h1 h2 h3 => ?_) (fun r459 S459 H locs hp459 hw => ?_)
  · exact hx9.1.elim
  · exact zri C hw hr hlocks rfl hp459 ⟨Nat.le_of_ble_eq_true rfl, Nat.le_of_ble_eq_true rfl⟩ dL_ask_462

set_option maxHeartbeats 4000000 in
set_option maxRecDepth 100000 in
/-- L_asked -/
theorem c_L_asked_z_register_g (l : Launch) (hst : l.stackTraces = false) (D : va_G) (y : Nat → ClassId) (base : Nat) (S : zS) (a : Nat → Nat) (ad : Nat) (tg : Nat) (ar : Nat) (hX : zX S a) (hDs : zDs a) (had : ad < 128) (htg : tg < 16) (hK9 : zK S ar = 22) (hN9 : zN S ar = 2) (hj0 : zR S 22 ar 0 = (nI ad)) (hj1 : zR S 22 ar 1 = (nI tg)) : zXi l yL_asked wsL_asked ({ frames := 8, cells := 2, slots := 12, locals := 134 }) [.ref (a 0), .int 122, .ref ar] D y base S (fun (r : Int32) (S1 : zS) => r = zR S 22 (a 6) (ad * 16 + tg) ∧ S1 = S) (fun (E : String) (S1 : zS) => False ∧ S1 = S) 2 12 := by
  refine zXet_of (cc := cL_asked) (maxL := 3) (ret := (some .int)) (own := RL) (by decide +kernel) rfl rfl (Nat.le_of_ble_eq_true rfl) ?_
  intro p e s m args below meth c ls C hr hlocks hx0 hw hl
  have hx := C.1
  have hb := C.2.1
  have hown := C.2.2.2.1
  have hts := C.2.2.2.2
  have hl : lv_has ls 3 [(0, .ref (a 0)), (1, .int 122), (2, .ref ar)] := hl
  refine lv_iload_n hx hb dL_asked_0 rfl (lv_at hl 1 rfl) ?_
  refine lv_lookup (off := 282) (tgt := 283) hx hb dL_asked_1 (by decide) (by decide +kernel) (by decide) ?_
  refine lv_aload_n hx hb dL_asked_283 rfl (lv_at hl 0 rfl) ?_
  refine lv_aload_n hx hb dL_asked_284 rfl (lv_at hl 2 rfl) ?_
  refine lv_iconst (v := 0) hx hb dL_asked_285 (by decide) ?_
  refine zald_I (a := ar) C hw hK9 hN9 (zin_of (N := 2) (by decide) (by decide) (by decide)) dL_asked_286 ?_
  refine zrd (x := (nI ad)) (zrk hj0 (by decide)) ?_
  refine lv_aload_n hx hb dL_asked_287 rfl (lv_at hl 2 rfl) ?_
  refine lv_iconst (v := 1) hx hb dL_asked_288 (by decide) ?_
  refine zald_I (a := ar) C hw hK9 hN9 (zin_of (N := 2) (by decide) (by decide) (by decide)) dL_asked_289 ?_
  refine zrd (x := (nI tg)) (zrk hj1 (by decide)) ?_
  refine zcV_xi (As := [.int (nI ad), .int (nI tg)]) (rest := []) (n9 := 2) (b := (a 0)) C hw (c_X7_register_g l hst D y base S a ad tg hX hDs had htg) gL_asked_X7_register rfl (by decide +kernel) ⟨⟨rfl, rfl⟩, Nat.le_of_ble_eq_true rfl, Nat.le_of_ble_eq_true rfl⟩ hX.1 ⟨by decide, by decide⟩ rfl rfl hl.1 rfl (Nat.le_of_ble_eq_true rfl) ⟨Nat.le_of_ble_eq_true rfl, Nat.le_of_ble_eq_true rfl⟩ dL_asked_290 (fun E ce q9 S290 H locs hx290 hw h1 h2 h3 => zxout hw hx0 hlocks h1 h2 h3 hx290 ⟨Nat.le_of_ble_eq_true rfl, Nat.le_of_ble_eq_true rfl⟩) (fun r290 S290 H locs hp290 hw => ?_)
  exact vx_ret (zri C hw hr hlocks rfl hp290 ⟨Nat.le_of_ble_eq_true rfl, Nat.le_of_ble_eq_true rfl⟩ dL_asked_293)

set_option maxHeartbeats 4000000 in
set_option maxRecDepth 100000 in
/-- L_ask -/
theorem c_L_ask_z_register_g (l : Launch) (hst : l.stackTraces = false) (D : va_G) (y : Nat → ClassId) (base : Nat) (S : zS) (a : Nat → Nat) (ad : Nat) (tg : Nat) (ar : Nat) (hX : zX S a) (hDs : zDs a) (had : ad < 128) (htg : tg < 16) (hK9 : zK S ar = 22) (hN9 : zN S ar = 2) (hj0 : zR S 22 ar 0 = (nI ad)) (hj1 : zR S 22 ar 1 = (nI tg)) : zMi l yL_ask wsL_ask ({ frames := 9, cells := 2, slots := 12, locals := 156 }) [.ref (a 0), .int 122, .ref ar] D y base S (fun (r : Int32) (S1 : zS) => r = zR S 22 (a 6) (ad * 16 + tg) ∧ S1 = S) 2 12 := by
  refine zMetH_of (cc := cL_ask) (maxL := 4) (ret := (some .int)) (own := RL) (hh := zhhA) (by decide +kernel) rfl rfl (Nat.le_of_ble_eq_true rfl) ?_
  intro p e s m args below meth c ls C hr hlocks hx0 hw hl
  have hx := C.1
  have hb := C.2.1
  have hown := C.2.2.2.1
  have hts := C.2.2.2.2
  have hl : lv_has ls 4 [(0, .ref (a 0)), (1, .int 122), (2, .ref ar)] := hl
  refine lv_iload_n hx hb dL_ask_0 rfl (lv_at hl 1 rfl) ?_
  refine lv_tableOut (tgt := 456) hx hb dL_ask_1 (by decide) (by decide) ?_
  refine lv_aload_n hx hb dL_ask_456 rfl (lv_at hl 0 rfl) ?_
  refine lv_iload_n hx hb dL_ask_457 rfl (lv_at hl 1 rfl) ?_
  refine lv_aload_n hx hb dL_ask_458 rfl (lv_at hl 2 rfl) ?_
  refine zcS_xi2 (As := [.ref (a 0), .int 122, .ref ar]) (rest := []) (n9 := 3) C hw (c_L_asked_z_register_g l hst D y base S a ad tg ar hX hDs had htg hK9 hN9 hj0 hj1) gL_ask_L_asked rfl (by decide +kernel) ⟨⟨rfl, rfl⟩, Nat.le_of_ble_eq_true rfl, Nat.le_of_ble_eq_true rfl⟩ rfl hl.1 rfl (Nat.le_of_ble_eq_true rfl) ⟨Nat.le_of_ble_eq_true rfl, Nat.le_of_ble_eq_true rfl⟩ dL_ask_459 (fun E9 ce q9 S459 H locs hx9 hw h1 h2 h3 => ?_) (fun r459 S459 H locs hp459 hw => ?_)
  · exact hx9.1.elim
  · exact zri C hw hr hlocks rfl hp459 ⟨Nat.le_of_ble_eq_true rfl, Nat.le_of_ble_eq_true rfl⟩ dL_ask_462

set_option maxHeartbeats 4000000 in
set_option maxRecDepth 100000 in
/-- L_asked -/
theorem c_L_asked_w_follows_g (l : Launch) (hst : l.stackTraces = false) (D : va_G) (y : Nat → ClassId) (base : Nat) (S : zS) (a : Nat → Nat) (p0 : Int32) (p1 : Int32) (x0 : zNt) (x1 : zNt) (ar : Nat) (hX : zX S a) (hNts : zNts S (a 4) (a 60) (a 61) (a 62) (a 63) (a 64)) (hDs : zDs a) (hNo : zNo S (a 4) (a 60) (a 61) (a 62) (a 63) (a 64)  [x0, x1]) (hy0 : x0.1 = 66 ∧ x0.2.2.2.1 = p0) (hy1 : x1.1 = 66 ∧ x1.2.2.2.1 = p1) (hp0 : 0 ≤ p0 ∧ p0 ≤ 255) (hp1 : 0 ≤ p1 ∧ p1 ≤ 255) (hK9 : zK S ar = 22) (hN9 : zN S ar = 2) (hj0 : zR S 22 ar 0 = p0) (hj1 : zR S 22 ar 1 = p1) : zXi l yL_asked wsL_asked ({ frames := 8, cells := 2, slots := 12, locals := 134 }) [.ref (a 0), .int 119, .ref ar] D y base S (fun (r : Int32) (S1 : zS) => r = 1 ∧ S1 = S) (fun (E : String) (S1 : zS) => False ∧ S1 = S) 2 12 := by
  refine zXet_of (cc := cL_asked) (maxL := 3) (ret := (some .int)) (own := RL) (by decide +kernel) rfl rfl (Nat.le_of_ble_eq_true rfl) ?_
  intro p e s m args below meth c ls C hr hlocks hx0 hw hl
  have hx := C.1
  have hb := C.2.1
  have hown := C.2.2.2.1
  have hts := C.2.2.2.2
  have hl : lv_has ls 3 [(0, .ref (a 0)), (1, .int 119), (2, .ref ar)] := hl
  refine lv_iload_n hx hb dL_asked_0 rfl (lv_at hl 1 rfl) ?_
  refine lv_lookup (off := 293) (tgt := 294) hx hb dL_asked_1 (by decide) (by decide +kernel) (by decide) ?_
  refine lv_aload_n hx hb dL_asked_294 rfl (lv_at hl 0 rfl) ?_
  refine lv_aload_n hx hb dL_asked_295 rfl (lv_at hl 2 rfl) ?_
  refine lv_iconst (v := 0) hx hb dL_asked_296 (by decide) ?_
  refine zald_I (a := ar) C hw hK9 hN9 (zin_of (N := 2) (by decide) (by decide) (by decide)) dL_asked_297 ?_
  refine zrd (x := p0) (zrk hj0 (by decide)) ?_
  refine lv_aload_n hx hb dL_asked_298 rfl (lv_at hl 2 rfl) ?_
  refine lv_iconst (v := 1) hx hb dL_asked_299 (by decide) ?_
  refine zald_I (a := ar) C hw hK9 hN9 (zin_of (N := 2) (by decide) (by decide) (by decide)) dL_asked_300 ?_
  refine zrd (x := p1) (zrk hj1 (by decide)) ?_
  refine zcV_xi (As := [.int p0, .int p1]) (rest := []) (n9 := 2) (b := (a 0)) C hw (c_X7_follows_g l hst D y base S a p0 p1 x0 x1 hX hNts hDs hNo hy0 hy1 hp0 hp1) gL_asked_X7_follows rfl (by decide +kernel) ⟨⟨rfl, rfl⟩, Nat.le_of_ble_eq_true rfl, Nat.le_of_ble_eq_true rfl⟩ hX.1 ⟨by decide, by decide⟩ rfl rfl hl.1 rfl (Nat.le_of_ble_eq_true rfl) ⟨Nat.le_of_ble_eq_true rfl, Nat.le_of_ble_eq_true rfl⟩ dL_asked_301 (fun E ce q9 S301 H locs hx301 hw h1 h2 h3 => zxout hw hx0 hlocks h1 h2 h3 hx301 ⟨Nat.le_of_ble_eq_true rfl, Nat.le_of_ble_eq_true rfl⟩) (fun r301 S301 H locs hp301 hw => ?_)
  exact vx_ret (zri C hw hr hlocks rfl hp301 ⟨Nat.le_of_ble_eq_true rfl, Nat.le_of_ble_eq_true rfl⟩ dL_asked_304)

set_option maxHeartbeats 4000000 in
set_option maxRecDepth 100000 in
/-- L_ask -/
theorem c_L_ask_w_follows_g (l : Launch) (hst : l.stackTraces = false) (D : va_G) (y : Nat → ClassId) (base : Nat) (S : zS) (a : Nat → Nat) (p0 : Int32) (p1 : Int32) (x0 : zNt) (x1 : zNt) (ar : Nat) (hX : zX S a) (hNts : zNts S (a 4) (a 60) (a 61) (a 62) (a 63) (a 64)) (hDs : zDs a) (hNo : zNo S (a 4) (a 60) (a 61) (a 62) (a 63) (a 64)  [x0, x1]) (hy0 : x0.1 = 66 ∧ x0.2.2.2.1 = p0) (hy1 : x1.1 = 66 ∧ x1.2.2.2.1 = p1) (hp0 : 0 ≤ p0 ∧ p0 ≤ 255) (hp1 : 0 ≤ p1 ∧ p1 ≤ 255) (hK9 : zK S ar = 22) (hN9 : zN S ar = 2) (hj0 : zR S 22 ar 0 = p0) (hj1 : zR S 22 ar 1 = p1) : zMi l yL_ask wsL_ask ({ frames := 9, cells := 2, slots := 12, locals := 156 }) [.ref (a 0), .int 119, .ref ar] D y base S (fun (r : Int32) (S1 : zS) => r = 1 ∧ S1 = S) 2 12 := by
  refine zMetH_of (cc := cL_ask) (maxL := 4) (ret := (some .int)) (own := RL) (hh := zhhA) (by decide +kernel) rfl rfl (Nat.le_of_ble_eq_true rfl) ?_
  intro p e s m args below meth c ls C hr hlocks hx0 hw hl
  have hx := C.1
  have hb := C.2.1
  have hown := C.2.2.2.1
  have hts := C.2.2.2.2
  have hl : lv_has ls 4 [(0, .ref (a 0)), (1, .int 119), (2, .ref ar)] := hl
  refine lv_iload_n hx hb dL_ask_0 rfl (lv_at hl 1 rfl) ?_
  refine lv_tableOut (tgt := 456) hx hb dL_ask_1 (by decide) (by decide) ?_
  refine lv_aload_n hx hb dL_ask_456 rfl (lv_at hl 0 rfl) ?_
  refine lv_iload_n hx hb dL_ask_457 rfl (lv_at hl 1 rfl) ?_
  refine lv_aload_n hx hb dL_ask_458 rfl (lv_at hl 2 rfl) ?_
  refine zcS_xi2 (As := [.ref (a 0), .int 119, .ref ar]) (rest := []) (n9 := 3) C hw (c_L_asked_w_follows_g l hst D y base S a p0 p1 x0 x1 ar hX hNts hDs hNo hy0 hy1 hp0 hp1 hK9 hN9 hj0 hj1) gL_ask_L_asked rfl (by decide +kernel) ⟨⟨rfl, rfl⟩, Nat.le_of_ble_eq_true rfl, Nat.le_of_ble_eq_true rfl⟩ rfl hl.1 rfl (Nat.le_of_ble_eq_true rfl) ⟨Nat.le_of_ble_eq_true rfl, Nat.le_of_ble_eq_true rfl⟩ dL_ask_459 (fun E9 ce q9 S459 H locs hx9 hw h1 h2 h3 => ?_) (fun r459 S459 H locs hp459 hw => ?_)
  · exact hx9.1.elim
  · exact zri C hw hr hlocks rfl hp459 ⟨Nat.le_of_ble_eq_true rfl, Nat.le_of_ble_eq_true rfl⟩ dL_ask_462

set_option maxHeartbeats 4000000 in
set_option maxRecDepth 100000 in
/-- L_ask -/
theorem c_L_ask_s_serial_n (l : Launch) (hst : l.stackTraces = false) (D : va_G) (y : Nat → ClassId) (base : Nat) (S : zS) (a : Nat → Nat) (w : Nat) (v : Nat) (ta : Nat) (bt : Nat) (pr : Int32) (F : Nat → Int → Bool) (N : Nat → Nat) (A1 : Int32) (A2 : Int32) (rg : Nat → Int32) (ns : Nat) (L : List zNt) (ar : Nat) (hX : zX S a) (hDs : zDs a) (hw4 : w < 4) (hv : v < 256) (hta : ta ≤ 9999) (hhb : 2 ≤ bt ∧ bt ≤ 50) (hpr : pr = 110 ∨ pr = 101 ∨ pr = 111) (hOb : zOb S a F N A1 A2 rg ns L) (hbig : ∃ t : Int, 9999 ≤ t ∧ ¬ (zpt 1 (zlS (nI v) pr) (ztk (nI ta) (nI bt)) (zsbN pr)) t = (zpt 1 (zlS (nI v) pr) (ztk (nI ta) (nI bt)) (zsbN pr)) 9999) (hK9 : zK S ar = 22) (hN9 : zN S ar = 5) (hj0 : zR S 22 ar 0 = (nI w)) (hj1 : zR S 22 ar 1 = (nI v)) (hj2 : zR S 22 ar 2 = (nI ta)) (hj3 : zR S 22 ar 3 = (nI bt)) (hj4 : zR S 22 ar 4 = pr) (hic : ((pr.toUInt32 % 65536).toInt32) = pr) : zMi l yL_ask wsL_ask ({ frames := 8, cells := 6, slots := 36, locals := 141 }) [.ref (a 0), .int 115, .ref ar] D y base S (fun (r : Int32) (S1 : zS) => r = (-2000000003) ∧ zLate S S1 a) 6 36 := by
  refine zMetH_of (cc := cL_ask) (maxL := 4) (ret := (some .int)) (own := RL) (hh := zhhA) (by decide +kernel) rfl rfl (Nat.le_of_ble_eq_true rfl) ?_
  intro p e s m args below meth c ls C hr hlocks hx0 hw hl
  have hx := C.1
  have hb := C.2.1
  have hown := C.2.2.2.1
  have hts := C.2.2.2.2
  have hl : lv_has ls 4 [(0, .ref (a 0)), (1, .int 115), (2, .ref ar)] := hl
  refine lv_iload_n hx hb dL_ask_0 rfl (lv_at hl 1 rfl) ?_
  refine lv_tableIn (off := 295) (tgt := 296) hx hb dL_ask_1 (by decide) (by decide) (by decide +kernel) (by decide) ?_
  refine lv_aload_n hx hb dL_ask_296 rfl (lv_at hl 0 rfl) ?_
  refine lv_aload_n hx hb dL_ask_297 rfl (lv_at hl 2 rfl) ?_
  refine lv_iconst (v := 0) hx hb dL_ask_298 (by decide) ?_
  refine zald_I (a := ar) C hw hK9 hN9 (zin_of (N := 5) (by decide) (by decide) (by decide)) dL_ask_299 ?_
  refine zrd (x := (nI w)) (zrk hj0 (by decide)) ?_
  refine lv_aload_n hx hb dL_ask_300 rfl (lv_at hl 2 rfl) ?_
  refine lv_iconst (v := 1) hx hb dL_ask_301 (by decide) ?_
  refine zald_I (a := ar) C hw hK9 hN9 (zin_of (N := 5) (by decide) (by decide) (by decide)) dL_ask_302 ?_
  refine zrd (x := (nI v)) (zrk hj1 (by decide)) ?_
  refine lv_aload_n hx hb dL_ask_303 rfl (lv_at hl 2 rfl) ?_
  refine lv_iconst (v := 2) hx hb dL_ask_304 (by decide) ?_
  refine zald_I (a := ar) C hw hK9 hN9 (zin_of (N := 5) (by decide) (by decide) (by decide)) dL_ask_305 ?_
  refine zrd (x := (nI ta)) (zrk hj2 (by decide)) ?_
  refine lv_aload_n hx hb dL_ask_306 rfl (lv_at hl 2 rfl) ?_
  refine lv_iconst (v := 3) hx hb dL_ask_307 (by decide) ?_
  refine zald_I (a := ar) C hw hK9 hN9 (zin_of (N := 5) (by decide) (by decide) (by decide)) dL_ask_308 ?_
  refine zrd (x := (nI bt)) (zrk hj3 (by decide)) ?_
  refine lv_aload_n hx hb dL_ask_309 rfl (lv_at hl 2 rfl) ?_
  refine lv_iconst (v := 4) hx hb dL_ask_310 (by decide) ?_
  refine zald_I (a := ar) C hw hK9 hN9 (zin_of (N := 5) (by decide) (by decide) (by decide)) dL_ask_311 ?_
  refine zrd (x := pr) (zrk hj4 (by decide)) ?_
  refine lv_i2c (v := (pr.toUInt32 % 65536).toInt32) hx hb dL_ask_312 rfl ?_
  refine zrd (x := pr) hic ?_
  refine zcV_xi (As := [.int (nI w), .int (nI v), .int (nI ta), .int (nI bt), .int pr]) (rest := []) (n9 := 5) (b := (a 0)) C hw (c_X7_serial_n l hst D y base S a w v ta bt pr F N A1 A2 rg ns L hX hDs hw4 hv hta hhb hpr hOb hbig) gL_ask_X7_serial rfl (by decide +kernel) ⟨⟨rfl, rfl⟩, Nat.le_of_ble_eq_true rfl, Nat.le_of_ble_eq_true rfl⟩ hX.1 ⟨by decide, by decide⟩ rfl rfl hl.1 rfl (Nat.le_of_ble_eq_true rfl) ⟨Nat.le_of_ble_eq_true rfl, Nat.le_of_ble_eq_true rfl⟩ dL_ask_313 (fun E9 ce q9 S313 H locs hx9 hw h1 h2 h3 => ?_) (fun r313 S313 H locs hp313 hw => ?_)
  · obtain ⟨rfl, hS9⟩ := hx9
    refine zcatch3 (pre := zhhA.take 35) (suf := zhhA.drop 36) (pb := 296) (pe := 316) (ph := 471) (ct := 72) C hw hx0 rfl (by decide) (by decide) (by decide) zLk_ask zcn_ex (by decide +kernel) (by decide) rfl (by decide +kernel) h1 h2 h3 ?_
    refine lv_astore_n (lv' := [(3, .ref q9), (0, .ref (a 0)), (1, .int 115), (2, .ref ar)]) hx hb dL_ask_471 rfl hl (by decide) rfl (fun ls hl => ?_)
    refine lv_ldc (own := RL) (v := (-2000000003)) hx hb hown (hts (.constant RL 74 (-2000000003)) (by decide +kernel)) dL_ask_472 ?_
    exact zri C hw hr hlocks rfl ⟨rfl, hS9⟩ ⟨Nat.le_of_ble_eq_true rfl, Nat.le_of_ble_eq_true rfl⟩ dL_ask_474
  · exact hp313.1.elim

set_option maxHeartbeats 4000000 in
set_option maxRecDepth 100000 in
/-- L_ask -/
theorem c_L_ask_t_twoWires_n (l : Launch) (hst : l.stackTraces = false) (D : va_G) (y : Nat → ClassId) (base : Nat) (S : zS) (a : Nat → Nat) (c0 : Nat) (d0 : Nat) (ad : Nat) (rd : Bool) (ri : Nat) (v : Nat) (ta : Nat) (bt : Nat) (F : Nat → Int → Bool) (N : Nat → Nat) (A1 : Int32) (A2 : Int32) (rg : Nat → Int32) (ns : Nat) (L : List zNt) (ar : Nat) (hX : zX S a) (hDs : zDs a) (hc04 : c0 < 4) (hd04 : d0 < 4) (hne : c0 ≠ d0) (had : ad < 128) (hri : ri < 16) (hv : v < 256) (hta : ta ≤ 9999) (hbt : 1 ≤ bt ∧ bt ≤ 50) (hOb : zOb S a F N A1 A2 rg ns L) (hbig : ∃ t : Int, 9999 ≤ t ∧ ¬ (zpt 1 zlC (fun j => ztk (nI ta) (nI bt) (zmC j)) 56) t = (zpt 1 zlC (fun j => ztk (nI ta) (nI bt) (zmC j)) 56) 9999) (hK9 : zK S ar = 22) (hN9 : zN S ar = 8) (hj0 : zR S 22 ar 0 = (nI c0)) (hj1 : zR S 22 ar 1 = (nI d0)) (hj2 : zR S 22 ar 2 = (nI ad)) (hj3 : zR S 22 ar 3 = (zb (rd = true))) (hj4 : zR S 22 ar 4 = (nI ri)) (hj5 : zR S 22 ar 5 = (nI v)) (hj6 : zR S 22 ar 6 = (nI ta)) (hj7 : zR S 22 ar 7 = (nI bt)) : zMi l yL_ask wsL_ask ({ frames := 8, cells := 9, slots := 54, locals := 141 }) [.ref (a 0), .int 116, .ref ar] D y base S (fun (r : Int32) (S1 : zS) => r = (-2000000003) ∧ zLate S S1 a) 9 54 := by
  refine zMetH_of (cc := cL_ask) (maxL := 4) (ret := (some .int)) (own := RL) (hh := zhhA) (by decide +kernel) rfl rfl (Nat.le_of_ble_eq_true rfl) ?_
  intro p e s m args below meth c ls C hr hlocks hx0 hw hl
  have hx := C.1
  have hb := C.2.1
  have hown := C.2.2.2.1
  have hts := C.2.2.2.2
  have hl : lv_has ls 4 [(0, .ref (a 0)), (1, .int 116), (2, .ref ar)] := hl
  refine lv_iload_n hx hb dL_ask_0 rfl (lv_at hl 1 rfl) ?_
  refine lv_tableIn (off := 316) (tgt := 317) hx hb dL_ask_1 (by decide) (by decide) (by decide +kernel) (by decide) ?_
  refine lv_aload_n hx hb dL_ask_317 rfl (lv_at hl 0 rfl) ?_
  refine lv_aload_n hx hb dL_ask_318 rfl (lv_at hl 2 rfl) ?_
  refine lv_iconst (v := 0) hx hb dL_ask_319 (by decide) ?_
  refine zald_I (a := ar) C hw hK9 hN9 (zin_of (N := 8) (by decide) (by decide) (by decide)) dL_ask_320 ?_
  refine zrd (x := (nI c0)) (zrk hj0 (by decide)) ?_
  refine lv_aload_n hx hb dL_ask_321 rfl (lv_at hl 2 rfl) ?_
  refine lv_iconst (v := 1) hx hb dL_ask_322 (by decide) ?_
  refine zald_I (a := ar) C hw hK9 hN9 (zin_of (N := 8) (by decide) (by decide) (by decide)) dL_ask_323 ?_
  refine zrd (x := (nI d0)) (zrk hj1 (by decide)) ?_
  refine lv_aload_n hx hb dL_ask_324 rfl (lv_at hl 2 rfl) ?_
  refine lv_iconst (v := 2) hx hb dL_ask_325 (by decide) ?_
  refine zald_I (a := ar) C hw hK9 hN9 (zin_of (N := 8) (by decide) (by decide) (by decide)) dL_ask_326 ?_
  refine zrd (x := (nI ad)) (zrk hj2 (by decide)) ?_
  refine lv_aload_n hx hb dL_ask_327 rfl (lv_at hl 2 rfl) ?_
  refine lv_iconst (v := 3) hx hb dL_ask_328 (by decide) ?_
  refine zald_I (a := ar) C hw hK9 hN9 (zin_of (N := 8) (by decide) (by decide) (by decide)) dL_ask_329 ?_
  refine zrd (x := (zb (rd = true))) (zrk hj3 (by decide)) ?_
  refine lv_iconst (v := 1) hx hb dL_ask_330 (by decide) ?_
  have jn_1 : ∀ (rx_2 : Int32) (H : Heap) (locs : List Loc) (ls : Array Slot), zW D y base S s H locs → lv_has ls 4 [(0, .ref (a 0)), (1, .int 116), (2, .ref ar)] → ((zb (rd = true)) = rx_2) → W p l e (headSpec wsL_ask ({ frames := 8, cells := 9, slots := 54, locals := 141 })).room s m args below meth c H locs 0 0 (MQ below (va_Qi (fun (r : Int32) (S1 : zS) => r = (-2000000003) ∧ zLate S S1 a) (zPost D y base) (zA base)) args s 9 54 (zA base)) (F0 m 339 ls [.int rx_2, .int (nI ad), .int (nI d0), .int (nI c0), .ref (a 0)]) := by
    intro rx_2 H locs ls hw hl f_3
    subst f_3
    refine lv_aload_n hx hb dL_ask_339 rfl (lv_at hl 2 rfl) ?_
    refine lv_iconst (v := 4) hx hb dL_ask_340 (by decide) ?_
    refine zald_I (a := ar) C hw hK9 hN9 (zin_of (N := 8) (by decide) (by decide) (by decide)) dL_ask_341 ?_
    refine zrd (x := (nI ri)) (zrk hj4 (by decide)) ?_
    refine lv_aload_n hx hb dL_ask_342 rfl (lv_at hl 2 rfl) ?_
    refine lv_iconst (v := 5) hx hb dL_ask_343 (by decide) ?_
    refine zald_I (a := ar) C hw hK9 hN9 (zin_of (N := 8) (by decide) (by decide) (by decide)) dL_ask_344 ?_
    refine zrd (x := (nI v)) (zrk hj5 (by decide)) ?_
    refine lv_aload_n hx hb dL_ask_345 rfl (lv_at hl 2 rfl) ?_
    refine lv_bipush (v := 6) hx hb dL_ask_346 (by decide) ?_
    refine zald_I (a := ar) C hw hK9 hN9 (zin_of (N := 8) (by decide) (by decide) (by decide)) dL_ask_348 ?_
    refine zrd (x := (nI ta)) (zrk hj6 (by decide)) ?_
    refine lv_aload_n hx hb dL_ask_349 rfl (lv_at hl 2 rfl) ?_
    refine lv_bipush (v := 7) hx hb dL_ask_350 (by decide) ?_
    refine zald_I (a := ar) C hw hK9 hN9 (zin_of (N := 8) (by decide) (by decide) (by decide)) dL_ask_352 ?_
    refine zrd (x := (nI bt)) (zrk hj7 (by decide)) ?_
    refine zcV_xi (As := [.int (nI c0), .int (nI d0), .int (nI ad), .int (zb (rd = true)), .int (nI ri), .int (nI v), .int (nI ta), .int (nI bt)]) (rest := []) (n9 := 8) (b := (a 0)) C hw (c_X7_twoWires_n l hst D y base S a c0 d0 ad rd ri v ta bt F N A1 A2 rg ns L hX hDs hc04 hd04 hne had hri hv hta hbt hOb hbig) gL_ask_X7_twoWires rfl (by decide +kernel) ⟨⟨rfl, rfl⟩, Nat.le_of_ble_eq_true rfl, Nat.le_of_ble_eq_true rfl⟩ hX.1 ⟨by decide, by decide⟩ rfl rfl hl.1 rfl (Nat.le_of_ble_eq_true rfl) ⟨Nat.le_of_ble_eq_true rfl, Nat.le_of_ble_eq_true rfl⟩ dL_ask_353 (fun E9 ce q9 S353 H locs hx9 hw h1 h2 h3 => ?_) (fun r353 S353 H locs hp353 hw => ?_)
    · obtain ⟨rfl, hS9⟩ := hx9
      refine zcatch3 (pre := zhhA.take 36) (suf := zhhA.drop 37) (pb := 317) (pe := 356) (ph := 471) (ct := 72) C hw hx0 rfl (by decide) (by decide) (by decide) zLk_ask zcn_ex (by decide +kernel) (by decide) rfl (by decide +kernel) h1 h2 h3 ?_
      refine lv_astore_n (lv' := [(3, .ref q9), (0, .ref (a 0)), (1, .int 116), (2, .ref ar)]) hx hb dL_ask_471 rfl hl (by decide) rfl (fun ls hl => ?_)
      refine lv_ldc (own := RL) (v := (-2000000003)) hx hb hown (hts (.constant RL 74 (-2000000003)) (by decide +kernel)) dL_ask_472 ?_
      exact zri C hw hr hlocks rfl ⟨rfl, hS9⟩ ⟨Nat.le_of_ble_eq_true rfl, Nat.le_of_ble_eq_true rfl⟩ dL_ask_474
    · exact hp353.1.elim
  refine lv_icmp_ne (tgt := 338) hx hb dL_ask_331 (by decide) (fun c331 => ?_) (fun c331 => ?_)
  · refine lv_iconst (v := 0) hx hb dL_ask_338 (by decide) ?_
    exact jn_1 0 _ _ _ hw (lv_sub hl [0, 1, 2] rfl) (by first | exact c331 | exact zn1 (by assumption) c331 | exact zn1 (zb_01 _) c331)
  · refine lv_iconst (v := 1) hx hb dL_ask_334 (by decide) ?_
    refine lv_goto (tgt := 339) hx hb dL_ask_335 (by decide) ?_
    exact jn_1 1 _ _ _ hw (lv_sub hl [0, 1, 2] rfl) (by first | exact c331 | exact zn1 (by assumption) c331 | exact zn1 (zb_01 _) c331)

set_option maxHeartbeats 4000000 in
set_option maxRecDepth 100000 in
/-- L_ask -/
theorem c_L_ask_f_fourWires_n (l : Launch) (hst : l.stackTraces = false) (D : va_G) (y : Nat → ClassId) (base : Nat) (S : zS) (a : Nat → Nat) (c0 : Nat) (d0 : Nat) (z0 : Nat) (v : Nat) (ta : Nat) (bt : Nat) (md : Nat) (F : Nat → Int → Bool) (N : Nat → Nat) (A1 : Int32) (A2 : Int32) (rg : Nat → Int32) (ns : Nat) (L : List zNt) (ar : Nat) (hX : zX S a) (hDs : zDs a) (hc04 : c0 < 4) (hd04 : d0 < 4) (hz04 : z0 < 4) (hne : c0 ≠ d0 ∧ c0 ≠ z0 ∧ d0 ≠ z0) (hv : v < 256) (hta : ta ≤ 9999) (hbt : 1 ≤ bt ∧ bt ≤ 50) (hmd : md < 4) (hOb : zOb S a F N A1 A2 rg ns L) (hbig : ∃ t : Int, 9999 ≤ t ∧ ¬ (zpt (zge2 (nI md)) (zlF (zge2 (nI md))) (fun j => ztk (nI ta) (nI bt) (j + 1)) 16) t = (zpt (zge2 (nI md)) (zlF (zge2 (nI md))) (fun j => ztk (nI ta) (nI bt) (j + 1)) 16) 9999) (hK9 : zK S ar = 22) (hN9 : zN S ar = 7) (hj0 : zR S 22 ar 0 = (nI c0)) (hj1 : zR S 22 ar 1 = (nI d0)) (hj2 : zR S 22 ar 2 = (nI z0)) (hj3 : zR S 22 ar 3 = (nI v)) (hj4 : zR S 22 ar 4 = (nI ta)) (hj5 : zR S 22 ar 5 = (nI bt)) (hj6 : zR S 22 ar 6 = (nI md)) : zMi l yL_ask wsL_ask ({ frames := 9, cells := 11, slots := 66, locals := 161 }) [.ref (a 0), .int 102, .ref ar] D y base S (fun (r : Int32) (S1 : zS) => r = (-2000000003) ∧ zLate S S1 a) 11 66 := by
  refine zMetH_of (cc := cL_ask) (maxL := 4) (ret := (some .int)) (own := RL) (hh := zhhA) (by decide +kernel) rfl rfl (Nat.le_of_ble_eq_true rfl) ?_
  intro p e s m args below meth c ls C hr hlocks hx0 hw hl
  have hx := C.1
  have hb := C.2.1
  have hown := C.2.2.2.1
  have hts := C.2.2.2.2
  have hl : lv_has ls 4 [(0, .ref (a 0)), (1, .int 102), (2, .ref ar)] := hl
  refine lv_iload_n hx hb dL_ask_0 rfl (lv_at hl 1 rfl) ?_
  refine lv_tableIn (off := 356) (tgt := 357) hx hb dL_ask_1 (by decide) (by decide) (by decide +kernel) (by decide) ?_
  refine lv_aload_n hx hb dL_ask_357 rfl (lv_at hl 0 rfl) ?_
  refine lv_aload_n hx hb dL_ask_358 rfl (lv_at hl 2 rfl) ?_
  refine lv_iconst (v := 0) hx hb dL_ask_359 (by decide) ?_
  refine zald_I (a := ar) C hw hK9 hN9 (zin_of (N := 7) (by decide) (by decide) (by decide)) dL_ask_360 ?_
  refine zrd (x := (nI c0)) (zrk hj0 (by decide)) ?_
  refine lv_aload_n hx hb dL_ask_361 rfl (lv_at hl 2 rfl) ?_
  refine lv_iconst (v := 1) hx hb dL_ask_362 (by decide) ?_
  refine zald_I (a := ar) C hw hK9 hN9 (zin_of (N := 7) (by decide) (by decide) (by decide)) dL_ask_363 ?_
  refine zrd (x := (nI d0)) (zrk hj1 (by decide)) ?_
  refine lv_aload_n hx hb dL_ask_364 rfl (lv_at hl 2 rfl) ?_
  refine lv_iconst (v := 2) hx hb dL_ask_365 (by decide) ?_
  refine zald_I (a := ar) C hw hK9 hN9 (zin_of (N := 7) (by decide) (by decide) (by decide)) dL_ask_366 ?_
  refine zrd (x := (nI z0)) (zrk hj2 (by decide)) ?_
  refine lv_aload_n hx hb dL_ask_367 rfl (lv_at hl 2 rfl) ?_
  refine lv_iconst (v := 3) hx hb dL_ask_368 (by decide) ?_
  refine zald_I (a := ar) C hw hK9 hN9 (zin_of (N := 7) (by decide) (by decide) (by decide)) dL_ask_369 ?_
  refine zrd (x := (nI v)) (zrk hj3 (by decide)) ?_
  refine lv_aload_n hx hb dL_ask_370 rfl (lv_at hl 2 rfl) ?_
  refine lv_iconst (v := 4) hx hb dL_ask_371 (by decide) ?_
  refine zald_I (a := ar) C hw hK9 hN9 (zin_of (N := 7) (by decide) (by decide) (by decide)) dL_ask_372 ?_
  refine zrd (x := (nI ta)) (zrk hj4 (by decide)) ?_
  refine lv_aload_n hx hb dL_ask_373 rfl (lv_at hl 2 rfl) ?_
  refine lv_iconst (v := 5) hx hb dL_ask_374 (by decide) ?_
  refine zald_I (a := ar) C hw hK9 hN9 (zin_of (N := 7) (by decide) (by decide) (by decide)) dL_ask_375 ?_
  refine zrd (x := (nI bt)) (zrk hj5 (by decide)) ?_
  refine lv_aload_n hx hb dL_ask_376 rfl (lv_at hl 2 rfl) ?_
  refine lv_bipush (v := 6) hx hb dL_ask_377 (by decide) ?_
  refine zald_I (a := ar) C hw hK9 hN9 (zin_of (N := 7) (by decide) (by decide) (by decide)) dL_ask_379 ?_
  refine zrd (x := (nI md)) (zrk hj6 (by decide)) ?_
  refine zcV_xi (As := [.int (nI c0), .int (nI d0), .int (nI z0), .int (nI v), .int (nI ta), .int (nI bt), .int (nI md)]) (rest := []) (n9 := 7) (b := (a 0)) C hw (c_X7_fourWires_n l hst D y base S a c0 d0 z0 v ta bt md F N A1 A2 rg ns L hX hDs hc04 hd04 hz04 hne hv hta hbt hmd hOb hbig) gL_ask_X7_fourWires rfl (by decide +kernel) ⟨⟨rfl, rfl⟩, Nat.le_of_ble_eq_true rfl, Nat.le_of_ble_eq_true rfl⟩ hX.1 ⟨by decide, by decide⟩ rfl rfl hl.1 rfl (Nat.le_of_ble_eq_true rfl) ⟨Nat.le_of_ble_eq_true rfl, Nat.le_of_ble_eq_true rfl⟩ dL_ask_380 (fun E9 ce q9 S380 H locs hx9 hw h1 h2 h3 => ?_) (fun r380 S380 H locs hp380 hw => ?_)
  · obtain ⟨rfl, hS9⟩ := hx9
    refine zcatch3 (pre := zhhA.take 37) (suf := zhhA.drop 38) (pb := 357) (pe := 383) (ph := 471) (ct := 72) C hw hx0 rfl (by decide) (by decide) (by decide) zLk_ask zcn_ex (by decide +kernel) (by decide) rfl (by decide +kernel) h1 h2 h3 ?_
    refine lv_astore_n (lv' := [(3, .ref q9), (0, .ref (a 0)), (1, .int 102), (2, .ref ar)]) hx hb dL_ask_471 rfl hl (by decide) rfl (fun ls hl => ?_)
    refine lv_ldc (own := RL) (v := (-2000000003)) hx hb hown (hts (.constant RL 74 (-2000000003)) (by decide +kernel)) dL_ask_472 ?_
    exact zri C hw hr hlocks rfl ⟨rfl, hS9⟩ ⟨Nat.le_of_ble_eq_true rfl, Nat.le_of_ble_eq_true rfl⟩ dL_ask_474
  · exact hp380.1.elim

