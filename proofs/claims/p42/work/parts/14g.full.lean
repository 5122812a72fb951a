set_option maxHeartbeats 4000000 in
set_option maxRecDepth 100000 in
theorem cut_L_full_253 {p : Program} {l : Launch} {e : Env} {s : State} {m : MethodId} {args : Array Value} {below : List Frame} {meth : Method} {c : Code} {H : Heap} {locs : List Loc} {ls : Array Slot} {D : va_G} {y : Nat → ClassId} {base : Nat} {Sa244 : zS} {a : Nat → Nat}  (hst : l.stackTraces = false) (C : CallFix p m c cL_full 2 s args wsL_full RL) (hr : meth.sig.returnType = (some .boolean)) (hlocks : meth.locks = false) (hDs : zDs a) (hFu : zFu Sa244 a zG3 298 6) (hw : zW D y base Sa244 s H locs) (hl : lv_has ls 2 [(1, .int (nI 6)), (0, .ref (a 0))]) : W p l e (headSpec wsL_full ({ frames := 10, cells := 1001, slots := 10947, locals := 180 })).room s m args below meth c H locs 983 10854 (MQ below (va_Qi (fun (r : Int32) (S1 : zS) => r = 1) (zPost D y base) (zA base)) args s 1001 10947 (zA base)) (F0 m 253 ls []) := by
  have hx := C.1
  have hb := C.2.1
  have hown := C.2.2.2.1
  have hts := C.2.2.2.2
  refine lv_aload_n hx hb dL_full_253 rfl (lv_at hl 1 rfl) ?_
  refine lv_bipush (v := 67) hx hb dL_full_254 (by decide) ?_
  refine lv_iconst (v := 4) hx hb dL_full_256 (by decide) ?_
  refine znewI (N := 4) C hw (by decide +kernel) (by decide) (by decide) (Nat.le_of_ble_eq_true rfl) (Nat.le_of_ble_eq_true rfl) (Nat.le_of_ble_eq_true rfl) dL_full_257 (fun q257 H kq257 hw => ?_)
  have hA : zAr Sa244 (znR Sa244 q257 22 4 (fun _ => 0)) q257 4 [] := zAr.new kq257
  generalize (znR Sa244 q257 22 4 (fun _ => 0)) = Sa257 at hw hA
  refine lv_dup hx hb dL_full_259 rfl ?_
  refine lv_iconst (v := 0) hx hb dL_full_260 (by decide) ?_
  refine lv_iconst (v := 0) hx hb dL_full_261 (by decide) ?_
  refine zast_I (a := q257) C hw hA.2.1 hA.2.2.1 (zin_of (N := 4) (by decide) (by grind) (by grind)) dL_full_262 (fun H locs hw => ?_)
  have hA : zAr Sa244 (zsR Sa257 22 q257 (upd (zR Sa257 22 q257) (0 : Int32).toNatClampNeg 0)) q257 4 [0] := zAr.st (k := 0) hA kq257 (by decide) rfl
  generalize (zsR Sa257 22 q257 (upd (zR Sa257 22 q257) (0 : Int32).toNatClampNeg 0)) = Sa262 at hw hA
  refine lv_dup hx hb dL_full_263 rfl ?_
  refine lv_iconst (v := 1) hx hb dL_full_264 (by decide) ?_
  refine lv_iconst (v := 0) hx hb dL_full_265 (by decide) ?_
  refine zast_I (a := q257) C hw hA.2.1 hA.2.2.1 (zin_of (N := 4) (by decide) (by grind) (by grind)) dL_full_266 (fun H locs hw => ?_)
  have hA : zAr Sa244 (zsR Sa262 22 q257 (upd (zR Sa262 22 q257) (1 : Int32).toNatClampNeg 0)) q257 4 [0, 0] := zAr.st (k := 1) hA kq257 (by decide) rfl
  generalize (zsR Sa262 22 q257 (upd (zR Sa262 22 q257) (1 : Int32).toNatClampNeg 0)) = Sa266 at hw hA
  refine lv_dup hx hb dL_full_267 rfl ?_
  refine lv_iconst (v := 2) hx hb dL_full_268 (by decide) ?_
  refine lv_iconst (v := 1) hx hb dL_full_269 (by decide) ?_
  refine zast_I (a := q257) C hw hA.2.1 hA.2.2.1 (zin_of (N := 4) (by decide) (by grind) (by grind)) dL_full_270 (fun H locs hw => ?_)
  have hA : zAr Sa244 (zsR Sa266 22 q257 (upd (zR Sa266 22 q257) (2 : Int32).toNatClampNeg 1)) q257 4 [0, 0, 1] := zAr.st (k := 2) hA kq257 (by decide) rfl
  generalize (zsR Sa266 22 q257 (upd (zR Sa266 22 q257) (2 : Int32).toNatClampNeg 1)) = Sa270 at hw hA
  refine lv_dup hx hb dL_full_271 rfl ?_
  refine lv_iconst (v := 3) hx hb dL_full_272 (by decide) ?_
  refine lv_sipush (v := 400) hx hb dL_full_273 (by decide) ?_
  refine zast_I (a := q257) C hw hA.2.1 hA.2.2.1 (zin_of (N := 4) (by decide) (by grind) (by grind)) dL_full_276 (fun H locs hw => ?_)
  have hA : zAr Sa244 (zsR Sa270 22 q257 (upd (zR Sa270 22 q257) (3 : Int32).toNatClampNeg 400)) q257 4 [0, 0, 1, 400] := zAr.st (k := 3) hA kq257 (by decide) rfl
  generalize (zsR Sa270 22 q257 (upd (zR Sa270 22 q257) (3 : Int32).toNatClampNeg 400)) = Sa276 at hw hA
  obtain ⟨hG, hK9, hN9, hA⟩ := hA
  have hj0 : zR Sa276 22 q257 0 = (nI 0) := (hA 0 0 rfl).trans rfl
  have hj1 : zR Sa276 22 q257 1 = (nI 0) := (hA 1 0 rfl).trans rfl
  have hj2 : zR Sa276 22 q257 2 = (nI 1) := (hA 2 1 rfl).trans rfl
  have hj3 : zR Sa276 22 q257 3 = (nI 400) := (hA 3 400 rfl).trans rfl
  have hFu := zFu.gw hG hFu
  have hFu2 := hFu
  obtain ⟨F, N, hOb, hF, hN, hN0⟩ := hFu2
  refine zcSW_i (As := [.ref (a 0), .int 67, .ref q257]) (rest := []) (n9 := 3) C hw (c_L_ask_C_capture_g l hst D y base Sa276 a 0 0 1 400 _ _ q257 hOb.1 hDs (by decide) ⟨by decide, by decide⟩ ⟨by decide, by decide⟩ (by decide) hOb.2.2.1 hK9 hN9 hj0 hj1 hj2 hj3) gL_full_L_ask rfl (by decide +kernel) ⟨⟨rfl, rfl⟩, Nat.le_of_ble_eq_true rfl, Nat.le_of_ble_eq_true rfl⟩ rfl hl.1 rfl (Nat.le_of_ble_eq_true rfl) ⟨Nat.le_of_ble_eq_true rfl, Nat.le_of_ble_eq_true rfl⟩ dL_full_277 (fun r277 S277 H locs hp277 hw => ?_)
  obtain ⟨⟨k9, rfl, hk9, hk0⟩, hM, hfr⟩ := hp277
  have hk0 : 0 < k9 := hk0 ⟨2, 3, by decide, by decide, by rw [hF]; exact zh5⟩
  have hFu := zFu.cap hDs hFu hfr
  refine lv_if_le (tgt := 378) hx hb dL_full_280 (by decide) (fun c280 => (show False from znle hk0 hk9 c280).elim) (fun c280 => ?_)
  refine lv_aload_n hx hb dL_full_283 rfl (lv_at hl 1 rfl) ?_
  refine lv_bipush (v := 84) hx hb dL_full_284 (by decide) ?_
  refine lv_iconst (v := 1) hx hb dL_full_286 (by decide) ?_
  refine znewI (N := 1) C hw (by decide +kernel) (by decide) (by decide) (Nat.le_of_ble_eq_true rfl) (Nat.le_of_ble_eq_true rfl) (Nat.le_of_ble_eq_true rfl) dL_full_287 (fun q287 H kq287 hw => ?_)
  have hA : zAr S277 (znR S277 q287 22 1 (fun _ => 0)) q287 1 [] := zAr.new kq287
  generalize (znR S277 q287 22 1 (fun _ => 0)) = Sa287 at hw hA
  refine lv_dup hx hb dL_full_289 rfl ?_
  refine lv_iconst (v := 0) hx hb dL_full_290 (by decide) ?_
  refine lv_iconst (v := 0) hx hb dL_full_291 (by decide) ?_
  refine zast_I (a := q287) C hw hA.2.1 hA.2.2.1 (zin_of (N := 1) (by decide) (by grind) (by grind)) dL_full_292 (fun H locs hw => ?_)
  have hA : zAr S277 (zsR Sa287 22 q287 (upd (zR Sa287 22 q287) (0 : Int32).toNatClampNeg 0)) q287 1 [0] := zAr.st (k := 0) hA kq287 (by decide) rfl
  generalize (zsR Sa287 22 q287 (upd (zR Sa287 22 q287) (0 : Int32).toNatClampNeg 0)) = Sa292 at hw hA
  obtain ⟨hG, hK9, hN9, hA⟩ := hA
  have hj0 : zR Sa292 22 q287 0 = (nI 0) := (hA 0 0 rfl).trans rfl
  have hM := zCp.gw hG (zFu.X hFu) (by decide) hM
  have hFu := zFu.gw hG hFu
  have hFu2 := hFu
  obtain ⟨F, N, hOb, hF, hN, hN0⟩ := hFu2
  refine zcSW_i (As := [.ref (a 0), .int 84, .ref q287]) (rest := []) (n9 := 3) C hw (c_L_ask_T_trigger_t l hst D y base Sa292 a 0 6 q287 hOb.1 hDs (by decide) hOb.2.2.2.2.2.2.2.2.1 ⟨by decide, by decide⟩ hM.1 hK9 hN9 hj0) gL_full_L_ask rfl (by decide +kernel) ⟨⟨rfl, rfl⟩, Nat.le_of_ble_eq_true rfl, Nat.le_of_ble_eq_true rfl⟩ rfl hl.1 rfl (Nat.le_of_ble_eq_true rfl) ⟨Nat.le_of_ble_eq_true rfl, Nat.le_of_ble_eq_true rfl⟩ dL_full_293 (fun r293 S293 H locs hp293 hw => ?_)
  have h9 : r293 = (-2000000005) ∧ S293 = Sa292 := by
    rcases hp293 with h | h
    · exact absurd h.1.1 (by decide)
    · exact ⟨h.1, h.2.2⟩
  obtain ⟨rfl, hS9⟩ := h9
  have hS9 := hS9.symm
  subst hS9
  refine lv_ldc (own := RL) (v := (-2000000005)) hx hb hown (hts (.constant RL 80 (-2000000005)) (by decide +kernel)) dL_full_296 ?_
  refine lv_icmp_ne (tgt := 378) hx hb dL_full_298 (by decide) (fun c298 => absurd c298 (by decide)) (fun _ => ?_)
  refine lv_aload_n hx hb dL_full_301 rfl (lv_at hl 1 rfl) ?_
  have hFu2 := hFu
  obtain ⟨F, N, hOb, hF, hN, hN0⟩ := hFu2
  refine zcV_i (As := []) (rest := []) (n9 := 0) (b := (a 0)) C hw (c_X7_reset_g l D y base Sa292 a hOb.1 hDs) gL_full_X7_reset rfl (by decide +kernel) ⟨⟨rfl, rfl⟩, Nat.le_of_ble_eq_true rfl, Nat.le_of_ble_eq_true rfl⟩ hOb.1.1 ⟨by decide, by decide⟩ rfl rfl hl.1 rfl (Nat.le_of_ble_eq_true rfl) ⟨Nat.le_of_ble_eq_true rfl, Nat.le_of_ble_eq_true rfl⟩ dL_full_302 (fun r302 S302 H locs hp302 hw => ?_)
  obtain ⟨hr9, hS9⟩ := hp302
  have hr9 : r302 = 6 := hr9.trans hOb.2.2.2.2.2.2.2.2.1.1
  subst hr9
  have hFu := zFu.rst hDs hFu
  have hM := zCp.stp (S1 := zsI Sa292 128 (a 3) 0) hDs hM (zFr.I ⟨rfl, rfl⟩)
  rw [← hS9] at hFu hM
  refine lv_bipush (v := 6) hx hb dL_full_305 (by decide) ?_
  refine lv_icmp_ne (tgt := 378) hx hb dL_full_307 (by decide) (fun c307 => absurd c307 (by decide)) (fun _ => ?_)
  refine lv_aload_n hx hb dL_full_310 rfl (lv_at hl 1 rfl) ?_
  refine lv_bipush (v := 112) hx hb dL_full_311 (by decide) ?_
  refine lv_iconst (v := 3) hx hb dL_full_313 (by decide) ?_
  refine znewI (N := 3) C hw (by decide +kernel) (by decide) (by decide) (Nat.le_of_ble_eq_true rfl) (Nat.le_of_ble_eq_true rfl) (Nat.le_of_ble_eq_true rfl) dL_full_314 (fun q314 H kq314 hw => ?_)
  have hA : zAr S302 (znR S302 q314 22 3 (fun _ => 0)) q314 3 [] := zAr.new kq314
  generalize (znR S302 q314 22 3 (fun _ => 0)) = Sa314 at hw hA
  refine lv_dup hx hb dL_full_316 rfl ?_
  refine lv_iconst (v := 0) hx hb dL_full_317 (by decide) ?_
  refine lv_bipush (v := 116) hx hb dL_full_318 (by decide) ?_
  refine zast_I (a := q314) C hw hA.2.1 hA.2.2.1 (zin_of (N := 3) (by decide) (by grind) (by grind)) dL_full_320 (fun H locs hw => ?_)
  have hA : zAr S302 (zsR Sa314 22 q314 (upd (zR Sa314 22 q314) (0 : Int32).toNatClampNeg 116)) q314 3 [116] := zAr.st (k := 0) hA kq314 (by decide) rfl
  generalize (zsR Sa314 22 q314 (upd (zR Sa314 22 q314) (0 : Int32).toNatClampNeg 116)) = Sa320 at hw hA
  refine lv_dup hx hb dL_full_321 rfl ?_
  refine lv_iconst (v := 1) hx hb dL_full_322 (by decide) ?_
  refine lv_iconst (v := 0) hx hb dL_full_323 (by decide) ?_
  refine zast_I (a := q314) C hw hA.2.1 hA.2.2.1 (zin_of (N := 3) (by decide) (by grind) (by grind)) dL_full_324 (fun H locs hw => ?_)
  have hA : zAr S302 (zsR Sa320 22 q314 (upd (zR Sa320 22 q314) (1 : Int32).toNatClampNeg 0)) q314 3 [116, 0] := zAr.st (k := 1) hA kq314 (by decide) rfl
  generalize (zsR Sa320 22 q314 (upd (zR Sa320 22 q314) (1 : Int32).toNatClampNeg 0)) = Sa324 at hw hA
  refine lv_dup hx hb dL_full_325 rfl ?_
  refine lv_iconst (v := 2) hx hb dL_full_326 (by decide) ?_
  refine lv_sipush (v := 400) hx hb dL_full_327 (by decide) ?_
  refine zast_I (a := q314) C hw hA.2.1 hA.2.2.1 (zin_of (N := 3) (by decide) (by grind) (by grind)) dL_full_330 (fun H locs hw => ?_)
  have hA : zAr S302 (zsR Sa324 22 q314 (upd (zR Sa324 22 q314) (2 : Int32).toNatClampNeg 400)) q314 3 [116, 0, 400] := zAr.st (k := 2) hA kq314 (by decide) rfl
  generalize (zsR Sa324 22 q314 (upd (zR Sa324 22 q314) (2 : Int32).toNatClampNeg 400)) = Sa330 at hw hA
  obtain ⟨hG, hK9, hN9, hA⟩ := hA
  have hj0 : zR Sa330 22 q314 0 = (116 : Int32) := (hA 0 116 rfl).trans rfl
  have hj1 : zR Sa330 22 q314 1 = 0 := (hA 1 0 rfl).trans rfl
  have hj2 : zR Sa330 22 q314 2 = (nI 400) := (hA 2 400 rfl).trans rfl
  have hM := zCp.gw hG (zFu.X hFu) (by decide) hM
  have hFu := zFu.gw hG hFu
  have hFu2 := hFu
  obtain ⟨F, N, hOb, hF, hN, hN0⟩ := hFu2
  refine zcSW_i (As := [.ref (a 0), .int 112, .ref q314]) (rest := []) (n9 := 3) C hw (c_L_ask_p_step_t l hst D y base Sa330 a 0 400 0 q314 hOb.1 hDs ⟨by decide, by decide⟩ hOb.2.2.2.2.2.2.2.2.1 (by omega) hK9 hN9 hj0 hj1 hj2) gL_full_L_ask rfl (by decide +kernel) ⟨⟨rfl, rfl⟩, Nat.le_of_ble_eq_true rfl, Nat.le_of_ble_eq_true rfl⟩ rfl hl.1 rfl (Nat.le_of_ble_eq_true rfl) ⟨Nat.le_of_ble_eq_true rfl, Nat.le_of_ble_eq_true rfl⟩ dL_full_331 (fun r331 S331 H locs hp331 hw => ?_)
  have h9 : r331 = 1 ∧ zFu S331 a zG3 298 (0 + 1) ∧ zFr Sa330 S331 (zTI (a 3)) (zTR (a 7) (a 8) (a 9)) := by
    rcases hp331 with h | h
    · exact ⟨h.1.2, zFu.stp hDs hFu h.2.1 h.2.2, h.2.2⟩
    · exact absurd h.2.1 (by omega)
  obtain ⟨rfl, hFu, hfr⟩ := h9
  have hM := zCp.stp hDs hM hfr
  refine lv_iconst (v := 1) hx hb dL_full_334 (by decide) ?_
  refine lv_icmp_ne (tgt := 378) hx hb dL_full_335 (by decide) (fun c335 => absurd c335 (by decide)) (fun _ => ?_)
  refine lv_aload_n hx hb dL_full_338 rfl (lv_at hl 1 rfl) ?_
  refine lv_bipush (v := 84) hx hb dL_full_339 (by decide) ?_
  refine lv_iconst (v := 1) hx hb dL_full_341 (by decide) ?_
  refine znewI (N := 1) C hw (by decide +kernel) (by decide) (by decide) (Nat.le_of_ble_eq_true rfl) (Nat.le_of_ble_eq_true rfl) (Nat.le_of_ble_eq_true rfl) dL_full_342 (fun q342 H kq342 hw => ?_)
  have hA : zAr S331 (znR S331 q342 22 1 (fun _ => 0)) q342 1 [] := zAr.new kq342
  generalize (znR S331 q342 22 1 (fun _ => 0)) = Sa342 at hw hA
  refine lv_dup hx hb dL_full_344 rfl ?_
  refine lv_iconst (v := 0) hx hb dL_full_345 (by decide) ?_
  refine lv_iconst (v := 0) hx hb dL_full_346 (by decide) ?_
  refine zast_I (a := q342) C hw hA.2.1 hA.2.2.1 (zin_of (N := 1) (by decide) (by grind) (by grind)) dL_full_347 (fun H locs hw => ?_)
  have hA : zAr S331 (zsR Sa342 22 q342 (upd (zR Sa342 22 q342) (0 : Int32).toNatClampNeg 0)) q342 1 [0] := zAr.st (k := 0) hA kq342 (by decide) rfl
  generalize (zsR Sa342 22 q342 (upd (zR Sa342 22 q342) (0 : Int32).toNatClampNeg 0)) = Sa347 at hw hA
  obtain ⟨hG, hK9, hN9, hA⟩ := hA
  have hj0 : zR Sa347 22 q342 0 = (nI 0) := (hA 0 0 rfl).trans rfl
  have hM := zCp.gw hG (zFu.X hFu) (by decide) hM
  have hFu := zFu.gw hG hFu
  have hFu2 := hFu
  obtain ⟨F, N, hOb, hF, hN, hN0⟩ := hFu2
  refine zcSW_i (As := [.ref (a 0), .int 84, .ref q342]) (rest := []) (n9 := 3) C hw (c_L_ask_T_trigger_t l hst D y base Sa347 a 0 1 q342 hOb.1 hDs (by decide) hOb.2.2.2.2.2.2.2.2.1 ⟨by decide, by decide⟩ hM.1 hK9 hN9 hj0) gL_full_L_ask rfl (by decide +kernel) ⟨⟨rfl, rfl⟩, Nat.le_of_ble_eq_true rfl, Nat.le_of_ble_eq_true rfl⟩ rfl hl.1 rfl (Nat.le_of_ble_eq_true rfl) ⟨Nat.le_of_ble_eq_true rfl, Nat.le_of_ble_eq_true rfl⟩ dL_full_348 (fun r348 S348 H locs hp348 hw => ?_)
  have h9 : r348 = (399) ∧ S348 = Sa347 := by
    rcases hp348 with h | h
    · exact ⟨h.1.2, h.2⟩
    · exact absurd rfl h.2.1
  obtain ⟨rfl, hS9⟩ := h9
  have hS9 := hS9.symm
  subst hS9
  refine lv_sipush (v := 399) hx hb dL_full_351 (by decide) ?_
  refine lv_icmp_ne (tgt := 378) hx hb dL_full_354 (by decide) (fun c354 => absurd c354 (by decide)) (fun _ => ?_)
  refine lv_aload_n hx hb dL_full_357 rfl (lv_at hl 1 rfl) ?_
  have hFu2 := hFu
  obtain ⟨F, N, hOb, hF, hN, hN0⟩ := hFu2
  refine zcV_i (As := []) (rest := []) (n9 := 0) (b := (a 0)) C hw (c_X7_flips_g l D y base Sa347 a _ _ hOb.1 hDs hOb.2.2.1) gL_full_X7_flips rfl (by decide +kernel) ⟨⟨rfl, rfl⟩, Nat.le_of_ble_eq_true rfl, Nat.le_of_ble_eq_true rfl⟩ hOb.1.1 ⟨by decide, by decide⟩ rfl rfl hl.1 rfl (Nat.le_of_ble_eq_true rfl) ⟨Nat.le_of_ble_eq_true rfl, Nat.le_of_ble_eq_true rfl⟩ dL_full_358 (fun r358 S358 H locs hp358 hw => ?_)
  obtain ⟨hr9, hS9⟩ := hp358
  have hr9 : r358 = 298 := hr9.trans (congrArg nI (zsm4_2 hN hN0))
  subst hr9
  have hS9 := hS9.symm
  subst hS9
  refine lv_sipush (v := 298) hx hb dL_full_361 (by decide) ?_
  refine lv_icmp_ne (tgt := 378) hx hb dL_full_364 (by decide) (fun c364 => absurd c364 (by decide)) (fun _ => ?_)
  refine lv_aload_n hx hb dL_full_367 rfl (lv_at hl 1 rfl) ?_
  have hFu2 := hFu
  obtain ⟨F, N, hOb, hF, hN, hN0⟩ := hFu2
  refine zcV_i (As := []) (rest := []) (n9 := 0) (b := (a 0)) C hw (c_X7_isSound_g l D y base Sa347 a (fun i => if i = 0 then 400 else 0) _ _ hOb.1 hOb.2.1 hDs (zsnd hM hOb.2.2.2.2.2.2.2.1) hOb.2.2.2.2.2.2.2.2.2 (fun j g => absurd g (Nat.not_lt_zero j)) (fun j g => absurd g (Nat.not_lt_zero _))) gL_full_X7_isSound rfl (by decide +kernel) ⟨⟨rfl, rfl⟩, Nat.le_of_ble_eq_true rfl, Nat.le_of_ble_eq_true rfl⟩ hOb.1.1 ⟨by decide, by decide⟩ rfl rfl hl.1 rfl (Nat.le_of_ble_eq_true rfl) ⟨Nat.le_of_ble_eq_true rfl, Nat.le_of_ble_eq_true rfl⟩ dL_full_368 (fun r368 S368 H locs hp368 hw => ?_)
  obtain ⟨rfl, hS9⟩ := hp368
  refine lv_if_eq (tgt := 378) hx hb dL_full_371 (by decide) (fun c371 => absurd c371 (by decide)) (fun _ => ?_)
  refine lv_iconst (v := 1) hx hb dL_full_374 (by decide) ?_
  refine lv_goto (tgt := 379) hx hb dL_full_375 (by decide) ?_
  exact zri C hw hr hlocks (by decide) rfl ⟨Nat.le_of_ble_eq_true rfl, Nat.le_of_ble_eq_true rfl⟩ dL_full_379

set_option maxHeartbeats 4000000 in
set_option maxRecDepth 100000 in
theorem cut_L_full_104 {p : Program} {l : Launch} {e : Env} {s : State} {m : MethodId} {args : Array Value} {below : List Frame} {meth : Method} {c : Code} {H : Heap} {locs : List Loc} {ls : Array Slot} {D : va_G} {y : Nat → ClassId} {base : Nat} {S3 : zS} {a : Nat → Nat}  (hst : l.stackTraces = false) (C : CallFix p m c cL_full 2 s args wsL_full RL) (hr : meth.sig.returnType = (some .boolean)) (hlocks : meth.locks = false) (hDs : zDs a) (hFu : zFu S3 a (zG 150) 300 6) (hw : zW D y base S3 s H locs) (hl : lv_has ls 2 [(1, .int (nI 6)), (0, .ref (a 0))]) : W p l e (headSpec wsL_full ({ frames := 10, cells := 1001, slots := 10947, locals := 180 })).room s m args below meth c H locs 955 10707 (MQ below (va_Qi (fun (r : Int32) (S1 : zS) => r = 1) (zPost D y base) (zA base)) args s 1001 10947 (zA base)) (F0 m 104 ls [.ref (a 0)]) := by
  have hx := C.1
  have hb := C.2.1
  have hown := C.2.2.2.1
  have hts := C.2.2.2.2
  refine lv_bipush (v := 70) hx hb dL_full_104 (by decide) ?_
  refine lv_iconst (v := 2) hx hb dL_full_106 (by decide) ?_
  refine znewI (N := 2) C hw (by decide +kernel) (by decide) (by decide) (Nat.le_of_ble_eq_true rfl) (Nat.le_of_ble_eq_true rfl) (Nat.le_of_ble_eq_true rfl) dL_full_107 (fun q107 H kq107 hw => ?_)
  have hA : zAr S3 (znR S3 q107 22 2 (fun _ => 0)) q107 2 [] := zAr.new kq107
  generalize (znR S3 q107 22 2 (fun _ => 0)) = Sa107 at hw hA
  refine lv_dup hx hb dL_full_109 rfl ?_
  refine lv_iconst (v := 0) hx hb dL_full_110 (by decide) ?_
  refine lv_iconst (v := 2) hx hb dL_full_111 (by decide) ?_
  refine zast_I (a := q107) C hw hA.2.1 hA.2.2.1 (zin_of (N := 2) (by decide) (by grind) (by grind)) dL_full_112 (fun H locs hw => ?_)
  have hA : zAr S3 (zsR Sa107 22 q107 (upd (zR Sa107 22 q107) (0 : Int32).toNatClampNeg 2)) q107 2 [2] := zAr.st (k := 0) hA kq107 (by decide) rfl
  generalize (zsR Sa107 22 q107 (upd (zR Sa107 22 q107) (0 : Int32).toNatClampNeg 2)) = Sa112 at hw hA
  refine lv_dup hx hb dL_full_113 rfl ?_
  refine lv_iconst (v := 1) hx hb dL_full_114 (by decide) ?_
  refine lv_iconst (v := 1) hx hb dL_full_115 (by decide) ?_
  refine zast_I (a := q107) C hw hA.2.1 hA.2.2.1 (zin_of (N := 2) (by decide) (by grind) (by grind)) dL_full_116 (fun H locs hw => ?_)
  have hA : zAr S3 (zsR Sa112 22 q107 (upd (zR Sa112 22 q107) (1 : Int32).toNatClampNeg 1)) q107 2 [2, 1] := zAr.st (k := 1) hA kq107 (by decide) rfl
  generalize (zsR Sa112 22 q107 (upd (zR Sa112 22 q107) (1 : Int32).toNatClampNeg 1)) = Sa116 at hw hA
  obtain ⟨hG, hK9, hN9, hA⟩ := hA
  have hj0 : zR Sa116 22 q107 0 = (nI 2) := (hA 0 2 rfl).trans rfl
  have hj1 : zR Sa116 22 q107 1 = (nI 1) := (hA 1 1 rfl).trans rfl
  have hFu := zFu.gw hG hFu
  have hFu2 := hFu
  obtain ⟨F, N, hOb, hF, hN, hN0⟩ := hFu2
  refine zcSW_i (As := [.ref (a 0), .int 70, .ref q107]) (rest := []) (n9 := 3) C hw (c_L_ask_F_flip_g l hst D y base Sa116 a 2 1 _ _ _ _ _ _ _ q107 hOb.1 hDs (by decide) (by decide) hOb hK9 hN9 hj0 hj1) gL_full_L_ask rfl (by decide +kernel) ⟨⟨rfl, rfl⟩, Nat.le_of_ble_eq_true rfl, Nat.le_of_ble_eq_true rfl⟩ rfl hl.1 rfl (Nat.le_of_ble_eq_true rfl) ⟨Nat.le_of_ble_eq_true rfl, Nat.le_of_ble_eq_true rfl⟩ dL_full_117 (fun r117 S117 H locs hp117 hw => ?_)
  obtain ⟨hr9, hFu⟩ := zFu.over hF hN hN0 zh0 (by decide) hp117
  subst hr9
  refine lv_ldc (own := RL) (v := (-2000000003)) hx hb hown (hts (.constant RL 74 (-2000000003)) (by decide +kernel)) dL_full_120 ?_
  refine lv_icmp_ne (tgt := 378) hx hb dL_full_122 (by decide) (fun c122 => absurd c122 (by decide)) (fun _ => ?_)
  refine lv_aload_n hx hb dL_full_125 rfl (lv_at hl 1 rfl) ?_
  refine lv_bipush (v := 70) hx hb dL_full_126 (by decide) ?_
  refine lv_iconst (v := 2) hx hb dL_full_128 (by decide) ?_
  refine znewI (N := 2) C hw (by decide +kernel) (by decide) (by decide) (Nat.le_of_ble_eq_true rfl) (Nat.le_of_ble_eq_true rfl) (Nat.le_of_ble_eq_true rfl) dL_full_129 (fun q129 H kq129 hw => ?_)
  have hA : zAr S117 (znR S117 q129 22 2 (fun _ => 0)) q129 2 [] := zAr.new kq129
  generalize (znR S117 q129 22 2 (fun _ => 0)) = Sa129 at hw hA
  refine lv_dup hx hb dL_full_131 rfl ?_
  refine lv_iconst (v := 0) hx hb dL_full_132 (by decide) ?_
  refine lv_iconst (v := 2) hx hb dL_full_133 (by decide) ?_
  refine zast_I (a := q129) C hw hA.2.1 hA.2.2.1 (zin_of (N := 2) (by decide) (by grind) (by grind)) dL_full_134 (fun H locs hw => ?_)
  have hA : zAr S117 (zsR Sa129 22 q129 (upd (zR Sa129 22 q129) (0 : Int32).toNatClampNeg 2)) q129 2 [2] := zAr.st (k := 0) hA kq129 (by decide) rfl
  generalize (zsR Sa129 22 q129 (upd (zR Sa129 22 q129) (0 : Int32).toNatClampNeg 2)) = Sa134 at hw hA
  refine lv_dup hx hb dL_full_135 rfl ?_
  refine lv_iconst (v := 1) hx hb dL_full_136 (by decide) ?_
  refine lv_iconst (v := 0) hx hb dL_full_137 (by decide) ?_
  refine zast_I (a := q129) C hw hA.2.1 hA.2.2.1 (zin_of (N := 2) (by decide) (by grind) (by grind)) dL_full_138 (fun H locs hw => ?_)
  have hA : zAr S117 (zsR Sa134 22 q129 (upd (zR Sa134 22 q129) (1 : Int32).toNatClampNeg 0)) q129 2 [2, 0] := zAr.st (k := 1) hA kq129 (by decide) rfl
  generalize (zsR Sa134 22 q129 (upd (zR Sa134 22 q129) (1 : Int32).toNatClampNeg 0)) = Sa138 at hw hA
  obtain ⟨hG, hK9, hN9, hA⟩ := hA
  have hj0 : zR Sa138 22 q129 0 = (nI 2) := (hA 0 2 rfl).trans rfl
  have hj1 : zR Sa138 22 q129 1 = (nI 0) := (hA 1 0 rfl).trans rfl
  have hFu := zFu.gw hG hFu
  have hFu2 := hFu
  obtain ⟨F, N, hOb, hF, hN, hN0⟩ := hFu2
  refine zcSW_i (As := [.ref (a 0), .int 70, .ref q129]) (rest := []) (n9 := 3) C hw (c_L_ask_F_flip_g l hst D y base Sa138 a 2 0 _ _ _ _ _ _ _ q129 hOb.1 hDs (by decide) (by decide) hOb hK9 hN9 hj0 hj1) gL_full_L_ask rfl (by decide +kernel) ⟨⟨rfl, rfl⟩, Nat.le_of_ble_eq_true rfl, Nat.le_of_ble_eq_true rfl⟩ rfl hl.1 rfl (Nat.le_of_ble_eq_true rfl) ⟨Nat.le_of_ble_eq_true rfl, Nat.le_of_ble_eq_true rfl⟩ dL_full_139 (fun r139 S139 H locs hp139 hw => ?_)
  obtain ⟨hr9, hFu⟩ := zFu.hit (n' := 299) hF hN hN0 zh1 (by omega) (by omega) hp139
  have hr9 : r139 = 299 := hr9
  subst hr9
  refine lv_sipush (v := 299) hx hb dL_full_142 (by decide) ?_
  refine lv_icmp_ne (tgt := 378) hx hb dL_full_145 (by decide) (fun c145 => absurd c145 (by decide)) (fun _ => ?_)
  refine lv_aload_n hx hb dL_full_148 rfl (lv_at hl 1 rfl) ?_
  refine lv_bipush (v := 70) hx hb dL_full_149 (by decide) ?_
  refine lv_iconst (v := 2) hx hb dL_full_151 (by decide) ?_
  refine znewI (N := 2) C hw (by decide +kernel) (by decide) (by decide) (Nat.le_of_ble_eq_true rfl) (Nat.le_of_ble_eq_true rfl) (Nat.le_of_ble_eq_true rfl) dL_full_152 (fun q152 H kq152 hw => ?_)
  have hA : zAr S139 (znR S139 q152 22 2 (fun _ => 0)) q152 2 [] := zAr.new kq152
  generalize (znR S139 q152 22 2 (fun _ => 0)) = Sa152 at hw hA
  refine lv_dup hx hb dL_full_154 rfl ?_
  refine lv_iconst (v := 0) hx hb dL_full_155 (by decide) ?_
  refine lv_iconst (v := 2) hx hb dL_full_156 (by decide) ?_
  refine zast_I (a := q152) C hw hA.2.1 hA.2.2.1 (zin_of (N := 2) (by decide) (by grind) (by grind)) dL_full_157 (fun H locs hw => ?_)
  have hA : zAr S139 (zsR Sa152 22 q152 (upd (zR Sa152 22 q152) (0 : Int32).toNatClampNeg 2)) q152 2 [2] := zAr.st (k := 0) hA kq152 (by decide) rfl
  generalize (zsR Sa152 22 q152 (upd (zR Sa152 22 q152) (0 : Int32).toNatClampNeg 2)) = Sa157 at hw hA
  refine lv_dup hx hb dL_full_158 rfl ?_
  refine lv_iconst (v := 1) hx hb dL_full_159 (by decide) ?_
  refine lv_iconst (v := 1) hx hb dL_full_160 (by decide) ?_
  refine zast_I (a := q152) C hw hA.2.1 hA.2.2.1 (zin_of (N := 2) (by decide) (by grind) (by grind)) dL_full_161 (fun H locs hw => ?_)
  have hA : zAr S139 (zsR Sa157 22 q152 (upd (zR Sa157 22 q152) (1 : Int32).toNatClampNeg 1)) q152 2 [2, 1] := zAr.st (k := 1) hA kq152 (by decide) rfl
  generalize (zsR Sa157 22 q152 (upd (zR Sa157 22 q152) (1 : Int32).toNatClampNeg 1)) = Sa161 at hw hA
  obtain ⟨hG, hK9, hN9, hA⟩ := hA
  have hj0 : zR Sa161 22 q152 0 = (nI 2) := (hA 0 2 rfl).trans rfl
  have hj1 : zR Sa161 22 q152 1 = (nI 1) := (hA 1 1 rfl).trans rfl
  have hFu := zFu.gw hG hFu
  have hFu2 := hFu
  obtain ⟨F, N, hOb, hF, hN, hN0⟩ := hFu2
  refine zcSW_i (As := [.ref (a 0), .int 70, .ref q152]) (rest := []) (n9 := 3) C hw (c_L_ask_F_flip_g l hst D y base Sa161 a 2 1 _ _ _ _ _ _ _ q152 hOb.1 hDs (by decide) (by decide) hOb hK9 hN9 hj0 hj1) gL_full_L_ask rfl (by decide +kernel) ⟨⟨rfl, rfl⟩, Nat.le_of_ble_eq_true rfl, Nat.le_of_ble_eq_true rfl⟩ rfl hl.1 rfl (Nat.le_of_ble_eq_true rfl) ⟨Nat.le_of_ble_eq_true rfl, Nat.le_of_ble_eq_true rfl⟩ dL_full_162 (fun r162 S162 H locs hp162 hw => ?_)
  obtain ⟨hr9, hFu⟩ := zFu.hit (n' := 300) hF hN hN0 zh2 (by omega) (by omega) hp162
  have hr9 : r162 = 300 := hr9
  subst hr9
  refine lv_sipush (v := 300) hx hb dL_full_165 (by decide) ?_
  refine lv_icmp_ne (tgt := 378) hx hb dL_full_168 (by decide) (fun c168 => absurd c168 (by decide)) (fun _ => ?_)
  refine lv_aload_n hx hb dL_full_171 rfl (lv_at hl 1 rfl) ?_
  refine lv_bipush (v := 103) hx hb dL_full_172 (by decide) ?_
  refine lv_iconst (v := 3) hx hb dL_full_174 (by decide) ?_
  refine znewI (N := 3) C hw (by decide +kernel) (by decide) (by decide) (Nat.le_of_ble_eq_true rfl) (Nat.le_of_ble_eq_true rfl) (Nat.le_of_ble_eq_true rfl) dL_full_175 (fun q175 H kq175 hw => ?_)
  have hA : zAr S162 (znR S162 q175 22 3 (fun _ => 0)) q175 3 [] := zAr.new kq175
  generalize (znR S162 q175 22 3 (fun _ => 0)) = Sa175 at hw hA
  refine lv_dup hx hb dL_full_177 rfl ?_
  refine lv_iconst (v := 0) hx hb dL_full_178 (by decide) ?_
  refine lv_iconst (v := 2) hx hb dL_full_179 (by decide) ?_
  refine zast_I (a := q175) C hw hA.2.1 hA.2.2.1 (zin_of (N := 3) (by decide) (by grind) (by grind)) dL_full_180 (fun H locs hw => ?_)
  have hA : zAr S162 (zsR Sa175 22 q175 (upd (zR Sa175 22 q175) (0 : Int32).toNatClampNeg 2)) q175 3 [2] := zAr.st (k := 0) hA kq175 (by decide) rfl
  generalize (zsR Sa175 22 q175 (upd (zR Sa175 22 q175) (0 : Int32).toNatClampNeg 2)) = Sa180 at hw hA
  refine lv_dup hx hb dL_full_181 rfl ?_
  refine lv_iconst (v := 1) hx hb dL_full_182 (by decide) ?_
  refine lv_sipush (v := 601) hx hb dL_full_183 (by decide) ?_
  refine zast_I (a := q175) C hw hA.2.1 hA.2.2.1 (zin_of (N := 3) (by decide) (by grind) (by grind)) dL_full_186 (fun H locs hw => ?_)
  have hA : zAr S162 (zsR Sa180 22 q175 (upd (zR Sa180 22 q175) (1 : Int32).toNatClampNeg 601)) q175 3 [2, 601] := zAr.st (k := 1) hA kq175 (by decide) rfl
  generalize (zsR Sa180 22 q175 (upd (zR Sa180 22 q175) (1 : Int32).toNatClampNeg 601)) = Sa186 at hw hA
  refine lv_dup hx hb dL_full_187 rfl ?_
  refine lv_iconst (v := 2) hx hb dL_full_188 (by decide) ?_
  refine lv_iconst (v := 1) hx hb dL_full_189 (by decide) ?_
  refine zast_I (a := q175) C hw hA.2.1 hA.2.2.1 (zin_of (N := 3) (by decide) (by grind) (by grind)) dL_full_190 (fun H locs hw => ?_)
  have hA : zAr S162 (zsR Sa186 22 q175 (upd (zR Sa186 22 q175) (2 : Int32).toNatClampNeg 1)) q175 3 [2, 601, 1] := zAr.st (k := 2) hA kq175 (by decide) rfl
  generalize (zsR Sa186 22 q175 (upd (zR Sa186 22 q175) (2 : Int32).toNatClampNeg 1)) = Sa190 at hw hA
  obtain ⟨hG, hK9, hN9, hA⟩ := hA
  have hj0 : zR Sa190 22 q175 0 = (nI 2) := (hA 0 2 rfl).trans rfl
  have hj1 : zR Sa190 22 q175 1 = (nI 601) := (hA 1 601 rfl).trans rfl
  have hj2 : zR Sa190 22 q175 2 = (nI 1) := (hA 2 1 rfl).trans rfl
  have hFu := zFu.gw hG hFu
  have hFu2 := hFu
  obtain ⟨F, N, hOb, hF, hN, hN0⟩ := hFu2
  refine zcSW_i (As := [.ref (a 0), .int 103, .ref q175]) (rest := []) (n9 := 3) C hw (c_L_ask_g_glitch_g l hst D y base Sa190 a 2 601 1 _ _ _ _ _ _ _ q175 hOb.1 hDs (by decide) (by omega) ⟨by decide, by decide⟩ hOb hK9 hN9 hj0 hj1 hj2) gL_full_L_ask rfl (by decide +kernel) ⟨⟨rfl, rfl⟩, Nat.le_of_ble_eq_true rfl, Nat.le_of_ble_eq_true rfl⟩ rfl hl.1 rfl (Nat.le_of_ble_eq_true rfl) ⟨Nat.le_of_ble_eq_true rfl, Nat.le_of_ble_eq_true rfl⟩ dL_full_191 (fun r191 S191 H locs hp191 hw => ?_)
  obtain ⟨hr9, hFu⟩ := zFu.over hF hN hN0 zh3 (by decide) hp191
  subst hr9
  refine lv_ldc (own := RL) (v := (-2000000003)) hx hb hown (hts (.constant RL 74 (-2000000003)) (by decide +kernel)) dL_full_194 ?_
  refine lv_icmp_ne (tgt := 378) hx hb dL_full_196 (by decide) (fun c196 => absurd c196 (by decide)) (fun _ => ?_)
  refine lv_aload_n hx hb dL_full_199 rfl (lv_at hl 1 rfl) ?_
  refine lv_bipush (v := 103) hx hb dL_full_200 (by decide) ?_
  refine lv_iconst (v := 3) hx hb dL_full_202 (by decide) ?_
  refine znewI (N := 3) C hw (by decide +kernel) (by decide) (by decide) (Nat.le_of_ble_eq_true rfl) (Nat.le_of_ble_eq_true rfl) (Nat.le_of_ble_eq_true rfl) dL_full_203 (fun q203 H kq203 hw => ?_)
  have hA : zAr S191 (znR S191 q203 22 3 (fun _ => 0)) q203 3 [] := zAr.new kq203
  generalize (znR S191 q203 22 3 (fun _ => 0)) = Sa203 at hw hA
  refine lv_dup hx hb dL_full_205 rfl ?_
  refine lv_iconst (v := 0) hx hb dL_full_206 (by decide) ?_
  refine lv_iconst (v := 2) hx hb dL_full_207 (by decide) ?_
  refine zast_I (a := q203) C hw hA.2.1 hA.2.2.1 (zin_of (N := 3) (by decide) (by grind) (by grind)) dL_full_208 (fun H locs hw => ?_)
  have hA : zAr S191 (zsR Sa203 22 q203 (upd (zR Sa203 22 q203) (0 : Int32).toNatClampNeg 2)) q203 3 [2] := zAr.st (k := 0) hA kq203 (by decide) rfl
  generalize (zsR Sa203 22 q203 (upd (zR Sa203 22 q203) (0 : Int32).toNatClampNeg 2)) = Sa208 at hw hA
  refine lv_dup hx hb dL_full_209 rfl ?_
  refine lv_iconst (v := 1) hx hb dL_full_210 (by decide) ?_
  refine lv_iconst (v := 1) hx hb dL_full_211 (by decide) ?_
  refine zast_I (a := q203) C hw hA.2.1 hA.2.2.1 (zin_of (N := 3) (by decide) (by grind) (by grind)) dL_full_212 (fun H locs hw => ?_)
  have hA : zAr S191 (zsR Sa208 22 q203 (upd (zR Sa208 22 q203) (1 : Int32).toNatClampNeg 1)) q203 3 [2, 1] := zAr.st (k := 1) hA kq203 (by decide) rfl
  generalize (zsR Sa208 22 q203 (upd (zR Sa208 22 q203) (1 : Int32).toNatClampNeg 1)) = Sa212 at hw hA
  refine lv_dup hx hb dL_full_213 rfl ?_
  refine lv_iconst (v := 2) hx hb dL_full_214 (by decide) ?_
  refine lv_iconst (v := 1) hx hb dL_full_215 (by decide) ?_
  refine zast_I (a := q203) C hw hA.2.1 hA.2.2.1 (zin_of (N := 3) (by decide) (by grind) (by grind)) dL_full_216 (fun H locs hw => ?_)
  have hA : zAr S191 (zsR Sa212 22 q203 (upd (zR Sa212 22 q203) (2 : Int32).toNatClampNeg 1)) q203 3 [2, 1, 1] := zAr.st (k := 2) hA kq203 (by decide) rfl
  generalize (zsR Sa212 22 q203 (upd (zR Sa212 22 q203) (2 : Int32).toNatClampNeg 1)) = Sa216 at hw hA
  obtain ⟨hG, hK9, hN9, hA⟩ := hA
  have hj0 : zR Sa216 22 q203 0 = (nI 2) := (hA 0 2 rfl).trans rfl
  have hj1 : zR Sa216 22 q203 1 = (nI 1) := (hA 1 1 rfl).trans rfl
  have hj2 : zR Sa216 22 q203 2 = (nI 1) := (hA 2 1 rfl).trans rfl
  have hFu := zFu.gw hG hFu
  have hFu2 := hFu
  obtain ⟨F, N, hOb, hF, hN, hN0⟩ := hFu2
  refine zcSW_i (As := [.ref (a 0), .int 103, .ref q203]) (rest := []) (n9 := 3) C hw (c_L_ask_g_glitch_g l hst D y base Sa216 a 2 1 1 _ _ _ _ _ _ _ q203 hOb.1 hDs (by decide) (by omega) ⟨by decide, by decide⟩ hOb hK9 hN9 hj0 hj1 hj2) gL_full_L_ask rfl (by decide +kernel) ⟨⟨rfl, rfl⟩, Nat.le_of_ble_eq_true rfl, Nat.le_of_ble_eq_true rfl⟩ rfl hl.1 rfl (Nat.le_of_ble_eq_true rfl) ⟨Nat.le_of_ble_eq_true rfl, Nat.le_of_ble_eq_true rfl⟩ dL_full_217 (fun r217 S217 H locs hp217 hw => ?_)
  obtain ⟨hr9, hFu⟩ := zFu.hit (n' := 298) hF hN hN0 zh4 (by omega) (by omega) hp217
  have hr9 : r217 = 298 := hr9
  subst hr9
  refine lv_sipush (v := 298) hx hb dL_full_220 (by decide) ?_
  refine lv_icmp_ne (tgt := 378) hx hb dL_full_223 (by decide) (fun c223 => absurd c223 (by decide)) (fun _ => ?_)
  refine lv_aload_n hx hb dL_full_226 rfl (lv_at hl 1 rfl) ?_
  refine lv_bipush (v := 112) hx hb dL_full_227 (by decide) ?_
  refine lv_iconst (v := 3) hx hb dL_full_229 (by decide) ?_
  refine znewI (N := 3) C hw (by decide +kernel) (by decide) (by decide) (Nat.le_of_ble_eq_true rfl) (Nat.le_of_ble_eq_true rfl) (Nat.le_of_ble_eq_true rfl) dL_full_230 (fun q230 H kq230 hw => ?_)
  have hA : zAr S217 (znR S217 q230 22 3 (fun _ => 0)) q230 3 [] := zAr.new kq230
  generalize (znR S217 q230 22 3 (fun _ => 0)) = Sa230 at hw hA
  refine lv_dup hx hb dL_full_232 rfl ?_
  refine lv_iconst (v := 0) hx hb dL_full_233 (by decide) ?_
  refine lv_bipush (v := 116) hx hb dL_full_234 (by decide) ?_
  refine zast_I (a := q230) C hw hA.2.1 hA.2.2.1 (zin_of (N := 3) (by decide) (by grind) (by grind)) dL_full_236 (fun H locs hw => ?_)
  have hA : zAr S217 (zsR Sa230 22 q230 (upd (zR Sa230 22 q230) (0 : Int32).toNatClampNeg 116)) q230 3 [116] := zAr.st (k := 0) hA kq230 (by decide) rfl
  generalize (zsR Sa230 22 q230 (upd (zR Sa230 22 q230) (0 : Int32).toNatClampNeg 116)) = Sa236 at hw hA
  refine lv_dup hx hb dL_full_237 rfl ?_
  refine lv_iconst (v := 1) hx hb dL_full_238 (by decide) ?_
  refine lv_iconst (v := 0) hx hb dL_full_239 (by decide) ?_
  refine zast_I (a := q230) C hw hA.2.1 hA.2.2.1 (zin_of (N := 3) (by decide) (by grind) (by grind)) dL_full_240 (fun H locs hw => ?_)
  have hA : zAr S217 (zsR Sa236 22 q230 (upd (zR Sa236 22 q230) (1 : Int32).toNatClampNeg 0)) q230 3 [116, 0] := zAr.st (k := 1) hA kq230 (by decide) rfl
  generalize (zsR Sa236 22 q230 (upd (zR Sa236 22 q230) (1 : Int32).toNatClampNeg 0)) = Sa240 at hw hA
  refine lv_dup hx hb dL_full_241 rfl ?_
  refine lv_iconst (v := 2) hx hb dL_full_242 (by decide) ?_
  refine lv_iconst (v := 1) hx hb dL_full_243 (by decide) ?_
  refine zast_I (a := q230) C hw hA.2.1 hA.2.2.1 (zin_of (N := 3) (by decide) (by grind) (by grind)) dL_full_244 (fun H locs hw => ?_)
  have hA : zAr S217 (zsR Sa240 22 q230 (upd (zR Sa240 22 q230) (2 : Int32).toNatClampNeg 1)) q230 3 [116, 0, 1] := zAr.st (k := 2) hA kq230 (by decide) rfl
  generalize (zsR Sa240 22 q230 (upd (zR Sa240 22 q230) (2 : Int32).toNatClampNeg 1)) = Sa244 at hw hA
  obtain ⟨hG, hK9, hN9, hA⟩ := hA
  have hj0 : zR Sa244 22 q230 0 = (116 : Int32) := (hA 0 116 rfl).trans rfl
  have hj1 : zR Sa244 22 q230 1 = 0 := (hA 1 0 rfl).trans rfl
  have hj2 : zR Sa244 22 q230 2 = (nI 1) := (hA 2 1 rfl).trans rfl
  have hFu := zFu.gw hG hFu
  have hFu2 := hFu
  obtain ⟨F, N, hOb, hF, hN, hN0⟩ := hFu2
  refine zcSW_i (As := [.ref (a 0), .int 112, .ref q230]) (rest := []) (n9 := 3) C hw (c_L_ask_p_step_f l hst D y base Sa244 a 0 1 q230 hOb.1 hDs ⟨by decide, by decide⟩ hOb.2.2.2.2.2.2.2.2.1.1 hK9 hN9 hj0 hj1 hj2) gL_full_L_ask rfl (by decide +kernel) ⟨⟨rfl, rfl⟩, Nat.le_of_ble_eq_true rfl, Nat.le_of_ble_eq_true rfl⟩ rfl hl.1 rfl (Nat.le_of_ble_eq_true rfl) ⟨Nat.le_of_ble_eq_true rfl, Nat.le_of_ble_eq_true rfl⟩ dL_full_245 (fun r245 S245 H locs hp245 hw => ?_)
  have h9 : r245 = (-2000000003) ∧ S245 = Sa244 := hp245.2
  obtain ⟨rfl, hS9⟩ := h9
  have hS9 := hS9.symm
  subst hS9
  refine lv_ldc (own := RL) (v := (-2000000003)) hx hb hown (hts (.constant RL 74 (-2000000003)) (by decide +kernel)) dL_full_248 ?_
  refine lv_icmp_ne (tgt := 378) hx hb dL_full_250 (by decide) (fun c250 => absurd c250 (by decide)) (fun _ => ?_)
  exact cut_L_full_253 hst C hr hlocks hDs hFu hw hl

set_option maxHeartbeats 4000000 in
set_option maxRecDepth 100000 in
/-- L_full -/
theorem c_L_full (l : Launch) (hst : l.stackTraces = false) (D : va_G) (y : Nat → ClassId) (base : Nat) (S : zS)   : zMi l yL_full wsL_full ({ frames := 10, cells := 1001, slots := 10947, locals := 180 }) [] D y base S (fun (r : Int32) (S1 : zS) => r = 1) 1001 10947 := by
  refine zMet_of (cc := cL_full) (maxL := 2) (ret := (some .boolean)) (own := RL) (by decide +kernel) rfl rfl ((by first | exact Nat.le_of_ble_eq_true rfl | (show _ ≤ 1001; omega) | (show _ ≤ 10947; omega))) ?_
  intro p e s m args below meth c ls C hr hlocks hnm hw hl
  have hx := C.1
  have hb := C.2.1
  have hown := C.2.2.2.1
  have hts := C.2.2.2.2
  have hl : lv_has ls 2 [] := hl
  have in_X7 : ∀ w ∈ wsX70, w ∈ wsL_full := by decide +kernel
  refine znew (k := 11) (Cn := RX7) (T := TX7) (N := 8) C hw (by decide) (by decide) rfl in_X7 tyX7 tyX7_ok (by decide +kernel) (by decide +kernel) (by decide +kernel) (zdfX7) (Nat.le_of_ble_eq_true rfl) (Nat.le_of_ble_eq_true rfl) dL_full_0 (fun q0 H kq0 hw => ?_)
  refine lv_dup hx hb dL_full_3 rfl ?_
  have kq0s : zK (znO S q0 11) q0 = 11 := zK_nOs _ _ _
  have hz9 : ∀ t, zI (znO S q0 11) t q0 = 0 := fun t => zI_nOs _ _ _ t
  refine zcI_v (As := []) (rest := [.ref q0]) (n9 := 0) (b := q0) C hw (c_X7_init_n l D y base (znO S q0 11) q0 kq0s hz9) gL_full_X7_init rfl (by decide +kernel) (by decide +kernel) (by decide +kernel) rfl (by decide +kernel) ⟨⟨rfl, rfl⟩, Nat.le_of_ble_eq_true rfl, Nat.le_of_ble_eq_true rfl⟩ rfl hl.1 rfl (Nat.le_of_ble_eq_true rfl) ⟨Nat.le_of_ble_eq_true rfl, Nat.le_of_ble_eq_true rfl⟩ dL_full_4 (fun S4 H locs hp4 hw => ?_)
  obtain ⟨a, ha0, hNw, hDs, -⟩ := hp4
  have hw4 := hw
  subst ha0
  have hw := hw4
  have hFu := zFu.new hNw
  refine lv_astore_n (lv' := [(0, .ref (a 0))]) hx hb dL_full_7 rfl hl (by decide) rfl (fun ls hl => ?_)
  refine lv_iconst (v := 0) hx hb dL_full_8 (by decide) ?_
  refine lv_istore_n (lv' := [(1, .int 0), (0, .ref (a 0))]) hx hb dL_full_9 rfl hl (by decide) rfl (fun ls hl => ?_)
  have lp_2 : ∀ (n9 : Nat) (k : Nat) (S2 : zS) (H : Heap) (locs : List Loc) (ls : Array Slot), 151 - k < n9 → (k ≤ 150) → (zFu S2 a (zG k) (2 * k) 0) → zW D y base S2 s H locs → lv_has ls 2 [(1, .int (nI k)), (0, .ref (a 0))] → W p l e (headSpec wsL_full ({ frames := 10, cells := 1001, slots := 10947, locals := 180 })).room s m args below meth c H locs (31 + 6 * k) (5631 + 33 * k) (MQ below (va_Qi (fun (r : Int32) (S1 : zS) => r = 1) (zPost D y base) (zA base)) args s 1001 10947 (zA base)) (F0 m 10 ls []) := by
    intro n9
    induction n9 with
    | zero =>
      intro k S2 H locs ls hn9
      exact absurd hn9 (Nat.not_lt_zero _)
    | succ n9 ih_1 =>
      intro k S2 H locs ls hn9 hk hFu hw hl
      refine lv_iload_n hx hb dL_full_10 rfl (lv_at hl 0 rfl) ?_
      refine lv_sipush (v := 150) hx hb dL_full_11 (by decide) ?_
      refine lv_icmp_ge (tgt := 56) hx hb dL_full_14 (by decide) (fun c14 => ?_) (fun c14 => ?_)
      · have hk150 : k = 150 := by have := z_ge (n := 150) c14 (by omega) (by omega); omega
        subst hk150
        refine W.widen (k := 931) (n := 10581) (by omega) (by omega) ?_
        refine lv_iconst (v := 0) hx hb dL_full_56 (by decide) ?_
        refine lv_istore_n (lv' := [(1, .int 0), (0, .ref (a 0))]) hx hb dL_full_57 rfl hl (by decide) rfl (fun ls hl => ?_)
        have lp_4 : ∀ (n9 : Nat) (i : Nat) (S3 : zS) (H : Heap) (locs : List Loc) (ls : Array Slot), 7 - i < n9 → (i ≤ 6) → (zFu S3 a (zG 150) 300 i) → zW D y base S3 s H locs → lv_has ls 2 [(1, .int (nI i)), (0, .ref (a 0))] → W p l e (headSpec wsL_full ({ frames := 10, cells := 1001, slots := 10947, locals := 180 })).room s m args below meth c H locs (931 + 4 * i) (10581 + 21 * i) (MQ below (va_Qi (fun (r : Int32) (S1 : zS) => r = 1) (zPost D y base) (zA base)) args s 1001 10947 (zA base)) (F0 m 58 ls []) := by
          intro n9
          induction n9 with
          | zero =>
            intro i S3 H locs ls hn9
            exact absurd hn9 (Nat.not_lt_zero _)
          | succ n9 ih_3 =>
            intro i S3 H locs ls hn9 hi hFu hw hl
            refine lv_iload_n hx hb dL_full_58 rfl (lv_at hl 0 rfl) ?_
            refine lv_bipush (v := 6) hx hb dL_full_59 (by decide) ?_
            refine lv_icmp_ge (tgt := 103) hx hb dL_full_61 (by decide) (fun c61 => ?_) (fun c61 => ?_)
            · have hi66 : i = 6 := by have := z_ge (n := 6) c61 (by omega) (by omega); omega
              subst hi66
              refine W.widen (k := 955) (n := 10707) (by omega) (by omega) ?_
              refine lv_aload_n hx hb dL_full_103 rfl (lv_at hl 1 rfl) ?_
              exact cut_L_full_104 hst C hr hlocks hDs hFu hw hl
            · have hi6 := z_lt (n := 6) c61 (by omega) (by omega)
              refine lv_aload_n hx hb dL_full_64 rfl (lv_at hl 1 rfl) ?_
              refine lv_bipush (v := 112) hx hb dL_full_65 (by decide) ?_
              refine lv_iconst (v := 3) hx hb dL_full_67 (by decide) ?_
              refine znewI (N := 3) C hw (by decide +kernel) (by decide) (by decide) ((by first | exact Nat.le_of_ble_eq_true rfl | (show _ ≤ 1001; omega) | (show _ ≤ 10947; omega))) ((by first | exact Nat.le_of_ble_eq_true rfl | (show _ ≤ 1001; omega) | (show _ ≤ 10947; omega))) ((by first | exact Nat.le_of_ble_eq_true rfl | (show _ ≤ 1001; omega) | (show _ ≤ 10947; omega))) dL_full_68 (fun q68 H kq68 hw => ?_)
              have hA : zAr S3 (znR S3 q68 22 3 (fun _ => 0)) q68 3 [] := zAr.new kq68
              generalize (znR S3 q68 22 3 (fun _ => 0)) = Sa68 at hw hA
              refine lv_dup hx hb dL_full_70 rfl ?_
              refine lv_iconst (v := 0) hx hb dL_full_71 (by decide) ?_
              refine lv_bipush (v := 116) hx hb dL_full_72 (by decide) ?_
              refine zast_I (a := q68) C hw hA.2.1 hA.2.2.1 (zin_of (N := 3) (by decide) (by grind) (by grind)) dL_full_74 (fun H locs hw => ?_)
              have hA : zAr S3 (zsR Sa68 22 q68 (upd (zR Sa68 22 q68) (0 : Int32).toNatClampNeg 116)) q68 3 [116] := zAr.st (k := 0) hA kq68 (by decide) rfl
              generalize (zsR Sa68 22 q68 (upd (zR Sa68 22 q68) (0 : Int32).toNatClampNeg 116)) = Sa74 at hw hA
              refine lv_dup hx hb dL_full_75 rfl ?_
              refine lv_iconst (v := 1) hx hb dL_full_76 (by decide) ?_
              refine lv_bipush (v := 9) hx hb dL_full_77 (by decide) ?_
              refine zast_I (a := q68) C hw hA.2.1 hA.2.2.1 (zin_of (N := 3) (by decide) (by grind) (by grind)) dL_full_79 (fun H locs hw => ?_)
              have hA : zAr S3 (zsR Sa74 22 q68 (upd (zR Sa74 22 q68) (1 : Int32).toNatClampNeg 9)) q68 3 [116, 9] := zAr.st (k := 1) hA kq68 (by decide) rfl
              generalize (zsR Sa74 22 q68 (upd (zR Sa74 22 q68) (1 : Int32).toNatClampNeg 9)) = Sa79 at hw hA
              refine lv_dup hx hb dL_full_80 rfl ?_
              refine lv_iconst (v := 2) hx hb dL_full_81 (by decide) ?_
              refine lv_sipush (v := 400) hx hb dL_full_82 (by decide) ?_
              refine zast_I (a := q68) C hw hA.2.1 hA.2.2.1 (zin_of (N := 3) (by decide) (by grind) (by grind)) dL_full_85 (fun H locs hw => ?_)
              have hA : zAr S3 (zsR Sa79 22 q68 (upd (zR Sa79 22 q68) (2 : Int32).toNatClampNeg 400)) q68 3 [116, 9, 400] := zAr.st (k := 2) hA kq68 (by decide) rfl
              generalize (zsR Sa79 22 q68 (upd (zR Sa79 22 q68) (2 : Int32).toNatClampNeg 400)) = Sa85 at hw hA
              obtain ⟨hG, hK9, hN9, hA⟩ := hA
              have hj0 : zR Sa85 22 q68 0 = (116 : Int32) := (hA 0 116 rfl).trans rfl
              have hj1 : zR Sa85 22 q68 1 = 9 := (hA 1 9 rfl).trans rfl
              have hj2 : zR Sa85 22 q68 2 = (nI 400) := (hA 2 400 rfl).trans rfl
              have hFu := zFu.gw hG hFu
              have hFu2 := hFu
              obtain ⟨F, N, hOb, hF, hN, hN0⟩ := hFu2
              refine zcSW_i (As := [.ref (a 0), .int 112, .ref q68]) (rest := []) (n9 := 3) C hw (c_L_ask_p_step_t l hst D y base Sa85 a 9 400 i q68 hOb.1 hDs ⟨by decide, by decide⟩ hOb.2.2.2.2.2.2.2.2.1 (by omega) hK9 hN9 hj0 hj1 hj2) gL_full_L_ask rfl (by decide +kernel) ⟨⟨rfl, rfl⟩, (by first | exact Nat.le_of_ble_eq_true rfl | (show _ ≤ 1001; omega) | (show _ ≤ 10947; omega)), (by first | exact Nat.le_of_ble_eq_true rfl | (show _ ≤ 1001; omega) | (show _ ≤ 10947; omega))⟩ rfl hl.1 rfl ((by first | exact Nat.le_of_ble_eq_true rfl | (show _ ≤ 1001; omega) | (show _ ≤ 10947; omega))) ⟨(by first | exact Nat.le_of_ble_eq_true rfl | (show _ ≤ 1001; omega) | (show _ ≤ 10947; omega)), (by first | exact Nat.le_of_ble_eq_true rfl | (show _ ≤ 1001; omega) | (show _ ≤ 10947; omega))⟩ dL_full_86 (fun r86 S86 H locs hp86 hw => ?_)
              have h9 : r86 = (nI (i + 1)) ∧ zFu S86 a (zG 150) 300 (i + 1) ∧ zFr Sa85 S86 (zTI (a 3)) (zTR (a 7) (a 8) (a 9)) := by
                rcases hp86 with h | h
                · exact ⟨h.1.2, zFu.stp hDs hFu h.2.1 h.2.2, h.2.2⟩
                · exact absurd h.2.1 (by omega)
              obtain ⟨rfl, hFu, hfr⟩ := h9
              refine lv_iload_n hx hb dL_full_89 rfl (lv_at hl 0 rfl) ?_
              refine lv_iconst (v := 1) hx hb dL_full_90 (by decide) ?_
              refine lv_iadd hx hb dL_full_91 ?_
              refine zrd (x := (nI (i + 1))) (nI_1 _) ?_
              refine lv_icmp_eq (tgt := 97) hx hb dL_full_92 (by decide) (fun c92 => ?_) (fun c92 => (show False from c92 rfl).elim)
              refine lv_iinc (v := (nI (i + 1))) (lv' := [(1, .int (nI (i + 1))), (0, .ref (a 0))]) hx hb dL_full_97 hl (k := 0) rfl (nI_1 _) (by decide) rfl (fun ls hl => ?_)
              refine lv_goto (tgt := 58) hx hb dL_full_100 (by decide) ?_
              refine W.widen (k := 931 + 4 * (i + 1)) (n := 10581 + 21 * (i + 1)) (by omega) (by omega) ?_
              exact ih_3 (i + 1) S86 _ _ _ (by omega) (by omega) hFu hw (lv_sub hl [0, 1] rfl)
        refine W.widen (k := 931 + 4 * 0) (n := 10581 + 21 * 0) (by omega) (by omega) ?_
        exact lp_4 _ 0 S2 _ _ _ (Nat.lt_succ_self _) (by decide) hFu hw (lv_sub hl [0, 1] rfl)
      · have hk1 := z_lt (n := 150) c14 (by omega) (by omega)
        refine lv_aload_n hx hb dL_full_17 rfl (lv_at hl 1 rfl) ?_
        refine lv_bipush (v := 103) hx hb dL_full_18 (by decide) ?_
        refine lv_iconst (v := 3) hx hb dL_full_20 (by decide) ?_
        refine znewI (N := 3) C hw (by decide +kernel) (by decide) (by decide) ((by first | exact Nat.le_of_ble_eq_true rfl | (show _ ≤ 1001; omega) | (show _ ≤ 10947; omega))) ((by first | exact Nat.le_of_ble_eq_true rfl | (show _ ≤ 1001; omega) | (show _ ≤ 10947; omega))) ((by first | exact Nat.le_of_ble_eq_true rfl | (show _ ≤ 1001; omega) | (show _ ≤ 10947; omega))) dL_full_21 (fun q21 H kq21 hw => ?_)
        have hA : zAr S2 (znR S2 q21 22 3 (fun _ => 0)) q21 3 [] := zAr.new kq21
        generalize (znR S2 q21 22 3 (fun _ => 0)) = Sa21 at hw hA
        refine lv_dup hx hb dL_full_23 rfl ?_
        refine lv_iconst (v := 0) hx hb dL_full_24 (by decide) ?_
        refine lv_iconst (v := 2) hx hb dL_full_25 (by decide) ?_
        refine zast_I (a := q21) C hw hA.2.1 hA.2.2.1 (zin_of (N := 3) (by decide) (by grind) (by grind)) dL_full_26 (fun H locs hw => ?_)
        have hA : zAr S2 (zsR Sa21 22 q21 (upd (zR Sa21 22 q21) (0 : Int32).toNatClampNeg 2)) q21 3 [2] := zAr.st (k := 0) hA kq21 (by decide) rfl
        generalize (zsR Sa21 22 q21 (upd (zR Sa21 22 q21) (0 : Int32).toNatClampNeg 2)) = Sa26 at hw hA
        refine lv_dup hx hb dL_full_27 rfl ?_
        refine lv_iconst (v := 1) hx hb dL_full_28 (by decide) ?_
        refine lv_iconst (v := 4) hx hb dL_full_29 (by decide) ?_
        refine lv_iload_n hx hb dL_full_30 rfl (lv_at hl 0 rfl) ?_
        refine lv_imul hx hb dL_full_31 ?_
        refine zrd (x := (nI (4 * k))) (pk_mul 4 _) ?_
        refine zast_I (a := q21) C hw hA.2.1 hA.2.2.1 (zin_of (N := 3) (by decide) (by grind) (by grind)) dL_full_32 (fun H locs hw => ?_)
        have hA : zAr S2 (zsR Sa26 22 q21 (upd (zR Sa26 22 q21) (1 : Int32).toNatClampNeg (nI (4 * k)))) q21 3 [2, (nI (4 * k))] := zAr.st (k := 1) hA kq21 (by decide) rfl
        generalize (zsR Sa26 22 q21 (upd (zR Sa26 22 q21) (1 : Int32).toNatClampNeg (nI (4 * k)))) = Sa32 at hw hA
        refine lv_dup hx hb dL_full_33 rfl ?_
        refine lv_iconst (v := 2) hx hb dL_full_34 (by decide) ?_
        refine lv_iconst (v := 2) hx hb dL_full_35 (by decide) ?_
        refine zast_I (a := q21) C hw hA.2.1 hA.2.2.1 (zin_of (N := 3) (by decide) (by grind) (by grind)) dL_full_36 (fun H locs hw => ?_)
        have hA : zAr S2 (zsR Sa32 22 q21 (upd (zR Sa32 22 q21) (2 : Int32).toNatClampNeg 2)) q21 3 [2, (nI (4 * k)), 2] := zAr.st (k := 2) hA kq21 (by decide) rfl
        generalize (zsR Sa32 22 q21 (upd (zR Sa32 22 q21) (2 : Int32).toNatClampNeg 2)) = Sa36 at hw hA
        obtain ⟨hG, hK9, hN9, hA⟩ := hA
        have hj0 : zR Sa36 22 q21 0 = (nI 2) := (hA 0 2 rfl).trans rfl
        have hj1 : zR Sa36 22 q21 1 = (nI (4 * k)) := (hA 1 (nI (4 * k)) rfl).trans rfl
        have hj2 : zR Sa36 22 q21 2 = (nI 2) := (hA 2 2 rfl).trans rfl
        have hFu := zFu.gw hG hFu
        have hFu2 := hFu
        obtain ⟨F, N, hOb, hF, hN, hN0⟩ := hFu2
        refine zcSW_i (As := [.ref (a 0), .int 103, .ref q21]) (rest := []) (n9 := 3) C hw (c_L_ask_g_glitch_g l hst D y base Sa36 a 2 (4 * k) 2 _ _ _ _ _ _ _ q21 hOb.1 hDs (by decide) (by omega) ⟨by decide, by decide⟩ hOb hK9 hN9 hj0 hj1 hj2) gL_full_L_ask rfl (by decide +kernel) ⟨⟨rfl, rfl⟩, (by first | exact Nat.le_of_ble_eq_true rfl | (show _ ≤ 1001; omega) | (show _ ≤ 10947; omega)), (by first | exact Nat.le_of_ble_eq_true rfl | (show _ ≤ 1001; omega) | (show _ ≤ 10947; omega))⟩ rfl hl.1 rfl ((by first | exact Nat.le_of_ble_eq_true rfl | (show _ ≤ 1001; omega) | (show _ ≤ 10947; omega))) ⟨(by first | exact Nat.le_of_ble_eq_true rfl | (show _ ≤ 1001; omega) | (show _ ≤ 10947; omega)), (by first | exact Nat.le_of_ble_eq_true rfl | (show _ ≤ 1001; omega) | (show _ ≤ 10947; omega))⟩ dL_full_37 (fun r37 S37 H locs hp37 hw => ?_)
        obtain ⟨hr9, hFu⟩ := zFu.hit (n' := (2 * k + 2)) hF hN hN0 (zG_hit k) (by omega) (by omega) hp37
        have hr9 : r37 = (nI (2 * k + 2)) := hr9
        subst hr9
        have hFu : zFu S37 a (zG (k + 1)) (2 * (k + 1)) 0 := by rw [← zG_glitch]; exact hFu
        refine lv_iconst (v := 2) hx hb dL_full_40 (by decide) ?_
        refine lv_iload_n hx hb dL_full_41 rfl (lv_at hl 0 rfl) ?_
        refine lv_imul hx hb dL_full_42 ?_
        refine zrd (x := (nI (2 * k))) (pk_mul 2 _) ?_
        refine lv_iconst (v := 2) hx hb dL_full_43 (by decide) ?_
        refine lv_iadd hx hb dL_full_44 ?_
        refine zrd (x := (nI (2 * k + 2))) (nI_add _ 2) ?_
        refine lv_icmp_eq (tgt := 50) hx hb dL_full_45 (by decide) (fun c45 => ?_) (fun c45 => (show False from c45 rfl).elim)
        refine lv_iinc (v := (nI (k + 1))) (lv' := [(1, .int (nI (k + 1))), (0, .ref (a 0))]) hx hb dL_full_50 hl (k := 0) rfl (nI_1 _) (by decide) rfl (fun ls hl => ?_)
        refine lv_goto (tgt := 10) hx hb dL_full_53 (by decide) ?_
        refine W.widen (k := 31 + 6 * (k + 1)) (n := 5631 + 33 * (k + 1)) (by omega) (by omega) ?_
        exact ih_1 (k + 1) S37 _ _ _ (by omega) (by omega) hFu hw (lv_sub hl [0, 1] rfl)
  refine W.widen (k := 31 + 6 * 0) (n := 5631 + 33 * 0) (by omega) (by omega) ?_
  exact lp_2 _ 0 S4 _ _ _ (Nat.lt_succ_self _) (by decide) hFu hw (lv_sub hl [0, 1] rfl)

