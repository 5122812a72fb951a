set_option maxHeartbeats 4000000 in
set_option maxRecDepth 100000 in
theorem law_case_0 {p : Program} {l : Launch} {e : Env} {s : State} {m : MethodId} {below : List Frame} {meth : Method} {c : Code} {H : Heap} {locs : List Loc} {ls : Array Slot} {D : va_G} {y : Nat → ClassId} {base : Nat} {S : zS} {a b : Nat → Nat} {o od bs : Nat} {xs : Nat → Int32} (hst : l.stackTraces = false) (C : CallFix p m c code 9 s #[Value.ref bs] wsL_law RL) (hend : zEnd p l e s m bs below meth c base)
    (hXs : va_X bs 9 xs s s.heap) (hbl : bs < s.heap.size) (hbs : base = s.heap.size) (hy : y 94 = 0) (hX : zX S a) (h0 : zX0 S a) (hM : zMd S b) (hM0 : zMd0 S b) (hF : zQ S 49 (b 4) = some (y 92) ∧ zQ S 49 (b 5) = some (y 92)) (hreg : ∀ i j, i < 128 → zR S 22 (b (100 + i)) j = 0) (hko : zK S o = 24) (hno : zN S o = 1)
    (hw : zW D y base S s H locs) (hl : lv_has ls 9 [(5, .int 0), (0, .ref bs), (1, .ref (a 0)), (2, .ref (b 0)), (3, .ref o), (4, .ref od)]) : W p l e room_1 s m #[Value.ref bs] below meth c H locs 1000 60000 (lw_Z below #[Value.ref bs] s) (F0 m 216 ls []) := by
  have hx := C.1
  have hb := C.2.1
  have hown := C.2.2.2.1
  have hts := C.2.2.2.2
  refine lv_aload_n hx hb dL_law_216 rfl (lv_at hl 2 rfl) ?_
  refine lv_aload_n hx hb dL_law_217 rfl (lv_at hl 1 rfl) ?_
  refine lv_iload hx hb dL_law_218 (lv_at hl 0 rfl) ?_
  refine lv_iconst (v := 1) hx hb dL_law_220 (by decide) ?_
  refine lv_iadd hx hb dL_law_221 ?_
  refine zrd (x := 1) (by decide) ?_
  refine zsld (v := xs 1) C hw hXs hbl hbs (zin_of (N := 9) (by decide) (by decide) (by decide)) rfl dL_law_222 ?_
  refine lv_aload_n hx hb dL_law_223 rfl (lv_at hl 1 rfl) ?_
  refine lv_iload hx hb dL_law_224 (lv_at hl 0 rfl) ?_
  refine lv_iconst (v := 2) hx hb dL_law_226 (by decide) ?_
  refine lv_iadd hx hb dL_law_227 ?_
  refine zrd (x := 2) (by decide) ?_
  refine zsld (v := xs 2) C hw hXs hbl hbs (zin_of (N := 9) (by decide) (by decide) (by decide)) rfl dL_law_228 ?_
  have jn_1 : ∀ (H : Heap) (locs : List Loc) (ls : Array Slot), zW D y base S s H locs → lv_has ls 9 [(5, .int 0), (0, .ref bs), (1, .ref (a 0)), (2, .ref (b 0)), (3, .ref o), (4, .ref od)] → W p l e room_1 s m #[Value.ref bs] below meth c H locs 1000 60000 (lw_Z below #[Value.ref bs] s) (F0 m 237 ls [.int (zbo (xs 2)), .int (xs 1), .ref (a 0)]) := by
    intro H locs ls hw hl
    refine lv_aload_n hx hb dL_law_237 rfl (lv_at hl 4 rfl) ?_
    refine zcSW_i (As := [.ref (a 0), .int (xs 1), .int (zbo (xs 2)), .ref o]) (rest := []) (n9 := 4) C hw (c_L_idle l hst D y base S a (xs 1) (zbo (xs 2)) o hX (by first | assumption | exact zbo_01 _) (by first | assumption | exact zbo_01 _) hko (by first | assumption | exact zbo_01 _)) gL_law_L_idle rfl (by decide +kernel) ⟨⟨rfl, rfl⟩, Nat.le_of_ble_eq_true rfl, Nat.le_of_ble_eq_true rfl⟩ rfl hl.1 rfl (Nat.le_of_ble_eq_true rfl) ⟨Nat.le_of_ble_eq_true rfl, Nat.le_of_ble_eq_true rfl⟩ dL_law_238 (fun r238 S238 H locs hp238 hw => ?_)
    obtain ⟨hk9, hv9, hco⟩ := hp238
    obtain ⟨hM9, hM09, hF9, hF95⟩ := hco.ref hM hM0 hF
    obtain ⟨hko9, hno9⟩ := hco.o hko hno
    obtain ⟨y, y92, y94, y95, y96, hw⟩ := zW_out hw hy hko9 hno9
    have hMd : zMd (zdl S238 o) b := hM9.dl hko9
    have hM0d : zMd0 (zdl S238 o) b := hM09
    have hFd : zQ (zdl S238 o) 49 (b 4) = some (y 92) := by rw [y92]; exact hF9
    have hEd : zMdE (zdl S238 o) b := ⟨⟨_, hF9⟩, _, hF95⟩
    refine lv_istore (lv' := [(6, .int r238), (5, .int 0), (0, .ref bs), (1, .ref (a 0)), (2, .ref (b 0)), (3, .ref o), (4, .ref od)]) hx hb dL_law_241 hl (by decide) rfl (fun ls hl => ?_)
    refine lv_aload_n hx hb dL_law_243 rfl (lv_at hl 4 rfl) ?_
    refine lv_aload_n hx hb dL_law_244 rfl (lv_at hl 2 rfl) ?_
    refine lv_iload hx hb dL_law_245 (lv_at hl 1 rfl) ?_
    refine lv_iconst (v := 1) hx hb dL_law_247 (by decide) ?_
    refine lv_iadd hx hb dL_law_248 ?_
    refine zrd (x := 1) (by decide) ?_
    refine zsld (v := xs 1) C hw hXs hbl hbs (zin_of (N := 9) (by decide) (by decide) (by decide)) rfl dL_law_249 ?_
    refine lv_aload_n hx hb dL_law_250 rfl (lv_at hl 2 rfl) ?_
    refine lv_iload hx hb dL_law_251 (lv_at hl 1 rfl) ?_
    refine lv_iconst (v := 2) hx hb dL_law_253 (by decide) ?_
    refine lv_iadd hx hb dL_law_254 ?_
    refine zrd (x := 2) (by decide) ?_
    refine zsld (v := xs 2) C hw hXs hbl hbs (zin_of (N := 9) (by decide) (by decide) (by decide)) rfl dL_law_255 ?_
    have jn_2 : ∀ (H : Heap) (locs : List Loc) (ls : Array Slot), zW D y base (zdl S238 o) s H locs → lv_has ls 9 [(6, .int r238), (5, .int 0), (0, .ref bs), (1, .ref (a 0)), (2, .ref (b 0)), (3, .ref o), (4, .ref od)] → W p l e room_1 s m #[Value.ref bs] below meth c H locs 1001 60006 (lw_Z below #[Value.ref bs] s) (F0 m 264 ls [.int (zbo (xs 2)), .int (xs 1), .ref (b 0)]) := by
      intro H locs ls hw hl
      refine zcV_i (As := [.int (xs 1), .int (zbo (xs 2))]) (rest := []) (n9 := 2) (b := (b 0)) C hw (c_X11_idle l D y base (zdl S238 o) b (xs 1) (zbo (xs 2)) hMd (by first | assumption | exact zbo_01 _) (by first | assumption | exact zbo_01 _)) gL_law_X11_idle rfl (by decide +kernel) ⟨⟨rfl, rfl⟩, Nat.le_of_ble_eq_true rfl, Nat.le_of_ble_eq_true rfl⟩ hMd.1 ⟨by decide, by decide⟩ rfl rfl hl.1 rfl (Nat.le_of_ble_eq_true rfl) ⟨Nat.le_of_ble_eq_true rfl, Nat.le_of_ble_eq_true rfl⟩ dL_law_264 (fun r264 S264 H locs hp264 hw => ?_)
      obtain ⟨r1, r2, r3⟩ := hp264
      refine lv_istore (lv' := [(7, .int r264), (6, .int r238), (5, .int 0), (0, .ref bs), (1, .ref (a 0)), (2, .ref (b 0)), (3, .ref o), (4, .ref od)]) hx hb dL_law_267 hl (by decide) rfl (fun ls hl => ?_)
      refine lv_aload_n hx hb dL_law_269 rfl (lv_at hl 5 rfl) ?_
      refine zcV_i (As := []) (rest := []) (n9 := 0) (b := (b 0)) C hw (c_X11_thrown l D y base S264 (b 0) (kd_idle (xs 1)) r1 r2) gL_law_X11_thrown rfl (by decide +kernel) ⟨⟨rfl, rfl⟩, Nat.le_of_ble_eq_true rfl, Nat.le_of_ble_eq_true rfl⟩ r1 ⟨by decide, by decide⟩ rfl rfl hl.1 rfl (Nat.le_of_ble_eq_true rfl) ⟨Nat.le_of_ble_eq_true rfl, Nat.le_of_ble_eq_true rfl⟩ dL_law_270 (fun r270 S270 H locs hp270 hw => ?_)
      obtain ⟨rfl, hS9⟩ := hp270
      have hS9 := hS9.symm
      subst hS9
      refine lv_iload hx hb dL_law_273 (lv_at hl 1 rfl) ?_
      refine lv_icmp_eq (tgt := 280) hx hb dL_law_275 (by decide) (fun c275 => ?_) (fun c275 => (show False from (c275 hk9.symm)).elim)
      refine lv_iload hx hb dL_law_280 (lv_at hl 1 rfl) ?_
      refine lv_if_ne (tgt := 304) hx hb dL_law_282 (by decide) (fun c282 => ?_) (fun c282 => ?_)
      · refine lv_goto (tgt := 2892) hx hb dL_law_304 (by decide) ?_
        exact hend _ _ _ _ _ (Nat.le_of_ble_eq_true rfl) (Nat.le_of_ble_eq_true rfl) hw.2.2.1 (lv_sub hl [2, 3] rfl)
      · have hz9 : kd_idle (xs 1) = 0 := hk9.symm.trans c282
        have hb9 := r3 hz9
        subst hb9
        refine lv_aload_n hx hb dL_law_285 rfl (lv_at hl 6 rfl) ?_
        refine lv_iconst (v := 0) hx hb dL_law_286 (by decide) ?_
        refine zaldX C hw y94 y95 dL_law_287 ?_
        refine zrdl (x := ((0 : Int32).toInt64)) (y96.trans (hv9 hz9)) ?_
        refine lv_iload hx hb dL_law_288 (lv_at hl 0 rfl) ?_
        refine lv_if_eq (tgt := 297) hx hb dL_law_290 (by decide) (fun _ => ?_) (fun c290 => absurd c290 (by decide))
        refine lv_lconst (v := ((0 : Int32).toInt64)) hx hb dL_law_297 (by decide) ?_
        refine W.lcmp hx hb dL_law_298 ?_
        refine zrd (x := 0) ((lg_cmp_eq _ _).mpr rfl) ?_
        refine lv_if_eq (tgt := 304) hx hb dL_law_299 (by decide) (fun _ => ?_) (fun c299 => absurd c299 (by decide))
        refine lv_goto (tgt := 2892) hx hb dL_law_304 (by decide) ?_
        exact hend _ _ _ _ _ (Nat.le_of_ble_eq_true rfl) (Nat.le_of_ble_eq_true rfl) hw.2.2.1 (lv_sub hl [2, 3] rfl)
    refine lv_if_eq (tgt := 263) hx hb dL_law_256 (by decide) (fun c256 => ?_) (fun c256 => ?_)
    · refine lv_iconst (v := 0) hx hb dL_law_263 (by decide) ?_
      refine zrd (x := (zbo (xs 2))) (zbo_0 c256) ?_
      exact jn_2 _ _ _ hw (lv_sub hl [0, 1, 2, 3, 4, 5, 6] rfl)
    · refine lv_iconst (v := 1) hx hb dL_law_259 (by decide) ?_
      refine zrd (x := (zbo (xs 2))) (zbo_1 c256) ?_
      refine lv_goto (tgt := 264) hx hb dL_law_260 (by decide) ?_
      exact jn_2 _ _ _ hw (lv_sub hl [0, 1, 2, 3, 4, 5, 6] rfl)
  refine lv_if_eq (tgt := 236) hx hb dL_law_229 (by decide) (fun c229 => ?_) (fun c229 => ?_)
  · refine lv_iconst (v := 0) hx hb dL_law_236 (by decide) ?_
    refine zrd (x := (zbo (xs 2))) (zbo_0 c229) ?_
    exact jn_1 _ _ _ hw (lv_sub hl [0, 1, 2, 3, 4, 5] rfl)
  · refine lv_iconst (v := 1) hx hb dL_law_232 (by decide) ?_
    refine zrd (x := (zbo (xs 2))) (zbo_1 c229) ?_
    refine lv_goto (tgt := 237) hx hb dL_law_233 (by decide) ?_
    exact jn_1 _ _ _ hw (lv_sub hl [0, 1, 2, 3, 4, 5] rfl)

set_option maxHeartbeats 4000000 in
set_option maxRecDepth 100000 in
theorem law_case_1 {p : Program} {l : Launch} {e : Env} {s : State} {m : MethodId} {below : List Frame} {meth : Method} {c : Code} {H : Heap} {locs : List Loc} {ls : Array Slot} {D : va_G} {y : Nat → ClassId} {base : Nat} {S : zS} {a b : Nat → Nat} {o od bs : Nat} {xs : Nat → Int32} (hst : l.stackTraces = false) (C : CallFix p m c code 9 s #[Value.ref bs] wsL_law RL) (hend : zEnd p l e s m bs below meth c base)
    (hXs : va_X bs 9 xs s s.heap) (hbl : bs < s.heap.size) (hbs : base = s.heap.size) (hy : y 94 = 0) (hX : zX S a) (h0 : zX0 S a) (hM : zMd S b) (hM0 : zMd0 S b) (hF : zQ S 49 (b 4) = some (y 92) ∧ zQ S 49 (b 5) = some (y 92)) (hreg : ∀ i j, i < 128 → zR S 22 (b (100 + i)) j = 0) (hko : zK S o = 24) (hno : zN S o = 1)
    (hw : zW D y base S s H locs) (hl : lv_has ls 9 [(5, .int 0), (0, .ref bs), (1, .ref (a 0)), (2, .ref (b 0)), (3, .ref o), (4, .ref od)]) : W p l e room_1 s m #[Value.ref bs] below meth c H locs 1000 60000 (lw_Z below #[Value.ref bs] s) (F0 m 307 ls []) := by
  have hx := C.1
  have hb := C.2.1
  have hown := C.2.2.2.1
  have hts := C.2.2.2.2
  refine lv_aload_n hx hb dL_law_307 rfl (lv_at hl 2 rfl) ?_
  refine lv_aload_n hx hb dL_law_308 rfl (lv_at hl 1 rfl) ?_
  refine lv_iload hx hb dL_law_309 (lv_at hl 0 rfl) ?_
  refine lv_iconst (v := 1) hx hb dL_law_311 (by decide) ?_
  refine lv_iadd hx hb dL_law_312 ?_
  refine zrd (x := 1) (by decide) ?_
  refine zsld (v := xs 1) C hw hXs hbl hbs (zin_of (N := 9) (by decide) (by decide) (by decide)) rfl dL_law_313 ?_
  refine lv_aload_n hx hb dL_law_314 rfl (lv_at hl 1 rfl) ?_
  refine lv_iload hx hb dL_law_315 (lv_at hl 0 rfl) ?_
  refine lv_iconst (v := 2) hx hb dL_law_317 (by decide) ?_
  refine lv_iadd hx hb dL_law_318 ?_
  refine zrd (x := 2) (by decide) ?_
  refine zsld (v := xs 2) C hw hXs hbl hbs (zin_of (N := 9) (by decide) (by decide) (by decide)) rfl dL_law_319 ?_
  refine lv_aload_n hx hb dL_law_320 rfl (lv_at hl 4 rfl) ?_
  refine zcSW_i (As := [.ref (a 0), .int (xs 1), .int (xs 2), .ref o]) (rest := []) (n9 := 4) C hw (c_L_flip l hst D y base S a (xs 1) (xs 2) o hX (by first | assumption | exact zbo_01 _) hko (by first | assumption | exact zbo_01 _)) gL_law_L_flip rfl (by decide +kernel) ⟨⟨rfl, rfl⟩, Nat.le_of_ble_eq_true rfl, Nat.le_of_ble_eq_true rfl⟩ rfl hl.1 rfl (Nat.le_of_ble_eq_true rfl) ⟨Nat.le_of_ble_eq_true rfl, Nat.le_of_ble_eq_true rfl⟩ dL_law_321 (fun r321 S321 H locs hp321 hw => ?_)
  obtain ⟨hk9, hv9, hco⟩ := hp321
  obtain ⟨hM9, hM09, hF9, hF95⟩ := hco.ref hM hM0 hF
  obtain ⟨hko9, hno9⟩ := hco.o hko hno
  obtain ⟨y, y92, y94, y95, y96, hw⟩ := zW_out hw hy hko9 hno9
  have hMd : zMd (zdl S321 o) b := hM9.dl hko9
  have hM0d : zMd0 (zdl S321 o) b := hM09
  have hFd : zQ (zdl S321 o) 49 (b 4) = some (y 92) := by rw [y92]; exact hF9
  have hEd : zMdE (zdl S321 o) b := ⟨⟨_, hF9⟩, _, hF95⟩
  refine lv_istore (lv' := [(6, .int r321), (5, .int 0), (0, .ref bs), (1, .ref (a 0)), (2, .ref (b 0)), (3, .ref o), (4, .ref od)]) hx hb dL_law_324 hl (by decide) rfl (fun ls hl => ?_)
  refine lv_aload_n hx hb dL_law_326 rfl (lv_at hl 4 rfl) ?_
  refine lv_aload_n hx hb dL_law_327 rfl (lv_at hl 2 rfl) ?_
  refine lv_iload hx hb dL_law_328 (lv_at hl 1 rfl) ?_
  refine lv_iconst (v := 1) hx hb dL_law_330 (by decide) ?_
  refine lv_iadd hx hb dL_law_331 ?_
  refine zrd (x := 1) (by decide) ?_
  refine zsld (v := xs 1) C hw hXs hbl hbs (zin_of (N := 9) (by decide) (by decide) (by decide)) rfl dL_law_332 ?_
  refine lv_aload_n hx hb dL_law_333 rfl (lv_at hl 2 rfl) ?_
  refine lv_iload hx hb dL_law_334 (lv_at hl 1 rfl) ?_
  refine lv_iconst (v := 2) hx hb dL_law_336 (by decide) ?_
  refine lv_iadd hx hb dL_law_337 ?_
  refine zrd (x := 2) (by decide) ?_
  refine zsld (v := xs 2) C hw hXs hbl hbs (zin_of (N := 9) (by decide) (by decide) (by decide)) rfl dL_law_338 ?_
  refine zcV_i (As := [.int (xs 1), .int (xs 2)]) (rest := []) (n9 := 2) (b := (b 0)) C hw (c_X11_flip l D y base (zdl S321 o) b (xs 1) (xs 2) hMd (by first | assumption | exact zbo_01 _)) gL_law_X11_flip rfl (by decide +kernel) ⟨⟨rfl, rfl⟩, Nat.le_of_ble_eq_true rfl, Nat.le_of_ble_eq_true rfl⟩ hMd.1 ⟨by decide, by decide⟩ rfl rfl hl.1 rfl (Nat.le_of_ble_eq_true rfl) ⟨Nat.le_of_ble_eq_true rfl, Nat.le_of_ble_eq_true rfl⟩ dL_law_339 (fun r339 S339 H locs hp339 hw => ?_)
  obtain ⟨r1, r2, r3⟩ := hp339
  refine lv_istore (lv' := [(7, .int r339), (6, .int r321), (5, .int 0), (0, .ref bs), (1, .ref (a 0)), (2, .ref (b 0)), (3, .ref o), (4, .ref od)]) hx hb dL_law_342 hl (by decide) rfl (fun ls hl => ?_)
  refine lv_aload_n hx hb dL_law_344 rfl (lv_at hl 5 rfl) ?_
  refine zcV_i (As := []) (rest := []) (n9 := 0) (b := (b 0)) C hw (c_X11_thrown l D y base S339 (b 0) (kd_flip (xs 1) (xs 2)) r1 r2) gL_law_X11_thrown rfl (by decide +kernel) ⟨⟨rfl, rfl⟩, Nat.le_of_ble_eq_true rfl, Nat.le_of_ble_eq_true rfl⟩ r1 ⟨by decide, by decide⟩ rfl rfl hl.1 rfl (Nat.le_of_ble_eq_true rfl) ⟨Nat.le_of_ble_eq_true rfl, Nat.le_of_ble_eq_true rfl⟩ dL_law_345 (fun r345 S345 H locs hp345 hw => ?_)
  obtain ⟨rfl, hS9⟩ := hp345
  have hS9 := hS9.symm
  subst hS9
  refine lv_iload hx hb dL_law_348 (lv_at hl 1 rfl) ?_
  refine lv_icmp_eq (tgt := 355) hx hb dL_law_350 (by decide) (fun c350 => ?_) (fun c350 => (show False from (c350 hk9.symm)).elim)
  refine lv_iload hx hb dL_law_355 (lv_at hl 1 rfl) ?_
  refine lv_if_ne (tgt := 372) hx hb dL_law_357 (by decide) (fun c357 => ?_) (fun c357 => ?_)
  · refine lv_goto (tgt := 2892) hx hb dL_law_372 (by decide) ?_
    exact hend _ _ _ _ _ (Nat.le_of_ble_eq_true rfl) (Nat.le_of_ble_eq_true rfl) hw.2.2.1 (lv_sub hl [2, 3] rfl)
  · have hz9 : kd_flip (xs 1) (xs 2) = 0 := hk9.symm.trans c357
    have hb9 := r3 hz9
    subst hb9
    refine lv_aload_n hx hb dL_law_360 rfl (lv_at hl 6 rfl) ?_
    refine lv_iconst (v := 0) hx hb dL_law_361 (by decide) ?_
    refine zaldX C hw y94 y95 dL_law_362 ?_
    refine zrdl (x := ((1 : Int32).toInt64)) (y96.trans (hv9 hz9)) ?_
    refine lv_iload hx hb dL_law_363 (lv_at hl 0 rfl) ?_
    refine lv_i2l (v := (1 : Int32).toInt64) hx hb dL_law_365 rfl ?_
    refine W.lcmp hx hb dL_law_366 ?_
    refine zrd (x := 0) ((lg_cmp_eq _ _).mpr rfl) ?_
    refine lv_if_eq (tgt := 372) hx hb dL_law_367 (by decide) (fun _ => ?_) (fun c367 => absurd c367 (by decide))
    refine lv_goto (tgt := 2892) hx hb dL_law_372 (by decide) ?_
    exact hend _ _ _ _ _ (Nat.le_of_ble_eq_true rfl) (Nat.le_of_ble_eq_true rfl) hw.2.2.1 (lv_sub hl [2, 3] rfl)

set_option maxHeartbeats 4000000 in
set_option maxRecDepth 100000 in
theorem law_case_2 {p : Program} {l : Launch} {e : Env} {s : State} {m : MethodId} {below : List Frame} {meth : Method} {c : Code} {H : Heap} {locs : List Loc} {ls : Array Slot} {D : va_G} {y : Nat → ClassId} {base : Nat} {S : zS} {a b : Nat → Nat} {o od bs : Nat} {xs : Nat → Int32} (hst : l.stackTraces = false) (C : CallFix p m c code 9 s #[Value.ref bs] wsL_law RL) (hend : zEnd p l e s m bs below meth c base)
    (hXs : va_X bs 9 xs s s.heap) (hbl : bs < s.heap.size) (hbs : base = s.heap.size) (hy : y 94 = 0) (hX : zX S a) (h0 : zX0 S a) (hM : zMd S b) (hM0 : zMd0 S b) (hF : zQ S 49 (b 4) = some (y 92) ∧ zQ S 49 (b 5) = some (y 92)) (hreg : ∀ i j, i < 128 → zR S 22 (b (100 + i)) j = 0) (hko : zK S o = 24) (hno : zN S o = 1)
    (hw : zW D y base S s H locs) (hl : lv_has ls 9 [(5, .int 0), (0, .ref bs), (1, .ref (a 0)), (2, .ref (b 0)), (3, .ref o), (4, .ref od)]) : W p l e room_1 s m #[Value.ref bs] below meth c H locs 1000 60000 (lw_Z below #[Value.ref bs] s) (F0 m 375 ls []) := by
  have hx := C.1
  have hb := C.2.1
  have hown := C.2.2.2.1
  have hts := C.2.2.2.2
  refine lv_aload_n hx hb dL_law_375 rfl (lv_at hl 2 rfl) ?_
  refine lv_aload_n hx hb dL_law_376 rfl (lv_at hl 1 rfl) ?_
  refine lv_iload hx hb dL_law_377 (lv_at hl 0 rfl) ?_
  refine lv_iconst (v := 1) hx hb dL_law_379 (by decide) ?_
  refine lv_iadd hx hb dL_law_380 ?_
  refine zrd (x := 1) (by decide) ?_
  refine zsld (v := xs 1) C hw hXs hbl hbs (zin_of (N := 9) (by decide) (by decide) (by decide)) rfl dL_law_381 ?_
  refine lv_aload_n hx hb dL_law_382 rfl (lv_at hl 1 rfl) ?_
  refine lv_iload hx hb dL_law_383 (lv_at hl 0 rfl) ?_
  refine lv_iconst (v := 2) hx hb dL_law_385 (by decide) ?_
  refine lv_iadd hx hb dL_law_386 ?_
  refine zrd (x := 2) (by decide) ?_
  refine zsld (v := xs 2) C hw hXs hbl hbs (zin_of (N := 9) (by decide) (by decide) (by decide)) rfl dL_law_387 ?_
  refine lv_aload_n hx hb dL_law_388 rfl (lv_at hl 4 rfl) ?_
  refine zcSW_i (As := [.ref (a 0), .int (xs 1), .int (xs 2), .ref o]) (rest := []) (n9 := 4) C hw (c_L_level l hst D y base S a (xs 1) (xs 2) o hX (by first | assumption | exact zbo_01 _) hko (by first | assumption | exact zbo_01 _)) gL_law_L_level rfl (by decide +kernel) ⟨⟨rfl, rfl⟩, Nat.le_of_ble_eq_true rfl, Nat.le_of_ble_eq_true rfl⟩ rfl hl.1 rfl (Nat.le_of_ble_eq_true rfl) ⟨Nat.le_of_ble_eq_true rfl, Nat.le_of_ble_eq_true rfl⟩ dL_law_389 (fun r389 S389 H locs hp389 hw => ?_)
  obtain ⟨hk9, hv9, hco⟩ := hp389
  obtain ⟨hM9, hM09, hF9, hF95⟩ := hco.ref hM hM0 hF
  obtain ⟨hko9, hno9⟩ := hco.o hko hno
  obtain ⟨y, y92, y94, y95, y96, hw⟩ := zW_out hw hy hko9 hno9
  have hMd : zMd (zdl S389 o) b := hM9.dl hko9
  have hM0d : zMd0 (zdl S389 o) b := hM09
  have hFd : zQ (zdl S389 o) 49 (b 4) = some (y 92) := by rw [y92]; exact hF9
  have hEd : zMdE (zdl S389 o) b := ⟨⟨_, hF9⟩, _, hF95⟩
  refine lv_istore (lv' := [(6, .int r389), (5, .int 0), (0, .ref bs), (1, .ref (a 0)), (2, .ref (b 0)), (3, .ref o), (4, .ref od)]) hx hb dL_law_392 hl (by decide) rfl (fun ls hl => ?_)
  refine lv_aload_n hx hb dL_law_394 rfl (lv_at hl 4 rfl) ?_
  refine lv_aload_n hx hb dL_law_395 rfl (lv_at hl 2 rfl) ?_
  refine lv_iload hx hb dL_law_396 (lv_at hl 1 rfl) ?_
  refine lv_iconst (v := 1) hx hb dL_law_398 (by decide) ?_
  refine lv_iadd hx hb dL_law_399 ?_
  refine zrd (x := 1) (by decide) ?_
  refine zsld (v := xs 1) C hw hXs hbl hbs (zin_of (N := 9) (by decide) (by decide) (by decide)) rfl dL_law_400 ?_
  refine lv_aload_n hx hb dL_law_401 rfl (lv_at hl 2 rfl) ?_
  refine lv_iload hx hb dL_law_402 (lv_at hl 1 rfl) ?_
  refine lv_iconst (v := 2) hx hb dL_law_404 (by decide) ?_
  refine lv_iadd hx hb dL_law_405 ?_
  refine zrd (x := 2) (by decide) ?_
  refine zsld (v := xs 2) C hw hXs hbl hbs (zin_of (N := 9) (by decide) (by decide) (by decide)) rfl dL_law_406 ?_
  refine zcV_i (As := [.int (xs 1), .int (xs 2)]) (rest := []) (n9 := 2) (b := (b 0)) C hw (c_X11_level l D y base (zdl S389 o) b (xs 1) (xs 2) hMd (by first | assumption | exact zbo_01 _)) gL_law_X11_level rfl (by decide +kernel) ⟨⟨rfl, rfl⟩, Nat.le_of_ble_eq_true rfl, Nat.le_of_ble_eq_true rfl⟩ hMd.1 ⟨by decide, by decide⟩ rfl rfl hl.1 rfl (Nat.le_of_ble_eq_true rfl) ⟨Nat.le_of_ble_eq_true rfl, Nat.le_of_ble_eq_true rfl⟩ dL_law_407 (fun r407 S407 H locs hp407 hw => ?_)
  obtain ⟨r1, r2, r3⟩ := hp407
  refine lv_istore (lv' := [(7, .int r407), (6, .int r389), (5, .int 0), (0, .ref bs), (1, .ref (a 0)), (2, .ref (b 0)), (3, .ref o), (4, .ref od)]) hx hb dL_law_410 hl (by decide) rfl (fun ls hl => ?_)
  refine lv_aload_n hx hb dL_law_412 rfl (lv_at hl 5 rfl) ?_
  refine zcV_i (As := []) (rest := []) (n9 := 0) (b := (b 0)) C hw (c_X11_thrown l D y base S407 (b 0) (kd_flip (xs 1) (xs 2)) r1 r2) gL_law_X11_thrown rfl (by decide +kernel) ⟨⟨rfl, rfl⟩, Nat.le_of_ble_eq_true rfl, Nat.le_of_ble_eq_true rfl⟩ r1 ⟨by decide, by decide⟩ rfl rfl hl.1 rfl (Nat.le_of_ble_eq_true rfl) ⟨Nat.le_of_ble_eq_true rfl, Nat.le_of_ble_eq_true rfl⟩ dL_law_413 (fun r413 S413 H locs hp413 hw => ?_)
  obtain ⟨rfl, hS9⟩ := hp413
  have hS9 := hS9.symm
  subst hS9
  refine lv_iload hx hb dL_law_416 (lv_at hl 1 rfl) ?_
  refine lv_icmp_eq (tgt := 423) hx hb dL_law_418 (by decide) (fun c418 => ?_) (fun c418 => (show False from (c418 hk9.symm)).elim)
  refine lv_iload hx hb dL_law_423 (lv_at hl 1 rfl) ?_
  refine lv_if_ne (tgt := 447) hx hb dL_law_425 (by decide) (fun c425 => ?_) (fun c425 => ?_)
  · refine lv_goto (tgt := 2892) hx hb dL_law_447 (by decide) ?_
    exact hend _ _ _ _ _ (Nat.le_of_ble_eq_true rfl) (Nat.le_of_ble_eq_true rfl) hw.2.2.1 (lv_sub hl [2, 3] rfl)
  · have hz9 : kd_flip (xs 1) (xs 2) = 0 := hk9.symm.trans c425
    have hb9 := r3 hz9
    subst hb9
    refine lv_aload_n hx hb dL_law_428 rfl (lv_at hl 6 rfl) ?_
    refine lv_iconst (v := 0) hx hb dL_law_429 (by decide) ?_
    refine zaldX C hw y94 y95 dL_law_430 ?_
    refine zrdl (x := ((0 : Int32).toInt64)) (y96.trans (hv9 hz9)) ?_
    refine lv_iload hx hb dL_law_431 (lv_at hl 0 rfl) ?_
    refine lv_if_eq (tgt := 440) hx hb dL_law_433 (by decide) (fun _ => ?_) (fun c433 => absurd c433 (by decide))
    refine lv_lconst (v := ((0 : Int32).toInt64)) hx hb dL_law_440 (by decide) ?_
    refine W.lcmp hx hb dL_law_441 ?_
    refine zrd (x := 0) ((lg_cmp_eq _ _).mpr rfl) ?_
    refine lv_if_eq (tgt := 447) hx hb dL_law_442 (by decide) (fun _ => ?_) (fun c442 => absurd c442 (by decide))
    refine lv_goto (tgt := 2892) hx hb dL_law_447 (by decide) ?_
    exact hend _ _ _ _ _ (Nat.le_of_ble_eq_true rfl) (Nat.le_of_ble_eq_true rfl) hw.2.2.1 (lv_sub hl [2, 3] rfl)

set_option maxHeartbeats 4000000 in
set_option maxRecDepth 100000 in
theorem law_case_3 {p : Program} {l : Launch} {e : Env} {s : State} {m : MethodId} {below : List Frame} {meth : Method} {c : Code} {H : Heap} {locs : List Loc} {ls : Array Slot} {D : va_G} {y : Nat → ClassId} {base : Nat} {S : zS} {a b : Nat → Nat} {o od bs : Nat} {xs : Nat → Int32} (hst : l.stackTraces = false) (C : CallFix p m c code 9 s #[Value.ref bs] wsL_law RL) (hend : zEnd p l e s m bs below meth c base)
    (hXs : va_X bs 9 xs s s.heap) (hbl : bs < s.heap.size) (hbs : base = s.heap.size) (hy : y 94 = 0) (hX : zX S a) (h0 : zX0 S a) (hM : zMd S b) (hM0 : zMd0 S b) (hF : zQ S 49 (b 4) = some (y 92) ∧ zQ S 49 (b 5) = some (y 92)) (hreg : ∀ i j, i < 128 → zR S 22 (b (100 + i)) j = 0) (hko : zK S o = 24) (hno : zN S o = 1)
    (hw : zW D y base S s H locs) (hl : lv_has ls 9 [(5, .int 0), (0, .ref bs), (1, .ref (a 0)), (2, .ref (b 0)), (3, .ref o), (4, .ref od)]) : W p l e room_1 s m #[Value.ref bs] below meth c H locs 1000 60000 (lw_Z below #[Value.ref bs] s) (F0 m 450 ls []) := by
  have hx := C.1
  have hb := C.2.1
  have hown := C.2.2.2.1
  have hts := C.2.2.2.2
  refine lv_aload_n hx hb dL_law_450 rfl (lv_at hl 2 rfl) ?_
  refine lv_aload_n hx hb dL_law_451 rfl (lv_at hl 1 rfl) ?_
  refine lv_iload hx hb dL_law_452 (lv_at hl 0 rfl) ?_
  refine lv_iconst (v := 1) hx hb dL_law_454 (by decide) ?_
  refine lv_iadd hx hb dL_law_455 ?_
  refine zrd (x := 1) (by decide) ?_
  refine zsld (v := xs 1) C hw hXs hbl hbs (zin_of (N := 9) (by decide) (by decide) (by decide)) rfl dL_law_456 ?_
  refine lv_aload_n hx hb dL_law_457 rfl (lv_at hl 1 rfl) ?_
  refine lv_iload hx hb dL_law_458 (lv_at hl 0 rfl) ?_
  refine lv_iconst (v := 2) hx hb dL_law_460 (by decide) ?_
  refine lv_iadd hx hb dL_law_461 ?_
  refine zrd (x := 2) (by decide) ?_
  refine zsld (v := xs 2) C hw hXs hbl hbs (zin_of (N := 9) (by decide) (by decide) (by decide)) rfl dL_law_462 ?_
  refine lv_aload_n hx hb dL_law_463 rfl (lv_at hl 1 rfl) ?_
  refine lv_iload hx hb dL_law_464 (lv_at hl 0 rfl) ?_
  refine lv_iconst (v := 3) hx hb dL_law_466 (by decide) ?_
  refine lv_iadd hx hb dL_law_467 ?_
  refine zrd (x := 3) (by decide) ?_
  refine zsld (v := xs 3) C hw hXs hbl hbs (zin_of (N := 9) (by decide) (by decide) (by decide)) rfl dL_law_468 ?_
  refine lv_aload_n hx hb dL_law_469 rfl (lv_at hl 4 rfl) ?_
  refine zcSW_i (As := [.ref (a 0), .int (xs 1), .int (xs 2), .int (xs 3), .ref o]) (rest := []) (n9 := 5) C hw (c_L_glitch l hst D y base S a (xs 1) (xs 2) (xs 3) o hX (by first | assumption | exact zbo_01 _) hko (by first | assumption | exact zbo_01 _)) gL_law_L_glitch rfl (by decide +kernel) ⟨⟨rfl, rfl⟩, Nat.le_of_ble_eq_true rfl, Nat.le_of_ble_eq_true rfl⟩ rfl hl.1 rfl (Nat.le_of_ble_eq_true rfl) ⟨Nat.le_of_ble_eq_true rfl, Nat.le_of_ble_eq_true rfl⟩ dL_law_470 (fun r470 S470 H locs hp470 hw => ?_)
  obtain ⟨hk9, hv9, hco⟩ := hp470
  obtain ⟨hM9, hM09, hF9, hF95⟩ := hco.ref hM hM0 hF
  obtain ⟨hko9, hno9⟩ := hco.o hko hno
  obtain ⟨y, y92, y94, y95, y96, hw⟩ := zW_out hw hy hko9 hno9
  have hMd : zMd (zdl S470 o) b := hM9.dl hko9
  have hM0d : zMd0 (zdl S470 o) b := hM09
  have hFd : zQ (zdl S470 o) 49 (b 4) = some (y 92) := by rw [y92]; exact hF9
  have hEd : zMdE (zdl S470 o) b := ⟨⟨_, hF9⟩, _, hF95⟩
  refine lv_istore (lv' := [(6, .int r470), (5, .int 0), (0, .ref bs), (1, .ref (a 0)), (2, .ref (b 0)), (3, .ref o), (4, .ref od)]) hx hb dL_law_473 hl (by decide) rfl (fun ls hl => ?_)
  refine lv_aload_n hx hb dL_law_475 rfl (lv_at hl 4 rfl) ?_
  refine lv_aload_n hx hb dL_law_476 rfl (lv_at hl 2 rfl) ?_
  refine lv_iload hx hb dL_law_477 (lv_at hl 1 rfl) ?_
  refine lv_iconst (v := 1) hx hb dL_law_479 (by decide) ?_
  refine lv_iadd hx hb dL_law_480 ?_
  refine zrd (x := 1) (by decide) ?_
  refine zsld (v := xs 1) C hw hXs hbl hbs (zin_of (N := 9) (by decide) (by decide) (by decide)) rfl dL_law_481 ?_
  refine lv_aload_n hx hb dL_law_482 rfl (lv_at hl 2 rfl) ?_
  refine lv_iload hx hb dL_law_483 (lv_at hl 1 rfl) ?_
  refine lv_iconst (v := 2) hx hb dL_law_485 (by decide) ?_
  refine lv_iadd hx hb dL_law_486 ?_
  refine zrd (x := 2) (by decide) ?_
  refine zsld (v := xs 2) C hw hXs hbl hbs (zin_of (N := 9) (by decide) (by decide) (by decide)) rfl dL_law_487 ?_
  refine lv_aload_n hx hb dL_law_488 rfl (lv_at hl 2 rfl) ?_
  refine lv_iload hx hb dL_law_489 (lv_at hl 1 rfl) ?_
  refine lv_iconst (v := 3) hx hb dL_law_491 (by decide) ?_
  refine lv_iadd hx hb dL_law_492 ?_
  refine zrd (x := 3) (by decide) ?_
  refine zsld (v := xs 3) C hw hXs hbl hbs (zin_of (N := 9) (by decide) (by decide) (by decide)) rfl dL_law_493 ?_
  refine zcV_i (As := [.int (xs 1), .int (xs 2), .int (xs 3)]) (rest := []) (n9 := 3) (b := (b 0)) C hw (c_X11_glitch l D y base (zdl S470 o) b (xs 1) (xs 2) (xs 3) hMd (by first | assumption | exact zbo_01 _)) gL_law_X11_glitch rfl (by decide +kernel) ⟨⟨rfl, rfl⟩, Nat.le_of_ble_eq_true rfl, Nat.le_of_ble_eq_true rfl⟩ hMd.1 ⟨by decide, by decide⟩ rfl rfl hl.1 rfl (Nat.le_of_ble_eq_true rfl) ⟨Nat.le_of_ble_eq_true rfl, Nat.le_of_ble_eq_true rfl⟩ dL_law_494 (fun r494 S494 H locs hp494 hw => ?_)
  obtain ⟨r1, r2, r3⟩ := hp494
  refine lv_istore (lv' := [(7, .int r494), (6, .int r470), (5, .int 0), (0, .ref bs), (1, .ref (a 0)), (2, .ref (b 0)), (3, .ref o), (4, .ref od)]) hx hb dL_law_497 hl (by decide) rfl (fun ls hl => ?_)
  refine lv_aload_n hx hb dL_law_499 rfl (lv_at hl 5 rfl) ?_
  refine zcV_i (As := []) (rest := []) (n9 := 0) (b := (b 0)) C hw (c_X11_thrown l D y base S494 (b 0) (kd_glitch (xs 1) (xs 2) (xs 3)) r1 r2) gL_law_X11_thrown rfl (by decide +kernel) ⟨⟨rfl, rfl⟩, Nat.le_of_ble_eq_true rfl, Nat.le_of_ble_eq_true rfl⟩ r1 ⟨by decide, by decide⟩ rfl rfl hl.1 rfl (Nat.le_of_ble_eq_true rfl) ⟨Nat.le_of_ble_eq_true rfl, Nat.le_of_ble_eq_true rfl⟩ dL_law_500 (fun r500 S500 H locs hp500 hw => ?_)
  obtain ⟨rfl, hS9⟩ := hp500
  have hS9 := hS9.symm
  subst hS9
  refine lv_iload hx hb dL_law_503 (lv_at hl 1 rfl) ?_
  refine lv_icmp_eq (tgt := 510) hx hb dL_law_505 (by decide) (fun c505 => ?_) (fun c505 => (show False from (c505 hk9.symm)).elim)
  refine lv_iload hx hb dL_law_510 (lv_at hl 1 rfl) ?_
  refine lv_if_ne (tgt := 527) hx hb dL_law_512 (by decide) (fun c512 => ?_) (fun c512 => ?_)
  · refine lv_goto (tgt := 2892) hx hb dL_law_527 (by decide) ?_
    exact hend _ _ _ _ _ (Nat.le_of_ble_eq_true rfl) (Nat.le_of_ble_eq_true rfl) hw.2.2.1 (lv_sub hl [2, 3] rfl)
  · have hz9 : kd_glitch (xs 1) (xs 2) (xs 3) = 0 := hk9.symm.trans c512
    have hb9 := r3 hz9
    subst hb9
    refine lv_aload_n hx hb dL_law_515 rfl (lv_at hl 6 rfl) ?_
    refine lv_iconst (v := 0) hx hb dL_law_516 (by decide) ?_
    refine zaldX C hw y94 y95 dL_law_517 ?_
    refine zrdl (x := ((2 : Int32).toInt64)) (y96.trans (hv9 hz9)) ?_
    refine lv_iload hx hb dL_law_518 (lv_at hl 0 rfl) ?_
    refine lv_i2l (v := (2 : Int32).toInt64) hx hb dL_law_520 rfl ?_
    refine W.lcmp hx hb dL_law_521 ?_
    refine zrd (x := 0) ((lg_cmp_eq _ _).mpr rfl) ?_
    refine lv_if_eq (tgt := 527) hx hb dL_law_522 (by decide) (fun _ => ?_) (fun c522 => absurd c522 (by decide))
    refine lv_goto (tgt := 2892) hx hb dL_law_527 (by decide) ?_
    exact hend _ _ _ _ _ (Nat.le_of_ble_eq_true rfl) (Nat.le_of_ble_eq_true rfl) hw.2.2.1 (lv_sub hl [2, 3] rfl)

set_option maxHeartbeats 4000000 in
set_option maxRecDepth 100000 in
theorem law_case_4 {p : Program} {l : Launch} {e : Env} {s : State} {m : MethodId} {below : List Frame} {meth : Method} {c : Code} {H : Heap} {locs : List Loc} {ls : Array Slot} {D : va_G} {y : Nat → ClassId} {base : Nat} {S : zS} {a b : Nat → Nat} {o od bs : Nat} {xs : Nat → Int32} (hst : l.stackTraces = false) (C : CallFix p m c code 9 s #[Value.ref bs] wsL_law RL) (hend : zEnd p l e s m bs below meth c base)
    (hXs : va_X bs 9 xs s s.heap) (hbl : bs < s.heap.size) (hbs : base = s.heap.size) (hy : y 94 = 0) (hX : zX S a) (h0 : zX0 S a) (hM : zMd S b) (hM0 : zMd0 S b) (hF : zQ S 49 (b 4) = some (y 92) ∧ zQ S 49 (b 5) = some (y 92)) (hreg : ∀ i j, i < 128 → zR S 22 (b (100 + i)) j = 0) (hko : zK S o = 24) (hno : zN S o = 1)
    (hw : zW D y base S s H locs) (hl : lv_has ls 9 [(5, .int 0), (0, .ref bs), (1, .ref (a 0)), (2, .ref (b 0)), (3, .ref o), (4, .ref od)]) : W p l e room_1 s m #[Value.ref bs] below meth c H locs 1000 60000 (lw_Z below #[Value.ref bs] s) (F0 m 530 ls []) := by
  have hx := C.1
  have hb := C.2.1
  have hown := C.2.2.2.1
  have hts := C.2.2.2.2
  refine lv_aload_n hx hb dL_law_530 rfl (lv_at hl 2 rfl) ?_
  refine lv_aload_n hx hb dL_law_531 rfl (lv_at hl 1 rfl) ?_
  refine lv_iload hx hb dL_law_532 (lv_at hl 0 rfl) ?_
  refine lv_iconst (v := 1) hx hb dL_law_534 (by decide) ?_
  refine lv_iadd hx hb dL_law_535 ?_
  refine zrd (x := 1) (by decide) ?_
  refine zsld (v := xs 1) C hw hXs hbl hbs (zin_of (N := 9) (by decide) (by decide) (by decide)) rfl dL_law_536 ?_
  refine lv_aload_n hx hb dL_law_537 rfl (lv_at hl 4 rfl) ?_
  refine zcSW_i (As := [.ref (a 0), .int (xs 1), .ref o]) (rest := []) (n9 := 3) C hw (c_L_drift l hst D y base S a (xs 1) o hX (by first | assumption | exact zbo_01 _) hko (by first | assumption | exact zbo_01 _)) gL_law_L_drift rfl (by decide +kernel) ⟨⟨rfl, rfl⟩, Nat.le_of_ble_eq_true rfl, Nat.le_of_ble_eq_true rfl⟩ rfl hl.1 rfl (Nat.le_of_ble_eq_true rfl) ⟨Nat.le_of_ble_eq_true rfl, Nat.le_of_ble_eq_true rfl⟩ dL_law_538 (fun r538 S538 H locs hp538 hw => ?_)
  obtain ⟨hk9, hv9, hco⟩ := hp538
  obtain ⟨hM9, hM09, hF9, hF95⟩ := hco.ref hM hM0 hF
  obtain ⟨hko9, hno9⟩ := hco.o hko hno
  obtain ⟨y, y92, y94, y95, y96, hw⟩ := zW_out hw hy hko9 hno9
  have hMd : zMd (zdl S538 o) b := hM9.dl hko9
  have hM0d : zMd0 (zdl S538 o) b := hM09
  have hFd : zQ (zdl S538 o) 49 (b 4) = some (y 92) := by rw [y92]; exact hF9
  have hEd : zMdE (zdl S538 o) b := ⟨⟨_, hF9⟩, _, hF95⟩
  refine lv_istore (lv' := [(6, .int r538), (5, .int 0), (0, .ref bs), (1, .ref (a 0)), (2, .ref (b 0)), (3, .ref o), (4, .ref od)]) hx hb dL_law_541 hl (by decide) rfl (fun ls hl => ?_)
  refine lv_aload_n hx hb dL_law_543 rfl (lv_at hl 4 rfl) ?_
  refine lv_aload_n hx hb dL_law_544 rfl (lv_at hl 2 rfl) ?_
  refine lv_iload hx hb dL_law_545 (lv_at hl 1 rfl) ?_
  refine lv_iconst (v := 1) hx hb dL_law_547 (by decide) ?_
  refine lv_iadd hx hb dL_law_548 ?_
  refine zrd (x := 1) (by decide) ?_
  refine zsld (v := xs 1) C hw hXs hbl hbs (zin_of (N := 9) (by decide) (by decide) (by decide)) rfl dL_law_549 ?_
  refine zcV_i (As := [.int (xs 1)]) (rest := []) (n9 := 1) (b := (b 0)) C hw (c_X11_drift l D y base (zdl S538 o) b (xs 1) hMd (by first | assumption | exact zbo_01 _)) gL_law_X11_drift rfl (by decide +kernel) ⟨⟨rfl, rfl⟩, Nat.le_of_ble_eq_true rfl, Nat.le_of_ble_eq_true rfl⟩ hMd.1 ⟨by decide, by decide⟩ rfl rfl hl.1 rfl (Nat.le_of_ble_eq_true rfl) ⟨Nat.le_of_ble_eq_true rfl, Nat.le_of_ble_eq_true rfl⟩ dL_law_550 (fun r550 S550 H locs hp550 hw => ?_)
  obtain ⟨r1, r2, r3⟩ := hp550
  refine lv_istore (lv' := [(7, .int r550), (6, .int r538), (5, .int 0), (0, .ref bs), (1, .ref (a 0)), (2, .ref (b 0)), (3, .ref o), (4, .ref od)]) hx hb dL_law_553 hl (by decide) rfl (fun ls hl => ?_)
  refine lv_aload_n hx hb dL_law_555 rfl (lv_at hl 5 rfl) ?_
  refine zcV_i (As := []) (rest := []) (n9 := 0) (b := (b 0)) C hw (c_X11_thrown l D y base S550 (b 0) (kd_drift (xs 1)) r1 r2) gL_law_X11_thrown rfl (by decide +kernel) ⟨⟨rfl, rfl⟩, Nat.le_of_ble_eq_true rfl, Nat.le_of_ble_eq_true rfl⟩ r1 ⟨by decide, by decide⟩ rfl rfl hl.1 rfl (Nat.le_of_ble_eq_true rfl) ⟨Nat.le_of_ble_eq_true rfl, Nat.le_of_ble_eq_true rfl⟩ dL_law_556 (fun r556 S556 H locs hp556 hw => ?_)
  obtain ⟨rfl, hS9⟩ := hp556
  have hS9 := hS9.symm
  subst hS9
  refine lv_iload hx hb dL_law_559 (lv_at hl 1 rfl) ?_
  refine lv_icmp_eq (tgt := 566) hx hb dL_law_561 (by decide) (fun c561 => ?_) (fun c561 => (show False from (c561 hk9.symm)).elim)
  refine lv_iload hx hb dL_law_566 (lv_at hl 1 rfl) ?_
  refine lv_if_ne (tgt := 583) hx hb dL_law_568 (by decide) (fun c568 => ?_) (fun c568 => ?_)
  · refine lv_goto (tgt := 2892) hx hb dL_law_583 (by decide) ?_
    exact hend _ _ _ _ _ (Nat.le_of_ble_eq_true rfl) (Nat.le_of_ble_eq_true rfl) hw.2.2.1 (lv_sub hl [2, 3] rfl)
  · have hz9 : kd_drift (xs 1) = 0 := hk9.symm.trans c568
    have hb9 := r3 hz9
    subst hb9
    refine lv_aload_n hx hb dL_law_571 rfl (lv_at hl 6 rfl) ?_
    refine lv_iconst (v := 0) hx hb dL_law_572 (by decide) ?_
    refine zaldX C hw y94 y95 dL_law_573 ?_
    refine zrdl (x := ((0 : Int32).toInt64)) (y96.trans (hv9 hz9)) ?_
    refine lv_iload hx hb dL_law_574 (lv_at hl 0 rfl) ?_
    refine lv_i2l (v := (0 : Int32).toInt64) hx hb dL_law_576 rfl ?_
    refine W.lcmp hx hb dL_law_577 ?_
    refine zrd (x := 0) ((lg_cmp_eq _ _).mpr rfl) ?_
    refine lv_if_eq (tgt := 583) hx hb dL_law_578 (by decide) (fun _ => ?_) (fun c578 => absurd c578 (by decide))
    refine lv_goto (tgt := 2892) hx hb dL_law_583 (by decide) ?_
    exact hend _ _ _ _ _ (Nat.le_of_ble_eq_true rfl) (Nat.le_of_ble_eq_true rfl) hw.2.2.1 (lv_sub hl [2, 3] rfl)

set_option maxHeartbeats 4000000 in
set_option maxRecDepth 100000 in
theorem law_case_5 {p : Program} {l : Launch} {e : Env} {s : State} {m : MethodId} {below : List Frame} {meth : Method} {c : Code} {H : Heap} {locs : List Loc} {ls : Array Slot} {D : va_G} {y : Nat → ClassId} {base : Nat} {S : zS} {a b : Nat → Nat} {o od bs : Nat} {xs : Nat → Int32} (hst : l.stackTraces = false) (C : CallFix p m c code 9 s #[Value.ref bs] wsL_law RL) (hend : zEnd p l e s m bs below meth c base)
    (hXs : va_X bs 9 xs s s.heap) (hbl : bs < s.heap.size) (hbs : base = s.heap.size) (hy : y 94 = 0) (hX : zX S a) (h0 : zX0 S a) (hM : zMd S b) (hM0 : zMd0 S b) (hF : zQ S 49 (b 4) = some (y 92) ∧ zQ S 49 (b 5) = some (y 92)) (hreg : ∀ i j, i < 128 → zR S 22 (b (100 + i)) j = 0) (hko : zK S o = 24) (hno : zN S o = 1)
    (hw : zW D y base S s H locs) (hl : lv_has ls 9 [(5, .int 0), (0, .ref bs), (1, .ref (a 0)), (2, .ref (b 0)), (3, .ref o), (4, .ref od)]) : W p l e room_1 s m #[Value.ref bs] below meth c H locs 1000 60000 (lw_Z below #[Value.ref bs] s) (F0 m 586 ls []) := by
  have hx := C.1
  have hb := C.2.1
  have hown := C.2.2.2.1
  have hts := C.2.2.2.2
  refine lv_aload_n hx hb dL_law_586 rfl (lv_at hl 2 rfl) ?_
  refine lv_aload_n hx hb dL_law_587 rfl (lv_at hl 1 rfl) ?_
  refine lv_iload hx hb dL_law_588 (lv_at hl 0 rfl) ?_
  refine lv_iconst (v := 1) hx hb dL_law_590 (by decide) ?_
  refine lv_iadd hx hb dL_law_591 ?_
  refine zrd (x := 1) (by decide) ?_
  refine zsld (v := xs 1) C hw hXs hbl hbs (zin_of (N := 9) (by decide) (by decide) (by decide)) rfl dL_law_592 ?_
  refine lv_aload_n hx hb dL_law_593 rfl (lv_at hl 1 rfl) ?_
  refine lv_iload hx hb dL_law_594 (lv_at hl 0 rfl) ?_
  refine lv_iconst (v := 2) hx hb dL_law_596 (by decide) ?_
  refine lv_iadd hx hb dL_law_597 ?_
  refine zrd (x := 2) (by decide) ?_
  refine zsld (v := xs 2) C hw hXs hbl hbs (zin_of (N := 9) (by decide) (by decide) (by decide)) rfl dL_law_598 ?_
  refine lv_aload_n hx hb dL_law_599 rfl (lv_at hl 1 rfl) ?_
  refine lv_iload hx hb dL_law_600 (lv_at hl 0 rfl) ?_
  refine lv_iconst (v := 3) hx hb dL_law_602 (by decide) ?_
  refine lv_iadd hx hb dL_law_603 ?_
  refine zrd (x := 3) (by decide) ?_
  refine zsld (v := xs 3) C hw hXs hbl hbs (zin_of (N := 9) (by decide) (by decide) (by decide)) rfl dL_law_604 ?_
  refine lv_aload_n hx hb dL_law_605 rfl (lv_at hl 1 rfl) ?_
  refine lv_iload hx hb dL_law_606 (lv_at hl 0 rfl) ?_
  refine lv_iconst (v := 4) hx hb dL_law_608 (by decide) ?_
  refine lv_iadd hx hb dL_law_609 ?_
  refine zrd (x := 4) (by decide) ?_
  refine zsld (v := xs 4) C hw hXs hbl hbs (zin_of (N := 9) (by decide) (by decide) (by decide)) rfl dL_law_610 ?_
  refine lv_aload_n hx hb dL_law_611 rfl (lv_at hl 1 rfl) ?_
  refine lv_iload hx hb dL_law_612 (lv_at hl 0 rfl) ?_
  refine lv_iconst (v := 5) hx hb dL_law_614 (by decide) ?_
  refine lv_iadd hx hb dL_law_615 ?_
  refine zrd (x := 5) (by decide) ?_
  refine zsld (v := xs 5) C hw hXs hbl hbs (zin_of (N := 9) (by decide) (by decide) (by decide)) rfl dL_law_616 ?_
  refine lv_i2c (v := ((xs 5).toUInt32 % 65536).toInt32) hx hb dL_law_617 rfl ?_
  refine lv_aload_n hx hb dL_law_618 rfl (lv_at hl 4 rfl) ?_
  refine zcSW_i (As := [.ref (a 0), .int (xs 1), .int (xs 2), .int (xs 3), .int (xs 4), .int (((xs 5).toUInt32 % 65536).toInt32), .ref o]) (rest := []) (n9 := 7) C hw (c_L_serial l hst D y base S a (xs 1) (xs 2) (xs 3) (xs 4) (((xs 5).toUInt32 % 65536).toInt32) o hX (by first | assumption | exact zbo_01 _) hko (by first | assumption | exact zbo_01 _)) gL_law_L_serial rfl (by decide +kernel) ⟨⟨rfl, rfl⟩, Nat.le_of_ble_eq_true rfl, Nat.le_of_ble_eq_true rfl⟩ rfl hl.1 rfl (Nat.le_of_ble_eq_true rfl) ⟨Nat.le_of_ble_eq_true rfl, Nat.le_of_ble_eq_true rfl⟩ dL_law_619 (fun r619 S619 H locs hp619 hw => ?_)
  obtain ⟨hk9, hv9, hco⟩ := hp619
  obtain ⟨hM9, hM09, hF9, hF95⟩ := hco.ref hM hM0 hF
  obtain ⟨hko9, hno9⟩ := hco.o hko hno
  obtain ⟨y, y92, y94, y95, y96, hw⟩ := zW_out hw hy hko9 hno9
  have hMd : zMd (zdl S619 o) b := hM9.dl hko9
  have hM0d : zMd0 (zdl S619 o) b := hM09
  have hFd : zQ (zdl S619 o) 49 (b 4) = some (y 92) := by rw [y92]; exact hF9
  have hEd : zMdE (zdl S619 o) b := ⟨⟨_, hF9⟩, _, hF95⟩
  refine lv_istore (lv' := [(6, .int r619), (5, .int 0), (0, .ref bs), (1, .ref (a 0)), (2, .ref (b 0)), (3, .ref o), (4, .ref od)]) hx hb dL_law_622 hl (by decide) rfl (fun ls hl => ?_)
  refine lv_aload_n hx hb dL_law_624 rfl (lv_at hl 4 rfl) ?_
  refine lv_aload_n hx hb dL_law_625 rfl (lv_at hl 2 rfl) ?_
  refine lv_iload hx hb dL_law_626 (lv_at hl 1 rfl) ?_
  refine lv_iconst (v := 1) hx hb dL_law_628 (by decide) ?_
  refine lv_iadd hx hb dL_law_629 ?_
  refine zrd (x := 1) (by decide) ?_
  refine zsld (v := xs 1) C hw hXs hbl hbs (zin_of (N := 9) (by decide) (by decide) (by decide)) rfl dL_law_630 ?_
  refine lv_aload_n hx hb dL_law_631 rfl (lv_at hl 2 rfl) ?_
  refine lv_iload hx hb dL_law_632 (lv_at hl 1 rfl) ?_
  refine lv_iconst (v := 2) hx hb dL_law_634 (by decide) ?_
  refine lv_iadd hx hb dL_law_635 ?_
  refine zrd (x := 2) (by decide) ?_
  refine zsld (v := xs 2) C hw hXs hbl hbs (zin_of (N := 9) (by decide) (by decide) (by decide)) rfl dL_law_636 ?_
  refine lv_aload_n hx hb dL_law_637 rfl (lv_at hl 2 rfl) ?_
  refine lv_iload hx hb dL_law_638 (lv_at hl 1 rfl) ?_
  refine lv_iconst (v := 3) hx hb dL_law_640 (by decide) ?_
  refine lv_iadd hx hb dL_law_641 ?_
  refine zrd (x := 3) (by decide) ?_
  refine zsld (v := xs 3) C hw hXs hbl hbs (zin_of (N := 9) (by decide) (by decide) (by decide)) rfl dL_law_642 ?_
  refine lv_aload_n hx hb dL_law_643 rfl (lv_at hl 2 rfl) ?_
  refine lv_iload hx hb dL_law_644 (lv_at hl 1 rfl) ?_
  refine lv_iconst (v := 4) hx hb dL_law_646 (by decide) ?_
  refine lv_iadd hx hb dL_law_647 ?_
  refine zrd (x := 4) (by decide) ?_
  refine zsld (v := xs 4) C hw hXs hbl hbs (zin_of (N := 9) (by decide) (by decide) (by decide)) rfl dL_law_648 ?_
  refine lv_aload_n hx hb dL_law_649 rfl (lv_at hl 2 rfl) ?_
  refine lv_iload hx hb dL_law_650 (lv_at hl 1 rfl) ?_
  refine lv_iconst (v := 5) hx hb dL_law_652 (by decide) ?_
  refine lv_iadd hx hb dL_law_653 ?_
  refine zrd (x := 5) (by decide) ?_
  refine zsld (v := xs 5) C hw hXs hbl hbs (zin_of (N := 9) (by decide) (by decide) (by decide)) rfl dL_law_654 ?_
  refine lv_i2c (v := ((xs 5).toUInt32 % 65536).toInt32) hx hb dL_law_655 rfl ?_
  refine zcV_i (As := [.int (xs 1), .int (xs 2), .int (xs 3), .int (xs 4), .int (((xs 5).toUInt32 % 65536).toInt32)]) (rest := []) (n9 := 5) (b := (b 0)) C hw (c_X11_serial l D y base (zdl S619 o) b (xs 1) (xs 2) (xs 3) (xs 4) (((xs 5).toUInt32 % 65536).toInt32) hMd (by first | assumption | exact zbo_01 _)) gL_law_X11_serial rfl (by decide +kernel) ⟨⟨rfl, rfl⟩, Nat.le_of_ble_eq_true rfl, Nat.le_of_ble_eq_true rfl⟩ hMd.1 ⟨by decide, by decide⟩ rfl rfl hl.1 rfl (Nat.le_of_ble_eq_true rfl) ⟨Nat.le_of_ble_eq_true rfl, Nat.le_of_ble_eq_true rfl⟩ dL_law_656 (fun r656 S656 H locs hp656 hw => ?_)
  obtain ⟨r1, r2, r3⟩ := hp656
  refine lv_istore (lv' := [(7, .int r656), (6, .int r619), (5, .int 0), (0, .ref bs), (1, .ref (a 0)), (2, .ref (b 0)), (3, .ref o), (4, .ref od)]) hx hb dL_law_659 hl (by decide) rfl (fun ls hl => ?_)
  refine lv_aload_n hx hb dL_law_661 rfl (lv_at hl 5 rfl) ?_
  refine zcV_i (As := []) (rest := []) (n9 := 0) (b := (b 0)) C hw (c_X11_thrown l D y base S656 (b 0) (kd_serial (xs 1) (xs 2) (xs 3) (xs 4) (((xs 5).toUInt32 % 65536).toInt32)) r1 r2) gL_law_X11_thrown rfl (by decide +kernel) ⟨⟨rfl, rfl⟩, Nat.le_of_ble_eq_true rfl, Nat.le_of_ble_eq_true rfl⟩ r1 ⟨by decide, by decide⟩ rfl rfl hl.1 rfl (Nat.le_of_ble_eq_true rfl) ⟨Nat.le_of_ble_eq_true rfl, Nat.le_of_ble_eq_true rfl⟩ dL_law_662 (fun r662 S662 H locs hp662 hw => ?_)
  obtain ⟨rfl, hS9⟩ := hp662
  have hS9 := hS9.symm
  subst hS9
  refine lv_iload hx hb dL_law_665 (lv_at hl 1 rfl) ?_
  refine lv_icmp_eq (tgt := 672) hx hb dL_law_667 (by decide) (fun c667 => ?_) (fun c667 => (show False from (c667 hk9.symm)).elim)
  refine lv_iload hx hb dL_law_672 (lv_at hl 1 rfl) ?_
  refine lv_if_ne (tgt := 689) hx hb dL_law_674 (by decide) (fun c674 => ?_) (fun c674 => ?_)
  · refine lv_goto (tgt := 2892) hx hb dL_law_689 (by decide) ?_
    exact hend _ _ _ _ _ (Nat.le_of_ble_eq_true rfl) (Nat.le_of_ble_eq_true rfl) hw.2.2.1 (lv_sub hl [2, 3] rfl)
  · have hz9 : kd_serial (xs 1) (xs 2) (xs 3) (xs 4) (((xs 5).toUInt32 % 65536).toInt32) = 0 := hk9.symm.trans c674
    have hb9 := r3 hz9
    subst hb9
    refine lv_aload_n hx hb dL_law_677 rfl (lv_at hl 6 rfl) ?_
    refine lv_iconst (v := 0) hx hb dL_law_678 (by decide) ?_
    refine zaldX C hw y94 y95 dL_law_679 ?_
    refine zrdl (x := (((xs 3) + nI (zsbN (((xs 5).toUInt32 % 65536).toInt32)) * (xs 4)).toInt64)) (y96.trans (hv9 hz9)) ?_
    refine lv_iload hx hb dL_law_680 (lv_at hl 0 rfl) ?_
    refine lv_i2l (v := ((xs 3) + nI (zsbN (((xs 5).toUInt32 % 65536).toInt32)) * (xs 4)).toInt64) hx hb dL_law_682 rfl ?_
    refine W.lcmp hx hb dL_law_683 ?_
    refine zrd (x := 0) ((lg_cmp_eq _ _).mpr rfl) ?_
    refine lv_if_eq (tgt := 689) hx hb dL_law_684 (by decide) (fun _ => ?_) (fun c684 => absurd c684 (by decide))
    refine lv_goto (tgt := 2892) hx hb dL_law_689 (by decide) ?_
    exact hend _ _ _ _ _ (Nat.le_of_ble_eq_true rfl) (Nat.le_of_ble_eq_true rfl) hw.2.2.1 (lv_sub hl [2, 3] rfl)

set_option maxHeartbeats 4000000 in
set_option maxRecDepth 100000 in
theorem law_case_6 {p : Program} {l : Launch} {e : Env} {s : State} {m : MethodId} {below : List Frame} {meth : Method} {c : Code} {H : Heap} {locs : List Loc} {ls : Array Slot} {D : va_G} {y : Nat → ClassId} {base : Nat} {S : zS} {a b : Nat → Nat} {o od bs : Nat} {xs : Nat → Int32} (hst : l.stackTraces = false) (C : CallFix p m c code 9 s #[Value.ref bs] wsL_law RL) (hend : zEnd p l e s m bs below meth c base)
    (hXs : va_X bs 9 xs s s.heap) (hbl : bs < s.heap.size) (hbs : base = s.heap.size) (hy : y 94 = 0) (hX : zX S a) (h0 : zX0 S a) (hM : zMd S b) (hM0 : zMd0 S b) (hF : zQ S 49 (b 4) = some (y 92) ∧ zQ S 49 (b 5) = some (y 92)) (hreg : ∀ i j, i < 128 → zR S 22 (b (100 + i)) j = 0) (hko : zK S o = 24) (hno : zN S o = 1)
    (hw : zW D y base S s H locs) (hl : lv_has ls 9 [(5, .int 0), (0, .ref bs), (1, .ref (a 0)), (2, .ref (b 0)), (3, .ref o), (4, .ref od)]) : W p l e room_1 s m #[Value.ref bs] below meth c H locs 1000 60000 (lw_Z below #[Value.ref bs] s) (F0 m 692 ls []) := by
  have hx := C.1
  have hb := C.2.1
  have hown := C.2.2.2.1
  have hts := C.2.2.2.2
  refine lv_aload_n hx hb dL_law_692 rfl (lv_at hl 2 rfl) ?_
  refine lv_aload_n hx hb dL_law_693 rfl (lv_at hl 1 rfl) ?_
  refine lv_iload hx hb dL_law_694 (lv_at hl 0 rfl) ?_
  refine lv_iconst (v := 1) hx hb dL_law_696 (by decide) ?_
  refine lv_iadd hx hb dL_law_697 ?_
  refine zrd (x := 1) (by decide) ?_
  refine zsld (v := xs 1) C hw hXs hbl hbs (zin_of (N := 9) (by decide) (by decide) (by decide)) rfl dL_law_698 ?_
  have jn_1 : ∀ (H : Heap) (locs : List Loc) (ls : Array Slot), zW D y base S s H locs → lv_has ls 9 [(5, .int 0), (0, .ref bs), (1, .ref (a 0)), (2, .ref (b 0)), (3, .ref o), (4, .ref od)] → W p l e room_1 s m #[Value.ref bs] below meth c H locs 1000 60000 (lw_Z below #[Value.ref bs] s) (F0 m 707 ls [.int (zbo (xs 1)), .ref (a 0)]) := by
    intro H locs ls hw hl
    refine lv_aload_n hx hb dL_law_707 rfl (lv_at hl 1 rfl) ?_
    refine lv_iload hx hb dL_law_708 (lv_at hl 0 rfl) ?_
    refine lv_iconst (v := 2) hx hb dL_law_710 (by decide) ?_
    refine lv_iadd hx hb dL_law_711 ?_
    refine zrd (x := 2) (by decide) ?_
    refine zsld (v := xs 2) C hw hXs hbl hbs (zin_of (N := 9) (by decide) (by decide) (by decide)) rfl dL_law_712 ?_
    have jn_2 : ∀ (H : Heap) (locs : List Loc) (ls : Array Slot), zW D y base S s H locs → lv_has ls 9 [(5, .int 0), (0, .ref bs), (1, .ref (a 0)), (2, .ref (b 0)), (3, .ref o), (4, .ref od)] → W p l e room_1 s m #[Value.ref bs] below meth c H locs 1000 60000 (lw_Z below #[Value.ref bs] s) (F0 m 721 ls [.int (zbo (xs 2)), .int (zbo (xs 1)), .ref (a 0)]) := by
      intro H locs ls hw hl
      refine zcV_i (As := [.int (zbo (xs 1)), .int (zbo (xs 2))]) (rest := []) (n9 := 2) (b := (a 0)) C hw (c_X7_answers l D y base S a (zbo (xs 1)) (zbo (xs 2)) hX (by first | assumption | exact zbo_01 _) (by first | assumption | exact zbo_01 _) (by first | assumption | exact zbo_01 _)) gL_law_X7_answers rfl (by decide +kernel) ⟨⟨rfl, rfl⟩, Nat.le_of_ble_eq_true rfl, Nat.le_of_ble_eq_true rfl⟩ hX.1 ⟨by decide, by decide⟩ rfl rfl hl.1 rfl (Nat.le_of_ble_eq_true rfl) ⟨Nat.le_of_ble_eq_true rfl, Nat.le_of_ble_eq_true rfl⟩ dL_law_721 (fun r721 S721 H locs hp721 hw => ?_)
      obtain ⟨rfl, hcl9⟩ := hp721
      obtain ⟨hM9, hM09, hF9, hF95⟩ := hcl9.ref hM hM0 hF
      have hEd : zMdE S721 b := ⟨⟨_, hF9⟩, _, hF95⟩
      refine lv_aload_n hx hb dL_law_724 rfl (lv_at hl 3 rfl) ?_
      refine lv_aload_n hx hb dL_law_725 rfl (lv_at hl 1 rfl) ?_
      refine lv_iload hx hb dL_law_726 (lv_at hl 0 rfl) ?_
      refine lv_iconst (v := 1) hx hb dL_law_728 (by decide) ?_
      refine lv_iadd hx hb dL_law_729 ?_
      refine zrd (x := 1) (by decide) ?_
      refine zsld (v := xs 1) C hw hXs hbl hbs (zin_of (N := 9) (by decide) (by decide) (by decide)) rfl dL_law_730 ?_
      have jn_3 : ∀ (H : Heap) (locs : List Loc) (ls : Array Slot), zW D y base S721 s H locs → lv_has ls 9 [(5, .int 0), (0, .ref bs), (1, .ref (a 0)), (2, .ref (b 0)), (3, .ref o), (4, .ref od)] → W p l e room_1 s m #[Value.ref bs] below meth c H locs 1000 60000 (lw_Z below #[Value.ref bs] s) (F0 m 739 ls [.int (zbo (xs 1)), .ref (b 0), .int 1]) := by
        intro H locs ls hw hl
        refine lv_aload_n hx hb dL_law_739 rfl (lv_at hl 1 rfl) ?_
        refine lv_iload hx hb dL_law_740 (lv_at hl 0 rfl) ?_
        refine lv_iconst (v := 2) hx hb dL_law_742 (by decide) ?_
        refine lv_iadd hx hb dL_law_743 ?_
        refine zrd (x := 2) (by decide) ?_
        refine zsld (v := xs 2) C hw hXs hbl hbs (zin_of (N := 9) (by decide) (by decide) (by decide)) rfl dL_law_744 ?_
        have jn_4 : ∀ (H : Heap) (locs : List Loc) (ls : Array Slot), zW D y base S721 s H locs → lv_has ls 9 [(5, .int 0), (0, .ref bs), (1, .ref (a 0)), (2, .ref (b 0)), (3, .ref o), (4, .ref od)] → W p l e room_1 s m #[Value.ref bs] below meth c H locs 1000 60000 (lw_Z below #[Value.ref bs] s) (F0 m 753 ls [.int (zbo (xs 2)), .int (zbo (xs 1)), .ref (b 0), .int 1]) := by
          intro H locs ls hw hl
          refine zcV_i (As := [.int (zbo (xs 1)), .int (zbo (xs 2))]) (rest := [.int 1]) (n9 := 2) (b := (b 0)) C hw (c_X11_answers l D y base S721 b (zbo (xs 1)) (zbo (xs 2)) hM9 (by first | assumption | exact zbo_01 _) (by first | assumption | exact zbo_01 _) (by first | assumption | exact zbo_01 _)) gL_law_X11_answers rfl (by decide +kernel) ⟨⟨rfl, rfl⟩, Nat.le_of_ble_eq_true rfl, Nat.le_of_ble_eq_true rfl⟩ hM9.1 ⟨by decide, by decide⟩ rfl rfl hl.1 rfl (Nat.le_of_ble_eq_true rfl) ⟨Nat.le_of_ble_eq_true rfl, Nat.le_of_ble_eq_true rfl⟩ dL_law_753 (fun r753 S753 H locs hp753 hw => ?_)
          obtain ⟨r1, rfl⟩ := hp753
          refine lv_icmp_eq (tgt := 2892) hx hb dL_law_756 (by decide) (fun _ => ?_) (fun c756 => absurd c756 (by decide))
          exact hend _ _ _ _ _ (Nat.le_of_ble_eq_true rfl) (Nat.le_of_ble_eq_true rfl) hw.2.2.1 (lv_sub hl [0, 1] rfl)
        refine lv_if_eq (tgt := 752) hx hb dL_law_745 (by decide) (fun c745 => ?_) (fun c745 => ?_)
        · refine lv_iconst (v := 0) hx hb dL_law_752 (by decide) ?_
          refine zrd (x := (zbo (xs 2))) (zbo_0 c745) ?_
          exact jn_4 _ _ _ hw (lv_sub hl [0, 1, 2, 3, 4, 5] rfl)
        · refine lv_iconst (v := 1) hx hb dL_law_748 (by decide) ?_
          refine zrd (x := (zbo (xs 2))) (zbo_1 c745) ?_
          refine lv_goto (tgt := 753) hx hb dL_law_749 (by decide) ?_
          exact jn_4 _ _ _ hw (lv_sub hl [0, 1, 2, 3, 4, 5] rfl)
      refine lv_if_eq (tgt := 738) hx hb dL_law_731 (by decide) (fun c731 => ?_) (fun c731 => ?_)
      · refine lv_iconst (v := 0) hx hb dL_law_738 (by decide) ?_
        refine zrd (x := (zbo (xs 1))) (zbo_0 c731) ?_
        exact jn_3 _ _ _ hw (lv_sub hl [0, 1, 2, 3, 4, 5] rfl)
      · refine lv_iconst (v := 1) hx hb dL_law_734 (by decide) ?_
        refine zrd (x := (zbo (xs 1))) (zbo_1 c731) ?_
        refine lv_goto (tgt := 739) hx hb dL_law_735 (by decide) ?_
        exact jn_3 _ _ _ hw (lv_sub hl [0, 1, 2, 3, 4, 5] rfl)
    refine lv_if_eq (tgt := 720) hx hb dL_law_713 (by decide) (fun c713 => ?_) (fun c713 => ?_)
    · refine lv_iconst (v := 0) hx hb dL_law_720 (by decide) ?_
      refine zrd (x := (zbo (xs 2))) (zbo_0 c713) ?_
      exact jn_2 _ _ _ hw (lv_sub hl [0, 1, 2, 3, 4, 5] rfl)
    · refine lv_iconst (v := 1) hx hb dL_law_716 (by decide) ?_
      refine zrd (x := (zbo (xs 2))) (zbo_1 c713) ?_
      refine lv_goto (tgt := 721) hx hb dL_law_717 (by decide) ?_
      exact jn_2 _ _ _ hw (lv_sub hl [0, 1, 2, 3, 4, 5] rfl)
  refine lv_if_eq (tgt := 706) hx hb dL_law_699 (by decide) (fun c699 => ?_) (fun c699 => ?_)
  · refine lv_iconst (v := 0) hx hb dL_law_706 (by decide) ?_
    refine zrd (x := (zbo (xs 1))) (zbo_0 c699) ?_
    exact jn_1 _ _ _ hw (lv_sub hl [0, 1, 2, 3, 4, 5] rfl)
  · refine lv_iconst (v := 1) hx hb dL_law_702 (by decide) ?_
    refine zrd (x := (zbo (xs 1))) (zbo_1 c699) ?_
    refine lv_goto (tgt := 707) hx hb dL_law_703 (by decide) ?_
    exact jn_1 _ _ _ hw (lv_sub hl [0, 1, 2, 3, 4, 5] rfl)

set_option maxHeartbeats 4000000 in
set_option maxRecDepth 100000 in
theorem law_case_7 {p : Program} {l : Launch} {e : Env} {s : State} {m : MethodId} {below : List Frame} {meth : Method} {c : Code} {H : Heap} {locs : List Loc} {ls : Array Slot} {D : va_G} {y : Nat → ClassId} {base : Nat} {S : zS} {a b : Nat → Nat} {o od bs : Nat} {xs : Nat → Int32} (hst : l.stackTraces = false) (C : CallFix p m c code 9 s #[Value.ref bs] wsL_law RL) (hend : zEnd p l e s m bs below meth c base)
    (hXs : va_X bs 9 xs s s.heap) (hbl : bs < s.heap.size) (hbs : base = s.heap.size) (hy : y 94 = 0) (hX : zX S a) (h0 : zX0 S a) (hM : zMd S b) (hM0 : zMd0 S b) (hF : zQ S 49 (b 4) = some (y 92) ∧ zQ S 49 (b 5) = some (y 92)) (hreg : ∀ i j, i < 128 → zR S 22 (b (100 + i)) j = 0) (hko : zK S o = 24) (hno : zN S o = 1)
    (hw : zW D y base S s H locs) (hl : lv_has ls 9 [(5, .int 0), (0, .ref bs), (1, .ref (a 0)), (2, .ref (b 0)), (3, .ref o), (4, .ref od)]) : W p l e room_1 s m #[Value.ref bs] below meth c H locs 1000 60000 (lw_Z below #[Value.ref bs] s) (F0 m 761 ls []) := by
  have hx := C.1
  have hb := C.2.1
  have hown := C.2.2.2.1
  have hts := C.2.2.2.2
  refine lv_aload_n hx hb dL_law_761 rfl (lv_at hl 2 rfl) ?_
  refine lv_aload_n hx hb dL_law_762 rfl (lv_at hl 1 rfl) ?_
  refine lv_iload hx hb dL_law_763 (lv_at hl 0 rfl) ?_
  refine lv_iconst (v := 1) hx hb dL_law_765 (by decide) ?_
  refine lv_iadd hx hb dL_law_766 ?_
  refine zrd (x := 1) (by decide) ?_
  refine zsld (v := xs 1) C hw hXs hbl hbs (zin_of (N := 9) (by decide) (by decide) (by decide)) rfl dL_law_767 ?_
  refine lv_aload_n hx hb dL_law_768 rfl (lv_at hl 1 rfl) ?_
  refine lv_iload hx hb dL_law_769 (lv_at hl 0 rfl) ?_
  refine lv_iconst (v := 2) hx hb dL_law_771 (by decide) ?_
  refine lv_iadd hx hb dL_law_772 ?_
  refine zrd (x := 2) (by decide) ?_
  refine zsld (v := xs 2) C hw hXs hbl hbs (zin_of (N := 9) (by decide) (by decide) (by decide)) rfl dL_law_773 ?_
  refine lv_aload_n hx hb dL_law_774 rfl (lv_at hl 1 rfl) ?_
  refine lv_iload hx hb dL_law_775 (lv_at hl 0 rfl) ?_
  refine lv_iconst (v := 3) hx hb dL_law_777 (by decide) ?_
  refine lv_iadd hx hb dL_law_778 ?_
  refine zrd (x := 3) (by decide) ?_
  refine zsld (v := xs 3) C hw hXs hbl hbs (zin_of (N := 9) (by decide) (by decide) (by decide)) rfl dL_law_779 ?_
  refine lv_aload_n hx hb dL_law_780 rfl (lv_at hl 1 rfl) ?_
  refine lv_iload hx hb dL_law_781 (lv_at hl 0 rfl) ?_
  refine lv_iconst (v := 4) hx hb dL_law_783 (by decide) ?_
  refine lv_iadd hx hb dL_law_784 ?_
  refine zrd (x := 4) (by decide) ?_
  refine zsld (v := xs 4) C hw hXs hbl hbs (zin_of (N := 9) (by decide) (by decide) (by decide)) rfl dL_law_785 ?_
  have jn_1 : ∀ (H : Heap) (locs : List Loc) (ls : Array Slot), zW D y base S s H locs → lv_has ls 9 [(5, .int 0), (0, .ref bs), (1, .ref (a 0)), (2, .ref (b 0)), (3, .ref o), (4, .ref od)] → W p l e room_1 s m #[Value.ref bs] below meth c H locs 1000 60000 (lw_Z below #[Value.ref bs] s) (F0 m 794 ls [.int (zbo (xs 4)), .int (xs 3), .int (xs 2), .int (xs 1), .ref (a 0)]) := by
    intro H locs ls hw hl
    refine lv_aload_n hx hb dL_law_794 rfl (lv_at hl 1 rfl) ?_
    refine lv_iload hx hb dL_law_795 (lv_at hl 0 rfl) ?_
    refine lv_iconst (v := 5) hx hb dL_law_797 (by decide) ?_
    refine lv_iadd hx hb dL_law_798 ?_
    refine zrd (x := 5) (by decide) ?_
    refine zsld (v := xs 5) C hw hXs hbl hbs (zin_of (N := 9) (by decide) (by decide) (by decide)) rfl dL_law_799 ?_
    refine lv_aload_n hx hb dL_law_800 rfl (lv_at hl 1 rfl) ?_
    refine lv_iload hx hb dL_law_801 (lv_at hl 0 rfl) ?_
    refine lv_bipush (v := 6) hx hb dL_law_803 (by decide) ?_
    refine lv_iadd hx hb dL_law_805 ?_
    refine zrd (x := 6) (by decide) ?_
    refine zsld (v := xs 6) C hw hXs hbl hbs (zin_of (N := 9) (by decide) (by decide) (by decide)) rfl dL_law_806 ?_
    refine lv_aload_n hx hb dL_law_807 rfl (lv_at hl 1 rfl) ?_
    refine lv_iload hx hb dL_law_808 (lv_at hl 0 rfl) ?_
    refine lv_bipush (v := 7) hx hb dL_law_810 (by decide) ?_
    refine lv_iadd hx hb dL_law_812 ?_
    refine zrd (x := 7) (by decide) ?_
    refine zsld (v := xs 7) C hw hXs hbl hbs (zin_of (N := 9) (by decide) (by decide) (by decide)) rfl dL_law_813 ?_
    refine lv_aload_n hx hb dL_law_814 rfl (lv_at hl 1 rfl) ?_
    refine lv_iload hx hb dL_law_815 (lv_at hl 0 rfl) ?_
    refine lv_bipush (v := 8) hx hb dL_law_817 (by decide) ?_
    refine lv_iadd hx hb dL_law_819 ?_
    refine zrd (x := 8) (by decide) ?_
    refine zsld (v := xs 8) C hw hXs hbl hbs (zin_of (N := 9) (by decide) (by decide) (by decide)) rfl dL_law_820 ?_
    refine lv_aload_n hx hb dL_law_821 rfl (lv_at hl 4 rfl) ?_
    refine zcSW_i (As := [.ref (a 0), .int (xs 1), .int (xs 2), .int (xs 3), .int (zbo (xs 4)), .int (xs 5), .int (xs 6), .int (xs 7), .int (xs 8), .ref o]) (rest := []) (n9 := 10) C hw (c_L_twoWires l hst D y base S a (xs 1) (xs 2) (xs 3) (zbo (xs 4)) (xs 5) (xs 6) (xs 7) (xs 8) o hX (by first | assumption | exact zbo_01 _) (by first | assumption | exact zbo_01 _) hko (by first | assumption | exact zbo_01 _)) gL_law_L_twoWires rfl (by decide +kernel) ⟨⟨rfl, rfl⟩, Nat.le_of_ble_eq_true rfl, Nat.le_of_ble_eq_true rfl⟩ rfl hl.1 rfl (Nat.le_of_ble_eq_true rfl) ⟨Nat.le_of_ble_eq_true rfl, Nat.le_of_ble_eq_true rfl⟩ dL_law_822 (fun r822 S822 H locs hp822 hw => ?_)
    obtain ⟨hk9, hv9, hco⟩ := hp822
    obtain ⟨hM9, hM09, hF9, hF95⟩ := hco.ref hM hM0 hF
    obtain ⟨hko9, hno9⟩ := hco.o hko hno
    obtain ⟨y, y92, y94, y95, y96, hw⟩ := zW_out hw hy hko9 hno9
    have hMd : zMd (zdl S822 o) b := hM9.dl hko9
    have hM0d : zMd0 (zdl S822 o) b := hM09
    have hFd : zQ (zdl S822 o) 49 (b 4) = some (y 92) := by rw [y92]; exact hF9
    have hEd : zMdE (zdl S822 o) b := ⟨⟨_, hF9⟩, _, hF95⟩
    refine lv_istore (lv' := [(6, .int r822), (5, .int 0), (0, .ref bs), (1, .ref (a 0)), (2, .ref (b 0)), (3, .ref o), (4, .ref od)]) hx hb dL_law_825 hl (by decide) rfl (fun ls hl => ?_)
    refine lv_aload_n hx hb dL_law_827 rfl (lv_at hl 4 rfl) ?_
    refine lv_aload_n hx hb dL_law_828 rfl (lv_at hl 2 rfl) ?_
    refine lv_iload hx hb dL_law_829 (lv_at hl 1 rfl) ?_
    refine lv_iconst (v := 1) hx hb dL_law_831 (by decide) ?_
    refine lv_iadd hx hb dL_law_832 ?_
    refine zrd (x := 1) (by decide) ?_
    refine zsld (v := xs 1) C hw hXs hbl hbs (zin_of (N := 9) (by decide) (by decide) (by decide)) rfl dL_law_833 ?_
    refine lv_aload_n hx hb dL_law_834 rfl (lv_at hl 2 rfl) ?_
    refine lv_iload hx hb dL_law_835 (lv_at hl 1 rfl) ?_
    refine lv_iconst (v := 2) hx hb dL_law_837 (by decide) ?_
    refine lv_iadd hx hb dL_law_838 ?_
    refine zrd (x := 2) (by decide) ?_
    refine zsld (v := xs 2) C hw hXs hbl hbs (zin_of (N := 9) (by decide) (by decide) (by decide)) rfl dL_law_839 ?_
    refine lv_aload_n hx hb dL_law_840 rfl (lv_at hl 2 rfl) ?_
    refine lv_iload hx hb dL_law_841 (lv_at hl 1 rfl) ?_
    refine lv_iconst (v := 3) hx hb dL_law_843 (by decide) ?_
    refine lv_iadd hx hb dL_law_844 ?_
    refine zrd (x := 3) (by decide) ?_
    refine zsld (v := xs 3) C hw hXs hbl hbs (zin_of (N := 9) (by decide) (by decide) (by decide)) rfl dL_law_845 ?_
    refine lv_aload_n hx hb dL_law_846 rfl (lv_at hl 2 rfl) ?_
    refine lv_iload hx hb dL_law_847 (lv_at hl 1 rfl) ?_
    refine lv_iconst (v := 4) hx hb dL_law_849 (by decide) ?_
    refine lv_iadd hx hb dL_law_850 ?_
    refine zrd (x := 4) (by decide) ?_
    refine zsld (v := xs 4) C hw hXs hbl hbs (zin_of (N := 9) (by decide) (by decide) (by decide)) rfl dL_law_851 ?_
    have jn_2 : ∀ (H : Heap) (locs : List Loc) (ls : Array Slot), zW D y base (zdl S822 o) s H locs → lv_has ls 9 [(6, .int r822), (5, .int 0), (0, .ref bs), (1, .ref (a 0)), (2, .ref (b 0)), (3, .ref o), (4, .ref od)] → W p l e room_1 s m #[Value.ref bs] below meth c H locs 1009 60054 (lw_Z below #[Value.ref bs] s) (F0 m 860 ls [.int (zbo (xs 4)), .int (xs 3), .int (xs 2), .int (xs 1), .ref (b 0)]) := by
      intro H locs ls hw hl
      refine lv_aload_n hx hb dL_law_860 rfl (lv_at hl 2 rfl) ?_
      refine lv_iload hx hb dL_law_861 (lv_at hl 1 rfl) ?_
      refine lv_iconst (v := 5) hx hb dL_law_863 (by decide) ?_
      refine lv_iadd hx hb dL_law_864 ?_
      refine zrd (x := 5) (by decide) ?_
      refine zsld (v := xs 5) C hw hXs hbl hbs (zin_of (N := 9) (by decide) (by decide) (by decide)) rfl dL_law_865 ?_
      refine lv_aload_n hx hb dL_law_866 rfl (lv_at hl 2 rfl) ?_
      refine lv_iload hx hb dL_law_867 (lv_at hl 1 rfl) ?_
      refine lv_bipush (v := 6) hx hb dL_law_869 (by decide) ?_
      refine lv_iadd hx hb dL_law_871 ?_
      refine zrd (x := 6) (by decide) ?_
      refine zsld (v := xs 6) C hw hXs hbl hbs (zin_of (N := 9) (by decide) (by decide) (by decide)) rfl dL_law_872 ?_
      refine lv_aload_n hx hb dL_law_873 rfl (lv_at hl 2 rfl) ?_
      refine lv_iload hx hb dL_law_874 (lv_at hl 1 rfl) ?_
      refine lv_bipush (v := 7) hx hb dL_law_876 (by decide) ?_
      refine lv_iadd hx hb dL_law_878 ?_
      refine zrd (x := 7) (by decide) ?_
      refine zsld (v := xs 7) C hw hXs hbl hbs (zin_of (N := 9) (by decide) (by decide) (by decide)) rfl dL_law_879 ?_
      refine lv_aload_n hx hb dL_law_880 rfl (lv_at hl 2 rfl) ?_
      refine lv_iload hx hb dL_law_881 (lv_at hl 1 rfl) ?_
      refine lv_bipush (v := 8) hx hb dL_law_883 (by decide) ?_
      refine lv_iadd hx hb dL_law_885 ?_
      refine zrd (x := 8) (by decide) ?_
      refine zsld (v := xs 8) C hw hXs hbl hbs (zin_of (N := 9) (by decide) (by decide) (by decide)) rfl dL_law_886 ?_
      refine zcV_i (As := [.int (xs 1), .int (xs 2), .int (xs 3), .int (zbo (xs 4)), .int (xs 5), .int (xs 6), .int (xs 7), .int (xs 8)]) (rest := []) (n9 := 8) (b := (b 0)) C hw (c_X11_twoWires l D y base (zdl S822 o) b (xs 1) (xs 2) (xs 3) (zbo (xs 4)) (xs 5) (xs 6) (xs 7) (xs 8) hMd (by first | assumption | exact zbo_01 _) (by first | assumption | exact zbo_01 _)) gL_law_X11_twoWires rfl (by decide +kernel) ⟨⟨rfl, rfl⟩, Nat.le_of_ble_eq_true rfl, Nat.le_of_ble_eq_true rfl⟩ hMd.1 ⟨by decide, by decide⟩ rfl rfl hl.1 rfl (Nat.le_of_ble_eq_true rfl) ⟨Nat.le_of_ble_eq_true rfl, Nat.le_of_ble_eq_true rfl⟩ dL_law_887 (fun r887 S887 H locs hp887 hw => ?_)
      obtain ⟨r1, r2, r3⟩ := hp887
      refine lv_istore (lv' := [(7, .int r887), (6, .int r822), (5, .int 0), (0, .ref bs), (1, .ref (a 0)), (2, .ref (b 0)), (3, .ref o), (4, .ref od)]) hx hb dL_law_890 hl (by decide) rfl (fun ls hl => ?_)
      refine lv_aload_n hx hb dL_law_892 rfl (lv_at hl 5 rfl) ?_
      refine zcV_i (As := []) (rest := []) (n9 := 0) (b := (b 0)) C hw (c_X11_thrown l D y base S887 (b 0) (kd_two (xs 1) (xs 2) (xs 3) (zbo (xs 4)) (xs 5) (xs 6) (xs 7) (xs 8)) r1 r2) gL_law_X11_thrown rfl (by decide +kernel) ⟨⟨rfl, rfl⟩, Nat.le_of_ble_eq_true rfl, Nat.le_of_ble_eq_true rfl⟩ r1 ⟨by decide, by decide⟩ rfl rfl hl.1 rfl (Nat.le_of_ble_eq_true rfl) ⟨Nat.le_of_ble_eq_true rfl, Nat.le_of_ble_eq_true rfl⟩ dL_law_893 (fun r893 S893 H locs hp893 hw => ?_)
      obtain ⟨rfl, hS9⟩ := hp893
      have hS9 := hS9.symm
      subst hS9
      refine lv_iload hx hb dL_law_896 (lv_at hl 1 rfl) ?_
      refine lv_icmp_eq (tgt := 903) hx hb dL_law_898 (by decide) (fun c898 => ?_) (fun c898 => (show False from (c898 hk9.symm)).elim)
      refine lv_iload hx hb dL_law_903 (lv_at hl 1 rfl) ?_
      refine lv_if_ne (tgt := 920) hx hb dL_law_905 (by decide) (fun c905 => ?_) (fun c905 => ?_)
      · refine lv_goto (tgt := 2892) hx hb dL_law_920 (by decide) ?_
        exact hend _ _ _ _ _ (Nat.le_of_ble_eq_true rfl) (Nat.le_of_ble_eq_true rfl) hw.2.2.1 (lv_sub hl [2, 3] rfl)
      · have hz9 : kd_two (xs 1) (xs 2) (xs 3) (zbo (xs 4)) (xs 5) (xs 6) (xs 7) (xs 8) = 0 := hk9.symm.trans c905
        have hb9 := r3 hz9
        subst hb9
        refine lv_aload_n hx hb dL_law_908 rfl (lv_at hl 6 rfl) ?_
        refine lv_iconst (v := 0) hx hb dL_law_909 (by decide) ?_
        refine zaldX C hw y94 y95 dL_law_910 ?_
        refine zrdl (x := (((xs 7) + 57 * (xs 8)).toInt64)) (y96.trans (hv9 hz9)) ?_
        refine lv_iload hx hb dL_law_911 (lv_at hl 0 rfl) ?_
        refine lv_i2l (v := ((xs 7) + 57 * (xs 8)).toInt64) hx hb dL_law_913 rfl ?_
        refine W.lcmp hx hb dL_law_914 ?_
        refine zrd (x := 0) ((lg_cmp_eq _ _).mpr rfl) ?_
        refine lv_if_eq (tgt := 920) hx hb dL_law_915 (by decide) (fun _ => ?_) (fun c915 => absurd c915 (by decide))
        refine lv_goto (tgt := 2892) hx hb dL_law_920 (by decide) ?_
        exact hend _ _ _ _ _ (Nat.le_of_ble_eq_true rfl) (Nat.le_of_ble_eq_true rfl) hw.2.2.1 (lv_sub hl [2, 3] rfl)
    refine lv_if_eq (tgt := 859) hx hb dL_law_852 (by decide) (fun c852 => ?_) (fun c852 => ?_)
    · refine lv_iconst (v := 0) hx hb dL_law_859 (by decide) ?_
      refine zrd (x := (zbo (xs 4))) (zbo_0 c852) ?_
      exact jn_2 _ _ _ hw (lv_sub hl [0, 1, 2, 3, 4, 5, 6] rfl)
    · refine lv_iconst (v := 1) hx hb dL_law_855 (by decide) ?_
      refine zrd (x := (zbo (xs 4))) (zbo_1 c852) ?_
      refine lv_goto (tgt := 860) hx hb dL_law_856 (by decide) ?_
      exact jn_2 _ _ _ hw (lv_sub hl [0, 1, 2, 3, 4, 5, 6] rfl)
  refine lv_if_eq (tgt := 793) hx hb dL_law_786 (by decide) (fun c786 => ?_) (fun c786 => ?_)
  · refine lv_iconst (v := 0) hx hb dL_law_793 (by decide) ?_
    refine zrd (x := (zbo (xs 4))) (zbo_0 c786) ?_
    exact jn_1 _ _ _ hw (lv_sub hl [0, 1, 2, 3, 4, 5] rfl)
  · refine lv_iconst (v := 1) hx hb dL_law_789 (by decide) ?_
    refine zrd (x := (zbo (xs 4))) (zbo_1 c786) ?_
    refine lv_goto (tgt := 794) hx hb dL_law_790 (by decide) ?_
    exact jn_1 _ _ _ hw (lv_sub hl [0, 1, 2, 3, 4, 5] rfl)

