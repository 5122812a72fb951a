set_option maxHeartbeats 4000000 in
set_option maxRecDepth 100000 in
/-- X11_drifted -/
theorem c_X11_drifted (l : Launch) (D : va_G) (y : Nat → ClassId) (base : Nat) (S : zS) (x0 : Nat) (p0 : Int32) (p1 : Int32) (hk : zK S x0 = 15) (h243 : zI S 243 x0 = 0) : zMi l yX11_drifted wsX11_drifted ({ frames := 0, cells := 0, slots := 0, locals := 0 }) [.ref x0, .int p0, .int p1] D y base S (fun (r : Int32) (S1 : zS) => r = p0 + p1 ∧ S1 = S) 0 0 := by
  refine zMet_of (cc := cX11_drifted) (maxL := 3) (ret := (some .int)) (own := RX11) (by decide +kernel) rfl rfl (Nat.le_of_ble_eq_true rfl) ?_
  intro p e s m args below meth c ls C hr hlocks hnm hw hl
  have hx := C.1
  have hb := C.2.1
  have hown := C.2.2.2.1
  have hts := C.2.2.2.2
  have hl : lv_has ls 3 [(0, .ref x0), (1, .int p0), (2, .int p1)] := hl
  have in_X11 : ∀ w ∈ wsX110, w ∈ wsX11_drifted := by decide +kernel
  refine lv_iload_n hx hb dX11_drifted_0 rfl (lv_at hl 1 rfl) ?_
  refine lv_iload_n hx hb dX11_drifted_1 rfl (lv_at hl 2 rfl) ?_
  refine lv_iadd hx hb dX11_drifted_2 ?_
  refine lv_iload_n hx hb dX11_drifted_3 rfl (lv_at hl 2 rfl) ?_
  refine lv_aload_n hx hb dX11_drifted_4 rfl (lv_at hl 0 rfl) ?_
  refine g_Mod_drift (a := x0) (v := 0) C hw hk in_X11 (by decide +kernel) h243 dX11_drifted_5 ?_
  refine lv_imul hx hb dX11_drifted_8 ?_
  refine lv_sipush (v := 1000) hx hb dX11_drifted_9 (by decide) ?_
  refine lv_idiv hx hb dX11_drifted_12 (by decide) ?_
  refine lv_iadd hx hb dX11_drifted_13 ?_
  exact zri C hw hr hlocks rfl ⟨by rw [Int32.mul_zero, Int32.zero_div, Int32.add_zero], rfl⟩ ⟨Nat.le_of_ble_eq_true rfl, Nat.le_of_ble_eq_true rfl⟩ dX11_drifted_14

set_option maxHeartbeats 4000000 in
set_option maxRecDepth 100000 in
/-- X9_init -/
theorem c_X9_init (l : Launch) (D : va_G) (y : Nat → ClassId) (base : Nat) (S : zS) (b : Nat → Nat) (q : Nat) (p0 : Int32) (hM : zMd S b) (hM0 : zMd0 S b) (hq : zK S q = 13) : zMv l yX9_init wsX9_init ({ frames := 2, cells := 6, slots := 40008, locals := 46 }) [.ref q, .ref (b 0), .int p0] D y base S (fun (S1 : zS) => ∃ (rw sn : Nat) (f : Nat → Nat), zK S1 q = 13 ∧ zQ S1 208 q = some rw ∧ zQ S1 209 q = some sn ∧ zQ S1 212 q = some (b 0) ∧ zI S1 210 q = p0 ∧ zI S1 211 q = 1 ∧ zK S1 rw = 35 ∧ zN S1 rw = 4 ∧ zK S1 sn = 23 ∧ zN S1 sn = 4 ∧ (∀ j, zR S1 23 sn j = 0) ∧ (∀ j, j < 4 → zP S1 rw j = some (f j) ∧ zK S1 (f j) = 23 ∧ zN S1 (f j) = 10000 ∧ (∀ t, zR S1 23 (f j) t = 0) ∧ f j ≠ sn) ∧ zGv S S1 q) 6 40008 := by
  refine zMet_of (cc := cX9_init) (maxL := 3) (ret := none) (own := RX9) (by decide +kernel) rfl rfl (Nat.le_of_ble_eq_true rfl) ?_
  intro p e s m args below meth c ls C hr hlocks hnm hw hl
  have hx := C.1
  have hb := C.2.1
  have hown := C.2.2.2.1
  have hts := C.2.2.2.2
  have hl : lv_has ls 3 [(0, .ref q), (1, .ref (b 0)), (2, .int p0)] := hl
  have in_X9 : ∀ w ∈ wsX90, w ∈ wsX9_init := by decide +kernel
  refine lv_aload_n hx hb dX9_init_0 rfl (lv_at hl 0 rfl) ?_
  refine lv_aload_n hx hb dX9_init_1 rfl (lv_at hl 1 rfl) ?_
  refine p_Send_this_0 (a := q) (v := (b 0)) C hw hq in_X9 (by decide +kernel) hnm rfl dX9_init_2 (fun H locs hw => ?_)
  refine lv_aload_n hx hb dX9_init_5 rfl (lv_at hl 0 rfl) ?_
  refine W.objInit hx hb hown (hts (.methodLink RX9 9 objectInit) (by decide +kernel)) (hts (.instanceMethod objectInit) (by decide +kernel)) (hts (.code objectInit ⟨#[0xb1]⟩ 1 none) (by decide +kernel)) rfl (by rw [C.2.2.1]; exact hl.1) rfl dX9_init_6 (Nat.le_of_ble_eq_true rfl) (Nat.le_of_ble_eq_true rfl) ?_
  refine W.eq (g2 := F0 m 9 ls []) rfl ?_
  refine lv_aload_n hx hb dX9_init_9 rfl (lv_at hl 0 rfl) ?_
  refine lv_aload_n hx hb dX9_init_10 rfl (lv_at hl 0 rfl) ?_
  refine g_Send_this_0 (a := q) (v := (b 0)) C hw hq in_X9 (by decide +kernel) (zQ_s S 212 q (some (b 0))) dX9_init_11 ?_
  refine zcVN_r (As := []) (rest := [.ref q]) (n9 := 0) (host := "ProbehallModel") (b := (b 0)) C hw (c_X11_copies l D y base (zsQ S 212 q (some (b 0))) b hM hM0) gX9_init_X11_copies_n15 (by decide +kernel) (by decide +kernel) (by decide +kernel) (by decide +kernel) rfl (by decide +kernel) ⟨⟨rfl, rfl⟩, Nat.le_of_ble_eq_true rfl, Nat.le_of_ble_eq_true rfl⟩ hM.1 ⟨by decide, by decide⟩ rfl rfl hl.1 rfl (Nat.le_of_ble_eq_true rfl) ⟨Nat.le_of_ble_eq_true rfl, Nat.le_of_ble_eq_true rfl⟩ dX9_init_14 (fun r14 S14 H locs hp14 hw => ?_)
  obtain ⟨f, hf⟩ := hp14.2.2.2.2
  have g9 := hp14.2.1 q (fun e9 => absurd (Eq.trans (Eq.symm hq) e9) (by decide)) (zne hp14.1 (fun e9 => absurd (Eq.trans (Eq.symm hq) e9) (by decide)))
  refine p_Send_rows (a := q) (v := r14) C hw (g9.1.trans hq) in_X9 (by decide +kernel) hnm rfl dX9_init_17 (fun H locs hw => ?_)
  refine lv_aload_n hx hb dX9_init_20 rfl (lv_at hl 0 rfl) ?_
  refine lv_iconst (v := 4) hx hb dX9_init_21 (by decide) ?_
  refine znewZ (N := 4) C hw (by decide +kernel) (by decide) (by decide) (Nat.le_of_ble_eq_true rfl) (Nat.le_of_ble_eq_true rfl) (Nat.le_of_ble_eq_true rfl) dX9_init_22 (fun q22 H kq22 hw => ?_)
  refine p_Send_sent (a := q) (v := q22) C hw (zK_nR (k := 23) (n := 4) (f := (fun _ => 0)) (zne kq22 (fun e9 => absurd (Eq.trans (Eq.symm (g9.1.trans hq)) e9) (by decide))) (g9.1.trans hq)) in_X9 (by decide +kernel) hnm rfl dX9_init_24 (fun H locs hw => ?_)
  refine lv_aload_n hx hb dX9_init_27 rfl (lv_at hl 0 rfl) ?_
  refine lv_iconst (v := 1) hx hb dX9_init_28 (by decide) ?_
  refine p_Send_isGood (a := q) (v := 1) C hw (zK_nR (k := 23) (n := 4) (f := (fun _ => 0)) (zne kq22 (fun e9 => absurd (Eq.trans (Eq.symm (g9.1.trans hq)) e9) (by decide))) (g9.1.trans hq)) in_X9 (by decide +kernel) (by decide) dX9_init_29 (fun H locs hw => ?_)
  refine lv_aload_n hx hb dX9_init_32 rfl (lv_at hl 0 rfl) ?_
  refine lv_iload_n hx hb dX9_init_33 rfl (lv_at hl 2 rfl) ?_
  refine p_Send_at (a := q) (v := p0) C hw (zK_nR (k := 23) (n := 4) (f := (fun _ => 0)) (zne kq22 (fun e9 => absurd (Eq.trans (Eq.symm (g9.1.trans hq)) e9) (by decide))) (g9.1.trans hq)) in_X9 (by decide +kernel) hnm rfl dX9_init_34 (fun H locs hw => ?_)
  exact zrv C hw hr hlocks ⟨r14, q22, f, (zK_nR (k := 23) (n := 4) (f := (fun _ => 0)) (zne kq22 (fun e9 => absurd (Eq.trans (Eq.symm (g9.1.trans hq)) e9) (by decide))) (g9.1.trans hq)), (zQ_t (S := (znR (zsQ S14 208 q (some r14)) q22 23 4 (fun _ => 0))) (t := 209) (a := q) (v := some q22) (t' := 208) (a' := q) (u := some r14) (by decide) (zQ_s S14 208 q (some r14))), (zQ_s (znR (zsQ S14 208 q (some r14)) q22 23 4 (fun _ => 0)) 209 q (some q22)), (zQ_t (S := (znR (zsQ S14 208 q (some r14)) q22 23 4 (fun _ => 0))) (t := 209) (a := q) (v := some q22) (t' := 212) (a' := q) (u := some (b 0)) (by decide) (zQ_t (S := S14) (t := 208) (a := q) (v := some r14) (t' := 212) (a' := q) (u := some (b 0)) (by decide) ((g9.2.1 212).2.trans (zQ_s S 212 q (some (b 0)))))), (zI_s (zsI (zsQ (znR (zsQ S14 208 q (some r14)) q22 23 4 (fun _ => 0)) 209 q (some q22)) 211 q 1) 210 q p0), (zI_t (S := (zsI (zsQ (znR (zsQ S14 208 q (some r14)) q22 23 4 (fun _ => 0)) 209 q (some q22)) 211 q 1)) (t := 210) (a := q) (v := p0) (t' := 211) (a' := q) (u := 1) (by decide) (zI_s (zsQ (znR (zsQ S14 208 q (some r14)) q22 23 4 (fun _ => 0)) 209 q (some q22)) 211 q 1)), (zK_nR (k := 23) (n := 4) (f := (fun _ => 0)) (zne kq22 (fun e9 => absurd (Eq.trans (Eq.symm hp14.2.2.1) e9) (by decide))) hp14.2.2.1), (zN_nR (k := 23) (n := 4) (f := (fun _ => 0)) (zne kq22 (fun e9 => absurd (Eq.trans (Eq.symm hp14.2.2.1) e9) (by decide))) hp14.2.2.2.1), (zK_nRs (zsQ S14 208 q (some r14)) q22 23 4 (fun _ => 0)), (zN_nRs (zsQ S14 208 q (some r14)) q22 23 4 (fun _ => 0)), (fun j => congrFun (zR_nRs (zsQ S14 208 q (some r14)) q22 23 4 (fun _ => 0)) j), (fun j hj => by obtain ⟨b1, b2, b3, b4⟩ := hf j hj; have hn : f j ≠ q22 := zne kq22 (fun e9 => absurd (Eq.trans (Eq.symm b2) e9) (by decide)); exact ⟨b1, zK_nR (k := 23) (n := 4) (f := fun _ => 0) hn b2, zN_nR (k := 23) (n := 4) (f := fun _ => 0) hn b3, fun t => (congrFun (zR_nR (S := zsQ S14 208 q (some r14)) (k := 23) (k' := 23) (n := 4) (f := fun _ => 0) hn rfl) t).trans (b4 t), hn⟩), (zGv.Q.tr ((show zGv _ _ q from fun c hc hv => hp14.2.1 c hc (zne hp14.1 hc)).tr (zGv.Q.tr ((zGv.nR kq22).tr (zGv.Q.tr (zGv.I.tr zGv.I))))))⟩ ⟨Nat.le_of_ble_eq_true rfl, Nat.le_of_ble_eq_true rfl⟩ dX9_init_37

