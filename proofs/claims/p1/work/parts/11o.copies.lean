set_option maxHeartbeats 4000000 in
set_option maxRecDepth 100000 in
/-- X11_copies -/
theorem c_X11_copies (l : Launch) (D : va_G) (y : Nat → ClassId) (base : Nat) (S : zS) (b : Nat → Nat) (hM : zMd S b) (hM0 : zMd0 S b) : zMr l yX11_copies wsX11_copies ({ frames := 1, cells := 5, slots := 40004, locals := 24 }) [.ref (b 0)] D y base S (fun (r : Nat) (S1 : zS) => zK S r = 0 ∧ zGv S S1 r ∧ zK S1 r = 35 ∧ zN S1 r = 4 ∧ ∃ f : Nat → Nat, ∀ j, j < 4 → zP S1 r j = some (f j) ∧ zK S1 (f j) = 23 ∧ zN S1 (f j) = 10000 ∧ ∀ t, zR S1 23 (f j) t = 0) 5 40004 := by
  refine zMet_of (cc := cX11_copies) (maxL := 3) (ret := (some (.array (.array .boolean)))) (own := RX11) (by decide +kernel) rfl rfl (Nat.le_of_ble_eq_true rfl) ?_
  intro p e s m args below meth c ls C hr hlocks hnm hw hl
  have hx := C.1
  have hb := C.2.1
  have hown := C.2.2.2.1
  have hts := C.2.2.2.2
  have hl : lv_has ls 3 [(0, .ref (b 0))] := hl
  have in_X11 : ∀ w ∈ wsX110, w ∈ wsX11_copies := by decide +kernel
  refine lv_iconst (v := 4) hx hb dX11_copies_0 (by decide) ?_
  refine zanewA (N := 4) C hw (by decide +kernel) (by decide) (by decide) (Nat.le_of_ble_eq_true rfl) (Nat.le_of_ble_eq_true rfl) (Nat.le_of_ble_eq_true rfl) dX11_copies_1 (fun q1 H kq1 hw => ?_)
  refine lv_astore_n (lv' := [(1, .ref q1), (0, .ref (b 0))]) hx hb dX11_copies_4 rfl hl (by decide) rfl (fun ls hl => ?_)
  refine lv_iconst (v := 0) hx hb dX11_copies_5 (by decide) ?_
  refine lv_istore_n (lv' := [(2, .int 0), (1, .ref q1), (0, .ref (b 0))]) hx hb dX11_copies_6 rfl hl (by decide) rfl (fun ls hl => ?_)
  have hC : zCp S (znP S q1 35 4 (fun _ => none)) q1 (fun _ => 0) 0 := ⟨(zK_nPs S q1 35 4 (fun _ => none)), (zN_nPs S q1 35 4 (fun _ => none)), zGv.nP kq1, kq1, (fun j h => absurd h (Nat.not_lt_zero j))⟩
  generalize hSS : (znP S q1 35 4 (fun _ => none)) = S2 at hw hC
  have hM2 := zMd.cls (zCls.gv hC.2.2.1 hC.2.2.2.1) hM
  have hM02 := zMd0.cls (zCls.gv hC.2.2.1 hC.2.2.2.1) hM hM0
  refine lv_iload_n hx hb dX11_copies_7 rfl (lv_at hl 0 rfl) ?_
  refine lv_iconst (v := 4) hx hb dX11_copies_8 (by decide) ?_
  refine lv_icmp_ge (tgt := 33) hx hb dX11_copies_9 (by decide) (fun c9 => absurd c9 (by decide)) (fun _ => ?_)
  refine lv_aload_n hx hb dX11_copies_12 rfl (lv_at hl 1 rfl) ?_
  refine lv_iload_n hx hb dX11_copies_13 rfl (lv_at hl 0 rfl) ?_
  refine lv_aload_n hx hb dX11_copies_14 rfl (lv_at hl 2 rfl) ?_
  refine g_Mod_flips (a := (b 0)) (v := (b 2)) C hw hM2.1 in_X11 (by decide +kernel) hM2.2.2.1 dX11_copies_15 ?_
  refine lv_iload_n hx hb dX11_copies_18 rfl (lv_at hl 0 rfl) ?_
  obtain ⟨w9, eP9, kW9, nW9, zW9, eW9⟩ := zMd_f hM2 hM02 (p := 0) (by decide)
  refine zald_P (a := (b 2)) (v := w9) C hw hM2.2.2.2.2.2.2.2.2.2.1 (by decide) (t0 := 8) rfl rfl hM2.2.2.2.2.2.2.2.2.2.2.1 (zin_of (N := 4) (by decide) (by grind) (by grind)) eP9 dX11_copies_19 ?_
  refine zclone (a := w9) (n := 10000) C hw kW9 nW9 zW9 hl.1 (by decide +kernel) (by decide +kernel) (by decide +kernel) (by decide +kernel) (by decide +kernel) (Nat.le_of_ble_eq_true rfl) (Nat.le_of_ble_eq_true rfl) (Nat.le_of_ble_eq_true rfl) (Nat.le_of_ble_eq_true rfl) dX11_copies_20 (fun q20 H kq20 hw => ?_)
  refine zcastA (a := q20) C hw (zK_nRs S2 q20 23 10000 (zR S2 23 w9)) (by decide +kernel) dX11_copies_23 ?_
  refine zastA (a := q1) (v := q20) (n := 4) C hw (zK_nR (k := 23) (n := 10000) (f := (zR S2 23 w9)) (zne kq20 (fun e9 => absurd (Eq.trans (Eq.symm hC.1) e9) (by decide))) hC.1) (zK_nRs S2 q20 23 10000 (zR S2 23 w9)) (zN_nR (k := 23) (n := 10000) (f := (zR S2 23 w9)) (zne kq20 (fun e9 => absurd (Eq.trans (Eq.symm hC.1) e9) (by decide))) hC.2.1) (zin_of (N := 4) (by decide) (by decide) (by decide)) dX11_copies_26 (fun H locs hw => ?_)
  refine lv_iinc (v := 1) (lv' := [(2, .int 1), (1, .ref q1), (0, .ref (b 0))]) hx hb dX11_copies_27 hl (k := 0) rfl (by decide) (by decide) rfl (fun ls hl => ?_)
  refine lv_goto (tgt := 7) hx hb dX11_copies_30 (by decide) ?_
  have hC := hC.step (w := w9) zW9 kq20
  have hw : zW D y base (zsP (znR S2 q20 23 10000 (zR S2 23 w9)) q1 (va_up (zP (znR S2 q20 23 10000 (zR S2 23 w9)) q1) 0 (some q20))) s _ _ := hw
  generalize hSS : (zsP (znR S2 q20 23 10000 (zR S2 23 w9)) q1 (va_up (zP (znR S2 q20 23 10000 (zR S2 23 w9)) q1) 0 (some q20))) = S2 at hw hC
  have hM2 := zMd.cls (zCls.gv hC.2.2.1 hC.2.2.2.1) hM
  have hM02 := zMd0.cls (zCls.gv hC.2.2.1 hC.2.2.2.1) hM hM0
  refine lv_iload_n hx hb dX11_copies_7 rfl (lv_at hl 0 rfl) ?_
  refine lv_iconst (v := 4) hx hb dX11_copies_8 (by decide) ?_
  refine lv_icmp_ge (tgt := 33) hx hb dX11_copies_9 (by decide) (fun c9 => absurd c9 (by decide)) (fun _ => ?_)
  refine lv_aload_n hx hb dX11_copies_12 rfl (lv_at hl 1 rfl) ?_
  refine lv_iload_n hx hb dX11_copies_13 rfl (lv_at hl 0 rfl) ?_
  refine lv_aload_n hx hb dX11_copies_14 rfl (lv_at hl 2 rfl) ?_
  refine g_Mod_flips (a := (b 0)) (v := (b 2)) C hw hM2.1 in_X11 (by decide +kernel) hM2.2.2.1 dX11_copies_15 ?_
  refine lv_iload_n hx hb dX11_copies_18 rfl (lv_at hl 0 rfl) ?_
  obtain ⟨w9, eP9, kW9, nW9, zW9, eW9⟩ := zMd_f hM2 hM02 (p := 1) (by decide)
  refine zald_P (a := (b 2)) (v := w9) C hw hM2.2.2.2.2.2.2.2.2.2.1 (by decide) (t0 := 8) rfl rfl hM2.2.2.2.2.2.2.2.2.2.2.1 (zin_of (N := 4) (by decide) (by grind) (by grind)) eP9 dX11_copies_19 ?_
  refine zclone (a := w9) (n := 10000) C hw kW9 nW9 zW9 hl.1 (by decide +kernel) (by decide +kernel) (by decide +kernel) (by decide +kernel) (by decide +kernel) (Nat.le_of_ble_eq_true rfl) (Nat.le_of_ble_eq_true rfl) (Nat.le_of_ble_eq_true rfl) (Nat.le_of_ble_eq_true rfl) dX11_copies_20 (fun q20 H kq20 hw => ?_)
  refine zcastA (a := q20) C hw (zK_nRs S2 q20 23 10000 (zR S2 23 w9)) (by decide +kernel) dX11_copies_23 ?_
  refine zastA (a := q1) (v := q20) (n := 4) C hw (zK_nR (k := 23) (n := 10000) (f := (zR S2 23 w9)) (zne kq20 (fun e9 => absurd (Eq.trans (Eq.symm hC.1) e9) (by decide))) hC.1) (zK_nRs S2 q20 23 10000 (zR S2 23 w9)) (zN_nR (k := 23) (n := 10000) (f := (zR S2 23 w9)) (zne kq20 (fun e9 => absurd (Eq.trans (Eq.symm hC.1) e9) (by decide))) hC.2.1) (zin_of (N := 4) (by decide) (by decide) (by decide)) dX11_copies_26 (fun H locs hw => ?_)
  refine lv_iinc (v := 2) (lv' := [(2, .int 2), (1, .ref q1), (0, .ref (b 0))]) hx hb dX11_copies_27 hl (k := 0) rfl (by decide) (by decide) rfl (fun ls hl => ?_)
  refine lv_goto (tgt := 7) hx hb dX11_copies_30 (by decide) ?_
  have hC := hC.step (w := w9) zW9 kq20
  have hw : zW D y base (zsP (znR S2 q20 23 10000 (zR S2 23 w9)) q1 (va_up (zP (znR S2 q20 23 10000 (zR S2 23 w9)) q1) 1 (some q20))) s _ _ := hw
  generalize hSS : (zsP (znR S2 q20 23 10000 (zR S2 23 w9)) q1 (va_up (zP (znR S2 q20 23 10000 (zR S2 23 w9)) q1) 1 (some q20))) = S2 at hw hC
  have hM2 := zMd.cls (zCls.gv hC.2.2.1 hC.2.2.2.1) hM
  have hM02 := zMd0.cls (zCls.gv hC.2.2.1 hC.2.2.2.1) hM hM0
  refine lv_iload_n hx hb dX11_copies_7 rfl (lv_at hl 0 rfl) ?_
  refine lv_iconst (v := 4) hx hb dX11_copies_8 (by decide) ?_
  refine lv_icmp_ge (tgt := 33) hx hb dX11_copies_9 (by decide) (fun c9 => absurd c9 (by decide)) (fun _ => ?_)
  refine lv_aload_n hx hb dX11_copies_12 rfl (lv_at hl 1 rfl) ?_
  refine lv_iload_n hx hb dX11_copies_13 rfl (lv_at hl 0 rfl) ?_
  refine lv_aload_n hx hb dX11_copies_14 rfl (lv_at hl 2 rfl) ?_
  refine g_Mod_flips (a := (b 0)) (v := (b 2)) C hw hM2.1 in_X11 (by decide +kernel) hM2.2.2.1 dX11_copies_15 ?_
  refine lv_iload_n hx hb dX11_copies_18 rfl (lv_at hl 0 rfl) ?_
  obtain ⟨w9, eP9, kW9, nW9, zW9, eW9⟩ := zMd_f hM2 hM02 (p := 2) (by decide)
  refine zald_P (a := (b 2)) (v := w9) C hw hM2.2.2.2.2.2.2.2.2.2.1 (by decide) (t0 := 8) rfl rfl hM2.2.2.2.2.2.2.2.2.2.2.1 (zin_of (N := 4) (by decide) (by grind) (by grind)) eP9 dX11_copies_19 ?_
  refine zclone (a := w9) (n := 10000) C hw kW9 nW9 zW9 hl.1 (by decide +kernel) (by decide +kernel) (by decide +kernel) (by decide +kernel) (by decide +kernel) (Nat.le_of_ble_eq_true rfl) (Nat.le_of_ble_eq_true rfl) (Nat.le_of_ble_eq_true rfl) (Nat.le_of_ble_eq_true rfl) dX11_copies_20 (fun q20 H kq20 hw => ?_)
  refine zcastA (a := q20) C hw (zK_nRs S2 q20 23 10000 (zR S2 23 w9)) (by decide +kernel) dX11_copies_23 ?_
  refine zastA (a := q1) (v := q20) (n := 4) C hw (zK_nR (k := 23) (n := 10000) (f := (zR S2 23 w9)) (zne kq20 (fun e9 => absurd (Eq.trans (Eq.symm hC.1) e9) (by decide))) hC.1) (zK_nRs S2 q20 23 10000 (zR S2 23 w9)) (zN_nR (k := 23) (n := 10000) (f := (zR S2 23 w9)) (zne kq20 (fun e9 => absurd (Eq.trans (Eq.symm hC.1) e9) (by decide))) hC.2.1) (zin_of (N := 4) (by decide) (by decide) (by decide)) dX11_copies_26 (fun H locs hw => ?_)
  refine lv_iinc (v := 3) (lv' := [(2, .int 3), (1, .ref q1), (0, .ref (b 0))]) hx hb dX11_copies_27 hl (k := 0) rfl (by decide) (by decide) rfl (fun ls hl => ?_)
  refine lv_goto (tgt := 7) hx hb dX11_copies_30 (by decide) ?_
  have hC := hC.step (w := w9) zW9 kq20
  have hw : zW D y base (zsP (znR S2 q20 23 10000 (zR S2 23 w9)) q1 (va_up (zP (znR S2 q20 23 10000 (zR S2 23 w9)) q1) 2 (some q20))) s _ _ := hw
  generalize hSS : (zsP (znR S2 q20 23 10000 (zR S2 23 w9)) q1 (va_up (zP (znR S2 q20 23 10000 (zR S2 23 w9)) q1) 2 (some q20))) = S2 at hw hC
  have hM2 := zMd.cls (zCls.gv hC.2.2.1 hC.2.2.2.1) hM
  have hM02 := zMd0.cls (zCls.gv hC.2.2.1 hC.2.2.2.1) hM hM0
  refine lv_iload_n hx hb dX11_copies_7 rfl (lv_at hl 0 rfl) ?_
  refine lv_iconst (v := 4) hx hb dX11_copies_8 (by decide) ?_
  refine lv_icmp_ge (tgt := 33) hx hb dX11_copies_9 (by decide) (fun c9 => absurd c9 (by decide)) (fun _ => ?_)
  refine lv_aload_n hx hb dX11_copies_12 rfl (lv_at hl 1 rfl) ?_
  refine lv_iload_n hx hb dX11_copies_13 rfl (lv_at hl 0 rfl) ?_
  refine lv_aload_n hx hb dX11_copies_14 rfl (lv_at hl 2 rfl) ?_
  refine g_Mod_flips (a := (b 0)) (v := (b 2)) C hw hM2.1 in_X11 (by decide +kernel) hM2.2.2.1 dX11_copies_15 ?_
  refine lv_iload_n hx hb dX11_copies_18 rfl (lv_at hl 0 rfl) ?_
  obtain ⟨w9, eP9, kW9, nW9, zW9, eW9⟩ := zMd_f hM2 hM02 (p := 3) (by decide)
  refine zald_P (a := (b 2)) (v := w9) C hw hM2.2.2.2.2.2.2.2.2.2.1 (by decide) (t0 := 8) rfl rfl hM2.2.2.2.2.2.2.2.2.2.2.1 (zin_of (N := 4) (by decide) (by grind) (by grind)) eP9 dX11_copies_19 ?_
  refine zclone (a := w9) (n := 10000) C hw kW9 nW9 zW9 hl.1 (by decide +kernel) (by decide +kernel) (by decide +kernel) (by decide +kernel) (by decide +kernel) (Nat.le_of_ble_eq_true rfl) (Nat.le_of_ble_eq_true rfl) (Nat.le_of_ble_eq_true rfl) (Nat.le_of_ble_eq_true rfl) dX11_copies_20 (fun q20 H kq20 hw => ?_)
  refine zcastA (a := q20) C hw (zK_nRs S2 q20 23 10000 (zR S2 23 w9)) (by decide +kernel) dX11_copies_23 ?_
  refine zastA (a := q1) (v := q20) (n := 4) C hw (zK_nR (k := 23) (n := 10000) (f := (zR S2 23 w9)) (zne kq20 (fun e9 => absurd (Eq.trans (Eq.symm hC.1) e9) (by decide))) hC.1) (zK_nRs S2 q20 23 10000 (zR S2 23 w9)) (zN_nR (k := 23) (n := 10000) (f := (zR S2 23 w9)) (zne kq20 (fun e9 => absurd (Eq.trans (Eq.symm hC.1) e9) (by decide))) hC.2.1) (zin_of (N := 4) (by decide) (by decide) (by decide)) dX11_copies_26 (fun H locs hw => ?_)
  refine lv_iinc (v := 4) (lv' := [(2, .int 4), (1, .ref q1), (0, .ref (b 0))]) hx hb dX11_copies_27 hl (k := 0) rfl (by decide) (by decide) rfl (fun ls hl => ?_)
  refine lv_goto (tgt := 7) hx hb dX11_copies_30 (by decide) ?_
  have hC := hC.step (w := w9) zW9 kq20
  have hw : zW D y base (zsP (znR S2 q20 23 10000 (zR S2 23 w9)) q1 (va_up (zP (znR S2 q20 23 10000 (zR S2 23 w9)) q1) 3 (some q20))) s _ _ := hw
  generalize hSS : (zsP (znR S2 q20 23 10000 (zR S2 23 w9)) q1 (va_up (zP (znR S2 q20 23 10000 (zR S2 23 w9)) q1) 3 (some q20))) = S2 at hw hC
  have hM2 := zMd.cls (zCls.gv hC.2.2.1 hC.2.2.2.1) hM
  have hM02 := zMd0.cls (zCls.gv hC.2.2.1 hC.2.2.2.1) hM hM0
  refine lv_iload_n hx hb dX11_copies_7 rfl (lv_at hl 0 rfl) ?_
  refine lv_iconst (v := 4) hx hb dX11_copies_8 (by decide) ?_
  refine lv_icmp_ge (tgt := 33) hx hb dX11_copies_9 (by decide) (fun _ => ?_) (fun c9 => absurd c9 (by decide))
  refine lv_aload_n hx hb dX11_copies_33 rfl (lv_at hl 1 rfl) ?_
  exact zrr C hw hr (Or.inr ⟨_, rfl⟩) hlocks ⟨hC.2.2.2.1, hC.2.2.1, hC.1, hC.2.1, _, hC.2.2.2.2⟩ ⟨Nat.le_of_ble_eq_true rfl, Nat.le_of_ble_eq_true rfl⟩ dX11_copies_34

