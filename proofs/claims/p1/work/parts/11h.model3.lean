set_option maxHeartbeats 4000000 in
set_option maxRecDepth 100000 in
/-- X11_runs -/
theorem c_X11_runs (l : Launch) (D : va_G) (y : Nat → ClassId) (base : Nat) (S : zS) (b : Nat → Nat) (p0 : Int32) (p1 : Int32) (hM : zMd S b) (hM0 : zMd0 S b) : zMi l yX11_runs wsX11_runs ({ frames := 5, cells := 1, slots := 3, locals := 97 }) [.ref (b 0), .int p0, .int p1] D y base S (fun (r : Int32) (S1 : zS) => zK S1 (b 0) = 15 ∧ zI S1 240 (b 0) = kd_runs p0 p1 ∧ (kd_runs p0 p1 = 0 → r = 0)) 1 3 := by
  refine zMet_of (cc := cX11_runs) (maxL := 3) (ret := (some .int)) (own := RX11) (by decide +kernel) rfl rfl (Nat.le_of_ble_eq_true rfl) ?_
  intro p e s m args below meth c ls C hr hlocks hnm hw hl
  have hx := C.1
  have hb := C.2.1
  have hown := C.2.2.2.1
  have hts := C.2.2.2.2
  have hl : lv_has ls 3 [(0, .ref (b 0)), (1, .int p0), (2, .int p1)] := hl
  refine lv_aload_n hx hb dX11_runs_0 rfl (lv_at hl 0 rfl) ?_
  refine lv_iload_n hx hb dX11_runs_1 rfl (lv_at hl 1 rfl) ?_
  refine lv_iload_n hx hb dX11_runs_2 rfl (lv_at hl 2 rfl) ?_
  refine zcV_i (As := [.int p0, .int p1]) (rest := []) (n9 := 2) (b := (b 0)) C hw (c_X11_noRow l D y base S (b 0) p0 p1 hM.1) gX11_runs_X11_noRow rfl (by decide +kernel) ⟨⟨rfl, rfl⟩, Nat.le_of_ble_eq_true rfl, Nat.le_of_ble_eq_true rfl⟩ hM.1 ⟨by decide, by decide⟩ rfl rfl hl.1 rfl (Nat.le_of_ble_eq_true rfl) ⟨Nat.le_of_ble_eq_true rfl, Nat.le_of_ble_eq_true rfl⟩ dX11_runs_3 (fun r3 S3 H locs hp3 hw => ?_)
  obtain ⟨rfl, rfl⟩ := hp3
  refine lv_if_eq (tgt := 13) hx hb dX11_runs_6 (by decide) (fun c6 => ?_) (fun c6 => ?_)
  · replace c6 := zb0.mp c6
    refine lv_aload_n hx hb dX11_runs_13 rfl (lv_at hl 0 rfl) ?_
    refine lv_iload_n hx hb dX11_runs_14 rfl (lv_at hl 1 rfl) ?_
    refine lv_iload_n hx hb dX11_runs_15 rfl (lv_at hl 2 rfl) ?_
    refine zcV_r (As := [.int p0, .int p1]) (rest := []) (n9 := 2) (b := (b 0)) C hw (c_X11_runsOf l D y base (zsI S 240 (b 0) (zb (¬ ((0 ≤ p0 ∧ p0 ≤ 1) ∧ 0 ≤ p1 ∧ p1 ≤ 3)))) b p0 p1 hM (by first | assumption | grind)) gX11_runs_X11_runsOf rfl (by decide +kernel) ⟨⟨rfl, rfl⟩, Nat.le_of_ble_eq_true rfl, Nat.le_of_ble_eq_true rfl⟩ hM.1 ⟨by decide, by decide⟩ rfl rfl hl.1 rfl (Nat.le_of_ble_eq_true rfl) ⟨Nat.le_of_ble_eq_true rfl, Nat.le_of_ble_eq_true rfl⟩ dX11_runs_16 (fun r16 S16 H locs hp16 hw => ?_)
    have hM16 := zMd.cls hp16.2.2 hM
    have hM0_16 := zMd0.cls hp16.2.2 hM (zMd0.i hM0)
    have t16 := ((hp16.2.2 (b 0) (fun e9 => absurd (Eq.trans (Eq.symm hM.1) e9) (by decide))).2.2.2.2.2 240 (Or.inr (by decide))).1.trans (zI_s S 240 (b 0) (zb (¬ ((0 ≤ p0 ∧ p0 ≤ 1) ∧ 0 ≤ p1 ∧ p1 ≤ 3))))
    refine zcV_i (As := []) (rest := []) (n9 := 0) (b := r16) C hw (c_Jx4a65c_size_8abf5 l D y base S16 r16 hp16.1 hp16.2.1) gX11_runs_Jx4a65c_size_8abf5 rfl (by decide +kernel) ⟨⟨rfl, rfl⟩, Nat.le_of_ble_eq_true rfl, Nat.le_of_ble_eq_true rfl⟩ hp16.1 ⟨by decide, by decide⟩ rfl rfl hl.1 rfl (Nat.le_of_ble_eq_true rfl) ⟨Nat.le_of_ble_eq_true rfl, Nat.le_of_ble_eq_true rfl⟩ dX11_runs_19 (fun r19 S19 H locs hp19 hw => ?_)
    obtain ⟨rfl, hS9⟩ := hp19
    have hS9 := hS9.symm
    subst hS9
    exact zri C hw hr hlocks rfl ⟨hM16.1, (t16).trans (by unfold kd_runs; (try unfold zb); grind), (fun h9 => by first | rfl | (revert h9; unfold kd_runs; (try unfold zb); grind))⟩ ⟨Nat.le_of_ble_eq_true rfl, Nat.le_of_ble_eq_true rfl⟩ dX11_runs_22
  · replace c6 := zb1.mp c6
    refine lv_iconst (v := 0) hx hb dX11_runs_9 (by decide) ?_
    refine lv_goto (tgt := 22) hx hb dX11_runs_10 (by decide) ?_
    exact zri C hw hr hlocks rfl ⟨hM.1, ((zI_s S 240 (b 0) (zb (¬ ((0 ≤ p0 ∧ p0 ≤ 1) ∧ 0 ≤ p1 ∧ p1 ≤ 3))))).trans (by unfold kd_runs; (try unfold zb); grind), (fun h9 => by first | rfl | (revert h9; unfold kd_runs; (try unfold zb); grind))⟩ ⟨Nat.le_of_ble_eq_true rfl, Nat.le_of_ble_eq_true rfl⟩ dX11_runs_22

set_option maxHeartbeats 4000000 in
set_option maxRecDepth 100000 in
/-- X11_run -/
theorem c_X11_run (l : Launch) (D : va_G) (y : Nat → ClassId) (base : Nat) (S : zS) (b : Nat → Nat) (p0 : Int32) (p1 : Int32) (p2 : Int32) (hM : zMd S b) (hM0 : zMd0 S b) : zMi l yX11_run wsX11_run ({ frames := 5, cells := 1, slots := 3, locals := 97 }) [.ref (b 0), .int p0, .int p1, .int p2] D y base S (fun (r : Int32) (S1 : zS) => zK S1 (b 0) = 15 ∧ zI S1 240 (b 0) = kd_run p0 p1 ∧ (kd_run p0 p1 = 0 → r = 0)) 1 3 := by
  refine zMet_of (cc := cX11_run) (maxL := 5) (ret := (some .int)) (own := RX11) (by decide +kernel) rfl rfl (Nat.le_of_ble_eq_true rfl) ?_
  intro p e s m args below meth c ls C hr hlocks hnm hw hl
  have hx := C.1
  have hb := C.2.1
  have hown := C.2.2.2.1
  have hts := C.2.2.2.2
  have hl : lv_has ls 5 [(0, .ref (b 0)), (1, .int p0), (2, .int p1), (3, .int p2)] := hl
  have in_X11 : ∀ w ∈ wsX110, w ∈ wsX11_run := by decide +kernel
  refine lv_aload_n hx hb dX11_run_0 rfl (lv_at hl 0 rfl) ?_
  refine lv_iload_n hx hb dX11_run_1 rfl (lv_at hl 1 rfl) ?_
  refine lv_iload_n hx hb dX11_run_2 rfl (lv_at hl 2 rfl) ?_
  refine zcV_i (As := [.int p0, .int p1]) (rest := []) (n9 := 2) (b := (b 0)) C hw (c_X11_noRow l D y base S (b 0) p0 p1 hM.1) gX11_run_X11_noRow rfl (by decide +kernel) ⟨⟨rfl, rfl⟩, Nat.le_of_ble_eq_true rfl, Nat.le_of_ble_eq_true rfl⟩ hM.1 ⟨by decide, by decide⟩ rfl rfl hl.1 rfl (Nat.le_of_ble_eq_true rfl) ⟨Nat.le_of_ble_eq_true rfl, Nat.le_of_ble_eq_true rfl⟩ dX11_run_3 (fun r3 S3 H locs hp3 hw => ?_)
  obtain ⟨rfl, rfl⟩ := hp3
  refine lv_if_eq (tgt := 11) hx hb dX11_run_6 (by decide) (fun c6 => ?_) (fun c6 => ?_)
  · replace c6 := zb0.mp c6
    refine lv_aload_n hx hb dX11_run_11 rfl (lv_at hl 0 rfl) ?_
    refine lv_iload_n hx hb dX11_run_12 rfl (lv_at hl 1 rfl) ?_
    refine lv_iload_n hx hb dX11_run_13 rfl (lv_at hl 2 rfl) ?_
    refine zcV_r (As := [.int p0, .int p1]) (rest := []) (n9 := 2) (b := (b 0)) C hw (c_X11_runsOf l D y base (zsI S 240 (b 0) (zb (¬ ((0 ≤ p0 ∧ p0 ≤ 1) ∧ 0 ≤ p1 ∧ p1 ≤ 3)))) b p0 p1 hM (by first | assumption | grind)) gX11_run_X11_runsOf rfl (by decide +kernel) ⟨⟨rfl, rfl⟩, Nat.le_of_ble_eq_true rfl, Nat.le_of_ble_eq_true rfl⟩ hM.1 ⟨by decide, by decide⟩ rfl rfl hl.1 rfl (Nat.le_of_ble_eq_true rfl) ⟨Nat.le_of_ble_eq_true rfl, Nat.le_of_ble_eq_true rfl⟩ dX11_run_14 (fun r14 S14 H locs hp14 hw => ?_)
    have hM14 := zMd.cls hp14.2.2 hM
    have hM0_14 := zMd0.cls hp14.2.2 hM (zMd0.i hM0)
    have t14 := ((hp14.2.2 (b 0) (fun e9 => absurd (Eq.trans (Eq.symm hM.1) e9) (by decide))).2.2.2.2.2 240 (Or.inr (by decide))).1.trans (zI_s S 240 (b 0) (zb (¬ ((0 ≤ p0 ∧ p0 ≤ 1) ∧ 0 ≤ p1 ∧ p1 ≤ 3))))
    refine lv_astore (lv' := [(4, .ref r14), (0, .ref (b 0)), (1, .int p0), (2, .int p1), (3, .int p2)]) hx hb dX11_run_17 hl (by decide) rfl (fun ls hl => ?_)
    refine lv_aload_n hx hb dX11_run_19 rfl (lv_at hl 1 rfl) ?_
    refine lv_iload_n hx hb dX11_run_20 rfl (lv_at hl 4 rfl) ?_
    refine lv_i2l (v := p2.toInt64) hx hb dX11_run_21 rfl ?_
    refine lv_lconst (v := ((0 : Int32).toInt64)) hx hb dX11_run_22 (by decide) ?_
    refine lv_aload hx hb dX11_run_23 (lv_at hl 0 rfl) ?_
    refine zcV_i (As := []) (rest := [.long ((0 : Int32).toInt64), .long (p2.toInt64), .ref (b 0)]) (n9 := 0) (b := r14) C hw (c_Jx4a65c_size_8abf5 l D y base S14 r14 hp14.1 hp14.2.1) gX11_run_Jx4a65c_size_8abf5 rfl (by decide +kernel) ⟨⟨rfl, rfl⟩, Nat.le_of_ble_eq_true rfl, Nat.le_of_ble_eq_true rfl⟩ hp14.1 ⟨by decide, by decide⟩ rfl rfl hl.1 rfl (Nat.le_of_ble_eq_true rfl) ⟨Nat.le_of_ble_eq_true rfl, Nat.le_of_ble_eq_true rfl⟩ dX11_run_25 (fun r25 S25 H locs hp25 hw => ?_)
    obtain ⟨rfl, hS9⟩ := hp25
    have hS9 := hS9.symm
    subst hS9
    refine lv_iconst (v := 1) hx hb dX11_run_28 (by decide) ?_
    refine lv_isub hx hb dX11_run_29 ?_
    refine zrd (x := (-1)) (by decide) ?_
    refine lv_i2l (v := ((-1) : Int32).toInt64) hx hb dX11_run_30 rfl ?_
    refine zcS_i (As := [.long (p2.toInt64), .long ((0 : Int32).toInt64), .long (((-1) : Int32).toInt64)]) (rest := [.ref (b 0)]) (n9 := 3) C hw (c_X11_in l D y base S14 p2 (0 : Int32) ((-1) : Int32) ) gX11_run_X11_in rfl (by decide +kernel) ⟨⟨rfl, rfl⟩, Nat.le_of_ble_eq_true rfl, Nat.le_of_ble_eq_true rfl⟩ rfl hl.1 rfl (Nat.le_of_ble_eq_true rfl) ⟨Nat.le_of_ble_eq_true rfl, Nat.le_of_ble_eq_true rfl⟩ dX11_run_31 (fun r31 S31 H locs hp31 hw => ?_)
    obtain ⟨rfl, hS9⟩ := hp31
    have hS9 := hS9.symm
    subst hS9
    refine lv_if_eq (tgt := 41) hx hb dX11_run_34 (by decide) (fun c34 => ?_) (fun c34 => (show False from (by have h9 := zb1.mp c34; grind)).elim)
    replace c34 := zb0.mp c34
    refine lv_iconst (v := 2) hx hb dX11_run_41 (by decide) ?_
    refine p_Mod_thrown (a := (b 0)) (v := 2) C hw hM14.1 in_X11 (by decide +kernel) dX11_run_42 (fun H locs hw => ?_)
    refine lv_aload_n hx hb dX11_run_45 rfl (lv_at hl 1 rfl) ?_
    refine g_Mod_thrown (a := (b 0)) (v := 2) C hw hM14.1 in_X11 (by decide +kernel) (zI_s S14 240 (b 0) 2) dX11_run_46 ?_
    refine lv_if_le (tgt := 56) hx hb dX11_run_49 (by decide) (fun c49 => absurd c49 (by decide)) (fun _ => ?_)
    refine lv_iconst (v := 0) hx hb dX11_run_52 (by decide) ?_
    refine lv_goto (tgt := 68) hx hb dX11_run_53 (by decide) ?_
    exact zri C hw hr hlocks rfl ⟨hM14.1, ((zI_s S14 240 (b 0) 2)).trans (by unfold kd_run; (try unfold zb); grind), (fun h9 => by first | rfl | (revert h9; unfold kd_run; (try unfold zb); grind))⟩ ⟨Nat.le_of_ble_eq_true rfl, Nat.le_of_ble_eq_true rfl⟩ dX11_run_68
  · replace c6 := zb1.mp c6
    refine lv_iconst (v := 0) hx hb dX11_run_9 (by decide) ?_
    exact zri C hw hr hlocks rfl ⟨hM.1, ((zI_s S 240 (b 0) (zb (¬ ((0 ≤ p0 ∧ p0 ≤ 1) ∧ 0 ≤ p1 ∧ p1 ≤ 3))))).trans (by unfold kd_run; (try unfold zb); grind), (fun h9 => by first | rfl | (revert h9; unfold kd_run; (try unfold zb); grind))⟩ ⟨Nat.le_of_ble_eq_true rfl, Nat.le_of_ble_eq_true rfl⟩ dX11_run_10

set_option maxHeartbeats 4000000 in
set_option maxRecDepth 100000 in
/-- X11_shortest -/
theorem c_X11_shortest (l : Launch) (D : va_G) (y : Nat → ClassId) (base : Nat) (S : zS) (b : Nat → Nat) (p0 : Int32) (p1 : Int32) (hM : zMd S b) (hM0 : zMd0 S b) : zMi l yX11_shortest wsX11_shortest ({ frames := 5, cells := 1, slots := 3, locals := 97 }) [.ref (b 0), .int p0, .int p1] D y base S (fun (r : Int32) (S1 : zS) => zK S1 (b 0) = 15 ∧ zI S1 240 (b 0) = kd_run p0 p1 ∧ (kd_run p0 p1 = 0 → r = 0)) 1 3 := by
  refine zMet_of (cc := cX11_shortest) (maxL := 6) (ret := (some .int)) (own := RX11) (by decide +kernel) rfl rfl (Nat.le_of_ble_eq_true rfl) ?_
  intro p e s m args below meth c ls C hr hlocks hnm hw hl
  have hx := C.1
  have hb := C.2.1
  have hown := C.2.2.2.1
  have hts := C.2.2.2.2
  have hl : lv_has ls 6 [(0, .ref (b 0)), (1, .int p0), (2, .int p1)] := hl
  have in_X11 : ∀ w ∈ wsX110, w ∈ wsX11_shortest := by decide +kernel
  refine lv_aload_n hx hb dX11_shortest_0 rfl (lv_at hl 0 rfl) ?_
  refine lv_iload_n hx hb dX11_shortest_1 rfl (lv_at hl 1 rfl) ?_
  refine lv_iload_n hx hb dX11_shortest_2 rfl (lv_at hl 2 rfl) ?_
  refine zcV_i (As := [.int p0, .int p1]) (rest := []) (n9 := 2) (b := (b 0)) C hw (c_X11_noRow l D y base S (b 0) p0 p1 hM.1) gX11_shortest_X11_noRow rfl (by decide +kernel) ⟨⟨rfl, rfl⟩, Nat.le_of_ble_eq_true rfl, Nat.le_of_ble_eq_true rfl⟩ hM.1 ⟨by decide, by decide⟩ rfl rfl hl.1 rfl (Nat.le_of_ble_eq_true rfl) ⟨Nat.le_of_ble_eq_true rfl, Nat.le_of_ble_eq_true rfl⟩ dX11_shortest_3 (fun r3 S3 H locs hp3 hw => ?_)
  obtain ⟨rfl, rfl⟩ := hp3
  refine lv_if_eq (tgt := 11) hx hb dX11_shortest_6 (by decide) (fun c6 => ?_) (fun c6 => ?_)
  · replace c6 := zb0.mp c6
    refine lv_aload_n hx hb dX11_shortest_11 rfl (lv_at hl 0 rfl) ?_
    refine lv_iload_n hx hb dX11_shortest_12 rfl (lv_at hl 1 rfl) ?_
    refine lv_iload_n hx hb dX11_shortest_13 rfl (lv_at hl 2 rfl) ?_
    refine zcV_r (As := [.int p0, .int p1]) (rest := []) (n9 := 2) (b := (b 0)) C hw (c_X11_runsOf l D y base (zsI S 240 (b 0) (zb (¬ ((0 ≤ p0 ∧ p0 ≤ 1) ∧ 0 ≤ p1 ∧ p1 ≤ 3)))) b p0 p1 hM (by first | assumption | grind)) gX11_shortest_X11_runsOf rfl (by decide +kernel) ⟨⟨rfl, rfl⟩, Nat.le_of_ble_eq_true rfl, Nat.le_of_ble_eq_true rfl⟩ hM.1 ⟨by decide, by decide⟩ rfl rfl hl.1 rfl (Nat.le_of_ble_eq_true rfl) ⟨Nat.le_of_ble_eq_true rfl, Nat.le_of_ble_eq_true rfl⟩ dX11_shortest_14 (fun r14 S14 H locs hp14 hw => ?_)
    have hM14 := zMd.cls hp14.2.2 hM
    have hM0_14 := zMd0.cls hp14.2.2 hM (zMd0.i hM0)
    have t14 := ((hp14.2.2 (b 0) (fun e9 => absurd (Eq.trans (Eq.symm hM.1) e9) (by decide))).2.2.2.2.2 240 (Or.inr (by decide))).1.trans (zI_s S 240 (b 0) (zb (¬ ((0 ≤ p0 ∧ p0 ≤ 1) ∧ 0 ≤ p1 ∧ p1 ≤ 3))))
    refine lv_astore_n (lv' := [(3, .ref r14), (0, .ref (b 0)), (1, .int p0), (2, .int p1)]) hx hb dX11_shortest_17 rfl hl (by decide) rfl (fun ls hl => ?_)
    refine lv_iconst (v := (-1)) hx hb dX11_shortest_18 (by decide) ?_
    refine lv_istore (lv' := [(4, .int (-1)), (3, .ref r14), (0, .ref (b 0)), (1, .int p0), (2, .int p1)]) hx hb dX11_shortest_19 hl (by decide) rfl (fun ls hl => ?_)
    refine lv_iconst (v := 1) hx hb dX11_shortest_21 (by decide) ?_
    refine lv_istore (lv' := [(5, .int 1), (4, .int (-1)), (3, .ref r14), (0, .ref (b 0)), (1, .int p0), (2, .int p1)]) hx hb dX11_shortest_22 hl (by decide) rfl (fun ls hl => ?_)
    refine lv_iload hx hb dX11_shortest_24 (lv_at hl 0 rfl) ?_
    refine lv_aload_n hx hb dX11_shortest_26 rfl (lv_at hl 2 rfl) ?_
    refine zcV_i (As := []) (rest := [.int 1]) (n9 := 0) (b := r14) C hw (c_Jx4a65c_size_8abf5 l D y base S14 r14 hp14.1 hp14.2.1) gX11_shortest_Jx4a65c_size_8abf5 rfl (by decide +kernel) ⟨⟨rfl, rfl⟩, Nat.le_of_ble_eq_true rfl, Nat.le_of_ble_eq_true rfl⟩ hp14.1 ⟨by decide, by decide⟩ rfl rfl hl.1 rfl (Nat.le_of_ble_eq_true rfl) ⟨Nat.le_of_ble_eq_true rfl, Nat.le_of_ble_eq_true rfl⟩ dX11_shortest_27 (fun r27 S27 H locs hp27 hw => ?_)
    obtain ⟨rfl, hS9⟩ := hp27
    have hS9 := hS9.symm
    subst hS9
    refine lv_iconst (v := 1) hx hb dX11_shortest_30 (by decide) ?_
    refine lv_isub hx hb dX11_shortest_31 ?_
    refine zrd (x := (-1)) (by decide) ?_
    refine lv_icmp_ge (tgt := 81) hx hb dX11_shortest_32 (by decide) (fun _ => ?_) (fun c32 => absurd c32 (by decide))
    refine lv_aload_n hx hb dX11_shortest_81 rfl (lv_at hl 3 rfl) ?_
    refine lv_iload hx hb dX11_shortest_82 (lv_at hl 1 rfl) ?_
    refine lv_iconst (v := (-1)) hx hb dX11_shortest_84 (by decide) ?_
    refine lv_icmp_ne (tgt := 92) hx hb dX11_shortest_85 (by decide) (fun c85 => absurd c85 (by decide)) (fun _ => ?_)
    refine lv_iconst (v := 2) hx hb dX11_shortest_88 (by decide) ?_
    refine lv_goto (tgt := 93) hx hb dX11_shortest_89 (by decide) ?_
    refine p_Mod_thrown (a := (b 0)) (v := 2) C hw hM14.1 in_X11 (by decide +kernel) dX11_shortest_93 (fun H locs hw => ?_)
    refine lv_aload_n hx hb dX11_shortest_96 rfl (lv_at hl 3 rfl) ?_
    refine g_Mod_thrown (a := (b 0)) (v := 2) C hw hM14.1 in_X11 (by decide +kernel) (zI_s S14 240 (b 0) 2) dX11_shortest_97 ?_
    refine lv_if_le (tgt := 107) hx hb dX11_shortest_100 (by decide) (fun c100 => absurd c100 (by decide)) (fun _ => ?_)
    refine lv_iconst (v := 0) hx hb dX11_shortest_103 (by decide) ?_
    refine lv_goto (tgt := 109) hx hb dX11_shortest_104 (by decide) ?_
    exact zri C hw hr hlocks rfl ⟨hM14.1, ((zI_s S14 240 (b 0) 2)).trans (by unfold kd_run; (try unfold zb); grind), (fun h9 => by first | rfl | (revert h9; unfold kd_run; (try unfold zb); grind))⟩ ⟨Nat.le_of_ble_eq_true rfl, Nat.le_of_ble_eq_true rfl⟩ dX11_shortest_109
  · replace c6 := zb1.mp c6
    refine lv_iconst (v := 0) hx hb dX11_shortest_9 (by decide) ?_
    exact zri C hw hr hlocks rfl ⟨hM.1, ((zI_s S 240 (b 0) (zb (¬ ((0 ≤ p0 ∧ p0 ≤ 1) ∧ 0 ≤ p1 ∧ p1 ≤ 3))))).trans (by unfold kd_run; (try unfold zb); grind), (fun h9 => by first | rfl | (revert h9; unfold kd_run; (try unfold zb); grind))⟩ ⟨Nat.le_of_ble_eq_true rfl, Nat.le_of_ble_eq_true rfl⟩ dX11_shortest_10

set_option maxHeartbeats 4000000 in
set_option maxRecDepth 100000 in
/-- X11_rate -/
theorem c_X11_rate (l : Launch) (D : va_G) (y : Nat → ClassId) (base : Nat) (S : zS) (b : Nat → Nat) (p0 : Int32) (p1 : Int32) (hM : zMd S b) (hM0 : zMd0 S b) : zMi l yX11_rate wsX11_rate ({ frames := 6, cells := 1, slots := 3, locals := 122 }) [.ref (b 0), .int p0, .int p1] D y base S (fun (r : Int32) (S1 : zS) => zK S1 (b 0) = 15 ∧ zI S1 240 (b 0) = kd_run p0 p1 ∧ (kd_run p0 p1 = 0 → r = 0)) 1 3 := by
  refine zMet_of (cc := cX11_rate) (maxL := 3) (ret := (some .int)) (own := RX11) (by decide +kernel) rfl rfl (Nat.le_of_ble_eq_true rfl) ?_
  intro p e s m args below meth c ls C hr hlocks hnm hw hl
  have hx := C.1
  have hb := C.2.1
  have hown := C.2.2.2.1
  have hts := C.2.2.2.2
  have hl : lv_has ls 3 [(0, .ref (b 0)), (1, .int p0), (2, .int p1)] := hl
  refine lv_bipush (v := 10) hx hb dX11_rate_0 (by decide) ?_
  refine lv_aload_n hx hb dX11_rate_2 rfl (lv_at hl 0 rfl) ?_
  refine lv_iload_n hx hb dX11_rate_3 rfl (lv_at hl 1 rfl) ?_
  refine lv_iload_n hx hb dX11_rate_4 rfl (lv_at hl 2 rfl) ?_
  refine zcV_i (As := [.int p0, .int p1]) (rest := [.int 10]) (n9 := 2) (b := (b 0)) C hw (c_X11_shortest l D y base S b p0 p1 hM (by first | assumption | decide | grind)) gX11_rate_X11_shortest rfl (by decide +kernel) ⟨⟨rfl, rfl⟩, Nat.le_of_ble_eq_true rfl, Nat.le_of_ble_eq_true rfl⟩ hM.1 ⟨by decide, by decide⟩ rfl rfl hl.1 rfl (Nat.le_of_ble_eq_true rfl) ⟨Nat.le_of_ble_eq_true rfl, Nat.le_of_ble_eq_true rfl⟩ dX11_rate_5 (fun r5 S5 H locs hp5 hw => ?_)
  refine lv_imul hx hb dX11_rate_8 ?_
  exact zri C hw hr hlocks rfl ⟨hp5.1, (hp5.2.1).trans (by unfold kd_run; (try unfold zb); grind), (fun h9 => by first | rfl | (revert h9; unfold kd_run; (try unfold zb); grind))⟩ ⟨Nat.le_of_ble_eq_true rfl, Nat.le_of_ble_eq_true rfl⟩ dX11_rate_9

set_option maxHeartbeats 4000000 in
set_option maxRecDepth 100000 in
/-- X11_block -/
theorem c_X11_block (l : Launch) (D : va_G) (y : Nat → ClassId) (base : Nat) (S : zS) (b : Nat → Nat) (p0 : Int32) (p1 : Int32) (p2 : Int32) (p3 : Int32) (hM : zMd S b) (hM0 : zMd0 S b) : zMi l yX11_block wsX11_block ({ frames := 3, cells := 0, slots := 0, locals := 67 }) [.ref (b 0), .int p0, .int p1, .int p2, .int p3] D y base S (fun (r : Int32) (S1 : zS) => zK S1 (b 0) = 15 ∧ zI S1 240 (b 0) = kd_block p0 p1 p2 ∧ (kd_block p0 p1 p2 = 0 → r = 0)) 0 0 := by
  refine zMet_of (cc := cX11_block) (maxL := 11) (ret := (some .char)) (own := RX11) (by decide +kernel) rfl rfl (Nat.le_of_ble_eq_true rfl) ?_
  intro p e s m args below meth c ls C hr hlocks hnm hw hl
  have hx := C.1
  have hb := C.2.1
  have hown := C.2.2.2.1
  have hts := C.2.2.2.2
  have hl : lv_has ls 11 [(0, .ref (b 0)), (1, .int p0), (2, .int p1), (3, .int p2), (4, .int p3)] := hl
  have in_X11 : ∀ w ∈ wsX110, w ∈ wsX11_block := by decide +kernel
  refine lv_aload_n hx hb dX11_block_0 rfl (lv_at hl 0 rfl) ?_
  refine lv_iload_n hx hb dX11_block_1 rfl (lv_at hl 1 rfl) ?_
  refine lv_iload_n hx hb dX11_block_2 rfl (lv_at hl 2 rfl) ?_
  refine zcV_i (As := [.int p0, .int p1]) (rest := []) (n9 := 2) (b := (b 0)) C hw (c_X11_noRow l D y base S (b 0) p0 p1 hM.1) gX11_block_X11_noRow rfl (by decide +kernel) ⟨⟨rfl, rfl⟩, Nat.le_of_ble_eq_true rfl, Nat.le_of_ble_eq_true rfl⟩ hM.1 ⟨by decide, by decide⟩ rfl rfl hl.1 rfl (Nat.le_of_ble_eq_true rfl) ⟨Nat.le_of_ble_eq_true rfl, Nat.le_of_ble_eq_true rfl⟩ dX11_block_3 (fun r3 S3 H locs hp3 hw => ?_)
  obtain ⟨rfl, rfl⟩ := hp3
  refine lv_if_eq (tgt := 12) hx hb dX11_block_6 (by decide) (fun c6 => ?_) (fun c6 => ?_)
  · replace c6 := zb0.mp c6
    refine lv_aload_n hx hb dX11_block_12 rfl (lv_at hl 0 rfl) ?_
    refine lv_iload_n hx hb dX11_block_13 rfl (lv_at hl 3 rfl) ?_
    refine lv_i2l (v := p2.toInt64) hx hb dX11_block_14 rfl ?_
    refine lv_lconst (v := ((0 : Int32).toInt64)) hx hb dX11_block_15 (by decide) ?_
    refine lv_ldc2 (own := RX11) (v := ((9 : Int32).toInt64)) hx hb hown (hts (.constantLong RX11 176 (9)) (by decide +kernel)) dX11_block_16 ?_
    refine zcS_i (As := [.long (p2.toInt64), .long ((0 : Int32).toInt64), .long ((9 : Int32).toInt64)]) (rest := [.ref (b 0)]) (n9 := 3) C hw (c_X11_in l D y base (zsI S 240 (b 0) (zb (¬ ((0 ≤ p0 ∧ p0 ≤ 1) ∧ 0 ≤ p1 ∧ p1 ≤ 3)))) p2 (0 : Int32) (9 : Int32) ) gX11_block_X11_in rfl (by decide +kernel) ⟨⟨rfl, rfl⟩, Nat.le_of_ble_eq_true rfl, Nat.le_of_ble_eq_true rfl⟩ rfl hl.1 rfl (Nat.le_of_ble_eq_true rfl) ⟨Nat.le_of_ble_eq_true rfl, Nat.le_of_ble_eq_true rfl⟩ dX11_block_19 (fun r19 S19 H locs hp19 hw => ?_)
    obtain ⟨rfl, hS9⟩ := hp19
    have hS9 := hS9.symm
    subst hS9
    refine lv_if_eq (tgt := 29) hx hb dX11_block_22 (by decide) (fun c22 => ?_) (fun c22 => ?_)
    · replace c22 := zb0.mp c22
      refine lv_iconst (v := 2) hx hb dX11_block_29 (by decide) ?_
      refine p_Mod_thrown (a := (b 0)) (v := 2) C hw hM.1 in_X11 (by decide +kernel) dX11_block_30 (fun H locs hw => ?_)
      refine lv_aload_n hx hb dX11_block_33 rfl (lv_at hl 0 rfl) ?_
      refine g_Mod_thrown (a := (b 0)) (v := 2) C hw hM.1 in_X11 (by decide +kernel) (zI_s (zsI S 240 (b 0) (zb (¬ ((0 ≤ p0 ∧ p0 ≤ 1) ∧ 0 ≤ p1 ∧ p1 ≤ 3)))) 240 (b 0) 2) dX11_block_34 ?_
      refine lv_if_le (tgt := 43) hx hb dX11_block_37 (by decide) (fun c37 => absurd c37 (by decide)) (fun _ => ?_)
      refine lv_bipush (v := 32) hx hb dX11_block_40 (by decide) ?_
      exact zri C hw hr hlocks (by decide) ⟨hM.1, ((zI_s (zsI S 240 (b 0) (zb (¬ ((0 ≤ p0 ∧ p0 ≤ 1) ∧ 0 ≤ p1 ∧ p1 ≤ 3)))) 240 (b 0) 2)).trans (by unfold kd_block; (try unfold zb); grind), (fun h9 => by first | rfl | (revert h9; unfold kd_block; (try unfold zb); grind))⟩ ⟨Nat.le_of_ble_eq_true rfl, Nat.le_of_ble_eq_true rfl⟩ dX11_block_42
    · replace c22 := zb1.mp c22
      refine lv_iconst (v := 0) hx hb dX11_block_25 (by decide) ?_
      refine lv_goto (tgt := 30) hx hb dX11_block_26 (by decide) ?_
      refine p_Mod_thrown (a := (b 0)) (v := 0) C hw hM.1 in_X11 (by decide +kernel) dX11_block_30 (fun H locs hw => ?_)
      refine lv_aload_n hx hb dX11_block_33 rfl (lv_at hl 0 rfl) ?_
      refine g_Mod_thrown (a := (b 0)) (v := 0) C hw hM.1 in_X11 (by decide +kernel) (zI_s (zsI S 240 (b 0) (zb (¬ ((0 ≤ p0 ∧ p0 ≤ 1) ∧ 0 ≤ p1 ∧ p1 ≤ 3)))) 240 (b 0) 0) dX11_block_34 ?_
      refine lv_if_le (tgt := 43) hx hb dX11_block_37 (by decide) (fun _ => ?_) (fun c37 => absurd c37 (by decide))
      refine lv_iconst (v := 1) hx hb dX11_block_43 (by decide) ?_
      refine lv_iload_n hx hb dX11_block_44 rfl (lv_at hl 3 rfl) ?_
      refine lv_ishl hx hb dX11_block_45 ?_
      refine lv_istore (lv' := [(5, .int (1 <<< (p2 &&& 31))), (0, .ref (b 0)), (1, .int p0), (2, .int p1), (3, .int p2), (4, .int p3)]) hx hb dX11_block_46 hl (by decide) rfl (fun ls hl => ?_)
      refine lv_aload_n hx hb dX11_block_48 rfl (lv_at hl 1 rfl) ?_
      refine g_Mod_samples (a := (b 0)) (v := (b 3)) C hw hM.1 in_X11 (by decide +kernel) hM.2.2.2.1 dX11_block_49 ?_
      refine lv_iload_n hx hb dX11_block_52 rfl (lv_at hl 2 rfl) ?_
      obtain ⟨w1, eP1, kW1, nW1⟩ := zMd_s hM (p := p0) (by first | assumption | grind)
      refine zald_P (a := (b 3)) (v := w1) C hw hM.2.2.2.2.2.2.2.2.2.2.2.1 (by decide) (t0 := 7) rfl rfl hM.2.2.2.2.2.2.2.2.2.2.2.2.1 (zin_of (N := 2) (by decide) (by grind) (by grind)) eP1 dX11_block_53 ?_
      refine zalen (a := w1) (v := 0) C hw kW1 (by decide) (t0 := 1) rfl (zlen nW1 rfl) dX11_block_54 ?_
      refine lv_istore (lv' := [(6, .int 0), (5, .int (1 <<< (p2 &&& 31))), (0, .ref (b 0)), (1, .int p0), (2, .int p1), (3, .int p2), (4, .int p3)]) hx hb dX11_block_55 hl (by decide) rfl (fun ls hl => ?_)
      refine lv_aload_n hx hb dX11_block_57 rfl (lv_at hl 2 rfl) ?_
      refine lv_iload hx hb dX11_block_58 (lv_at hl 6 rfl) ?_
      refine lv_if_lt (tgt := 81) hx hb dX11_block_60 (by decide) (fun c60 => ?_) (fun c60 => ?_)
      · refine lv_iconst (v := 3) hx hb dX11_block_81 (by decide) ?_
        refine p_Mod_thrown (a := (b 0)) (v := 3) C hw hM.1 in_X11 (by decide +kernel) dX11_block_82 (fun H locs hw => ?_)
        refine lv_aload_n hx hb dX11_block_85 rfl (lv_at hl 2 rfl) ?_
        refine g_Mod_thrown (a := (b 0)) (v := 3) C hw hM.1 in_X11 (by decide +kernel) (zI_s (zsI (zsI S 240 (b 0) (zb (¬ ((0 ≤ p0 ∧ p0 ≤ 1) ∧ 0 ≤ p1 ∧ p1 ≤ 3)))) 240 (b 0) 0) 240 (b 0) 3) dX11_block_86 ?_
        refine lv_if_le (tgt := 95) hx hb dX11_block_89 (by decide) (fun c89 => absurd c89 (by decide)) (fun _ => ?_)
        refine lv_bipush (v := 32) hx hb dX11_block_92 (by decide) ?_
        exact zri C hw hr hlocks (by decide) ⟨hM.1, ((zI_s (zsI (zsI S 240 (b 0) (zb (¬ ((0 ≤ p0 ∧ p0 ≤ 1) ∧ 0 ≤ p1 ∧ p1 ≤ 3)))) 240 (b 0) 0) 240 (b 0) 3)).trans (by unfold kd_block; (try unfold zb); grind), (fun h9 => by first | rfl | (revert h9; unfold kd_block; (try unfold zb); grind))⟩ ⟨Nat.le_of_ble_eq_true rfl, Nat.le_of_ble_eq_true rfl⟩ dX11_block_94
      · refine lv_iload hx hb dX11_block_63 (lv_at hl 6 rfl) ?_
        refine lv_i2l (v := p3.toInt64) hx hb dX11_block_65 rfl ?_
        refine lv_iload hx hb dX11_block_66 (lv_at hl 1 rfl) ?_
        refine lv_i2l (v := (1 <<< (p2 &&& 31)).toInt64) hx hb dX11_block_68 rfl ?_
        refine lv_lmul hx hb dX11_block_69 ?_
        refine lv_iload hx hb dX11_block_70 (lv_at hl 0 rfl) ?_
        refine lv_i2l (v := (0 : Int32).toInt64) hx hb dX11_block_72 rfl ?_
        refine W.lcmp hx hb dX11_block_73 ?_
        refine lv_if_ge (tgt := 81) hx hb dX11_block_74 (by decide) (fun c74 => ?_) (fun c74 => (show False from (c74 (zblk2 c60 (by grind)))).elim)
        refine lv_iconst (v := 3) hx hb dX11_block_81 (by decide) ?_
        refine p_Mod_thrown (a := (b 0)) (v := 3) C hw hM.1 in_X11 (by decide +kernel) dX11_block_82 (fun H locs hw => ?_)
        refine lv_aload_n hx hb dX11_block_85 rfl (lv_at hl 2 rfl) ?_
        refine g_Mod_thrown (a := (b 0)) (v := 3) C hw hM.1 in_X11 (by decide +kernel) (zI_s (zsI (zsI S 240 (b 0) (zb (¬ ((0 ≤ p0 ∧ p0 ≤ 1) ∧ 0 ≤ p1 ∧ p1 ≤ 3)))) 240 (b 0) 0) 240 (b 0) 3) dX11_block_86 ?_
        refine lv_if_le (tgt := 95) hx hb dX11_block_89 (by decide) (fun c89 => absurd c89 (by decide)) (fun _ => ?_)
        refine lv_bipush (v := 32) hx hb dX11_block_92 (by decide) ?_
        exact zri C hw hr hlocks (by decide) ⟨hM.1, ((zI_s (zsI (zsI S 240 (b 0) (zb (¬ ((0 ≤ p0 ∧ p0 ≤ 1) ∧ 0 ≤ p1 ∧ p1 ≤ 3)))) 240 (b 0) 0) 240 (b 0) 3)).trans (by unfold kd_block; (try unfold zb); grind), (fun h9 => by first | rfl | (revert h9; unfold kd_block; (try unfold zb); grind))⟩ ⟨Nat.le_of_ble_eq_true rfl, Nat.le_of_ble_eq_true rfl⟩ dX11_block_94
  · replace c6 := zb1.mp c6
    refine lv_bipush (v := 32) hx hb dX11_block_9 (by decide) ?_
    exact zri C hw hr hlocks (by decide) ⟨hM.1, ((zI_s S 240 (b 0) (zb (¬ ((0 ≤ p0 ∧ p0 ≤ 1) ∧ 0 ≤ p1 ∧ p1 ≤ 3))))).trans (by unfold kd_block; (try unfold zb); grind), (fun h9 => by first | rfl | (revert h9; unfold kd_block; (try unfold zb); grind))⟩ ⟨Nat.le_of_ble_eq_true rfl, Nat.le_of_ble_eq_true rfl⟩ dX11_block_11

set_option maxHeartbeats 4000000 in
set_option maxRecDepth 100000 in
/-- X11_flips -/
theorem c_X11_flips (l : Launch) (D : va_G) (y : Nat → ClassId) (base : Nat) (S : zS) (b : Nat → Nat) (hM : zMd S b) (hM0 : zMd0 S b) : zMi l yX11_flips wsX11_flips ({ frames := 1, cells := 0, slots := 0, locals := 26 }) [.ref (b 0)] D y base S (fun (r : Int32) (S1 : zS) => zK S1 (b 0) = 15 ∧ r = 0) 0 0 := by
  refine zMet_of (cc := cX11_flips) (maxL := 3) (ret := (some .int)) (own := RX11) (by decide +kernel) rfl rfl (Nat.le_of_ble_eq_true rfl) ?_
  intro p e s m args below meth c ls C hr hlocks hnm hw hl
  have hx := C.1
  have hb := C.2.1
  have hown := C.2.2.2.1
  have hts := C.2.2.2.2
  have hl : lv_has ls 3 [(0, .ref (b 0))] := hl
  have in_X11 : ∀ w ∈ wsX110, w ∈ wsX11_flips := by decide +kernel
  refine lv_aload_n hx hb dX11_flips_0 rfl (lv_at hl 0 rfl) ?_
  refine lv_iconst (v := 0) hx hb dX11_flips_1 (by decide) ?_
  refine p_Mod_thrown (a := (b 0)) (v := 0) C hw hM.1 in_X11 (by decide +kernel) dX11_flips_2 (fun H locs hw => ?_)
  refine lv_iconst (v := 0) hx hb dX11_flips_5 (by decide) ?_
  refine lv_istore_n (lv' := [(1, .int 0), (0, .ref (b 0))]) hx hb dX11_flips_6 rfl hl (by decide) rfl (fun ls hl => ?_)
  refine lv_iconst (v := 0) hx hb dX11_flips_7 (by decide) ?_
  refine lv_istore_n (lv' := [(2, .int 0), (1, .int 0), (0, .ref (b 0))]) hx hb dX11_flips_8 rfl hl (by decide) rfl (fun ls hl => ?_)
  refine lv_iload_n hx hb dX11_flips_9 rfl (lv_at hl 0 rfl) ?_
  refine lv_iconst (v := 4) hx hb dX11_flips_10 (by decide) ?_
  refine lv_icmp_ge (tgt := 28) hx hb dX11_flips_11 (by decide) (fun c11 => absurd c11 (by decide)) (fun _ => ?_)
  refine lv_iload_n hx hb dX11_flips_14 rfl (lv_at hl 1 rfl) ?_
  refine lv_aload_n hx hb dX11_flips_15 rfl (lv_at hl 2 rfl) ?_
  refine lv_iload_n hx hb dX11_flips_16 rfl (lv_at hl 0 rfl) ?_
  obtain ⟨w9, eP9, kW9, nW9, zW9, eW9⟩ := zMd_f hM hM0 (p := 0) (by decide)
  refine zcV_i (As := [.int 0]) (rest := [.int 0]) (n9 := 1) (b := (b 0)) C hw (c_X11_many l D y base (zsI S 240 (b 0) 0) (b 0) (b 2) w9 0 hM.1 hM.2.2.1 hM.2.2.2.2.2.2.2.2.2.1 hM.2.2.2.2.2.2.2.2.2.2.1 (by first | assumption | grind) eP9 kW9 nW9) gX11_flips_X11_many rfl (by decide +kernel) ⟨⟨rfl, rfl⟩, Nat.le_of_ble_eq_true rfl, Nat.le_of_ble_eq_true rfl⟩ hM.1 ⟨by decide, by decide⟩ rfl rfl hl.1 rfl (Nat.le_of_ble_eq_true rfl) ⟨Nat.le_of_ble_eq_true rfl, Nat.le_of_ble_eq_true rfl⟩ dX11_flips_17 (fun r17 S17 H locs hp17 hw => ?_)
  obtain ⟨rfl, hS9⟩ := hp17
  have hS9 := hS9.symm
  subst hS9
  refine zrd (x := 0) (zmany0 (S := S) zW9) ?_
  refine lv_iadd hx hb dX11_flips_20 ?_
  refine zrd (x := 0) (by decide) ?_
  refine lv_istore_n (lv' := [(1, .int 0), (2, .int 0), (0, .ref (b 0))]) hx hb dX11_flips_21 rfl hl (by decide) rfl (fun ls hl => ?_)
  refine lv_iinc (v := 1) (lv' := [(2, .int 1), (1, .int 0), (0, .ref (b 0))]) hx hb dX11_flips_22 hl (k := 1) rfl (by decide) (by decide) rfl (fun ls hl => ?_)
  refine lv_goto (tgt := 9) hx hb dX11_flips_25 (by decide) ?_
  refine lv_iload_n hx hb dX11_flips_9 rfl (lv_at hl 0 rfl) ?_
  refine lv_iconst (v := 4) hx hb dX11_flips_10 (by decide) ?_
  refine lv_icmp_ge (tgt := 28) hx hb dX11_flips_11 (by decide) (fun c11 => absurd c11 (by decide)) (fun _ => ?_)
  refine lv_iload_n hx hb dX11_flips_14 rfl (lv_at hl 1 rfl) ?_
  refine lv_aload_n hx hb dX11_flips_15 rfl (lv_at hl 2 rfl) ?_
  refine lv_iload_n hx hb dX11_flips_16 rfl (lv_at hl 0 rfl) ?_
  obtain ⟨w9, eP9, kW9, nW9, zW9, eW9⟩ := zMd_f hM hM0 (p := 1) (by decide)
  refine zcV_i (As := [.int 1]) (rest := [.int 0]) (n9 := 1) (b := (b 0)) C hw (c_X11_many l D y base (zsI S 240 (b 0) 0) (b 0) (b 2) w9 1 hM.1 hM.2.2.1 hM.2.2.2.2.2.2.2.2.2.1 hM.2.2.2.2.2.2.2.2.2.2.1 (by first | assumption | grind) eP9 kW9 nW9) gX11_flips_X11_many rfl (by decide +kernel) ⟨⟨rfl, rfl⟩, Nat.le_of_ble_eq_true rfl, Nat.le_of_ble_eq_true rfl⟩ hM.1 ⟨by decide, by decide⟩ rfl rfl hl.1 rfl (Nat.le_of_ble_eq_true rfl) ⟨Nat.le_of_ble_eq_true rfl, Nat.le_of_ble_eq_true rfl⟩ dX11_flips_17 (fun r17 S17 H locs hp17 hw => ?_)
  obtain ⟨rfl, hS9⟩ := hp17
  have hS9 := hS9.symm
  subst hS9
  refine zrd (x := 0) (zmany0 (S := S) zW9) ?_
  refine lv_iadd hx hb dX11_flips_20 ?_
  refine zrd (x := 0) (by decide) ?_
  refine lv_istore_n (lv' := [(1, .int 0), (2, .int 1), (0, .ref (b 0))]) hx hb dX11_flips_21 rfl hl (by decide) rfl (fun ls hl => ?_)
  refine lv_iinc (v := 2) (lv' := [(2, .int 2), (1, .int 0), (0, .ref (b 0))]) hx hb dX11_flips_22 hl (k := 1) rfl (by decide) (by decide) rfl (fun ls hl => ?_)
  refine lv_goto (tgt := 9) hx hb dX11_flips_25 (by decide) ?_
  refine lv_iload_n hx hb dX11_flips_9 rfl (lv_at hl 0 rfl) ?_
  refine lv_iconst (v := 4) hx hb dX11_flips_10 (by decide) ?_
  refine lv_icmp_ge (tgt := 28) hx hb dX11_flips_11 (by decide) (fun c11 => absurd c11 (by decide)) (fun _ => ?_)
  refine lv_iload_n hx hb dX11_flips_14 rfl (lv_at hl 1 rfl) ?_
  refine lv_aload_n hx hb dX11_flips_15 rfl (lv_at hl 2 rfl) ?_
  refine lv_iload_n hx hb dX11_flips_16 rfl (lv_at hl 0 rfl) ?_
  obtain ⟨w9, eP9, kW9, nW9, zW9, eW9⟩ := zMd_f hM hM0 (p := 2) (by decide)
  refine zcV_i (As := [.int 2]) (rest := [.int 0]) (n9 := 1) (b := (b 0)) C hw (c_X11_many l D y base (zsI S 240 (b 0) 0) (b 0) (b 2) w9 2 hM.1 hM.2.2.1 hM.2.2.2.2.2.2.2.2.2.1 hM.2.2.2.2.2.2.2.2.2.2.1 (by first | assumption | grind) eP9 kW9 nW9) gX11_flips_X11_many rfl (by decide +kernel) ⟨⟨rfl, rfl⟩, Nat.le_of_ble_eq_true rfl, Nat.le_of_ble_eq_true rfl⟩ hM.1 ⟨by decide, by decide⟩ rfl rfl hl.1 rfl (Nat.le_of_ble_eq_true rfl) ⟨Nat.le_of_ble_eq_true rfl, Nat.le_of_ble_eq_true rfl⟩ dX11_flips_17 (fun r17 S17 H locs hp17 hw => ?_)
  obtain ⟨rfl, hS9⟩ := hp17
  have hS9 := hS9.symm
  subst hS9
  refine zrd (x := 0) (zmany0 (S := S) zW9) ?_
  refine lv_iadd hx hb dX11_flips_20 ?_
  refine zrd (x := 0) (by decide) ?_
  refine lv_istore_n (lv' := [(1, .int 0), (2, .int 2), (0, .ref (b 0))]) hx hb dX11_flips_21 rfl hl (by decide) rfl (fun ls hl => ?_)
  refine lv_iinc (v := 3) (lv' := [(2, .int 3), (1, .int 0), (0, .ref (b 0))]) hx hb dX11_flips_22 hl (k := 1) rfl (by decide) (by decide) rfl (fun ls hl => ?_)
  refine lv_goto (tgt := 9) hx hb dX11_flips_25 (by decide) ?_
  refine lv_iload_n hx hb dX11_flips_9 rfl (lv_at hl 0 rfl) ?_
  refine lv_iconst (v := 4) hx hb dX11_flips_10 (by decide) ?_
  refine lv_icmp_ge (tgt := 28) hx hb dX11_flips_11 (by decide) (fun c11 => absurd c11 (by decide)) (fun _ => ?_)
  refine lv_iload_n hx hb dX11_flips_14 rfl (lv_at hl 1 rfl) ?_
  refine lv_aload_n hx hb dX11_flips_15 rfl (lv_at hl 2 rfl) ?_
  refine lv_iload_n hx hb dX11_flips_16 rfl (lv_at hl 0 rfl) ?_
  obtain ⟨w9, eP9, kW9, nW9, zW9, eW9⟩ := zMd_f hM hM0 (p := 3) (by decide)
  refine zcV_i (As := [.int 3]) (rest := [.int 0]) (n9 := 1) (b := (b 0)) C hw (c_X11_many l D y base (zsI S 240 (b 0) 0) (b 0) (b 2) w9 3 hM.1 hM.2.2.1 hM.2.2.2.2.2.2.2.2.2.1 hM.2.2.2.2.2.2.2.2.2.2.1 (by first | assumption | grind) eP9 kW9 nW9) gX11_flips_X11_many rfl (by decide +kernel) ⟨⟨rfl, rfl⟩, Nat.le_of_ble_eq_true rfl, Nat.le_of_ble_eq_true rfl⟩ hM.1 ⟨by decide, by decide⟩ rfl rfl hl.1 rfl (Nat.le_of_ble_eq_true rfl) ⟨Nat.le_of_ble_eq_true rfl, Nat.le_of_ble_eq_true rfl⟩ dX11_flips_17 (fun r17 S17 H locs hp17 hw => ?_)
  obtain ⟨rfl, hS9⟩ := hp17
  have hS9 := hS9.symm
  subst hS9
  refine zrd (x := 0) (zmany0 (S := S) zW9) ?_
  refine lv_iadd hx hb dX11_flips_20 ?_
  refine zrd (x := 0) (by decide) ?_
  refine lv_istore_n (lv' := [(1, .int 0), (2, .int 3), (0, .ref (b 0))]) hx hb dX11_flips_21 rfl hl (by decide) rfl (fun ls hl => ?_)
  refine lv_iinc (v := 4) (lv' := [(2, .int 4), (1, .int 0), (0, .ref (b 0))]) hx hb dX11_flips_22 hl (k := 1) rfl (by decide) (by decide) rfl (fun ls hl => ?_)
  refine lv_goto (tgt := 9) hx hb dX11_flips_25 (by decide) ?_
  refine lv_iload_n hx hb dX11_flips_9 rfl (lv_at hl 0 rfl) ?_
  refine lv_iconst (v := 4) hx hb dX11_flips_10 (by decide) ?_
  refine lv_icmp_ge (tgt := 28) hx hb dX11_flips_11 (by decide) (fun _ => ?_) (fun c11 => absurd c11 (by decide))
  refine lv_iload_n hx hb dX11_flips_28 rfl (lv_at hl 1 rfl) ?_
  exact zri C hw hr hlocks rfl ⟨hM.1, (by first | rfl | exact rfl | ((try unfold zb); grind))⟩ ⟨Nat.le_of_ble_eq_true rfl, Nat.le_of_ble_eq_true rfl⟩ dX11_flips_29

set_option maxHeartbeats 4000000 in
set_option maxRecDepth 100000 in
/-- X11_flip -/
theorem c_X11_flip (l : Launch) (D : va_G) (y : Nat → ClassId) (base : Nat) (S : zS) (b : Nat → Nat) (p0 : Int32) (p1 : Int32) (hM : zMd S b) (hM0 : zMd0 S b) : zMi l yX11_flip wsX11_flip ({ frames := 3, cells := 0, slots := 0, locals := 66 }) [.ref (b 0), .int p0, .int p1] D y base S (fun (r : Int32) (S1 : zS) => zK S1 (b 0) = 15 ∧ zI S1 240 (b 0) = kd_flip p0 p1 ∧ (kd_flip p0 p1 = 0 → r = 1)) 0 0 := by
  refine zMet_of (cc := cX11_flip) (maxL := 3) (ret := (some .int)) (own := RX11) (by decide +kernel) rfl rfl (Nat.le_of_ble_eq_true rfl) ?_
  intro p e s m args below meth c ls C hr hlocks hnm hw hl
  have hx := C.1
  have hb := C.2.1
  have hown := C.2.2.2.1
  have hts := C.2.2.2.2
  have hl : lv_has ls 3 [(0, .ref (b 0)), (1, .int p0), (2, .int p1)] := hl
  have in_X11 : ∀ w ∈ wsX110, w ∈ wsX11_flip := by decide +kernel
  refine lv_aload_n hx hb dX11_flip_0 rfl (lv_at hl 0 rfl) ?_
  refine lv_iload_n hx hb dX11_flip_1 rfl (lv_at hl 1 rfl) ?_
  refine zcV_i (As := [.int p0]) (rest := []) (n9 := 1) (b := (b 0)) C hw (c_X11_noWire l D y base S (b 0) p0 hM.1) gX11_flip_X11_noWire rfl (by decide +kernel) ⟨⟨rfl, rfl⟩, Nat.le_of_ble_eq_true rfl, Nat.le_of_ble_eq_true rfl⟩ hM.1 ⟨by decide, by decide⟩ rfl rfl hl.1 rfl (Nat.le_of_ble_eq_true rfl) ⟨Nat.le_of_ble_eq_true rfl, Nat.le_of_ble_eq_true rfl⟩ dX11_flip_2 (fun r2 S2 H locs hp2 hw => ?_)
  obtain ⟨rfl, rfl⟩ := hp2
  refine lv_if_eq (tgt := 10) hx hb dX11_flip_5 (by decide) (fun c5 => ?_) (fun c5 => ?_)
  · replace c5 := zb0.mp c5
    refine lv_aload_n hx hb dX11_flip_10 rfl (lv_at hl 0 rfl) ?_
    refine lv_iload_n hx hb dX11_flip_11 rfl (lv_at hl 2 rfl) ?_
    refine lv_i2l (v := p1.toInt64) hx hb dX11_flip_12 rfl ?_
    refine lv_lconst (v := ((0 : Int32).toInt64)) hx hb dX11_flip_13 (by decide) ?_
    refine lv_ldc2 (own := RX11) (v := ((9999 : Int32).toInt64)) hx hb hown (hts (.constantLong RX11 60 (9999)) (by decide +kernel)) dX11_flip_14 ?_
    refine zcS_i (As := [.long (p1.toInt64), .long ((0 : Int32).toInt64), .long ((9999 : Int32).toInt64)]) (rest := [.ref (b 0)]) (n9 := 3) C hw (c_X11_in l D y base (zsI S 240 (b 0) (zb (¬ (0 ≤ p0 ∧ p0 ≤ 3)))) p1 (0 : Int32) (9999 : Int32) ) gX11_flip_X11_in rfl (by decide +kernel) ⟨⟨rfl, rfl⟩, Nat.le_of_ble_eq_true rfl, Nat.le_of_ble_eq_true rfl⟩ rfl hl.1 rfl (Nat.le_of_ble_eq_true rfl) ⟨Nat.le_of_ble_eq_true rfl, Nat.le_of_ble_eq_true rfl⟩ dX11_flip_17 (fun r17 S17 H locs hp17 hw => ?_)
    obtain ⟨rfl, hS9⟩ := hp17
    have hS9 := hS9.symm
    subst hS9
    refine lv_if_ne (tgt := 27) hx hb dX11_flip_20 (by decide) (fun c20 => ?_) (fun c20 => ?_)
    · replace c20 := zb1.mp c20
      refine lv_aload_n hx hb dX11_flip_27 rfl (lv_at hl 0 rfl) ?_
      refine g_Mod_flips (a := (b 0)) (v := (b 2)) C hw hM.1 in_X11 (by decide +kernel) hM.2.2.1 dX11_flip_28 ?_
      refine lv_iload_n hx hb dX11_flip_31 rfl (lv_at hl 1 rfl) ?_
      obtain ⟨w1, eP1, kW1, nW1, zW1, eW1⟩ := zMd_f hM hM0 (p := p0) (by first | assumption | grind)
      refine zald_P (a := (b 2)) (v := w1) C hw hM.2.2.2.2.2.2.2.2.2.1 (by decide) (t0 := 8) rfl rfl hM.2.2.2.2.2.2.2.2.2.2.1 (zin_of (N := 4) (by decide) (by grind) (by grind)) eP1 dX11_flip_32 ?_
      refine lv_iload_n hx hb dX11_flip_33 rfl (lv_at hl 2 rfl) ?_
      refine zald_Z (a := w1) C hw kW1 nW1 (zin_of (N := 10000) (by decide) (by grind) (by grind)) dX11_flip_34 ?_
      refine zrd (x := 0) (zW1 _) ?_
      refine lv_if_ne (tgt := 53) hx hb dX11_flip_35 (by decide) (fun c35 => absurd c35 (by decide)) (fun _ => ?_)
      refine lv_aload_n hx hb dX11_flip_38 rfl (lv_at hl 0 rfl) ?_
      refine lv_iload_n hx hb dX11_flip_39 rfl (lv_at hl 1 rfl) ?_
      obtain ⟨w9, eP9, kW9, nW9, zW9, eW9⟩ := zMd_f hM hM0 (p := p0) (by first | assumption | grind)
      refine zcV_i (As := [.int p0]) (rest := [.ref (b 0)]) (n9 := 1) (b := (b 0)) C hw (c_X11_many l D y base (zsI S 240 (b 0) (zb (¬ (0 ≤ p0 ∧ p0 ≤ 3)))) (b 0) (b 2) w9 p0 hM.1 hM.2.2.1 hM.2.2.2.2.2.2.2.2.2.1 hM.2.2.2.2.2.2.2.2.2.2.1 (by first | assumption | grind) eP9 kW9 nW9) gX11_flip_X11_many rfl (by decide +kernel) ⟨⟨rfl, rfl⟩, Nat.le_of_ble_eq_true rfl, Nat.le_of_ble_eq_true rfl⟩ hM.1 ⟨by decide, by decide⟩ rfl rfl hl.1 rfl (Nat.le_of_ble_eq_true rfl) ⟨Nat.le_of_ble_eq_true rfl, Nat.le_of_ble_eq_true rfl⟩ dX11_flip_40 (fun r40 S40 H locs hp40 hw => ?_)
      obtain ⟨rfl, hS9⟩ := hp40
      have hS9 := hS9.symm
      subst hS9
      refine zrd (x := 0) (zmany0 (S := S) zW9) ?_
      refine lv_sipush (v := 300) hx hb dX11_flip_43 (by decide) ?_
      refine lv_icmp_ne (tgt := 53) hx hb dX11_flip_46 (by decide) (fun _ => ?_) (fun c46 => absurd c46 (by decide))
      refine lv_iconst (v := 0) hx hb dX11_flip_53 (by decide) ?_
      refine p_Mod_thrown (a := (b 0)) (v := 0) C hw hM.1 in_X11 (by decide +kernel) dX11_flip_54 (fun H locs hw => ?_)
      refine lv_aload_n hx hb dX11_flip_57 rfl (lv_at hl 0 rfl) ?_
      refine g_Mod_thrown (a := (b 0)) (v := 0) C hw hM.1 in_X11 (by decide +kernel) (zI_s (zsI S 240 (b 0) (zb (¬ (0 ≤ p0 ∧ p0 ≤ 3)))) 240 (b 0) 0) dX11_flip_58 ?_
      refine lv_if_le (tgt := 66) hx hb dX11_flip_61 (by decide) (fun _ => ?_) (fun c61 => absurd c61 (by decide))
      refine lv_aload_n hx hb dX11_flip_66 rfl (lv_at hl 0 rfl) ?_
      refine g_Mod_flips (a := (b 0)) (v := (b 2)) C hw hM.1 in_X11 (by decide +kernel) hM.2.2.1 dX11_flip_67 ?_
      refine lv_iload_n hx hb dX11_flip_70 rfl (lv_at hl 1 rfl) ?_
      refine zald_P (a := (b 2)) (v := w1) C hw hM.2.2.2.2.2.2.2.2.2.1 (by decide) (t0 := 8) rfl rfl hM.2.2.2.2.2.2.2.2.2.2.1 (zin_of (N := 4) (by decide) (by grind) (by grind)) eP1 dX11_flip_71 ?_
      refine lv_iload_n hx hb dX11_flip_72 rfl (lv_at hl 2 rfl) ?_
      refine lv_aload_n hx hb dX11_flip_73 rfl (lv_at hl 0 rfl) ?_
      refine g_Mod_flips (a := (b 0)) (v := (b 2)) C hw hM.1 in_X11 (by decide +kernel) hM.2.2.1 dX11_flip_74 ?_
      refine lv_iload_n hx hb dX11_flip_77 rfl (lv_at hl 1 rfl) ?_
      refine zald_P (a := (b 2)) (v := w1) C hw hM.2.2.2.2.2.2.2.2.2.1 (by decide) (t0 := 8) rfl rfl hM.2.2.2.2.2.2.2.2.2.2.1 (zin_of (N := 4) (by decide) (by grind) (by grind)) eP1 dX11_flip_78 ?_
      refine lv_iload_n hx hb dX11_flip_79 rfl (lv_at hl 2 rfl) ?_
      refine zald_Z (a := w1) C hw kW1 nW1 (zin_of (N := 10000) (by decide) (by grind) (by grind)) dX11_flip_80 ?_
      refine zrd (x := 0) (zW1 _) ?_
      refine lv_if_ne (tgt := 88) hx hb dX11_flip_81 (by decide) (fun c81 => absurd c81 (by decide)) (fun _ => ?_)
      refine lv_iconst (v := 1) hx hb dX11_flip_84 (by decide) ?_
      refine lv_goto (tgt := 89) hx hb dX11_flip_85 (by decide) ?_
      refine zast_Z (a := w1) C hw kW1 nW1 (zin_of (N := 10000) (by decide) (by grind) (by grind)) dX11_flip_89 (fun H locs hw => ?_)
      refine lv_aload_n hx hb dX11_flip_90 rfl (lv_at hl 0 rfl) ?_
      refine lv_iload_n hx hb dX11_flip_91 rfl (lv_at hl 1 rfl) ?_
      refine zcV_i (As := [.int p0]) (rest := []) (n9 := 1) (b := (b 0)) C hw (c_X11_many l D y base (zsR (zsI (zsI S 240 (b 0) (zb (¬ (0 ≤ p0 ∧ p0 ≤ 3)))) 240 (b 0) 0) 23 w1 (upd (zR (zsI (zsI S 240 (b 0) (zb (¬ (0 ≤ p0 ∧ p0 ≤ 3)))) 240 (b 0) 0) 23 w1) (p1).toNatClampNeg (vp_nar .boolean 1))) (b 0) (b 2) w1 p0 hM.1 hM.2.2.1 hM.2.2.2.2.2.2.2.2.2.1 hM.2.2.2.2.2.2.2.2.2.2.1 (by first | assumption | grind) eP1 kW1 nW1) gX11_flip_X11_many rfl (by decide +kernel) ⟨⟨rfl, rfl⟩, Nat.le_of_ble_eq_true rfl, Nat.le_of_ble_eq_true rfl⟩ hM.1 ⟨by decide, by decide⟩ rfl rfl hl.1 rfl (Nat.le_of_ble_eq_true rfl) ⟨Nat.le_of_ble_eq_true rfl, Nat.le_of_ble_eq_true rfl⟩ dX11_flip_92 (fun r92 S92 H locs hp92 hw => ?_)
      obtain ⟨rfl, hS9⟩ := hp92
      have hS9 := hS9.symm
      subst hS9
      refine zrd (x := 1) (zmany1 (S := S) zW1 (by grind) (by decide)) ?_
      exact zri C hw hr hlocks rfl ⟨hM.1, ((zI_s (zsI S 240 (b 0) (zb (¬ (0 ≤ p0 ∧ p0 ≤ 3)))) 240 (b 0) 0)).trans (by unfold kd_flip; (try unfold zb); grind), (fun h9 => by first | rfl | (revert h9; unfold kd_flip; (try unfold zb); grind))⟩ ⟨Nat.le_of_ble_eq_true rfl, Nat.le_of_ble_eq_true rfl⟩ dX11_flip_95
    · replace c20 := zb0.mp c20
      refine lv_iconst (v := 2) hx hb dX11_flip_23 (by decide) ?_
      refine lv_goto (tgt := 54) hx hb dX11_flip_24 (by decide) ?_
      refine p_Mod_thrown (a := (b 0)) (v := 2) C hw hM.1 in_X11 (by decide +kernel) dX11_flip_54 (fun H locs hw => ?_)
      refine lv_aload_n hx hb dX11_flip_57 rfl (lv_at hl 0 rfl) ?_
      refine g_Mod_thrown (a := (b 0)) (v := 2) C hw hM.1 in_X11 (by decide +kernel) (zI_s (zsI S 240 (b 0) (zb (¬ (0 ≤ p0 ∧ p0 ≤ 3)))) 240 (b 0) 2) dX11_flip_58 ?_
      refine lv_if_le (tgt := 66) hx hb dX11_flip_61 (by decide) (fun c61 => absurd c61 (by decide)) (fun _ => ?_)
      refine lv_iconst (v := 0) hx hb dX11_flip_64 (by decide) ?_
      exact zri C hw hr hlocks rfl ⟨hM.1, ((zI_s (zsI S 240 (b 0) (zb (¬ (0 ≤ p0 ∧ p0 ≤ 3)))) 240 (b 0) 2)).trans (by unfold kd_flip; (try unfold zb); grind), (fun h9 => by first | rfl | (revert h9; unfold kd_flip; (try unfold zb); grind))⟩ ⟨Nat.le_of_ble_eq_true rfl, Nat.le_of_ble_eq_true rfl⟩ dX11_flip_65
  · replace c5 := zb1.mp c5
    refine lv_iconst (v := 0) hx hb dX11_flip_8 (by decide) ?_
    exact zri C hw hr hlocks rfl ⟨hM.1, ((zI_s S 240 (b 0) (zb (¬ (0 ≤ p0 ∧ p0 ≤ 3))))).trans (by unfold kd_flip; (try unfold zb); grind), (fun h9 => by first | rfl | (revert h9; unfold kd_flip; (try unfold zb); grind))⟩ ⟨Nat.le_of_ble_eq_true rfl, Nat.le_of_ble_eq_true rfl⟩ dX11_flip_9

set_option maxHeartbeats 4000000 in
set_option maxRecDepth 100000 in
/-- X11_best -/
theorem c_X11_best (l : Launch) (D : va_G) (y : Nat → ClassId) (base : Nat) (S : zS) (b : Nat → Nat) (p0 : Int32) (hM : zMd S b) (hM0 : zMd0 S b) : zMi l yX11_best wsX11_best ({ frames := 1, cells := 0, slots := 0, locals := 25 }) [.ref (b 0), .int p0] D y base S (fun (r : Int32) (S1 : zS) => zK S1 (b 0) = 15 ∧ zI S1 240 (b 0) = kd_best p0 ∧ (kd_best p0 = 0 → r = 0)) 0 0 := by
  refine zMet_of (cc := cX11_best) (maxL := 4) (ret := (some .int)) (own := RX11) (by decide +kernel) rfl rfl (Nat.le_of_ble_eq_true rfl) ?_
  intro p e s m args below meth c ls C hr hlocks hnm hw hl
  have hx := C.1
  have hb := C.2.1
  have hown := C.2.2.2.1
  have hts := C.2.2.2.2
  have hl : lv_has ls 4 [(0, .ref (b 0)), (1, .int p0)] := hl
  have in_X11 : ∀ w ∈ wsX110, w ∈ wsX11_best := by decide +kernel
  refine lv_aload_n hx hb dX11_best_0 rfl (lv_at hl 0 rfl) ?_
  refine lv_iload_n hx hb dX11_best_1 rfl (lv_at hl 1 rfl) ?_
  refine lv_i2l (v := p0.toInt64) hx hb dX11_best_2 rfl ?_
  refine lv_lconst (v := ((0 : Int32).toInt64)) hx hb dX11_best_3 (by decide) ?_
  refine lv_ldc2 (own := RX11) (v := ((99 : Int32).toInt64)) hx hb hown (hts (.constantLong RX11 75 (99)) (by decide +kernel)) dX11_best_4 ?_
  refine zcS_i (As := [.long (p0.toInt64), .long ((0 : Int32).toInt64), .long ((99 : Int32).toInt64)]) (rest := [.ref (b 0)]) (n9 := 3) C hw (c_X11_in l D y base S p0 (0 : Int32) (99 : Int32) ) gX11_best_X11_in rfl (by decide +kernel) ⟨⟨rfl, rfl⟩, Nat.le_of_ble_eq_true rfl, Nat.le_of_ble_eq_true rfl⟩ rfl hl.1 rfl (Nat.le_of_ble_eq_true rfl) ⟨Nat.le_of_ble_eq_true rfl, Nat.le_of_ble_eq_true rfl⟩ dX11_best_7 (fun r7 S7 H locs hp7 hw => ?_)
  obtain ⟨rfl, hS9⟩ := hp7
  have hS9 := hS9.symm
  subst hS9
  refine lv_if_ne (tgt := 17) hx hb dX11_best_10 (by decide) (fun c10 => ?_) (fun c10 => ?_)
  · replace c10 := zb1.mp c10
    refine lv_aload_n hx hb dX11_best_17 rfl (lv_at hl 0 rfl) ?_
    refine g_Mod_samples (a := (b 0)) (v := (b 3)) C hw hM.1 in_X11 (by decide +kernel) hM.2.2.2.1 dX11_best_18 ?_
    refine lv_iconst (v := 0) hx hb dX11_best_21 (by decide) ?_
    obtain ⟨w0, eP0, kW0, nW0⟩ := zMd_s hM (p := 0) (by decide)
    refine zald_P (a := (b 3)) (v := w0) C hw hM.2.2.2.2.2.2.2.2.2.2.2.1 (by decide) (t0 := 7) rfl rfl hM.2.2.2.2.2.2.2.2.2.2.2.2.1 (zin_of (N := 2) (by decide) (by grind) (by grind)) eP0 dX11_best_22 ?_
    refine zalen (a := w0) (v := 0) C hw kW0 (by decide) (t0 := 1) rfl (zlen nW0 rfl) dX11_best_23 ?_
    refine lv_if_eq (tgt := 37) hx hb dX11_best_24 (by decide) (fun _ => ?_) (fun c24 => absurd c24 (by decide))
    refine lv_iconst (v := 2) hx hb dX11_best_37 (by decide) ?_
    refine lv_goto (tgt := 42) hx hb dX11_best_38 (by decide) ?_
    refine p_Mod_thrown (a := (b 0)) (v := 2) C hw hM.1 in_X11 (by decide +kernel) dX11_best_42 (fun H locs hw => ?_)
    refine lv_aload_n hx hb dX11_best_45 rfl (lv_at hl 0 rfl) ?_
    refine g_Mod_thrown (a := (b 0)) (v := 2) C hw hM.1 in_X11 (by decide +kernel) (zI_s S 240 (b 0) 2) dX11_best_46 ?_
    refine lv_if_le (tgt := 54) hx hb dX11_best_49 (by decide) (fun c49 => absurd c49 (by decide)) (fun _ => ?_)
    refine lv_iconst (v := 0) hx hb dX11_best_52 (by decide) ?_
    exact zri C hw hr hlocks rfl ⟨hM.1, ((zI_s S 240 (b 0) 2)).trans (by unfold kd_best; (try unfold zb); grind), (fun h9 => by first | rfl | (revert h9; unfold kd_best; (try unfold zb); grind))⟩ ⟨Nat.le_of_ble_eq_true rfl, Nat.le_of_ble_eq_true rfl⟩ dX11_best_53
  · replace c10 := zb0.mp c10
    refine lv_iconst (v := 1) hx hb dX11_best_13 (by decide) ?_
    refine lv_goto (tgt := 42) hx hb dX11_best_14 (by decide) ?_
    refine p_Mod_thrown (a := (b 0)) (v := 1) C hw hM.1 in_X11 (by decide +kernel) dX11_best_42 (fun H locs hw => ?_)
    refine lv_aload_n hx hb dX11_best_45 rfl (lv_at hl 0 rfl) ?_
    refine g_Mod_thrown (a := (b 0)) (v := 1) C hw hM.1 in_X11 (by decide +kernel) (zI_s S 240 (b 0) 1) dX11_best_46 ?_
    refine lv_if_le (tgt := 54) hx hb dX11_best_49 (by decide) (fun c49 => absurd c49 (by decide)) (fun _ => ?_)
    refine lv_iconst (v := 0) hx hb dX11_best_52 (by decide) ?_
    exact zri C hw hr hlocks rfl ⟨hM.1, ((zI_s S 240 (b 0) 1)).trans (by unfold kd_best; (try unfold zb); grind), (fun h9 => by first | rfl | (revert h9; unfold kd_best; (try unfold zb); grind))⟩ ⟨Nat.le_of_ble_eq_true rfl, Nat.le_of_ble_eq_true rfl⟩ dX11_best_53

