set_option maxHeartbeats 4000000 in
set_option maxRecDepth 100000 in
/-- Jx35411_hasNext_aae02 -/
theorem c_Jx35411_hasNext_aae02 (l : Launch) (D : va_G) (y : Nat → ClassId) (base : Nat) (S : zS) (t0 : Nat) (l0 : Nat) (hk : zK S t0 = 2) (hq : zQ S 35 t0 = some l0) (hl0 : zK S l0 = 3) (h32 : zI S 32 t0 = 0) (h50 : zI S 50 l0 = 0) : zMi l yJx35411_hasNext_aae02 wsJx35411_hasNext_aae02 ({ frames := 0, cells := 0, slots := 0, locals := 0 }) [.ref t0] D y base S (fun (r : Int32) (S1 : zS) => r = 0 ∧ S1 = S) 0 0 := by
  refine zMet_of (cc := cJx35411_hasNext_aae02) (maxL := 1) (ret := (some .boolean)) (own := RJx35411) (by decide +kernel) rfl rfl (Nat.le_of_ble_eq_true rfl) ?_
  intro p e s m args below meth c ls C hr hlocks hnm hw hl
  have hx := C.1
  have hb := C.2.1
  have hown := C.2.2.2.1
  have hts := C.2.2.2.2
  have hl : lv_has ls 1 [(0, .ref t0)] := hl
  have in_Jx35411 : ∀ w ∈ wsJx354110, w ∈ wsJx35411_hasNext_aae02 := by decide +kernel
  have in_Jx4a65c : ∀ w ∈ wsJx4a65c0, w ∈ wsJx35411_hasNext_aae02 := by decide +kernel
  refine lv_aload_n hx hb dJx35411_hasNext_aae02_0 rfl (lv_at hl 0 rfl) ?_
  refine g_Itr_cursor (a := t0) (v := 0) C hw hk in_Jx35411 (by decide +kernel) h32 dJx35411_hasNext_aae02_1 ?_
  refine lv_aload_n hx hb dJx35411_hasNext_aae02_4 rfl (lv_at hl 0 rfl) ?_
  refine g_Itr_this_0 (a := t0) (v := l0) C hw hk in_Jx35411 (by decide +kernel) hq dJx35411_hasNext_aae02_5 ?_
  refine zgetN (a := l0) (k := 3) (j := 2) (b := false) (v := .int 0) (ref := "java/util/ArrayList") (host := "java/util/ArrayList") (Cn := RJx4a65c) (T := TJx4a65c) (N := 3) C hw hl0 (by decide) (by decide) rfl in_Jx4a65c rfl (by decide) (by decide +kernel) (fun _ h => h) (show Value.int (zI S 50 l0) = .int 0 by rw [show zI S 50 l0 = 0 from h50]) dJx35411_hasNext_aae02_8 ?_
  refine lv_icmp_eq (tgt := 18) hx hb dJx35411_hasNext_aae02_11 (by decide) (fun _ => ?_) (fun c11 => absurd c11 (by decide))
  refine lv_iconst (v := 0) hx hb dJx35411_hasNext_aae02_18 (by decide) ?_
  exact zri C hw hr hlocks (by decide) (by first | exact ⟨rfl, rfl⟩ | exact rfl | (refine ⟨?_, rfl⟩; grind) | grind) ⟨Nat.le_of_ble_eq_true rfl, Nat.le_of_ble_eq_true rfl⟩ dJx35411_hasNext_aae02_19

set_option maxHeartbeats 4000000 in
set_option maxRecDepth 100000 in
/-- Jx35411_init_45d68 -/
theorem c_Jx35411_init_45d68 (l : Launch) (D : va_G) (y : Nat → ClassId) (base : Nat) (S : zS) (t0 : Nat) (l0 : Nat) (hk : zK S t0 = 2) (hl0 : zK S l0 = 3) : zMv l yJx35411_init_45d68 wsJx35411_init_45d68 ({ frames := 1, cells := 0, slots := 0, locals := 12 }) [.ref t0, .ref l0] D y base S (fun (S1 : zS) => ∃ v, S1 = zsI (zsI (zsQ S 35 t0 (some l0)) 33 t0 (-1)) 34 t0 v) 0 0 := by
  refine zMet_of (cc := cJx35411_init_45d68) (maxL := 2) (ret := none) (own := RJx35411) (by decide +kernel) rfl rfl (Nat.le_of_ble_eq_true rfl) ?_
  intro p e s m args below meth c ls C hr hlocks hnm hw hl
  have hx := C.1
  have hb := C.2.1
  have hown := C.2.2.2.1
  have hts := C.2.2.2.2
  have hl : lv_has ls 2 [(0, .ref t0), (1, .ref l0)] := hl
  have in_Jx35411 : ∀ w ∈ wsJx354110, w ∈ wsJx35411_init_45d68 := by decide +kernel
  have in_Jx4a65c : ∀ w ∈ wsJx4a65c0, w ∈ wsJx35411_init_45d68 := by decide +kernel
  refine lv_aload_n hx hb dJx35411_init_45d68_0 rfl (lv_at hl 0 rfl) ?_
  refine lv_aload_n hx hb dJx35411_init_45d68_1 rfl (lv_at hl 1 rfl) ?_
  refine p_Itr_this_0 (a := t0) (v := l0) C hw hk in_Jx35411 (by decide +kernel) hnm rfl dJx35411_init_45d68_2 (fun H locs hw => ?_)
  refine lv_aload_n hx hb dJx35411_init_45d68_5 rfl (lv_at hl 0 rfl) ?_
  refine W.objInit hx hb hown (hts (.methodLink RJx35411 7 objectInit) (by decide +kernel)) (hts (.instanceMethod objectInit) (by decide +kernel)) (hts (.code objectInit ⟨#[0xb1]⟩ 1 none) (by decide +kernel)) rfl (by rw [C.2.2.1]; exact hl.1) rfl dJx35411_init_45d68_6 (Nat.le_of_ble_eq_true rfl) (Nat.le_of_ble_eq_true rfl) ?_
  refine W.eq (g2 := F0 m 9 ls []) rfl ?_
  refine lv_aload_n hx hb dJx35411_init_45d68_9 rfl (lv_at hl 0 rfl) ?_
  refine lv_iconst (v := (-1)) hx hb dJx35411_init_45d68_10 (by decide) ?_
  refine p_Itr_lastRet (a := t0) (v := (-1)) C hw hk in_Jx35411 (by decide +kernel) dJx35411_init_45d68_11 (fun H locs hw => ?_)
  refine lv_aload_n hx hb dJx35411_init_45d68_14 rfl (lv_at hl 0 rfl) ?_
  refine lv_aload_n hx hb dJx35411_init_45d68_15 rfl (lv_at hl 0 rfl) ?_
  refine g_Itr_this_0 (a := t0) (v := l0) C hw hk in_Jx35411 (by decide +kernel) (zQ_s S 35 t0 (some l0)) dJx35411_init_45d68_16 ?_
  refine g_AList_modCount (a := l0) (v := (zI (zsI (zsQ S 35 t0 (some l0)) 33 t0 (-1)) 48 l0)) C hw hl0 in_Jx4a65c (ref := "java/util/ArrayList") (by decide +kernel) (u_same (hts (.sameField "java/util/ArrayList" "java/util/AbstractList" "modCount" "I") (by decide +kernel))) rfl dJx35411_init_45d68_19 ?_
  refine lv_topi (fun x22 ex22 => ?_)
  refine p_Itr_expectedModCount (a := t0) (v := x22) C hw hk in_Jx35411 (by decide +kernel) dJx35411_init_45d68_22 (fun H locs hw => ?_)
  exact zrv C hw hr hlocks ⟨_, rfl⟩ ⟨Nat.le_of_ble_eq_true rfl, Nat.le_of_ble_eq_true rfl⟩ dJx35411_init_45d68_25

set_option maxHeartbeats 4000000 in
set_option maxRecDepth 100000 in
/-- Jx4a65c_iterator_32c93 -/
theorem c_Jx4a65c_iterator_32c93 (l : Launch) (D : va_G) (y : Nat → ClassId) (base : Nat) (S : zS) (l0 : Nat) (hl0 : zK S l0 = 3) : zMr l yJx4a65c_iterator_32c93 wsJx4a65c_iterator_32c93 ({ frames := 2, cells := 1, slots := 4, locals := 33 }) [.ref l0] D y base S (fun (r : Nat) (S1 : zS) => zK S1 r = 2 ∧ zQ S1 35 r = some l0 ∧ zI S1 32 r = 0 ∧ zCls S S1) 1 4 := by
  refine zMet_of (cc := cJx4a65c_iterator_32c93) (maxL := 1) (ret := (some (.object "java/util/Iterator"))) (own := RJx4a65c) (by decide +kernel) rfl rfl (Nat.le_of_ble_eq_true rfl) ?_
  intro p e s m args below meth c ls C hr hlocks hnm hw hl
  have hx := C.1
  have hb := C.2.1
  have hown := C.2.2.2.1
  have hts := C.2.2.2.2
  have hl : lv_has ls 1 [(0, .ref l0)] := hl
  have in_Jx35411 : ∀ w ∈ wsJx354110, w ∈ wsJx4a65c_iterator_32c93 := by decide +kernel
  refine znew (k := 2) (Cn := RJx35411) (T := TJx35411) (N := 4) C hw (by decide) (by decide) rfl in_Jx35411 tyJx35411 tyJx35411_ok (by decide +kernel) (by decide +kernel) (by decide +kernel) (zdfJx35411) (Nat.le_of_ble_eq_true rfl) (Nat.le_of_ble_eq_true rfl) dJx4a65c_iterator_32c93_0 (fun q0 H kq0 hw => ?_)
  refine lv_dup hx hb dJx4a65c_iterator_32c93_3 rfl ?_
  refine lv_aload_n hx hb dJx4a65c_iterator_32c93_4 rfl (lv_at hl 0 rfl) ?_
  refine zcI_v (As := [.ref l0]) (rest := [.ref q0]) (n9 := 1) (b := q0) C hw (c_Jx35411_init_45d68 l D y base (znO S q0 2) q0 l0 (zK_nOs _ _ _) (zK_nO (k := 2) (zne kq0 (fun e9 => absurd (Eq.trans (Eq.symm hl0) e9) (by decide))) hl0)) gJx4a65c_iterator_32c93_Jx35411_init_45d68 rfl (by decide +kernel) (by decide +kernel) (by decide +kernel) rfl (by decide +kernel) ⟨⟨rfl, rfl⟩, Nat.le_of_ble_eq_true rfl, Nat.le_of_ble_eq_true rfl⟩ rfl hl.1 rfl (Nat.le_of_ble_eq_true rfl) ⟨Nat.le_of_ble_eq_true rfl, Nat.le_of_ble_eq_true rfl⟩ dJx4a65c_iterator_32c93_5 (fun S5 H locs hp5 hw => ?_)
  obtain ⟨v5, rfl⟩ := hp5
  exact zrr C hw hr (Or.inl ⟨_, rfl⟩) hlocks ⟨(zK_nOs S q0 2), (zQ_s (znO S q0 2) 35 q0 (some l0)), (show zI (zsI (zsI (zsQ (znO S q0 2) 35 q0 (some l0)) 33 q0 (-1)) 34 q0 v5) 32 q0 = 0 from zI_t (by decide) (zI_t (by decide) (zI_nOs S q0 2 32))), zCls.gv (v := q0) ((zGv.nO kq0).tr (zGv.Q.tr (zGv.I.tr zGv.I))) kq0⟩ ⟨Nat.le_of_ble_eq_true rfl, Nat.le_of_ble_eq_true rfl⟩ dJx4a65c_iterator_32c93_8

set_option maxHeartbeats 4000000 in
set_option maxRecDepth 100000 in
/-- X11_trigger -/
theorem c_X11_trigger (l : Launch) (D : va_G) (y : Nat → ClassId) (base : Nat) (S : zS) (b : Nat → Nat) (p0 : Int32) (hM : zMd S b) (hM0 : zMd0 S b) : zMi l yX11_trigger wsX11_trigger ({ frames := 3, cells := 1, slots := 4, locals := 53 }) [.ref (b 0), .int p0] D y base S (fun (r : Int32) (S1 : zS) => zK S1 (b 0) = 15 ∧ zI S1 240 (b 0) = kd_sample p0 ∧ (kd_sample p0 = 0 → r = 0)) 1 4 := by
  refine zMet_of (cc := cX11_trigger) (maxL := 5) (ret := (some .int)) (own := RX11) (by decide +kernel) rfl rfl (Nat.le_of_ble_eq_true rfl) ?_
  intro p e s m args below meth c ls C hr hlocks hnm hw hl
  have hx := C.1
  have hb := C.2.1
  have hown := C.2.2.2.1
  have hts := C.2.2.2.2
  have hl : lv_has ls 5 [(0, .ref (b 0)), (1, .int p0)] := hl
  have in_X11 : ∀ w ∈ wsX110, w ∈ wsX11_trigger := by decide +kernel
  refine lv_aload_n hx hb dX11_trigger_0 rfl (lv_at hl 0 rfl) ?_
  refine lv_iload_n hx hb dX11_trigger_1 rfl (lv_at hl 1 rfl) ?_
  refine zcV_i (As := [.int p0]) (rest := []) (n9 := 1) (b := (b 0)) C hw (c_X11_noCapture l D y base S (b 0) p0 hM.1) gX11_trigger_X11_noCapture rfl (by decide +kernel) ⟨⟨rfl, rfl⟩, Nat.le_of_ble_eq_true rfl, Nat.le_of_ble_eq_true rfl⟩ hM.1 ⟨by decide, by decide⟩ rfl rfl hl.1 rfl (Nat.le_of_ble_eq_true rfl) ⟨Nat.le_of_ble_eq_true rfl, Nat.le_of_ble_eq_true rfl⟩ dX11_trigger_2 (fun r2 S2 H locs hp2 hw => ?_)
  obtain ⟨rfl, rfl⟩ := hp2
  refine lv_if_eq (tgt := 10) hx hb dX11_trigger_5 (by decide) (fun c5 => ?_) (fun c5 => ?_)
  · replace c5 := zb0.mp c5
    refine lv_aload_n hx hb dX11_trigger_10 rfl (lv_at hl 0 rfl) ?_
    refine lv_aload_n hx hb dX11_trigger_11 rfl (lv_at hl 0 rfl) ?_
    refine g_Mod_steps (a := (b 0)) (v := (b 4)) C hw hM.1 in_X11 (by decide +kernel) hM.2.2.2.2.1 dX11_trigger_12 ?_
    refine zcV_i (As := []) (rest := [.ref (b 0)]) (n9 := 0) (b := (b 4)) C hw (c_Jx4a65c_isEmpty_aae02 l D y base (zsI S 240 (b 0) (zb (¬ (0 ≤ p0 ∧ p0 ≤ 1)))) (b 4) hM.2.2.2.2.2.2.2.2.2.2.2.2.2.1 (zI_t (by decide) hM0.2.2.2.1)) gX11_trigger_Jx4a65c_isEmpty_aae02 rfl (by decide +kernel) ⟨⟨rfl, rfl⟩, Nat.le_of_ble_eq_true rfl, Nat.le_of_ble_eq_true rfl⟩ hM.2.2.2.2.2.2.2.2.2.2.2.2.2.1 ⟨by decide, by decide⟩ rfl rfl hl.1 rfl (Nat.le_of_ble_eq_true rfl) ⟨Nat.le_of_ble_eq_true rfl, Nat.le_of_ble_eq_true rfl⟩ dX11_trigger_15 (fun r15 S15 H locs hp15 hw => ?_)
    obtain ⟨rfl, hS9⟩ := hp15
    have hS9 := hS9.symm
    subst hS9
    refine lv_if_eq (tgt := 25) hx hb dX11_trigger_18 (by decide) (fun c18 => absurd c18 (by decide)) (fun _ => ?_)
    refine lv_iconst (v := 2) hx hb dX11_trigger_21 (by decide) ?_
    refine lv_goto (tgt := 26) hx hb dX11_trigger_22 (by decide) ?_
    refine p_Mod_thrown (a := (b 0)) (v := 2) C hw hM.1 in_X11 (by decide +kernel) dX11_trigger_26 (fun H locs hw => ?_)
    refine lv_iconst (v := (-1)) hx hb dX11_trigger_29 (by decide) ?_
    refine lv_istore_n (lv' := [(2, .int (-1)), (0, .ref (b 0)), (1, .int p0)]) hx hb dX11_trigger_30 rfl hl (by decide) rfl (fun ls hl => ?_)
    refine lv_aload_n hx hb dX11_trigger_31 rfl (lv_at hl 1 rfl) ?_
    refine g_Mod_steps (a := (b 0)) (v := (b 4)) C hw hM.1 in_X11 (by decide +kernel) hM.2.2.2.2.1 dX11_trigger_32 ?_
    refine zcV_r (As := []) (rest := []) (n9 := 0) (b := (b 4)) C hw (c_Jx4a65c_iterator_32c93 l D y base (zsI (zsI S 240 (b 0) (zb (¬ (0 ≤ p0 ∧ p0 ≤ 1)))) 240 (b 0) 2) (b 4) hM.2.2.2.2.2.2.2.2.2.2.2.2.2.1) gX11_trigger_Jx4a65c_iterator_32c93 rfl (by decide +kernel) ⟨⟨rfl, rfl⟩, Nat.le_of_ble_eq_true rfl, Nat.le_of_ble_eq_true rfl⟩ hM.2.2.2.2.2.2.2.2.2.2.2.2.2.1 ⟨by decide, by decide⟩ rfl rfl hl.1 rfl (Nat.le_of_ble_eq_true rfl) ⟨Nat.le_of_ble_eq_true rfl, Nat.le_of_ble_eq_true rfl⟩ dX11_trigger_35 (fun r35 S35 H locs hp35 hw => ?_)
    have hM35 := zMd.cls hp35.2.2.2 hM
    have hM0_35 := zMd0.cls hp35.2.2.2 hM (by first | exact zMd0.i hM0 | exact zMd0.i (zMd0.i hM0))
    have t35 := ((hp35.2.2.2 (b 0) (fun e9 => absurd (Eq.trans (Eq.symm hM.1) e9) (by decide))).2.2.2.2.2 240 (Or.inr (by decide))).1.trans (zI_s (zsI S 240 (b 0) (zb (¬ (0 ≤ p0 ∧ p0 ≤ 1)))) 240 (b 0) 2)
    refine lv_astore_n (lv' := [(3, .ref r35), (2, .int (-1)), (0, .ref (b 0)), (1, .int p0)]) hx hb dX11_trigger_38 rfl hl (by decide) rfl (fun ls hl => ?_)
    refine lv_aload_n hx hb dX11_trigger_39 rfl (lv_at hl 0 rfl) ?_
    refine zcF_i (As := []) (rest := []) (n9 := 0) (b := r35) (x := ⟨"java/util/Iterator", "hasNext", "()Z"⟩) C hw (c_Jx35411_hasNext_aae02 l D y base S35 r35 (b 4) hp35.1 hp35.2.1 hM35.2.2.2.2.2.2.2.2.2.2.2.2.2.1 hp35.2.2.1 hM0_35.2.2.2.1) gX11_trigger_Jx35411_hasNext_aae02_f220Jx35411 rfl (zFw hw) (by decide +kernel) ⟨⟨rfl, rfl⟩, Nat.le_of_ble_eq_true rfl, Nat.le_of_ble_eq_true rfl⟩ hp35.1 ⟨by decide, by decide⟩ rfl rfl hl.1 rfl (Nat.le_of_ble_eq_true rfl) ⟨Nat.le_of_ble_eq_true rfl, Nat.le_of_ble_eq_true rfl⟩ dX11_trigger_40 (fun r40 S40 H locs hp40 hw => ?_)
    obtain ⟨rfl, hS9⟩ := hp40
    have hS9 := hS9.symm
    subst hS9
    refine lv_if_eq (tgt := 85) hx hb dX11_trigger_45 (by decide) (fun _ => ?_) (fun c45 => absurd c45 (by decide))
    refine lv_aload_n hx hb dX11_trigger_85 rfl (lv_at hl 2 rfl) ?_
    refine g_Mod_thrown (a := (b 0)) (v := 2) C hw hM35.1 in_X11 (by decide +kernel) t35 dX11_trigger_86 ?_
    refine lv_if_le (tgt := 96) hx hb dX11_trigger_89 (by decide) (fun c89 => absurd c89 (by decide)) (fun _ => ?_)
    refine lv_iconst (v := 0) hx hb dX11_trigger_92 (by decide) ?_
    refine lv_goto (tgt := 97) hx hb dX11_trigger_93 (by decide) ?_
    exact zri C hw hr hlocks rfl ⟨hM35.1, (t35).trans (by unfold kd_sample; (try unfold zb); grind), (fun h9 => by first | rfl | (revert h9; unfold kd_sample; (try unfold zb); grind))⟩ ⟨Nat.le_of_ble_eq_true rfl, Nat.le_of_ble_eq_true rfl⟩ dX11_trigger_97
  · replace c5 := zb1.mp c5
    refine lv_iconst (v := 0) hx hb dX11_trigger_8 (by decide) ?_
    exact zri C hw hr hlocks rfl ⟨hM.1, ((zI_s S 240 (b 0) (zb (¬ (0 ≤ p0 ∧ p0 ≤ 1))))).trans (by unfold kd_sample; (try unfold zb); grind), (fun h9 => by first | rfl | (revert h9; unfold kd_sample; (try unfold zb); grind))⟩ ⟨Nat.le_of_ble_eq_true rfl, Nat.le_of_ble_eq_true rfl⟩ dX11_trigger_9

set_option maxHeartbeats 4000000 in
set_option maxRecDepth 100000 in
/-- X11_follows -/
theorem c_X11_follows (l : Launch) (D : va_G) (y : Nat → ClassId) (base : Nat) (S : zS) (b : Nat → Nat) (p0 : Int32) (p1 : Int32) (hM : zMd S b) (hM0 : zMd0 S b) : zMi l yX11_follows wsX11_follows ({ frames := 3, cells := 1, slots := 4, locals := 53 }) [.ref (b 0), .int p0, .int p1] D y base S (fun (r : Int32) (S1 : zS) => zK S1 (b 0) = 15 ∧ zI S1 240 (b 0) = kd_follows p0 p1 ∧ (kd_follows p0 p1 = 0 → r = 0)) 1 4 := by
  refine zMet_of (cc := cX11_follows) (maxL := 7) (ret := (some .int)) (own := RX11) (by decide +kernel) rfl rfl (Nat.le_of_ble_eq_true rfl) ?_
  intro p e s m args below meth c ls C hr hlocks hnm hw hl
  have hx := C.1
  have hb := C.2.1
  have hown := C.2.2.2.1
  have hts := C.2.2.2.2
  have hl : lv_has ls 7 [(0, .ref (b 0)), (1, .int p0), (2, .int p1)] := hl
  have in_X11 : ∀ w ∈ wsX110, w ∈ wsX11_follows := by decide +kernel
  refine lv_aload_n hx hb dX11_follows_0 rfl (lv_at hl 0 rfl) ?_
  refine lv_iload_n hx hb dX11_follows_1 rfl (lv_at hl 1 rfl) ?_
  refine lv_i2l (v := p0.toInt64) hx hb dX11_follows_2 rfl ?_
  refine lv_lconst (v := ((0 : Int32).toInt64)) hx hb dX11_follows_3 (by decide) ?_
  refine lv_ldc2 (own := RX11) (v := ((255 : Int32).toInt64)) hx hb hown (hts (.constantLong RX11 96 (255)) (by decide +kernel)) dX11_follows_4 ?_
  refine zcS_i (As := [.long (p0.toInt64), .long ((0 : Int32).toInt64), .long ((255 : Int32).toInt64)]) (rest := [.ref (b 0)]) (n9 := 3) C hw (c_X11_in l D y base S p0 (0 : Int32) (255 : Int32) ) gX11_follows_X11_in rfl (by decide +kernel) ⟨⟨rfl, rfl⟩, Nat.le_of_ble_eq_true rfl, Nat.le_of_ble_eq_true rfl⟩ rfl hl.1 rfl (Nat.le_of_ble_eq_true rfl) ⟨Nat.le_of_ble_eq_true rfl, Nat.le_of_ble_eq_true rfl⟩ dX11_follows_7 (fun r7 S7 H locs hp7 hw => ?_)
  obtain ⟨rfl, hS9⟩ := hp7
  have hS9 := hS9.symm
  subst hS9
  refine lv_if_eq (tgt := 29) hx hb dX11_follows_10 (by decide) (fun c10 => ?_) (fun c10 => ?_)
  · replace c10 := zb0.mp c10
    refine lv_iconst (v := 1) hx hb dX11_follows_29 (by decide) ?_
    refine p_Mod_thrown (a := (b 0)) (v := 1) C hw hM.1 in_X11 (by decide +kernel) dX11_follows_30 (fun H locs hw => ?_)
    refine lv_iconst (v := 0) hx hb dX11_follows_33 (by decide) ?_
    refine lv_istore_n (lv' := [(3, .int 0), (0, .ref (b 0)), (1, .int p0), (2, .int p1)]) hx hb dX11_follows_34 rfl hl (by decide) rfl (fun ls hl => ?_)
    refine lv_iconst (v := (-1)) hx hb dX11_follows_35 (by decide) ?_
    refine lv_istore (lv' := [(4, .int (-1)), (3, .int 0), (0, .ref (b 0)), (1, .int p0), (2, .int p1)]) hx hb dX11_follows_36 hl (by decide) rfl (fun ls hl => ?_)
    refine lv_aload_n hx hb dX11_follows_38 rfl (lv_at hl 2 rfl) ?_
    refine g_Mod_notes (a := (b 0)) (v := (b 5)) C hw hM.1 in_X11 (by decide +kernel) hM.2.2.2.2.2.1 dX11_follows_39 ?_
    refine zcV_r (As := []) (rest := []) (n9 := 0) (b := (b 5)) C hw (c_Jx4a65c_iterator_32c93 l D y base (zsI S 240 (b 0) 1) (b 5) hM.2.2.2.2.2.2.2.2.2.2.2.2.2.2.1) gX11_follows_Jx4a65c_iterator_32c93 rfl (by decide +kernel) ⟨⟨rfl, rfl⟩, Nat.le_of_ble_eq_true rfl, Nat.le_of_ble_eq_true rfl⟩ hM.2.2.2.2.2.2.2.2.2.2.2.2.2.2.1 ⟨by decide, by decide⟩ rfl rfl hl.1 rfl (Nat.le_of_ble_eq_true rfl) ⟨Nat.le_of_ble_eq_true rfl, Nat.le_of_ble_eq_true rfl⟩ dX11_follows_42 (fun r42 S42 H locs hp42 hw => ?_)
    have hM42 := zMd.cls hp42.2.2.2 hM
    have hM0_42 := zMd0.cls hp42.2.2.2 hM (by first | exact zMd0.i hM0 | exact zMd0.i (zMd0.i hM0))
    have t42 := ((hp42.2.2.2 (b 0) (fun e9 => absurd (Eq.trans (Eq.symm hM.1) e9) (by decide))).2.2.2.2.2 240 (Or.inr (by decide))).1.trans (zI_s S 240 (b 0) 1)
    refine lv_astore (lv' := [(5, .ref r42), (4, .int (-1)), (3, .int 0), (0, .ref (b 0)), (1, .int p0), (2, .int p1)]) hx hb dX11_follows_45 hl (by decide) rfl (fun ls hl => ?_)
    refine lv_aload hx hb dX11_follows_47 (lv_at hl 0 rfl) ?_
    refine zcF_i (As := []) (rest := []) (n9 := 0) (b := r42) (x := ⟨"java/util/Iterator", "hasNext", "()Z"⟩) C hw (c_Jx35411_hasNext_aae02 l D y base S42 r42 (b 5) hp42.1 hp42.2.1 hM42.2.2.2.2.2.2.2.2.2.2.2.2.2.2.1 hp42.2.2.1 hM0_42.2.2.2.2.1) gX11_follows_Jx35411_hasNext_aae02_f220Jx35411 rfl (zFw hw) (by decide +kernel) ⟨⟨rfl, rfl⟩, Nat.le_of_ble_eq_true rfl, Nat.le_of_ble_eq_true rfl⟩ hp42.1 ⟨by decide, by decide⟩ rfl rfl hl.1 rfl (Nat.le_of_ble_eq_true rfl) ⟨Nat.le_of_ble_eq_true rfl, Nat.le_of_ble_eq_true rfl⟩ dX11_follows_49 (fun r49 S49 H locs hp49 hw => ?_)
    obtain ⟨rfl, hS9⟩ := hp49
    have hS9 := hS9.symm
    subst hS9
    refine lv_if_eq (tgt := 117) hx hb dX11_follows_54 (by decide) (fun _ => ?_) (fun c54 => absurd c54 (by decide))
    refine lv_iload_n hx hb dX11_follows_117 rfl (lv_at hl 2 rfl) ?_
    exact zri C hw hr hlocks rfl ⟨hM42.1, (t42).trans (by unfold kd_follows; (try unfold zb); grind), (fun h9 => by first | rfl | (revert h9; unfold kd_follows; (try unfold zb); grind))⟩ ⟨Nat.le_of_ble_eq_true rfl, Nat.le_of_ble_eq_true rfl⟩ dX11_follows_118
  · replace c10 := zb1.mp c10
    refine lv_iload_n hx hb dX11_follows_13 rfl (lv_at hl 2 rfl) ?_
    refine lv_i2l (v := p1.toInt64) hx hb dX11_follows_14 rfl ?_
    refine lv_lconst (v := ((0 : Int32).toInt64)) hx hb dX11_follows_15 (by decide) ?_
    refine lv_ldc2 (own := RX11) (v := ((255 : Int32).toInt64)) hx hb hown (hts (.constantLong RX11 96 (255)) (by decide +kernel)) dX11_follows_16 ?_
    refine zcS_i (As := [.long (p1.toInt64), .long ((0 : Int32).toInt64), .long ((255 : Int32).toInt64)]) (rest := [.ref (b 0)]) (n9 := 3) C hw (c_X11_in l D y base S p1 (0 : Int32) (255 : Int32) ) gX11_follows_X11_in rfl (by decide +kernel) ⟨⟨rfl, rfl⟩, Nat.le_of_ble_eq_true rfl, Nat.le_of_ble_eq_true rfl⟩ rfl hl.1 rfl (Nat.le_of_ble_eq_true rfl) ⟨Nat.le_of_ble_eq_true rfl, Nat.le_of_ble_eq_true rfl⟩ dX11_follows_19 (fun r19 S19 H locs hp19 hw => ?_)
    obtain ⟨rfl, hS9⟩ := hp19
    have hS9 := hS9.symm
    subst hS9
    refine lv_if_eq (tgt := 29) hx hb dX11_follows_22 (by decide) (fun c22 => ?_) (fun c22 => ?_)
    · replace c22 := zb0.mp c22
      refine lv_iconst (v := 1) hx hb dX11_follows_29 (by decide) ?_
      refine p_Mod_thrown (a := (b 0)) (v := 1) C hw hM.1 in_X11 (by decide +kernel) dX11_follows_30 (fun H locs hw => ?_)
      refine lv_iconst (v := 0) hx hb dX11_follows_33 (by decide) ?_
      refine lv_istore_n (lv' := [(3, .int 0), (0, .ref (b 0)), (1, .int p0), (2, .int p1)]) hx hb dX11_follows_34 rfl hl (by decide) rfl (fun ls hl => ?_)
      refine lv_iconst (v := (-1)) hx hb dX11_follows_35 (by decide) ?_
      refine lv_istore (lv' := [(4, .int (-1)), (3, .int 0), (0, .ref (b 0)), (1, .int p0), (2, .int p1)]) hx hb dX11_follows_36 hl (by decide) rfl (fun ls hl => ?_)
      refine lv_aload_n hx hb dX11_follows_38 rfl (lv_at hl 2 rfl) ?_
      refine g_Mod_notes (a := (b 0)) (v := (b 5)) C hw hM.1 in_X11 (by decide +kernel) hM.2.2.2.2.2.1 dX11_follows_39 ?_
      refine zcV_r (As := []) (rest := []) (n9 := 0) (b := (b 5)) C hw (c_Jx4a65c_iterator_32c93 l D y base (zsI S 240 (b 0) 1) (b 5) hM.2.2.2.2.2.2.2.2.2.2.2.2.2.2.1) gX11_follows_Jx4a65c_iterator_32c93 rfl (by decide +kernel) ⟨⟨rfl, rfl⟩, Nat.le_of_ble_eq_true rfl, Nat.le_of_ble_eq_true rfl⟩ hM.2.2.2.2.2.2.2.2.2.2.2.2.2.2.1 ⟨by decide, by decide⟩ rfl rfl hl.1 rfl (Nat.le_of_ble_eq_true rfl) ⟨Nat.le_of_ble_eq_true rfl, Nat.le_of_ble_eq_true rfl⟩ dX11_follows_42 (fun r42 S42 H locs hp42 hw => ?_)
      have hM42 := zMd.cls hp42.2.2.2 hM
      have hM0_42 := zMd0.cls hp42.2.2.2 hM (by first | exact zMd0.i hM0 | exact zMd0.i (zMd0.i hM0))
      have t42 := ((hp42.2.2.2 (b 0) (fun e9 => absurd (Eq.trans (Eq.symm hM.1) e9) (by decide))).2.2.2.2.2 240 (Or.inr (by decide))).1.trans (zI_s S 240 (b 0) 1)
      refine lv_astore (lv' := [(5, .ref r42), (4, .int (-1)), (3, .int 0), (0, .ref (b 0)), (1, .int p0), (2, .int p1)]) hx hb dX11_follows_45 hl (by decide) rfl (fun ls hl => ?_)
      refine lv_aload hx hb dX11_follows_47 (lv_at hl 0 rfl) ?_
      refine zcF_i (As := []) (rest := []) (n9 := 0) (b := r42) (x := ⟨"java/util/Iterator", "hasNext", "()Z"⟩) C hw (c_Jx35411_hasNext_aae02 l D y base S42 r42 (b 5) hp42.1 hp42.2.1 hM42.2.2.2.2.2.2.2.2.2.2.2.2.2.2.1 hp42.2.2.1 hM0_42.2.2.2.2.1) gX11_follows_Jx35411_hasNext_aae02_f220Jx35411 rfl (zFw hw) (by decide +kernel) ⟨⟨rfl, rfl⟩, Nat.le_of_ble_eq_true rfl, Nat.le_of_ble_eq_true rfl⟩ hp42.1 ⟨by decide, by decide⟩ rfl rfl hl.1 rfl (Nat.le_of_ble_eq_true rfl) ⟨Nat.le_of_ble_eq_true rfl, Nat.le_of_ble_eq_true rfl⟩ dX11_follows_49 (fun r49 S49 H locs hp49 hw => ?_)
      obtain ⟨rfl, hS9⟩ := hp49
      have hS9 := hS9.symm
      subst hS9
      refine lv_if_eq (tgt := 117) hx hb dX11_follows_54 (by decide) (fun _ => ?_) (fun c54 => absurd c54 (by decide))
      refine lv_iload_n hx hb dX11_follows_117 rfl (lv_at hl 2 rfl) ?_
      exact zri C hw hr hlocks rfl ⟨hM42.1, (t42).trans (by unfold kd_follows; (try unfold zb); grind), (fun h9 => by first | rfl | (revert h9; unfold kd_follows; (try unfold zb); grind))⟩ ⟨Nat.le_of_ble_eq_true rfl, Nat.le_of_ble_eq_true rfl⟩ dX11_follows_118
    · replace c22 := zb1.mp c22
      refine lv_iconst (v := 0) hx hb dX11_follows_25 (by decide) ?_
      refine lv_goto (tgt := 30) hx hb dX11_follows_26 (by decide) ?_
      refine p_Mod_thrown (a := (b 0)) (v := 0) C hw hM.1 in_X11 (by decide +kernel) dX11_follows_30 (fun H locs hw => ?_)
      refine lv_iconst (v := 0) hx hb dX11_follows_33 (by decide) ?_
      refine lv_istore_n (lv' := [(3, .int 0), (0, .ref (b 0)), (1, .int p0), (2, .int p1)]) hx hb dX11_follows_34 rfl hl (by decide) rfl (fun ls hl => ?_)
      refine lv_iconst (v := (-1)) hx hb dX11_follows_35 (by decide) ?_
      refine lv_istore (lv' := [(4, .int (-1)), (3, .int 0), (0, .ref (b 0)), (1, .int p0), (2, .int p1)]) hx hb dX11_follows_36 hl (by decide) rfl (fun ls hl => ?_)
      refine lv_aload_n hx hb dX11_follows_38 rfl (lv_at hl 2 rfl) ?_
      refine g_Mod_notes (a := (b 0)) (v := (b 5)) C hw hM.1 in_X11 (by decide +kernel) hM.2.2.2.2.2.1 dX11_follows_39 ?_
      refine zcV_r (As := []) (rest := []) (n9 := 0) (b := (b 5)) C hw (c_Jx4a65c_iterator_32c93 l D y base (zsI S 240 (b 0) 0) (b 5) hM.2.2.2.2.2.2.2.2.2.2.2.2.2.2.1) gX11_follows_Jx4a65c_iterator_32c93 rfl (by decide +kernel) ⟨⟨rfl, rfl⟩, Nat.le_of_ble_eq_true rfl, Nat.le_of_ble_eq_true rfl⟩ hM.2.2.2.2.2.2.2.2.2.2.2.2.2.2.1 ⟨by decide, by decide⟩ rfl rfl hl.1 rfl (Nat.le_of_ble_eq_true rfl) ⟨Nat.le_of_ble_eq_true rfl, Nat.le_of_ble_eq_true rfl⟩ dX11_follows_42 (fun r42 S42 H locs hp42 hw => ?_)
      have hM42 := zMd.cls hp42.2.2.2 hM
      have hM0_42 := zMd0.cls hp42.2.2.2 hM (by first | exact zMd0.i hM0 | exact zMd0.i (zMd0.i hM0))
      have t42 := ((hp42.2.2.2 (b 0) (fun e9 => absurd (Eq.trans (Eq.symm hM.1) e9) (by decide))).2.2.2.2.2 240 (Or.inr (by decide))).1.trans (zI_s S 240 (b 0) 0)
      refine lv_astore (lv' := [(5, .ref r42), (4, .int (-1)), (3, .int 0), (0, .ref (b 0)), (1, .int p0), (2, .int p1)]) hx hb dX11_follows_45 hl (by decide) rfl (fun ls hl => ?_)
      refine lv_aload hx hb dX11_follows_47 (lv_at hl 0 rfl) ?_
      refine zcF_i (As := []) (rest := []) (n9 := 0) (b := r42) (x := ⟨"java/util/Iterator", "hasNext", "()Z"⟩) C hw (c_Jx35411_hasNext_aae02 l D y base S42 r42 (b 5) hp42.1 hp42.2.1 hM42.2.2.2.2.2.2.2.2.2.2.2.2.2.2.1 hp42.2.2.1 hM0_42.2.2.2.2.1) gX11_follows_Jx35411_hasNext_aae02_f220Jx35411 rfl (zFw hw) (by decide +kernel) ⟨⟨rfl, rfl⟩, Nat.le_of_ble_eq_true rfl, Nat.le_of_ble_eq_true rfl⟩ hp42.1 ⟨by decide, by decide⟩ rfl rfl hl.1 rfl (Nat.le_of_ble_eq_true rfl) ⟨Nat.le_of_ble_eq_true rfl, Nat.le_of_ble_eq_true rfl⟩ dX11_follows_49 (fun r49 S49 H locs hp49 hw => ?_)
      obtain ⟨rfl, hS9⟩ := hp49
      have hS9 := hS9.symm
      subst hS9
      refine lv_if_eq (tgt := 117) hx hb dX11_follows_54 (by decide) (fun _ => ?_) (fun c54 => absurd c54 (by decide))
      refine lv_iload_n hx hb dX11_follows_117 rfl (lv_at hl 2 rfl) ?_
      exact zri C hw hr hlocks rfl ⟨hM42.1, (t42).trans (by unfold kd_follows; (try unfold zb); grind), (fun h9 => by first | rfl | (revert h9; unfold kd_follows; (try unfold zb); grind))⟩ ⟨Nat.le_of_ble_eq_true rfl, Nat.le_of_ble_eq_true rfl⟩ dX11_follows_118

set_option maxHeartbeats 4000000 in
set_option maxRecDepth 100000 in
/-- X11_checksum -/
theorem c_X11_checksum (l : Launch) (D : va_G) (y : Nat → ClassId) (base : Nat) (S : zS) (b : Nat → Nat) (hM : zMd S b) (hM0 : zMd0 S b) : zMl l yX11_checksum wsX11_checksum ({ frames := 3, cells := 1, slots := 4, locals := 53 }) [.ref (b 0)] D y base S (fun (r : Int64) (S1 : zS) => zK S1 (b 0) = 15 ∧ r = ((7 : Int32).toInt64)) 1 4 := by
  refine zMet_of (cc := cX11_checksum) (maxL := 11) (ret := (some .long)) (own := RX11) (by decide +kernel) rfl rfl (Nat.le_of_ble_eq_true rfl) ?_
  intro p e s m args below meth c ls C hr hlocks hnm hw hl
  have hx := C.1
  have hb := C.2.1
  have hown := C.2.2.2.1
  have hts := C.2.2.2.2
  have hl : lv_has ls 11 [(0, .ref (b 0))] := hl
  have in_X11 : ∀ w ∈ wsX110, w ∈ wsX11_checksum := by decide +kernel
  refine lv_aload_n hx hb dX11_checksum_0 rfl (lv_at hl 0 rfl) ?_
  refine lv_iconst (v := 0) hx hb dX11_checksum_1 (by decide) ?_
  refine p_Mod_thrown (a := (b 0)) (v := 0) C hw hM.1 in_X11 (by decide +kernel) dX11_checksum_2 (fun H locs hw => ?_)
  refine lv_ldc2 (own := RX11) (v := ((7 : Int32).toInt64)) hx hb hown (hts (.constantLong RX11 276 (7)) (by decide +kernel)) dX11_checksum_5 ?_
  refine lv_lstore_n (lv' := [(1, .long ((7 : Int32).toInt64)), (0, .ref (b 0))]) hx hb dX11_checksum_8 rfl hl (by decide) rfl (fun ls hl => ?_)
  refine lv_aload_n hx hb dX11_checksum_9 rfl (lv_at hl 1 rfl) ?_
  refine g_Mod_samples (a := (b 0)) (v := (b 3)) C hw hM.1 in_X11 (by decide +kernel) hM.2.2.2.1 dX11_checksum_10 ?_
  refine lv_astore_n (lv' := [(3, .ref (b 3)), (1, .long ((7 : Int32).toInt64)), (0, .ref (b 0))]) hx hb dX11_checksum_13 rfl hl (by decide) rfl (fun ls hl => ?_)
  refine lv_aload_n hx hb dX11_checksum_14 rfl (lv_at hl 0 rfl) ?_
  refine zalen (a := (b 3)) (v := 2) C hw hM.2.2.2.2.2.2.2.2.2.2.2.1 (by decide) (t0 := 7) rfl (zlen hM.2.2.2.2.2.2.2.2.2.2.2.2.1 rfl) dX11_checksum_15 ?_
  refine lv_istore (lv' := [(4, .int 2), (3, .ref (b 3)), (1, .long ((7 : Int32).toInt64)), (0, .ref (b 0))]) hx hb dX11_checksum_16 hl (by decide) rfl (fun ls hl => ?_)
  refine lv_iconst (v := 0) hx hb dX11_checksum_18 (by decide) ?_
  refine lv_istore (lv' := [(5, .int 0), (4, .int 2), (3, .ref (b 3)), (1, .long ((7 : Int32).toInt64)), (0, .ref (b 0))]) hx hb dX11_checksum_19 hl (by decide) rfl (fun ls hl => ?_)
  refine lv_iload hx hb dX11_checksum_21 (lv_at hl 0 rfl) ?_
  refine lv_iload hx hb dX11_checksum_23 (lv_at hl 1 rfl) ?_
  refine lv_icmp_ge (tgt := 82) hx hb dX11_checksum_25 (by decide) (fun c25 => absurd c25 (by decide)) (fun _ => ?_)
  refine lv_aload_n hx hb dX11_checksum_28 rfl (lv_at hl 2 rfl) ?_
  refine lv_iload hx hb dX11_checksum_29 (lv_at hl 0 rfl) ?_
  obtain ⟨w0, eP0, kW0, nW0⟩ := zMd_s hM (p := 0) (by decide)
  refine zald_P (a := (b 3)) (v := w0) C hw hM.2.2.2.2.2.2.2.2.2.2.2.1 (by decide) (t0 := 7) rfl rfl hM.2.2.2.2.2.2.2.2.2.2.2.2.1 (zin_of (N := 2) (by decide) (by grind) (by grind)) eP0 dX11_checksum_31 ?_
  refine lv_astore (lv' := [(6, .ref w0), (5, .int 0), (4, .int 2), (3, .ref (b 3)), (1, .long ((7 : Int32).toInt64)), (0, .ref (b 0))]) hx hb dX11_checksum_32 hl (by decide) rfl (fun ls hl => ?_)
  refine lv_aload hx hb dX11_checksum_34 (lv_at hl 0 rfl) ?_
  refine lv_astore (lv' := [(7, .ref w0), (6, .ref w0), (5, .int 0), (4, .int 2), (3, .ref (b 3)), (1, .long ((7 : Int32).toInt64)), (0, .ref (b 0))]) hx hb dX11_checksum_36 hl (by decide) rfl (fun ls hl => ?_)
  refine lv_aload hx hb dX11_checksum_38 (lv_at hl 0 rfl) ?_
  refine zalen (a := w0) (v := 0) C hw kW0 (by decide) (t0 := 1) rfl (zlen nW0 rfl) dX11_checksum_40 ?_
  refine lv_istore (lv' := [(8, .int 0), (7, .ref w0), (6, .ref w0), (5, .int 0), (4, .int 2), (3, .ref (b 3)), (1, .long ((7 : Int32).toInt64)), (0, .ref (b 0))]) hx hb dX11_checksum_41 hl (by decide) rfl (fun ls hl => ?_)
  refine lv_iconst (v := 0) hx hb dX11_checksum_43 (by decide) ?_
  refine lv_istore (lv' := [(9, .int 0), (8, .int 0), (7, .ref w0), (6, .ref w0), (5, .int 0), (4, .int 2), (3, .ref (b 3)), (1, .long ((7 : Int32).toInt64)), (0, .ref (b 0))]) hx hb dX11_checksum_44 hl (by decide) rfl (fun ls hl => ?_)
  refine lv_iload hx hb dX11_checksum_46 (lv_at hl 0 rfl) ?_
  refine lv_iload hx hb dX11_checksum_48 (lv_at hl 1 rfl) ?_
  refine lv_icmp_ge (tgt := 76) hx hb dX11_checksum_50 (by decide) (fun _ => ?_) (fun c50 => absurd c50 (by decide))
  refine lv_iinc (v := 1) (lv' := [(5, .int 1), (9, .int 0), (8, .int 0), (7, .ref w0), (6, .ref w0), (4, .int 2), (3, .ref (b 3)), (1, .long ((7 : Int32).toInt64)), (0, .ref (b 0))]) hx hb dX11_checksum_76 hl (k := 4) rfl (by decide) (by decide) rfl (fun ls hl => ?_)
  refine lv_goto (tgt := 21) hx hb dX11_checksum_79 (by decide) ?_
  refine lv_iload hx hb dX11_checksum_21 (lv_at hl 0 rfl) ?_
  refine lv_iload hx hb dX11_checksum_23 (lv_at hl 5 rfl) ?_
  refine lv_icmp_ge (tgt := 82) hx hb dX11_checksum_25 (by decide) (fun c25 => absurd c25 (by decide)) (fun _ => ?_)
  refine lv_aload_n hx hb dX11_checksum_28 rfl (lv_at hl 6 rfl) ?_
  refine lv_iload hx hb dX11_checksum_29 (lv_at hl 0 rfl) ?_
  obtain ⟨w1, eP1, kW1, nW1⟩ := zMd_s hM (p := 1) (by decide)
  refine zald_P (a := (b 3)) (v := w1) C hw hM.2.2.2.2.2.2.2.2.2.2.2.1 (by decide) (t0 := 7) rfl rfl hM.2.2.2.2.2.2.2.2.2.2.2.2.1 (zin_of (N := 2) (by decide) (by grind) (by grind)) eP1 dX11_checksum_31 ?_
  refine lv_astore (lv' := [(6, .ref w1), (5, .int 1), (9, .int 0), (8, .int 0), (7, .ref w0), (4, .int 2), (3, .ref (b 3)), (1, .long ((7 : Int32).toInt64)), (0, .ref (b 0))]) hx hb dX11_checksum_32 hl (by decide) rfl (fun ls hl => ?_)
  refine lv_aload hx hb dX11_checksum_34 (lv_at hl 0 rfl) ?_
  refine lv_astore (lv' := [(7, .ref w1), (6, .ref w1), (5, .int 1), (9, .int 0), (8, .int 0), (4, .int 2), (3, .ref (b 3)), (1, .long ((7 : Int32).toInt64)), (0, .ref (b 0))]) hx hb dX11_checksum_36 hl (by decide) rfl (fun ls hl => ?_)
  refine lv_aload hx hb dX11_checksum_38 (lv_at hl 0 rfl) ?_
  refine zalen (a := w1) (v := 0) C hw kW1 (by decide) (t0 := 1) rfl (zlen nW1 rfl) dX11_checksum_40 ?_
  refine lv_istore (lv' := [(8, .int 0), (7, .ref w1), (6, .ref w1), (5, .int 1), (9, .int 0), (4, .int 2), (3, .ref (b 3)), (1, .long ((7 : Int32).toInt64)), (0, .ref (b 0))]) hx hb dX11_checksum_41 hl (by decide) rfl (fun ls hl => ?_)
  refine lv_iconst (v := 0) hx hb dX11_checksum_43 (by decide) ?_
  refine lv_istore (lv' := [(9, .int 0), (8, .int 0), (7, .ref w1), (6, .ref w1), (5, .int 1), (4, .int 2), (3, .ref (b 3)), (1, .long ((7 : Int32).toInt64)), (0, .ref (b 0))]) hx hb dX11_checksum_44 hl (by decide) rfl (fun ls hl => ?_)
  refine lv_iload hx hb dX11_checksum_46 (lv_at hl 0 rfl) ?_
  refine lv_iload hx hb dX11_checksum_48 (lv_at hl 1 rfl) ?_
  refine lv_icmp_ge (tgt := 76) hx hb dX11_checksum_50 (by decide) (fun _ => ?_) (fun c50 => absurd c50 (by decide))
  refine lv_iinc (v := 2) (lv' := [(5, .int 2), (9, .int 0), (8, .int 0), (7, .ref w1), (6, .ref w1), (4, .int 2), (3, .ref (b 3)), (1, .long ((7 : Int32).toInt64)), (0, .ref (b 0))]) hx hb dX11_checksum_76 hl (k := 4) rfl (by decide) (by decide) rfl (fun ls hl => ?_)
  refine lv_goto (tgt := 21) hx hb dX11_checksum_79 (by decide) ?_
  refine lv_iload hx hb dX11_checksum_21 (lv_at hl 0 rfl) ?_
  refine lv_iload hx hb dX11_checksum_23 (lv_at hl 5 rfl) ?_
  refine lv_icmp_ge (tgt := 82) hx hb dX11_checksum_25 (by decide) (fun _ => ?_) (fun c25 => absurd c25 (by decide))
  refine lv_aload_n hx hb dX11_checksum_82 rfl (lv_at hl 8 rfl) ?_
  refine g_Mod_notes (a := (b 0)) (v := (b 5)) C hw hM.1 in_X11 (by decide +kernel) hM.2.2.2.2.2.1 dX11_checksum_83 ?_
  refine zcV_r (As := []) (rest := []) (n9 := 0) (b := (b 5)) C hw (c_Jx4a65c_iterator_32c93 l D y base (zsI S 240 (b 0) 0) (b 5) hM.2.2.2.2.2.2.2.2.2.2.2.2.2.2.1) gX11_checksum_Jx4a65c_iterator_32c93 rfl (by decide +kernel) ⟨⟨rfl, rfl⟩, Nat.le_of_ble_eq_true rfl, Nat.le_of_ble_eq_true rfl⟩ hM.2.2.2.2.2.2.2.2.2.2.2.2.2.2.1 ⟨by decide, by decide⟩ rfl rfl hl.1 rfl (Nat.le_of_ble_eq_true rfl) ⟨Nat.le_of_ble_eq_true rfl, Nat.le_of_ble_eq_true rfl⟩ dX11_checksum_86 (fun r86 S86 H locs hp86 hw => ?_)
  have hM86 := zMd.cls hp86.2.2.2 hM
  have hM0_86 := zMd0.cls hp86.2.2.2 hM (by first | exact zMd0.i hM0 | exact zMd0.i (zMd0.i hM0))
  have t86 := ((hp86.2.2.2 (b 0) (fun e9 => absurd (Eq.trans (Eq.symm hM.1) e9) (by decide))).2.2.2.2.2 240 (Or.inr (by decide))).1.trans (zI_s S 240 (b 0) 0)
  refine lv_astore_n (lv' := [(3, .ref r86), (5, .int 2), (9, .int 0), (8, .int 0), (7, .ref w1), (6, .ref w1), (4, .int 2), (1, .long ((7 : Int32).toInt64)), (0, .ref (b 0))]) hx hb dX11_checksum_89 rfl hl (by decide) rfl (fun ls hl => ?_)
  refine lv_aload_n hx hb dX11_checksum_90 rfl (lv_at hl 0 rfl) ?_
  refine zcF_i (As := []) (rest := []) (n9 := 0) (b := r86) (x := ⟨"java/util/Iterator", "hasNext", "()Z"⟩) C hw (c_Jx35411_hasNext_aae02 l D y base S86 r86 (b 5) hp86.1 hp86.2.1 hM86.2.2.2.2.2.2.2.2.2.2.2.2.2.2.1 hp86.2.2.1 hM0_86.2.2.2.2.1) gX11_checksum_Jx35411_hasNext_aae02_f220Jx35411 rfl (zFw hw) (by decide +kernel) ⟨⟨rfl, rfl⟩, Nat.le_of_ble_eq_true rfl, Nat.le_of_ble_eq_true rfl⟩ hp86.1 ⟨by decide, by decide⟩ rfl rfl hl.1 rfl (Nat.le_of_ble_eq_true rfl) ⟨Nat.le_of_ble_eq_true rfl, Nat.le_of_ble_eq_true rfl⟩ dX11_checksum_91 (fun r91 S91 H locs hp91 hw => ?_)
  obtain ⟨rfl, hS9⟩ := hp91
  have hS9 := hS9.symm
  subst hS9
  refine lv_if_eq (tgt := 139) hx hb dX11_checksum_96 (by decide) (fun _ => ?_) (fun c96 => absurd c96 (by decide))
  refine lv_lload_n hx hb dX11_checksum_139 rfl (lv_at hl 7 rfl) ?_
  exact zrl C hw hr hlocks ⟨hM86.1, (by first | rfl | exact rfl | ((try unfold zb); grind))⟩ ⟨Nat.le_of_ble_eq_true rfl, Nat.le_of_ble_eq_true rfl⟩ dX11_checksum_140

