set_option maxHeartbeats 4000000 in
set_option maxRecDepth 100000 in
/-- THE LAW, from its entry -/
theorem whole_start {p : Program} {e : Env} {s : State} {m : MethodId} {below : List Frame} {meth : Method} {c : Code} (l : Launch) (hflags : l.flags = flags0) {b L : Nat} {xs : Nat → Int32} (hL : L ≤ 260) (C0 : lw_At p s m meth c b L xs) : W p l e room_1 s m #[Value.ref b] below meth c s.heap [] 0 0 (lw_Z below #[Value.ref b] s) (entryFrame m ([Value.ref b] : List Value).toArray 2) := by
  obtain ⟨hx, hb, hr, hml, hown, hts9, hXs, hbl, hlocks, hgv⟩ := id C0
  obtain ⟨D, y, hy, hy98, hy99, hV⟩ := zV_of C0
  subst hy98
  have hst : l.stackTraces = false := by
    show (!l.flags.contains noTraceFlag) = false
    rw [hflags]
    decide
  have hy31 : y 99 < 2 ^ 31 := Nat.lt_of_le_of_lt (Nat.le_of_eq hy99) (Nat.lt_of_le_of_lt hL (by decide))
  have C : CallFix p m c code 2 s #[Value.ref (y 98)] wsL_law RL := ⟨hx, hb, hml, hown, fun w h => hts9 w (wsL_law_in w h)⟩
  have hts := C.2.2.2.2
  obtain ⟨base, hbase⟩ : ∃ base, base = s.heap.size := ⟨_, rfl⟩
  have hw : zW D y base zS0 s s.heap [] := by
    rw [hbase]
    exact ⟨hV, zH0 hy, va_S.rf, Nat.le_refl _⟩
  have hl := lv_entry ([.ref (y 98)]) (n := 2) (Nat.le_of_ble_eq_true rfl)
  rw [lg_entry_eq]
  generalize (lg_sl ([.ref (y 98)]) ++ List.replicate (2 - (lg_sl ([.ref (y 98)])).length) Slot.unset).toArray = ls at hl ⊢
  have hl : lv_has ls 2 [(0, .ref (y 98))] := hl
  have in_X7 := inlX7
  refine znew (k := 11) (Cn := RX7) (T := TX7) (N := 8) C hw (by decide) (by decide) rfl in_X7 tyX7 tyX7_ok (by decide +kernel) (by decide +kernel) (by decide +kernel) (zdfX7) (Nat.le_of_ble_eq_true rfl) (Nat.le_of_ble_eq_true rfl) dL_law_0 (fun q0 H kq0 hw => ?_)
  refine lv_dup hx hb dL_law_3 rfl ?_
  have kq0s : zK (znO zS0 q0 11) q0 = 11 := zK_nOs _ _ _
  have hz9 : ∀ t, zI (znO zS0 q0 11) t q0 = 0 := fun t => zI_nOs _ _ _ t
  refine zcI_v (As := []) (rest := [.ref q0]) (n9 := 0) (b := q0) C hw (c_X7_init_n l D y base (znO zS0 q0 11) q0 kq0s hz9) gL_law_X7_init rfl (by decide +kernel) (by decide +kernel) (by decide +kernel) rfl (by decide +kernel) ⟨⟨rfl, rfl⟩, Nat.le_of_ble_eq_true rfl, Nat.le_of_ble_eq_true rfl⟩ rfl hl.1 rfl (Nat.le_of_ble_eq_true rfl) ⟨Nat.le_of_ble_eq_true rfl, Nat.le_of_ble_eq_true rfl⟩ dL_law_4 (fun S4 H locs hp4 hw => ?_)
  obtain ⟨a, ha0, hNw, hDs, -⟩ := hp4
  have hw4 := hw
  subst ha0
  have hw := hw4
  refine lv_astore_n (lv' := [(1, .ref (a 0)), (0, .ref (y 98))]) hx hb dL_law_7 rfl hl (by decide) rfl (fun ls hl => ?_)
  refine lv_aload_n hx hb dL_law_8 rfl (lv_at hl 0 rfl) ?_
  refine lv_iconst (v := 1) hx hb dL_law_9 (by decide) ?_
  refine zcSW_i (As := [.ref (a 0), .int 1]) (rest := []) (n9 := 2) C hw (c_L_hasNone_t l hst D y base S4 a hNw.1 hNw.2.1) gL_law_L_hasNone rfl (by decide +kernel) ⟨⟨rfl, rfl⟩, Nat.le_of_ble_eq_true rfl, Nat.le_of_ble_eq_true rfl⟩ rfl hl.1 rfl (Nat.le_of_ble_eq_true rfl) ⟨Nat.le_of_ble_eq_true rfl, Nat.le_of_ble_eq_true rfl⟩ dL_law_10 (fun r10 S10 H locs hp10 hw => ?_)
  obtain ⟨rfl, hS9⟩ := hp10
  have hS9 := hS9.symm
  subst hS9
  refine lv_if_eq (tgt := 1945) hx hb dL_law_13 (by decide) (fun c13 => absurd c13 (by decide)) (fun _ => ?_)
  refine lv_aload_n hx hb dL_law_16 rfl (lv_at hl 0 rfl) ?_
  refine lv_iconst (v := 0) hx hb dL_law_17 (by decide) ?_
  refine zcSW_i (As := [.ref (a 0), .int 0]) (rest := []) (n9 := 2) C hw (c_L_hasNone_f l hst D y base S4 a hNw.1 hNw.2.1) gL_law_L_hasNone rfl (by decide +kernel) ⟨⟨rfl, rfl⟩, Nat.le_of_ble_eq_true rfl, Nat.le_of_ble_eq_true rfl⟩ rfl hl.1 rfl (Nat.le_of_ble_eq_true rfl) ⟨Nat.le_of_ble_eq_true rfl, Nat.le_of_ble_eq_true rfl⟩ dL_law_18 (fun r18 S18 H locs hp18 hw => ?_)
  obtain ⟨rfl, hS9⟩ := hp18
  have hS9 := hS9.symm
  subst hS9
  refine lv_if_eq (tgt := 1945) hx hb dL_law_21 (by decide) (fun c21 => absurd c21 (by decide)) (fun _ => ?_)
  refine lv_aload_n hx hb dL_law_24 rfl (lv_at hl 0 rfl) ?_
  refine zcV_i (As := []) (rest := []) (n9 := 0) (b := (a 0)) C hw (c_X7_flips_g l D y base S4 a _ _ hNw.1 hDs (zWv.new hNw)) gL_law_X7_flips rfl (by decide +kernel) ⟨⟨rfl, rfl⟩, Nat.le_of_ble_eq_true rfl, Nat.le_of_ble_eq_true rfl⟩ hNw.1.1 ⟨by decide, by decide⟩ rfl rfl hl.1 rfl (Nat.le_of_ble_eq_true rfl) ⟨Nat.le_of_ble_eq_true rfl, Nat.le_of_ble_eq_true rfl⟩ dL_law_25 (fun r25 S25 H locs hp25 hw => ?_)
  obtain ⟨hr9, hS9⟩ := hp25
  have hr9 : r25 = 0 := hr9
  subst hr9
  have hS9 := hS9.symm
  subst hS9
  refine lv_if_ne (tgt := 1945) hx hb dL_law_28 (by decide) (fun c28 => absurd c28 (by decide)) (fun _ => ?_)
  refine lv_aload_n hx hb dL_law_31 rfl (lv_at hl 0 rfl) ?_
  refine zcV_i (As := []) (rest := []) (n9 := 0) (b := (a 0)) C hw (c_X7_notes_r l D y base S4 a hNw.1 hNw.2.1) gL_law_X7_notes rfl (by decide +kernel) ⟨⟨rfl, rfl⟩, Nat.le_of_ble_eq_true rfl, Nat.le_of_ble_eq_true rfl⟩ hNw.1.1 ⟨by decide, by decide⟩ rfl rfl hl.1 rfl (Nat.le_of_ble_eq_true rfl) ⟨Nat.le_of_ble_eq_true rfl, Nat.le_of_ble_eq_true rfl⟩ dL_law_32 (fun r32 S32 H locs hp32 hw => ?_)
  obtain ⟨hr9, hS9⟩ := hp32
  have hr9 : r32 = 0 := hr9
  subst hr9
  have hS9 := hS9.symm
  subst hS9
  refine lv_if_ne (tgt := 1945) hx hb dL_law_35 (by decide) (fun c35 => absurd c35 (by decide)) (fun _ => ?_)
  refine lv_aload_n hx hb dL_law_38 rfl (lv_at hl 0 rfl) ?_
  refine zcV_i (As := []) (rest := []) (n9 := 0) (b := (a 0)) C hw (c_X7_reset_g l D y base S4 a hNw.1 hDs) gL_law_X7_reset rfl (by decide +kernel) ⟨⟨rfl, rfl⟩, Nat.le_of_ble_eq_true rfl, Nat.le_of_ble_eq_true rfl⟩ hNw.1.1 ⟨by decide, by decide⟩ rfl rfl hl.1 rfl (Nat.le_of_ble_eq_true rfl) ⟨Nat.le_of_ble_eq_true rfl, Nat.le_of_ble_eq_true rfl⟩ dL_law_39 (fun r39 S39 H locs hp39 hw => ?_)
  obtain ⟨hr9, hS9⟩ := hp39
  have hr9 : r39 = 0 := hr9.trans hNw.2.1.2.2.1
  subst hr9
  have hNw : zNew S39 a := by rw [hS9]; exact zNew.same hNw hNw.2.1.2.2.1
  refine lv_if_ne (tgt := 1945) hx hb dL_law_42 (by decide) (fun c42 => absurd c42 (by decide)) (fun _ => ?_)
  refine lv_aload_n hx hb dL_law_45 rfl (lv_at hl 0 rfl) ?_
  refine lv_iconst (v := 1) hx hb dL_law_46 (by decide) ?_
  refine lv_iconst (v := 1) hx hb dL_law_47 (by decide) ?_
  refine zcV_i (As := [.int 1, .int 1]) (rest := []) (n9 := 2) (b := (a 0)) C hw (c_X7_answers_g l D y base S39 a 1 1 hNw.1 hDs (Or.inr rfl) (Or.inr rfl) hNw.2.1.2.2.2.2.2.1 hNw.2.1.2.2.2.2.2.2.1) gL_law_X7_answers rfl (by decide +kernel) ⟨⟨rfl, rfl⟩, Nat.le_of_ble_eq_true rfl, Nat.le_of_ble_eq_true rfl⟩ hNw.1.1 ⟨by decide, by decide⟩ rfl rfl hl.1 rfl (Nat.le_of_ble_eq_true rfl) ⟨Nat.le_of_ble_eq_true rfl, Nat.le_of_ble_eq_true rfl⟩ dL_law_48 (fun r48 S48 H locs hp48 hw => ?_)
  obtain ⟨rfl, hS9⟩ := hp48
  have hNw : zNew S48 a := by rw [hS9]; exact zNew.same (zNew.same hNw hNw.2.1.2.2.2.2.2.1) (zI_t (by decide) hNw.2.1.2.2.2.2.2.2.1)
  refine lv_if_eq (tgt := 1945) hx hb dL_law_51 (by decide) (fun c51 => absurd c51 (by decide)) (fun _ => ?_)
  refine lv_aload_n hx hb dL_law_54 rfl (lv_at hl 0 rfl) ?_
  refine zcV_l (As := []) (rest := []) (n9 := 0) (b := (a 0)) C hw (c_X7_checksum_r l D y base S48 a hNw.1 hNw.2.1) gL_law_X7_checksum rfl (by decide +kernel) ⟨⟨rfl, rfl⟩, Nat.le_of_ble_eq_true rfl, Nat.le_of_ble_eq_true rfl⟩ hNw.1.1 ⟨by decide, by decide⟩ rfl rfl hl.1 rfl (Nat.le_of_ble_eq_true rfl) ⟨Nat.le_of_ble_eq_true rfl, Nat.le_of_ble_eq_true rfl⟩ dL_law_55 (fun r55 S55 H locs hp55 hw => ?_)
  obtain ⟨rfl, hS9⟩ := hp55
  have hS9 := hS9.symm
  subst hS9
  refine lv_ldc2 (own := RL) (v := ((7 : Int32).toInt64)) hx hb hown (hts (.constantLong RL 168 (7)) (by decide +kernel)) dL_law_58 ?_
  refine W.lcmp hx hb dL_law_61 ?_
  refine zrd (x := 0) (by first | rfl | decide) ?_
  refine lv_if_ne (tgt := 1945) hx hb dL_law_62 (by decide) (fun c62 => absurd c62 (by decide)) (fun _ => ?_)
  refine lv_aload_n hx hb dL_law_65 rfl (lv_at hl 0 rfl) ?_
  refine zcV_i (As := []) (rest := []) (n9 := 0) (b := (a 0)) C hw (c_X7_isSound_g l D y base S48 a (fun _ => 0) (fun _ _ _ => false) ([]) hNw.1 hNw.2.2 hDs (fun i hi => ⟨(hNw.2.1.2.1 i hi).1, by decide, fun w j _ g => absurd g (Nat.not_lt_zero _)⟩) (zOb.new hNw).2.2.2.2.2.2.2.2.2 (fun j g => absurd g (Nat.not_lt_zero j)) (fun j g => absurd g (Nat.not_lt_zero _))) gL_law_X7_isSound rfl (by decide +kernel) ⟨⟨rfl, rfl⟩, Nat.le_of_ble_eq_true rfl, Nat.le_of_ble_eq_true rfl⟩ hNw.1.1 ⟨by decide, by decide⟩ rfl rfl hl.1 rfl (Nat.le_of_ble_eq_true rfl) ⟨Nat.le_of_ble_eq_true rfl, Nat.le_of_ble_eq_true rfl⟩ dL_law_66 (fun r66 S66 H locs hp66 hw => ?_)
  obtain ⟨hr9, hS9⟩ := hp66
  have hr9 : r66 = 1 := hr9
  subst hr9
  have hS9 := hS9.symm
  subst hS9
  refine lv_if_eq (tgt := 1945) hx hb dL_law_69 (by decide) (fun c69 => absurd c69 (by decide)) (fun _ => ?_)
  exact law_part_0 hst C hr hlocks hy31 hNw hDs hbase hw hl
