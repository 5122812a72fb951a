set_option maxHeartbeats 4000000 in
set_option maxRecDepth 100000 in
/-- from any place of the loop's end, with its number at 0, the law answers true -/
theorem law_end {p : Program} {e : Env} {s : State} {m : MethodId} {below : List Frame} {meth : Method} {c : Code} {l : Launch} {b L : Nat} {xs : Nat → Int32} (hL : L ≤ 9) (C0 : lw_At p s m meth c b L xs) : zEnd p l e s m b below meth c s.heap.size := by
  obtain ⟨hx, hb, hr, hml, hown, hts, hX, hbl, hlocks, hgv⟩ := id C0
  intro H locs ls k n hk hn hS hl
  refine lv_iinc (v := 9) (lv' := [(5, .int 9), (0, .ref b)]) hx hb dL_law_2892 hl (k := 0) rfl (by decide) (by decide) rfl (fun ls hl => ?_)
  refine lv_goto (tgt := 28) hx hb dL_law_2895 (by decide) ?_
  refine lv_iload hx hb dL_law_28 (lv_at hl 0 rfl) ?_
  refine lv_aload_n hx hb dL_law_30 rfl (lv_at hl 1 rfl) ?_
  refine va_slen hx hb hX hbl (Nat.not_le.mpr hbl) hS dL_law_31 ?_
  refine lv_bipush (v := 9) hx hb dL_law_32 (by decide) ?_
  refine lv_isub hx hb dL_law_34 ?_
  refine lv_icmp_gt (tgt := 2898) hx hb dL_law_35 (by decide) (fun _ => ?_) (fun h => absurd ((by decide : ∀ L, L < 10 → (nI L - 9 : Int32) < 9) L (by omega)) h)
  refine lv_iconst (v := 1) hx hb dL_law_2898 (by decide) ?_
  refine va_forget (fun q hq => hS.2.2 q hq) ?_
  refine W.widen (k := 600002) (n := 7302232) hk hn ?_
  exact lw_ret (d0 := s.drawn) (Drawn.sameBut.refl s.drawn lw_cs) hx hb hr hlocks dL_law_2899
set_option maxHeartbeats 4000000 in
set_option maxRecDepth 100000 in
/-- THE LAW, from its entry -/
theorem whole_start {p : Program} {e : Env} {s : State} {m : MethodId} {below : List Frame} {meth : Method} {c : Code} (l : Launch) (hflags : l.flags = flags0) {b L : Nat} {xs : Nat → Int32} (hL : L ≤ 9) (C0 : lw_At p s m meth c b L xs) : W p l e room_1 s m #[Value.ref b] below meth c s.heap [] 0 0 (lw_Z below #[Value.ref b] s) (entryFrame m ([Value.ref b] : List Value).toArray 9) := by
  have hend := law_end (e := e) (below := below) (l := l) hL C0
  obtain ⟨hx, hb, hr, hml, hown, hts9, hXs, hbl, hlocks, hgv⟩ := id C0
  obtain ⟨D, y, hy, hV⟩ := zV_of C0
  have hst : l.stackTraces = false := by
    show (!l.flags.contains noTraceFlag) = false
    rw [hflags]
    decide
  have C : CallFix p m c code 9 s #[Value.ref b] wsL_law RL := ⟨hx, hb, hml, hown, fun w h => hts9 w (wsL_law_in w h)⟩
  have hts := C.2.2.2.2
  have hw : zW D y s.heap.size zS0 s s.heap [] := ⟨hV, zH0 hy, va_S.rf, Nat.le_refl _⟩
  have hl := lv_entry ([.ref b]) (n := 9) (Nat.le_of_ble_eq_true rfl)
  rw [lg_entry_eq]
  generalize (lg_sl ([.ref b]) ++ List.replicate (9 - (lg_sl ([.ref b])).length) Slot.unset).toArray = ls at hl ⊢
  have hl : lv_has ls 9 [(0, .ref b)] := hl
  have in_X11 := inlX11
  have in_X7 := inlX7
  refine znew (k := 11) (Cn := RX7) (T := TX7) (N := 8) C hw (by decide) (by decide) rfl in_X7 tyX7 tyX7_ok (by decide +kernel) (by decide +kernel) (by decide +kernel) (zdfX7) (Nat.le_of_ble_eq_true rfl) (Nat.le_of_ble_eq_true rfl) dL_law_0 (fun q0 H kq0 hw => ?_)
  refine lv_dup hx hb dL_law_3 rfl ?_
  refine zcI_v (As := []) (rest := [.ref q0]) (n9 := 0) (b := q0) C hw (c_X7_init l D y s.heap.size (znO zS0 q0 11) q0 (zK_nOs _ _ _) (fun t => zI_nOs _ _ _ _)) gL_law_X7_init rfl (by decide +kernel) (by decide +kernel) (by decide +kernel) rfl (by decide +kernel) ⟨⟨rfl, rfl⟩, Nat.le_of_ble_eq_true rfl, Nat.le_of_ble_eq_true rfl⟩ rfl hl.1 rfl (Nat.le_of_ble_eq_true rfl) ⟨Nat.le_of_ble_eq_true rfl, Nat.le_of_ble_eq_true rfl⟩ dL_law_4 (fun S4 H locs hp4 hw => ?_)
  obtain ⟨a, ha, hX, h0, -⟩ := hp4
  have hw4 := hw
  subst ha
  have hw := hw4
  refine lv_astore_n (lv' := [(1, .ref (a 0)), (0, .ref b)]) hx hb dL_law_7 rfl hl (by decide) rfl (fun ls hl => ?_)
  refine znew (k := 15) (Cn := RX11) (T := TX11) (N := 10) C hw (by decide) (by decide) rfl in_X11 tyX11 tyX11_ok (by decide +kernel) (by decide +kernel) (by decide +kernel) (zdfX11) (Nat.le_of_ble_eq_true rfl) (Nat.le_of_ble_eq_true rfl) dL_law_8 (fun q8 H kq8 hw => ?_)
  refine lv_dup hx hb dL_law_11 rfl ?_
  refine zcI_v (As := []) (rest := [.ref q8]) (n9 := 0) (b := q8) C hw (c_X11_init l D y s.heap.size (znO S4 q8 15) q8 (zK_nOs _ _ _) (zI_nOs _ _ _ _)) gL_law_X11_init rfl (by decide +kernel) (by decide +kernel) (by decide +kernel) rfl (by decide +kernel) ⟨⟨rfl, rfl⟩, Nat.le_of_ble_eq_true rfl, Nat.le_of_ble_eq_true rfl⟩ rfl hl.1 rfl (Nat.le_of_ble_eq_true rfl) ⟨Nat.le_of_ble_eq_true rfl, Nat.le_of_ble_eq_true rfl⟩ dL_law_12 (fun S12 H locs hp12 hw => ?_)
  obtain ⟨bm, hb0, hM, hM0, hF, hreg, hg⟩ := hp12
  have hw12 := hw
  subst hb0
  have hw := hw12
  have hg2 : zGv S4 S12 (bm 0) := (zGv.nO kq8).tr hg
  have hX2 := hX.gv hg2 kq8
  have h02 := zX0.gv hg2 kq8 hX h0
  refine lv_astore_n (lv' := [(2, .ref (bm 0)), (1, .ref (a 0)), (0, .ref b)]) hx hb dL_law_15 rfl hl (by decide) rfl (fun ls hl => ?_)
  refine lv_iconst (v := 1) hx hb dL_law_16 (by decide) ?_
  refine znewJ (N := 1) C hw (by decide +kernel) (by decide) (by decide) (Nat.le_of_ble_eq_true rfl) (Nat.le_of_ble_eq_true rfl) (Nat.le_of_ble_eq_true rfl) dL_law_17 (fun q17 H k17 hw => ?_)
  have hX3 := hX2.gv (zGv.nJ (n := 1) (v := q17) k17) k17
  have h03 := zX0.gv (zGv.nJ (n := 1) (v := q17) k17) k17 hX2 h02
  have hM3 := zMd.gv (zGv.nJ (n := 1) (v := q17) k17) k17 hM hM0 hF hreg
  refine lv_astore_n (lv' := [(3, .ref q17), (2, .ref (bm 0)), (1, .ref (a 0)), (0, .ref b)]) hx hb dL_law_19 rfl hl (by decide) rfl (fun ls hl => ?_)
  refine lv_iconst (v := 1) hx hb dL_law_20 (by decide) ?_
  refine znewD (N := 1) C hw (by decide +kernel) (by decide) (by decide) (Nat.le_of_ble_eq_true rfl) (Nat.le_of_ble_eq_true rfl) (Nat.le_of_ble_eq_true rfl) dL_law_21 (fun q21 H hw => ?_)
  refine lv_astore (lv' := [(4, .ref q21), (3, .ref q17), (2, .ref (bm 0)), (1, .ref (a 0)), (0, .ref b)]) hx hb dL_law_23 hl (by decide) rfl (fun ls hl => ?_)
  refine lv_iconst (v := 0) hx hb dL_law_25 (by decide) ?_
  refine lv_istore (lv' := [(5, .int 0), (4, .ref q21), (3, .ref q17), (2, .ref (bm 0)), (1, .ref (a 0)), (0, .ref b)]) hx hb dL_law_26 hl (by decide) rfl (fun ls hl => ?_)
  refine lv_iload hx hb dL_law_28 (lv_at hl 0 rfl) ?_
  refine lv_aload_n hx hb dL_law_30 rfl (lv_at hl 5 rfl) ?_
  refine va_slen hx hb hXs hbl (Nat.not_le.mpr hbl) hw.2.2.1 dL_law_31 ?_
  refine lv_bipush (v := 9) hx hb dL_law_32 (by decide) ?_
  refine lv_isub hx hb dL_law_34 ?_
  refine lv_icmp_gt (tgt := 2898) hx hb dL_law_35 (by decide) (fun h9 => ?_) (fun h9 => ?_)
  · refine lv_iconst (v := 1) hx hb dL_law_2898 (by decide) ?_
    refine va_forget (fun q hq => hw.2.2.1.2.2 q hq) ?_
    refine W.widen (k := 600002) (n := 7302232) (Nat.le_of_ble_eq_true rfl) (Nat.le_of_ble_eq_true rfl) ?_
    exact lw_ret (d0 := s.drawn) (Drawn.sameBut.refl s.drawn lw_cs) hx hb hr hlocks dL_law_2899
  · have hL9 : L = 9 := by
      rcases Nat.eq_or_lt_of_le hL with h | h
      · exact h
      · exact absurd ((by decide : ∀ L, L < 9 → (nI L - 9 : Int32) < 0) L h) h9
    subst hL9
    refine lv_aload_n hx hb dL_law_38 rfl (lv_at hl 5 rfl) ?_
    refine lv_iload hx hb dL_law_39 (lv_at hl 0 rfl) ?_
    refine zsld (v := xs 0) C hw hXs hbl rfl (zin_of (N := 9) (by decide) (by decide) (by decide)) rfl dL_law_41 ?_
    refine lv_bipush (v := 63) hx hb dL_law_42 (by decide) ?_
    refine lv_iand hx hb dL_law_44 ?_
    obtain ⟨j, hj, ej⟩ := pk_andE (xs 0) (m := 63) 6 rfl
    rw [ej]
    refine W.widen (k := 1000) (n := 60000) (Nat.le_of_ble_eq_true rfl) (Nat.le_of_ble_eq_true rfl) ?_
    have hl9 : lv_has ls 9 [(5, .int 0), (0, .ref b), (1, .ref (a 0)), (2, .ref (bm 0)), (3, .ref q17), (4, .ref q21)] := lv_sub hl [0, 5, 4, 3, 2, 1] rfl
    by_cases hj39 : j < 39
    · rcases (show j = 0 ∨ j = 1 ∨ j = 2 ∨ j = 3 ∨ j = 4 ∨ j = 5 ∨ j = 6 ∨ j = 7 ∨ j = 8 ∨ j = 9 ∨ j = 10 ∨ j = 11 ∨ j = 12 ∨ j = 13 ∨ j = 14 ∨ j = 15 ∨ j = 16 ∨ j = 17 ∨ j = 18 ∨ j = 19 ∨ j = 20 ∨ j = 21 ∨ j = 22 ∨ j = 23 ∨ j = 24 ∨ j = 25 ∨ j = 26 ∨ j = 27 ∨ j = 28 ∨ j = 29 ∨ j = 30 ∨ j = 31 ∨ j = 32 ∨ j = 33 ∨ j = 34 ∨ j = 35 ∨ j = 36 ∨ j = 37 ∨ j = 38 by omega) with rfl | rfl | rfl | rfl | rfl | rfl | rfl | rfl | rfl | rfl | rfl | rfl | rfl | rfl | rfl | rfl | rfl | rfl | rfl | rfl | rfl | rfl | rfl | rfl | rfl | rfl | rfl | rfl | rfl | rfl | rfl | rfl | rfl | rfl | rfl | rfl | rfl | rfl | rfl
      · refine lv_tableIn hx hb dL_law_45 (by decide) (by decide) (off := 171) (tgt := 216) (by decide +kernel) (by decide) ?_
        exact law_case_0 hst C hend hXs hbl rfl hy hX3 h03 hM3.1.1 hM3.1.2.1 hM3.1.2.2 hM3.2 znJ_q.1 znJ_q.2 hw hl9
      · refine lv_tableIn hx hb dL_law_45 (by decide) (by decide) (off := 262) (tgt := 307) (by decide +kernel) (by decide) ?_
        exact law_case_1 hst C hend hXs hbl rfl hy hX3 h03 hM3.1.1 hM3.1.2.1 hM3.1.2.2 hM3.2 znJ_q.1 znJ_q.2 hw hl9
      · refine lv_tableIn hx hb dL_law_45 (by decide) (by decide) (off := 330) (tgt := 375) (by decide +kernel) (by decide) ?_
        exact law_case_2 hst C hend hXs hbl rfl hy hX3 h03 hM3.1.1 hM3.1.2.1 hM3.1.2.2 hM3.2 znJ_q.1 znJ_q.2 hw hl9
      · refine lv_tableIn hx hb dL_law_45 (by decide) (by decide) (off := 405) (tgt := 450) (by decide +kernel) (by decide) ?_
        exact law_case_3 hst C hend hXs hbl rfl hy hX3 h03 hM3.1.1 hM3.1.2.1 hM3.1.2.2 hM3.2 znJ_q.1 znJ_q.2 hw hl9
      · refine lv_tableIn hx hb dL_law_45 (by decide) (by decide) (off := 485) (tgt := 530) (by decide +kernel) (by decide) ?_
        exact law_case_4 hst C hend hXs hbl rfl hy hX3 h03 hM3.1.1 hM3.1.2.1 hM3.1.2.2 hM3.2 znJ_q.1 znJ_q.2 hw hl9
      · refine lv_tableIn hx hb dL_law_45 (by decide) (by decide) (off := 541) (tgt := 586) (by decide +kernel) (by decide) ?_
        exact law_case_5 hst C hend hXs hbl rfl hy hX3 h03 hM3.1.1 hM3.1.2.1 hM3.1.2.2 hM3.2 znJ_q.1 znJ_q.2 hw hl9
      · refine lv_tableIn hx hb dL_law_45 (by decide) (by decide) (off := 647) (tgt := 692) (by decide +kernel) (by decide) ?_
        exact law_case_6 hst C hend hXs hbl rfl hy hX3 h03 hM3.1.1 hM3.1.2.1 hM3.1.2.2 hM3.2 znJ_q.1 znJ_q.2 hw hl9
      · refine lv_tableIn hx hb dL_law_45 (by decide) (by decide) (off := 716) (tgt := 761) (by decide +kernel) (by decide) ?_
        exact law_case_7 hst C hend hXs hbl rfl hy hX3 h03 hM3.1.1 hM3.1.2.1 hM3.1.2.2 hM3.2 znJ_q.1 znJ_q.2 hw hl9
      · refine lv_tableIn hx hb dL_law_45 (by decide) (by decide) (off := 878) (tgt := 923) (by decide +kernel) (by decide) ?_
        exact law_case_8 hst C hend hXs hbl rfl hy hX3 h03 hM3.1.1 hM3.1.2.1 hM3.1.2.2 hM3.2 znJ_q.1 znJ_q.2 hw hl9
      · refine lv_tableIn hx hb dL_law_45 (by decide) (by decide) (off := 1010) (tgt := 1055) (by decide +kernel) (by decide) ?_
        exact law_case_9 hst C hend hXs hbl rfl hy hX3 h03 hM3.1.1 hM3.1.2.1 hM3.1.2.2 hM3.2 znJ_q.1 znJ_q.2 hw hl9
      · refine lv_tableIn hx hb dL_law_45 (by decide) (by decide) (off := 1102) (tgt := 1147) (by decide +kernel) (by decide) ?_
        exact law_case_10 hst C hend hXs hbl rfl hy hX3 h03 hM3.1.1 hM3.1.2.1 hM3.1.2.2 hM3.2 znJ_q.1 znJ_q.2 hw hl9
      · refine lv_tableIn hx hb dL_law_45 (by decide) (by decide) (off := 1158) (tgt := 1203) (by decide +kernel) (by decide) ?_
        exact law_case_11 hst C hend hXs hbl rfl hy hX3 h03 hM3.1.1 hM3.1.2.1 hM3.1.2.2 hM3.2 znJ_q.1 znJ_q.2 hw hl9
      · refine lv_tableIn hx hb dL_law_45 (by decide) (by decide) (off := 1226) (tgt := 1271) (by decide +kernel) (by decide) ?_
        exact law_case_12 hst C hend hXs hbl rfl hy hX3 h03 hM3.1.1 hM3.1.2.1 hM3.1.2.2 hM3.2 znJ_q.1 znJ_q.2 hw hl9
      · refine lv_tableIn hx hb dL_law_45 (by decide) (by decide) (off := 1294) (tgt := 1339) (by decide +kernel) (by decide) ?_
        exact law_case_13 hst C hend hXs hbl rfl hy hX3 h03 hM3.1.1 hM3.1.2.1 hM3.1.2.2 hM3.2 znJ_q.1 znJ_q.2 hw hl9
      · refine lv_tableIn hx hb dL_law_45 (by decide) (by decide) (off := 1374) (tgt := 1419) (by decide +kernel) (by decide) ?_
        exact law_case_14 hst C hend hXs hbl rfl hy hX3 h03 hM3.1.1 hM3.1.2.1 hM3.1.2.2 hM3.2 znJ_q.1 znJ_q.2 hw hl9
      · refine lv_tableIn hx hb dL_law_45 (by decide) (by decide) (off := 1442) (tgt := 1487) (by decide +kernel) (by decide) ?_
        exact law_case_15 hst C hend hXs hbl rfl hy hX3 h03 hM3.1.1 hM3.1.2.1 hM3.1.2.2 hM3.2 znJ_q.1 znJ_q.2 hw hl9
      · refine lv_tableIn hx hb dL_law_45 (by decide) (by decide) (off := 1534) (tgt := 1579) (by decide +kernel) (by decide) ?_
        exact law_case_16 hst C hend hXs hbl rfl hy hX3 h03 hM3.1.1 hM3.1.2.1 hM3.1.2.2 hM3.2 znJ_q.1 znJ_q.2 hw hl9
      · refine lv_tableIn hx hb dL_law_45 (by decide) (by decide) (off := 1616) (tgt := 1661) (by decide +kernel) (by decide) ?_
        exact law_case_17 hst C hend hXs hbl rfl hy hX3 h03 hM3.1.1 hM3.1.2.1 hM3.1.2.2 hM3.2 znJ_q.1 znJ_q.2 hw hl9
      · refine lv_tableIn hx hb dL_law_45 (by decide) (by decide) (off := 1629) (tgt := 1674) (by decide +kernel) (by decide) ?_
        exact law_case_18 hst C hend hXs hbl rfl hy hX3 h03 hM3.1.1 hM3.1.2.1 hM3.1.2.2 hM3.2 znJ_q.1 znJ_q.2 hw hl9
      · refine lv_tableIn hx hb dL_law_45 (by decide) (by decide) (off := 1685) (tgt := 1730) (by decide +kernel) (by decide) ?_
        exact law_case_19 hst C hend hXs hbl rfl hy hX3 h03 hM3.1.1 hM3.1.2.1 hM3.1.2.2 hM3.2 znJ_q.1 znJ_q.2 hw hl9
      · refine lv_tableIn hx hb dL_law_45 (by decide) (by decide) (off := 1779) (tgt := 1824) (by decide +kernel) (by decide) ?_
        exact law_case_20 hst C hend hXs hbl rfl hy hX3 h03 hM3.1.1 hM3.1.2.1 hM3.1.2.2 hM3.2 znJ_q.1 znJ_q.2 hw hl9
      · refine lv_tableIn hx hb dL_law_45 (by decide) (by decide) (off := 1859) (tgt := 1904) (by decide +kernel) (by decide) ?_
        exact law_case_21 hst C hend hXs hbl rfl hy hX3 h03 hM3.1.1 hM3.1.2.1 hM3.1.2.2 hM3.2 znJ_q.1 znJ_q.2 hw hl9
      · refine lv_tableIn hx hb dL_law_45 (by decide) (by decide) (off := 1963) (tgt := 2008) (by decide +kernel) (by decide) ?_
        exact law_case_22 hst C hend hXs hbl rfl hy hX3 h03 hM3.1.1 hM3.1.2.1 hM3.1.2.2 hM3.2 znJ_q.1 znJ_q.2 hw hl9
      · refine lv_tableIn hx hb dL_law_45 (by decide) (by decide) (off := 1976) (tgt := 2021) (by decide +kernel) (by decide) ?_
        exact law_case_23 hst C hend hXs hbl rfl hy hX3 h03 hM3.1.1 hM3.1.2.1 hM3.1.2.2 hM3.2 znJ_q.1 znJ_q.2 hw hl9
      · refine lv_tableIn hx hb dL_law_45 (by decide) (by decide) (off := 2032) (tgt := 2077) (by decide +kernel) (by decide) ?_
        exact law_case_24 hst C hend hXs hbl rfl hy hX3 h03 hM3.1.1 hM3.1.2.1 hM3.1.2.2 hM3.2 znJ_q.1 znJ_q.2 hw hl9
      · refine lv_tableIn hx hb dL_law_45 (by decide) (by decide) (off := 2088) (tgt := 2133) (by decide +kernel) (by decide) ?_
        exact law_case_25 hst C hend hXs hbl rfl hy hX3 h03 hM3.1.1 hM3.1.2.1 hM3.1.2.2 hM3.2 znJ_q.1 znJ_q.2 hw hl9
      · refine lv_tableIn hx hb dL_law_45 (by decide) (by decide) (off := 2144) (tgt := 2189) (by decide +kernel) (by decide) ?_
        exact law_case_26 hst C hend hXs hbl rfl hy hX3 h03 hM3.1.1 hM3.1.2.1 hM3.1.2.2 hM3.2 znJ_q.1 znJ_q.2 hw hl9
      · refine lv_tableIn hx hb dL_law_45 (by decide) (by decide) (off := 2200) (tgt := 2245) (by decide +kernel) (by decide) ?_
        exact law_case_27 hst C hend hXs hbl rfl hy hX3 h03 hM3.1.1 hM3.1.2.1 hM3.1.2.2 hM3.2 znJ_q.1 znJ_q.2 hw hl9
      · refine lv_tableIn hx hb dL_law_45 (by decide) (by decide) (off := 2256) (tgt := 2301) (by decide +kernel) (by decide) ?_
        exact law_case_28 hst C hend hXs hbl rfl hy hX3 h03 hM3.1.1 hM3.1.2.1 hM3.1.2.2 hM3.2 znJ_q.1 znJ_q.2 hw hl9
      · refine lv_tableIn hx hb dL_law_45 (by decide) (by decide) (off := 2324) (tgt := 2369) (by decide +kernel) (by decide) ?_
        exact law_case_29 hst C hend hXs hbl rfl hy hX3 h03 hM3.1.1 hM3.1.2.1 hM3.1.2.2 hM3.2 znJ_q.1 znJ_q.2 hw hl9
      · refine lv_tableIn hx hb dL_law_45 (by decide) (by decide) (off := 2392) (tgt := 2437) (by decide +kernel) (by decide) ?_
        exact law_case_30 hst C hend hXs hbl rfl hy hX3 h03 hM3.1.1 hM3.1.2.1 hM3.1.2.2 hM3.2 znJ_q.1 znJ_q.2 hw hl9
      · refine lv_tableIn hx hb dL_law_45 (by decide) (by decide) (off := 2460) (tgt := 2505) (by decide +kernel) (by decide) ?_
        exact law_case_31 hst C hend hXs hbl rfl hy hX3 h03 hM3.1.1 hM3.1.2.1 hM3.1.2.2 hM3.2 znJ_q.1 znJ_q.2 hw hl9
      · refine lv_tableIn hx hb dL_law_45 (by decide) (by decide) (off := 2516) (tgt := 2561) (by decide +kernel) (by decide) ?_
        exact law_case_32 hst C hend hXs hbl rfl hy hX3 h03 hM3.1.1 hM3.1.2.1 hM3.1.2.2 hM3.2 znJ_q.1 znJ_q.2 hw hl9
      · refine lv_tableIn hx hb dL_law_45 (by decide) (by decide) (off := 2572) (tgt := 2617) (by decide +kernel) (by decide) ?_
        exact law_case_33 hst C hend hXs hbl rfl hy hX3 h03 hM3.1.1 hM3.1.2.1 hM3.1.2.2 hM3.2 znJ_q.1 znJ_q.2 hw hl9
      · refine lv_tableIn hx hb dL_law_45 (by decide) (by decide) (off := 2628) (tgt := 2673) (by decide +kernel) (by decide) ?_
        exact law_case_34 hst C hend hXs hbl rfl hy hX3 h03 hM3.1.1 hM3.1.2.1 hM3.1.2.2 hM3.2 znJ_q.1 znJ_q.2 hw hl9
      · refine lv_tableIn hx hb dL_law_45 (by decide) (by decide) (off := 2641) (tgt := 2686) (by decide +kernel) (by decide) ?_
        exact law_case_35 hst C hend hXs hbl rfl hy hX3 h03 hM3.1.1 hM3.1.2.1 hM3.1.2.2 hM3.2 znJ_q.1 znJ_q.2 hw hl9
      · refine lv_tableIn hx hb dL_law_45 (by decide) (by decide) (off := 2655) (tgt := 2700) (by decide +kernel) (by decide) ?_
        exact law_case_36 hst C hend hXs hbl rfl hy hX3 h03 hM3.1.1 hM3.1.2.1 hM3.1.2.2 hM3.2 znJ_q.1 znJ_q.2 hw hl9
      · refine lv_tableIn hx hb dL_law_45 (by decide) (by decide) (off := 2745) (tgt := 2790) (by decide +kernel) (by decide) ?_
        exact law_case_37 hst C hend hXs hbl rfl hy hX3 h03 hM3.1.1 hM3.1.2.1 hM3.1.2.2 hM3.2 znJ_q.1 znJ_q.2 hw hl9
      · refine lv_tableIn hx hb dL_law_45 (by decide) (by decide) (off := 2834) (tgt := 2879) (by decide +kernel) (by decide) ?_
        exact law_case_38 hst C hend hXs hbl rfl hy hX3 h03 hM3.1.1 hM3.1.2.1 hM3.1.2.2 hM3.2 znJ_q.1 znJ_q.2 hw hl9
    · refine lv_tableOut hx hb dL_law_45 (Or.inr ?_) (tgt := 2892) (by decide) ?_
      · rw [nI_toInt (by omega)]
        omega
      · exact hend _ _ _ _ _ (Nat.le_of_ble_eq_true rfl) (Nat.le_of_ble_eq_true rfl) hw.2.2.1 (lv_sub hl9 [0, 1] rfl)
