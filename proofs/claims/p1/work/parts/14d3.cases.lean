set_option maxHeartbeats 4000000 in
set_option maxRecDepth 100000 in
theorem law_case_24 {p : Program} {l : Launch} {e : Env} {s : State} {m : MethodId} {below : List Frame} {meth : Method} {c : Code} {H : Heap} {locs : List Loc} {ls : Array Slot} {D : va_G} {y : Nat → ClassId} {base : Nat} {S : zS} {a b : Nat → Nat} {o od bs : Nat} {xs : Nat → Int32} (hst : l.stackTraces = false) (C : CallFix p m c code 9 s #[Value.ref bs] wsL_law RL) (hend : zEnd p l e s m bs below meth c base)
    (hXs : va_X bs 9 xs s s.heap) (hbl : bs < s.heap.size) (hbs : base = s.heap.size) (hy : y 94 = 0) (hX : zX S a) (h0 : zX0 S a) (hM : zMd S b) (hM0 : zMd0 S b) (hF : zQ S 49 (b 4) = some (y 92) ∧ zQ S 49 (b 5) = some (y 92)) (hreg : ∀ i j, i < 128 → zR S 22 (b (100 + i)) j = 0) (hko : zK S o = 24) (hno : zN S o = 1)
    (hw : zW D y base S s H locs) (hl : lv_has ls 9 [(5, .int 0), (0, .ref bs), (1, .ref (a 0)), (2, .ref (b 0)), (3, .ref o), (4, .ref od)]) : W p l e room_1 s m #[Value.ref bs] below meth c H locs 1000 60000 (lw_Z below #[Value.ref bs] s) (F0 m 2077 ls []) := by
  have hx := C.1
  have hb := C.2.1
  have hown := C.2.2.2.1
  have hts := C.2.2.2.2
  refine lv_aload_n hx hb dL_law_2077 rfl (lv_at hl 2 rfl) ?_
  refine lv_aload_n hx hb dL_law_2078 rfl (lv_at hl 1 rfl) ?_
  refine lv_iload hx hb dL_law_2079 (lv_at hl 0 rfl) ?_
  refine lv_iconst (v := 1) hx hb dL_law_2081 (by decide) ?_
  refine lv_iadd hx hb dL_law_2082 ?_
  refine zrd (x := 1) (by decide) ?_
  refine zsld (v := xs 1) C hw hXs hbl hbs (zin_of (N := 9) (by decide) (by decide) (by decide)) rfl dL_law_2083 ?_
  refine lv_aload_n hx hb dL_law_2084 rfl (lv_at hl 4 rfl) ?_
  refine zcSW_i (As := [.ref (a 0), .int (xs 1), .ref o]) (rest := []) (n9 := 3) C hw (c_L_begin l hst D y base S a (xs 1) o hX (by first | assumption | exact zbo_01 _) hko (by first | assumption | exact zbo_01 _)) gL_law_L_begin rfl (by decide +kernel) ⟨⟨rfl, rfl⟩, Nat.le_of_ble_eq_true rfl, Nat.le_of_ble_eq_true rfl⟩ rfl hl.1 rfl (Nat.le_of_ble_eq_true rfl) ⟨Nat.le_of_ble_eq_true rfl, Nat.le_of_ble_eq_true rfl⟩ dL_law_2085 (fun r2085 S2085 H locs hp2085 hw => ?_)
  obtain ⟨hk9, hv9, hco⟩ := hp2085
  obtain ⟨hM9, hM09, hF9, hF95⟩ := hco.ref hM hM0 hF
  obtain ⟨hko9, hno9⟩ := hco.o hko hno
  obtain ⟨y, y92, y94, y95, y96, hw⟩ := zW_out hw hy hko9 hno9
  have hMd : zMd (zdl S2085 o) b := hM9.dl hko9
  have hM0d : zMd0 (zdl S2085 o) b := hM09
  have hFd : zQ (zdl S2085 o) 49 (b 4) = some (y 92) := by rw [y92]; exact hF9
  have hEd : zMdE (zdl S2085 o) b := ⟨⟨_, hF9⟩, _, hF95⟩
  refine lv_istore (lv' := [(6, .int r2085), (5, .int 0), (0, .ref bs), (1, .ref (a 0)), (2, .ref (b 0)), (3, .ref o), (4, .ref od)]) hx hb dL_law_2088 hl (by decide) rfl (fun ls hl => ?_)
  refine lv_aload_n hx hb dL_law_2090 rfl (lv_at hl 4 rfl) ?_
  refine lv_aload_n hx hb dL_law_2091 rfl (lv_at hl 2 rfl) ?_
  refine lv_iload hx hb dL_law_2092 (lv_at hl 1 rfl) ?_
  refine lv_iconst (v := 1) hx hb dL_law_2094 (by decide) ?_
  refine lv_iadd hx hb dL_law_2095 ?_
  refine zrd (x := 1) (by decide) ?_
  refine zsld (v := xs 1) C hw hXs hbl hbs (zin_of (N := 9) (by decide) (by decide) (by decide)) rfl dL_law_2096 ?_
  refine zcV_i (As := [.int (xs 1)]) (rest := []) (n9 := 1) (b := (b 0)) C hw (c_X11_begin l D y base (zdl S2085 o) b (xs 1) hMd (by first | assumption | exact zbo_01 _)) gL_law_X11_begin rfl (by decide +kernel) ⟨⟨rfl, rfl⟩, Nat.le_of_ble_eq_true rfl, Nat.le_of_ble_eq_true rfl⟩ hMd.1 ⟨by decide, by decide⟩ rfl rfl hl.1 rfl (Nat.le_of_ble_eq_true rfl) ⟨Nat.le_of_ble_eq_true rfl, Nat.le_of_ble_eq_true rfl⟩ dL_law_2097 (fun r2097 S2097 H locs hp2097 hw => ?_)
  obtain ⟨r1, r2, r3⟩ := hp2097
  refine lv_istore (lv' := [(7, .int r2097), (6, .int r2085), (5, .int 0), (0, .ref bs), (1, .ref (a 0)), (2, .ref (b 0)), (3, .ref o), (4, .ref od)]) hx hb dL_law_2100 hl (by decide) rfl (fun ls hl => ?_)
  refine lv_aload_n hx hb dL_law_2102 rfl (lv_at hl 5 rfl) ?_
  refine zcV_i (As := []) (rest := []) (n9 := 0) (b := (b 0)) C hw (c_X11_thrown l D y base S2097 (b 0) (1 : Int32) r1 r2) gL_law_X11_thrown rfl (by decide +kernel) ⟨⟨rfl, rfl⟩, Nat.le_of_ble_eq_true rfl, Nat.le_of_ble_eq_true rfl⟩ r1 ⟨by decide, by decide⟩ rfl rfl hl.1 rfl (Nat.le_of_ble_eq_true rfl) ⟨Nat.le_of_ble_eq_true rfl, Nat.le_of_ble_eq_true rfl⟩ dL_law_2103 (fun r2103 S2103 H locs hp2103 hw => ?_)
  obtain ⟨rfl, hS9⟩ := hp2103
  have hS9 := hS9.symm
  subst hS9
  refine lv_iload hx hb dL_law_2106 (lv_at hl 1 rfl) ?_
  refine lv_icmp_eq (tgt := 2113) hx hb dL_law_2108 (by decide) (fun c2108 => ?_) (fun c2108 => (show False from (c2108 hk9.symm)).elim)
  refine lv_iload hx hb dL_law_2113 (lv_at hl 1 rfl) ?_
  refine lv_if_ne (tgt := 2130) hx hb dL_law_2115 (by decide) (fun c2115 => ?_) (fun c2115 => ?_)
  · refine lv_goto (tgt := 2892) hx hb dL_law_2130 (by decide) ?_
    exact hend _ _ _ _ _ (Nat.le_of_ble_eq_true rfl) (Nat.le_of_ble_eq_true rfl) hw.2.2.1 (lv_sub hl [2, 3] rfl)
  · have hz9 : (1 : Int32) = 0 := hk9.symm.trans c2115
    have hb9 := r3 hz9
    subst hb9
    refine lv_aload_n hx hb dL_law_2118 rfl (lv_at hl 6 rfl) ?_
    refine lv_iconst (v := 0) hx hb dL_law_2119 (by decide) ?_
    refine zaldX C hw y94 y95 dL_law_2120 ?_
    refine zrdl (x := ((0 : Int32).toInt64)) (y96.trans (hv9 hz9)) ?_
    refine lv_iload hx hb dL_law_2121 (lv_at hl 0 rfl) ?_
    refine lv_i2l (v := (0 : Int32).toInt64) hx hb dL_law_2123 rfl ?_
    refine W.lcmp hx hb dL_law_2124 ?_
    refine zrd (x := 0) ((lg_cmp_eq _ _).mpr rfl) ?_
    refine lv_if_eq (tgt := 2130) hx hb dL_law_2125 (by decide) (fun _ => ?_) (fun c2125 => absurd c2125 (by decide))
    refine lv_goto (tgt := 2892) hx hb dL_law_2130 (by decide) ?_
    exact hend _ _ _ _ _ (Nat.le_of_ble_eq_true rfl) (Nat.le_of_ble_eq_true rfl) hw.2.2.1 (lv_sub hl [2, 3] rfl)

set_option maxHeartbeats 4000000 in
set_option maxRecDepth 100000 in
theorem law_case_25 {p : Program} {l : Launch} {e : Env} {s : State} {m : MethodId} {below : List Frame} {meth : Method} {c : Code} {H : Heap} {locs : List Loc} {ls : Array Slot} {D : va_G} {y : Nat → ClassId} {base : Nat} {S : zS} {a b : Nat → Nat} {o od bs : Nat} {xs : Nat → Int32} (hst : l.stackTraces = false) (C : CallFix p m c code 9 s #[Value.ref bs] wsL_law RL) (hend : zEnd p l e s m bs below meth c base)
    (hXs : va_X bs 9 xs s s.heap) (hbl : bs < s.heap.size) (hbs : base = s.heap.size) (hy : y 94 = 0) (hX : zX S a) (h0 : zX0 S a) (hM : zMd S b) (hM0 : zMd0 S b) (hF : zQ S 49 (b 4) = some (y 92) ∧ zQ S 49 (b 5) = some (y 92)) (hreg : ∀ i j, i < 128 → zR S 22 (b (100 + i)) j = 0) (hko : zK S o = 24) (hno : zN S o = 1)
    (hw : zW D y base S s H locs) (hl : lv_has ls 9 [(5, .int 0), (0, .ref bs), (1, .ref (a 0)), (2, .ref (b 0)), (3, .ref o), (4, .ref od)]) : W p l e room_1 s m #[Value.ref bs] below meth c H locs 1000 60000 (lw_Z below #[Value.ref bs] s) (F0 m 2133 ls []) := by
  have hx := C.1
  have hb := C.2.1
  have hown := C.2.2.2.1
  have hts := C.2.2.2.2
  refine lv_aload_n hx hb dL_law_2133 rfl (lv_at hl 2 rfl) ?_
  refine lv_aload_n hx hb dL_law_2134 rfl (lv_at hl 1 rfl) ?_
  refine lv_iload hx hb dL_law_2135 (lv_at hl 0 rfl) ?_
  refine lv_iconst (v := 1) hx hb dL_law_2137 (by decide) ?_
  refine lv_iadd hx hb dL_law_2138 ?_
  refine zrd (x := 1) (by decide) ?_
  refine zsld (v := xs 1) C hw hXs hbl hbs (zin_of (N := 9) (by decide) (by decide) (by decide)) rfl dL_law_2139 ?_
  refine lv_aload_n hx hb dL_law_2140 rfl (lv_at hl 4 rfl) ?_
  refine zcSW_i (As := [.ref (a 0), .int (xs 1), .ref o]) (rest := []) (n9 := 3) C hw (c_L_end l hst D y base S a (xs 1) o hX (by first | assumption | exact zbo_01 _) hko (by first | assumption | exact zbo_01 _)) gL_law_L_end rfl (by decide +kernel) ⟨⟨rfl, rfl⟩, Nat.le_of_ble_eq_true rfl, Nat.le_of_ble_eq_true rfl⟩ rfl hl.1 rfl (Nat.le_of_ble_eq_true rfl) ⟨Nat.le_of_ble_eq_true rfl, Nat.le_of_ble_eq_true rfl⟩ dL_law_2141 (fun r2141 S2141 H locs hp2141 hw => ?_)
  obtain ⟨hk9, hv9, hco⟩ := hp2141
  obtain ⟨hM9, hM09, hF9, hF95⟩ := hco.ref hM hM0 hF
  obtain ⟨hko9, hno9⟩ := hco.o hko hno
  obtain ⟨y, y92, y94, y95, y96, hw⟩ := zW_out hw hy hko9 hno9
  have hMd : zMd (zdl S2141 o) b := hM9.dl hko9
  have hM0d : zMd0 (zdl S2141 o) b := hM09
  have hFd : zQ (zdl S2141 o) 49 (b 4) = some (y 92) := by rw [y92]; exact hF9
  have hEd : zMdE (zdl S2141 o) b := ⟨⟨_, hF9⟩, _, hF95⟩
  refine lv_istore (lv' := [(6, .int r2141), (5, .int 0), (0, .ref bs), (1, .ref (a 0)), (2, .ref (b 0)), (3, .ref o), (4, .ref od)]) hx hb dL_law_2144 hl (by decide) rfl (fun ls hl => ?_)
  refine lv_aload_n hx hb dL_law_2146 rfl (lv_at hl 4 rfl) ?_
  refine lv_aload_n hx hb dL_law_2147 rfl (lv_at hl 2 rfl) ?_
  refine lv_iload hx hb dL_law_2148 (lv_at hl 1 rfl) ?_
  refine lv_iconst (v := 1) hx hb dL_law_2150 (by decide) ?_
  refine lv_iadd hx hb dL_law_2151 ?_
  refine zrd (x := 1) (by decide) ?_
  refine zsld (v := xs 1) C hw hXs hbl hbs (zin_of (N := 9) (by decide) (by decide) (by decide)) rfl dL_law_2152 ?_
  refine zcV_i (As := [.int (xs 1)]) (rest := []) (n9 := 1) (b := (b 0)) C hw (c_X11_end l D y base (zdl S2141 o) b (xs 1) hMd (by first | assumption | exact zbo_01 _)) gL_law_X11_end rfl (by decide +kernel) ⟨⟨rfl, rfl⟩, Nat.le_of_ble_eq_true rfl, Nat.le_of_ble_eq_true rfl⟩ hMd.1 ⟨by decide, by decide⟩ rfl rfl hl.1 rfl (Nat.le_of_ble_eq_true rfl) ⟨Nat.le_of_ble_eq_true rfl, Nat.le_of_ble_eq_true rfl⟩ dL_law_2153 (fun r2153 S2153 H locs hp2153 hw => ?_)
  obtain ⟨r1, r2, r3⟩ := hp2153
  refine lv_istore (lv' := [(7, .int r2153), (6, .int r2141), (5, .int 0), (0, .ref bs), (1, .ref (a 0)), (2, .ref (b 0)), (3, .ref o), (4, .ref od)]) hx hb dL_law_2156 hl (by decide) rfl (fun ls hl => ?_)
  refine lv_aload_n hx hb dL_law_2158 rfl (lv_at hl 5 rfl) ?_
  refine zcV_i (As := []) (rest := []) (n9 := 0) (b := (b 0)) C hw (c_X11_thrown l D y base S2153 (b 0) (1 : Int32) r1 r2) gL_law_X11_thrown rfl (by decide +kernel) ⟨⟨rfl, rfl⟩, Nat.le_of_ble_eq_true rfl, Nat.le_of_ble_eq_true rfl⟩ r1 ⟨by decide, by decide⟩ rfl rfl hl.1 rfl (Nat.le_of_ble_eq_true rfl) ⟨Nat.le_of_ble_eq_true rfl, Nat.le_of_ble_eq_true rfl⟩ dL_law_2159 (fun r2159 S2159 H locs hp2159 hw => ?_)
  obtain ⟨rfl, hS9⟩ := hp2159
  have hS9 := hS9.symm
  subst hS9
  refine lv_iload hx hb dL_law_2162 (lv_at hl 1 rfl) ?_
  refine lv_icmp_eq (tgt := 2169) hx hb dL_law_2164 (by decide) (fun c2164 => ?_) (fun c2164 => (show False from (c2164 hk9.symm)).elim)
  refine lv_iload hx hb dL_law_2169 (lv_at hl 1 rfl) ?_
  refine lv_if_ne (tgt := 2186) hx hb dL_law_2171 (by decide) (fun c2171 => ?_) (fun c2171 => ?_)
  · refine lv_goto (tgt := 2892) hx hb dL_law_2186 (by decide) ?_
    exact hend _ _ _ _ _ (Nat.le_of_ble_eq_true rfl) (Nat.le_of_ble_eq_true rfl) hw.2.2.1 (lv_sub hl [2, 3] rfl)
  · have hz9 : (1 : Int32) = 0 := hk9.symm.trans c2171
    have hb9 := r3 hz9
    subst hb9
    refine lv_aload_n hx hb dL_law_2174 rfl (lv_at hl 6 rfl) ?_
    refine lv_iconst (v := 0) hx hb dL_law_2175 (by decide) ?_
    refine zaldX C hw y94 y95 dL_law_2176 ?_
    refine zrdl (x := ((0 : Int32).toInt64)) (y96.trans (hv9 hz9)) ?_
    refine lv_iload hx hb dL_law_2177 (lv_at hl 0 rfl) ?_
    refine lv_i2l (v := (0 : Int32).toInt64) hx hb dL_law_2179 rfl ?_
    refine W.lcmp hx hb dL_law_2180 ?_
    refine zrd (x := 0) ((lg_cmp_eq _ _).mpr rfl) ?_
    refine lv_if_eq (tgt := 2186) hx hb dL_law_2181 (by decide) (fun _ => ?_) (fun c2181 => absurd c2181 (by decide))
    refine lv_goto (tgt := 2892) hx hb dL_law_2186 (by decide) ?_
    exact hend _ _ _ _ _ (Nat.le_of_ble_eq_true rfl) (Nat.le_of_ble_eq_true rfl) hw.2.2.1 (lv_sub hl [2, 3] rfl)

set_option maxHeartbeats 4000000 in
set_option maxRecDepth 100000 in
theorem law_case_26 {p : Program} {l : Launch} {e : Env} {s : State} {m : MethodId} {below : List Frame} {meth : Method} {c : Code} {H : Heap} {locs : List Loc} {ls : Array Slot} {D : va_G} {y : Nat → ClassId} {base : Nat} {S : zS} {a b : Nat → Nat} {o od bs : Nat} {xs : Nat → Int32} (hst : l.stackTraces = false) (C : CallFix p m c code 9 s #[Value.ref bs] wsL_law RL) (hend : zEnd p l e s m bs below meth c base)
    (hXs : va_X bs 9 xs s s.heap) (hbl : bs < s.heap.size) (hbs : base = s.heap.size) (hy : y 94 = 0) (hX : zX S a) (h0 : zX0 S a) (hM : zMd S b) (hM0 : zMd0 S b) (hF : zQ S 49 (b 4) = some (y 92) ∧ zQ S 49 (b 5) = some (y 92)) (hreg : ∀ i j, i < 128 → zR S 22 (b (100 + i)) j = 0) (hko : zK S o = 24) (hno : zN S o = 1)
    (hw : zW D y base S s H locs) (hl : lv_has ls 9 [(5, .int 0), (0, .ref bs), (1, .ref (a 0)), (2, .ref (b 0)), (3, .ref o), (4, .ref od)]) : W p l e room_1 s m #[Value.ref bs] below meth c H locs 1000 60000 (lw_Z below #[Value.ref bs] s) (F0 m 2189 ls []) := by
  have hx := C.1
  have hb := C.2.1
  have hown := C.2.2.2.1
  have hts := C.2.2.2.2
  refine lv_aload_n hx hb dL_law_2189 rfl (lv_at hl 2 rfl) ?_
  refine lv_aload_n hx hb dL_law_2190 rfl (lv_at hl 1 rfl) ?_
  refine lv_iload hx hb dL_law_2191 (lv_at hl 0 rfl) ?_
  refine lv_iconst (v := 1) hx hb dL_law_2193 (by decide) ?_
  refine lv_iadd hx hb dL_law_2194 ?_
  refine zrd (x := 1) (by decide) ?_
  refine zsld (v := xs 1) C hw hXs hbl hbs (zin_of (N := 9) (by decide) (by decide) (by decide)) rfl dL_law_2195 ?_
  refine lv_aload_n hx hb dL_law_2196 rfl (lv_at hl 4 rfl) ?_
  refine zcSW_i (As := [.ref (a 0), .int (xs 1), .ref o]) (rest := []) (n9 := 3) C hw (c_L_value l hst D y base S a (xs 1) o hX (by first | assumption | exact zbo_01 _) hko (by first | assumption | exact zbo_01 _)) gL_law_L_value rfl (by decide +kernel) ⟨⟨rfl, rfl⟩, Nat.le_of_ble_eq_true rfl, Nat.le_of_ble_eq_true rfl⟩ rfl hl.1 rfl (Nat.le_of_ble_eq_true rfl) ⟨Nat.le_of_ble_eq_true rfl, Nat.le_of_ble_eq_true rfl⟩ dL_law_2197 (fun r2197 S2197 H locs hp2197 hw => ?_)
  obtain ⟨hk9, hv9, hco⟩ := hp2197
  obtain ⟨hM9, hM09, hF9, hF95⟩ := hco.ref hM hM0 hF
  obtain ⟨hko9, hno9⟩ := hco.o hko hno
  obtain ⟨y, y92, y94, y95, y96, hw⟩ := zW_out hw hy hko9 hno9
  have hMd : zMd (zdl S2197 o) b := hM9.dl hko9
  have hM0d : zMd0 (zdl S2197 o) b := hM09
  have hFd : zQ (zdl S2197 o) 49 (b 4) = some (y 92) := by rw [y92]; exact hF9
  have hEd : zMdE (zdl S2197 o) b := ⟨⟨_, hF9⟩, _, hF95⟩
  refine lv_istore (lv' := [(6, .int r2197), (5, .int 0), (0, .ref bs), (1, .ref (a 0)), (2, .ref (b 0)), (3, .ref o), (4, .ref od)]) hx hb dL_law_2200 hl (by decide) rfl (fun ls hl => ?_)
  refine lv_aload_n hx hb dL_law_2202 rfl (lv_at hl 4 rfl) ?_
  refine lv_aload_n hx hb dL_law_2203 rfl (lv_at hl 2 rfl) ?_
  refine lv_iload hx hb dL_law_2204 (lv_at hl 1 rfl) ?_
  refine lv_iconst (v := 1) hx hb dL_law_2206 (by decide) ?_
  refine lv_iadd hx hb dL_law_2207 ?_
  refine zrd (x := 1) (by decide) ?_
  refine zsld (v := xs 1) C hw hXs hbl hbs (zin_of (N := 9) (by decide) (by decide) (by decide)) rfl dL_law_2208 ?_
  refine zcV_i (As := [.int (xs 1)]) (rest := []) (n9 := 1) (b := (b 0)) C hw (c_X11_value l D y base (zdl S2197 o) b (xs 1) hMd (by first | assumption | exact zbo_01 _)) gL_law_X11_value rfl (by decide +kernel) ⟨⟨rfl, rfl⟩, Nat.le_of_ble_eq_true rfl, Nat.le_of_ble_eq_true rfl⟩ hMd.1 ⟨by decide, by decide⟩ rfl rfl hl.1 rfl (Nat.le_of_ble_eq_true rfl) ⟨Nat.le_of_ble_eq_true rfl, Nat.le_of_ble_eq_true rfl⟩ dL_law_2209 (fun r2209 S2209 H locs hp2209 hw => ?_)
  obtain ⟨r1, r2, r3⟩ := hp2209
  refine lv_istore (lv' := [(7, .int r2209), (6, .int r2197), (5, .int 0), (0, .ref bs), (1, .ref (a 0)), (2, .ref (b 0)), (3, .ref o), (4, .ref od)]) hx hb dL_law_2212 hl (by decide) rfl (fun ls hl => ?_)
  refine lv_aload_n hx hb dL_law_2214 rfl (lv_at hl 5 rfl) ?_
  refine zcV_i (As := []) (rest := []) (n9 := 0) (b := (b 0)) C hw (c_X11_thrown l D y base S2209 (b 0) (1 : Int32) r1 r2) gL_law_X11_thrown rfl (by decide +kernel) ⟨⟨rfl, rfl⟩, Nat.le_of_ble_eq_true rfl, Nat.le_of_ble_eq_true rfl⟩ r1 ⟨by decide, by decide⟩ rfl rfl hl.1 rfl (Nat.le_of_ble_eq_true rfl) ⟨Nat.le_of_ble_eq_true rfl, Nat.le_of_ble_eq_true rfl⟩ dL_law_2215 (fun r2215 S2215 H locs hp2215 hw => ?_)
  obtain ⟨rfl, hS9⟩ := hp2215
  have hS9 := hS9.symm
  subst hS9
  refine lv_iload hx hb dL_law_2218 (lv_at hl 1 rfl) ?_
  refine lv_icmp_eq (tgt := 2225) hx hb dL_law_2220 (by decide) (fun c2220 => ?_) (fun c2220 => (show False from (c2220 hk9.symm)).elim)
  refine lv_iload hx hb dL_law_2225 (lv_at hl 1 rfl) ?_
  refine lv_if_ne (tgt := 2242) hx hb dL_law_2227 (by decide) (fun c2227 => ?_) (fun c2227 => ?_)
  · refine lv_goto (tgt := 2892) hx hb dL_law_2242 (by decide) ?_
    exact hend _ _ _ _ _ (Nat.le_of_ble_eq_true rfl) (Nat.le_of_ble_eq_true rfl) hw.2.2.1 (lv_sub hl [2, 3] rfl)
  · have hz9 : (1 : Int32) = 0 := hk9.symm.trans c2227
    have hb9 := r3 hz9
    subst hb9
    refine lv_aload_n hx hb dL_law_2230 rfl (lv_at hl 6 rfl) ?_
    refine lv_iconst (v := 0) hx hb dL_law_2231 (by decide) ?_
    refine zaldX C hw y94 y95 dL_law_2232 ?_
    refine zrdl (x := ((0 : Int32).toInt64)) (y96.trans (hv9 hz9)) ?_
    refine lv_iload hx hb dL_law_2233 (lv_at hl 0 rfl) ?_
    refine lv_i2l (v := (0 : Int32).toInt64) hx hb dL_law_2235 rfl ?_
    refine W.lcmp hx hb dL_law_2236 ?_
    refine zrd (x := 0) ((lg_cmp_eq _ _).mpr rfl) ?_
    refine lv_if_eq (tgt := 2242) hx hb dL_law_2237 (by decide) (fun _ => ?_) (fun c2237 => absurd c2237 (by decide))
    refine lv_goto (tgt := 2892) hx hb dL_law_2242 (by decide) ?_
    exact hend _ _ _ _ _ (Nat.le_of_ble_eq_true rfl) (Nat.le_of_ble_eq_true rfl) hw.2.2.1 (lv_sub hl [2, 3] rfl)

set_option maxHeartbeats 4000000 in
set_option maxRecDepth 100000 in
theorem law_case_27 {p : Program} {l : Launch} {e : Env} {s : State} {m : MethodId} {below : List Frame} {meth : Method} {c : Code} {H : Heap} {locs : List Loc} {ls : Array Slot} {D : va_G} {y : Nat → ClassId} {base : Nat} {S : zS} {a b : Nat → Nat} {o od bs : Nat} {xs : Nat → Int32} (hst : l.stackTraces = false) (C : CallFix p m c code 9 s #[Value.ref bs] wsL_law RL) (hend : zEnd p l e s m bs below meth c base)
    (hXs : va_X bs 9 xs s s.heap) (hbl : bs < s.heap.size) (hbs : base = s.heap.size) (hy : y 94 = 0) (hX : zX S a) (h0 : zX0 S a) (hM : zMd S b) (hM0 : zMd0 S b) (hF : zQ S 49 (b 4) = some (y 92) ∧ zQ S 49 (b 5) = some (y 92)) (hreg : ∀ i j, i < 128 → zR S 22 (b (100 + i)) j = 0) (hko : zK S o = 24) (hno : zN S o = 1)
    (hw : zW D y base S s H locs) (hl : lv_has ls 9 [(5, .int 0), (0, .ref bs), (1, .ref (a 0)), (2, .ref (b 0)), (3, .ref o), (4, .ref od)]) : W p l e room_1 s m #[Value.ref bs] below meth c H locs 1000 60000 (lw_Z below #[Value.ref bs] s) (F0 m 2245 ls []) := by
  have hx := C.1
  have hb := C.2.1
  have hown := C.2.2.2.1
  have hts := C.2.2.2.2
  refine lv_aload_n hx hb dL_law_2245 rfl (lv_at hl 2 rfl) ?_
  refine lv_aload_n hx hb dL_law_2246 rfl (lv_at hl 1 rfl) ?_
  refine lv_iload hx hb dL_law_2247 (lv_at hl 0 rfl) ?_
  refine lv_iconst (v := 1) hx hb dL_law_2249 (by decide) ?_
  refine lv_iadd hx hb dL_law_2250 ?_
  refine zrd (x := 1) (by decide) ?_
  refine zsld (v := xs 1) C hw hXs hbl hbs (zin_of (N := 9) (by decide) (by decide) (by decide)) rfl dL_law_2251 ?_
  refine lv_aload_n hx hb dL_law_2252 rfl (lv_at hl 4 rfl) ?_
  refine zcSW_i (As := [.ref (a 0), .int (xs 1), .ref o]) (rest := []) (n9 := 3) C hw (c_L_fault l hst D y base S a (xs 1) o hX (by first | assumption | exact zbo_01 _) hko (by first | assumption | exact zbo_01 _)) gL_law_L_fault rfl (by decide +kernel) ⟨⟨rfl, rfl⟩, Nat.le_of_ble_eq_true rfl, Nat.le_of_ble_eq_true rfl⟩ rfl hl.1 rfl (Nat.le_of_ble_eq_true rfl) ⟨Nat.le_of_ble_eq_true rfl, Nat.le_of_ble_eq_true rfl⟩ dL_law_2253 (fun r2253 S2253 H locs hp2253 hw => ?_)
  obtain ⟨hk9, hv9, hco⟩ := hp2253
  obtain ⟨hM9, hM09, hF9, hF95⟩ := hco.ref hM hM0 hF
  obtain ⟨hko9, hno9⟩ := hco.o hko hno
  obtain ⟨y, y92, y94, y95, y96, hw⟩ := zW_out hw hy hko9 hno9
  have hMd : zMd (zdl S2253 o) b := hM9.dl hko9
  have hM0d : zMd0 (zdl S2253 o) b := hM09
  have hFd : zQ (zdl S2253 o) 49 (b 4) = some (y 92) := by rw [y92]; exact hF9
  have hEd : zMdE (zdl S2253 o) b := ⟨⟨_, hF9⟩, _, hF95⟩
  refine lv_istore (lv' := [(6, .int r2253), (5, .int 0), (0, .ref bs), (1, .ref (a 0)), (2, .ref (b 0)), (3, .ref o), (4, .ref od)]) hx hb dL_law_2256 hl (by decide) rfl (fun ls hl => ?_)
  refine lv_aload_n hx hb dL_law_2258 rfl (lv_at hl 4 rfl) ?_
  refine lv_aload_n hx hb dL_law_2259 rfl (lv_at hl 2 rfl) ?_
  refine lv_iload hx hb dL_law_2260 (lv_at hl 1 rfl) ?_
  refine lv_iconst (v := 1) hx hb dL_law_2262 (by decide) ?_
  refine lv_iadd hx hb dL_law_2263 ?_
  refine zrd (x := 1) (by decide) ?_
  refine zsld (v := xs 1) C hw hXs hbl hbs (zin_of (N := 9) (by decide) (by decide) (by decide)) rfl dL_law_2264 ?_
  refine zcV_i (As := [.int (xs 1)]) (rest := []) (n9 := 1) (b := (b 0)) C hw (c_X11_fault l D y base (zdl S2253 o) b (xs 1) hMd (by first | assumption | exact zbo_01 _)) gL_law_X11_fault rfl (by decide +kernel) ⟨⟨rfl, rfl⟩, Nat.le_of_ble_eq_true rfl, Nat.le_of_ble_eq_true rfl⟩ hMd.1 ⟨by decide, by decide⟩ rfl rfl hl.1 rfl (Nat.le_of_ble_eq_true rfl) ⟨Nat.le_of_ble_eq_true rfl, Nat.le_of_ble_eq_true rfl⟩ dL_law_2265 (fun r2265 S2265 H locs hp2265 hw => ?_)
  obtain ⟨r1, r2, r3⟩ := hp2265
  refine lv_istore (lv' := [(7, .int r2265), (6, .int r2253), (5, .int 0), (0, .ref bs), (1, .ref (a 0)), (2, .ref (b 0)), (3, .ref o), (4, .ref od)]) hx hb dL_law_2268 hl (by decide) rfl (fun ls hl => ?_)
  refine lv_aload_n hx hb dL_law_2270 rfl (lv_at hl 5 rfl) ?_
  refine zcV_i (As := []) (rest := []) (n9 := 0) (b := (b 0)) C hw (c_X11_thrown l D y base S2265 (b 0) (1 : Int32) r1 r2) gL_law_X11_thrown rfl (by decide +kernel) ⟨⟨rfl, rfl⟩, Nat.le_of_ble_eq_true rfl, Nat.le_of_ble_eq_true rfl⟩ r1 ⟨by decide, by decide⟩ rfl rfl hl.1 rfl (Nat.le_of_ble_eq_true rfl) ⟨Nat.le_of_ble_eq_true rfl, Nat.le_of_ble_eq_true rfl⟩ dL_law_2271 (fun r2271 S2271 H locs hp2271 hw => ?_)
  obtain ⟨rfl, hS9⟩ := hp2271
  have hS9 := hS9.symm
  subst hS9
  refine lv_iload hx hb dL_law_2274 (lv_at hl 1 rfl) ?_
  refine lv_icmp_eq (tgt := 2281) hx hb dL_law_2276 (by decide) (fun c2276 => ?_) (fun c2276 => (show False from (c2276 hk9.symm)).elim)
  refine lv_iload hx hb dL_law_2281 (lv_at hl 1 rfl) ?_
  refine lv_if_ne (tgt := 2298) hx hb dL_law_2283 (by decide) (fun c2283 => ?_) (fun c2283 => ?_)
  · refine lv_goto (tgt := 2892) hx hb dL_law_2298 (by decide) ?_
    exact hend _ _ _ _ _ (Nat.le_of_ble_eq_true rfl) (Nat.le_of_ble_eq_true rfl) hw.2.2.1 (lv_sub hl [2, 3] rfl)
  · have hz9 : (1 : Int32) = 0 := hk9.symm.trans c2283
    have hb9 := r3 hz9
    subst hb9
    refine lv_aload_n hx hb dL_law_2286 rfl (lv_at hl 6 rfl) ?_
    refine lv_iconst (v := 0) hx hb dL_law_2287 (by decide) ?_
    refine zaldX C hw y94 y95 dL_law_2288 ?_
    refine zrdl (x := ((0 : Int32).toInt64)) (y96.trans (hv9 hz9)) ?_
    refine lv_iload hx hb dL_law_2289 (lv_at hl 0 rfl) ?_
    refine lv_i2l (v := (0 : Int32).toInt64) hx hb dL_law_2291 rfl ?_
    refine W.lcmp hx hb dL_law_2292 ?_
    refine zrd (x := 0) ((lg_cmp_eq _ _).mpr rfl) ?_
    refine lv_if_eq (tgt := 2298) hx hb dL_law_2293 (by decide) (fun _ => ?_) (fun c2293 => absurd c2293 (by decide))
    refine lv_goto (tgt := 2892) hx hb dL_law_2298 (by decide) ?_
    exact hend _ _ _ _ _ (Nat.le_of_ble_eq_true rfl) (Nat.le_of_ble_eq_true rfl) hw.2.2.1 (lv_sub hl [2, 3] rfl)

set_option maxHeartbeats 4000000 in
set_option maxRecDepth 100000 in
theorem law_case_28 {p : Program} {l : Launch} {e : Env} {s : State} {m : MethodId} {below : List Frame} {meth : Method} {c : Code} {H : Heap} {locs : List Loc} {ls : Array Slot} {D : va_G} {y : Nat → ClassId} {base : Nat} {S : zS} {a b : Nat → Nat} {o od bs : Nat} {xs : Nat → Int32} (hst : l.stackTraces = false) (C : CallFix p m c code 9 s #[Value.ref bs] wsL_law RL) (hend : zEnd p l e s m bs below meth c base)
    (hXs : va_X bs 9 xs s s.heap) (hbl : bs < s.heap.size) (hbs : base = s.heap.size) (hy : y 94 = 0) (hX : zX S a) (h0 : zX0 S a) (hM : zMd S b) (hM0 : zMd0 S b) (hF : zQ S 49 (b 4) = some (y 92) ∧ zQ S 49 (b 5) = some (y 92)) (hreg : ∀ i j, i < 128 → zR S 22 (b (100 + i)) j = 0) (hko : zK S o = 24) (hno : zN S o = 1)
    (hw : zW D y base S s H locs) (hl : lv_has ls 9 [(5, .int 0), (0, .ref bs), (1, .ref (a 0)), (2, .ref (b 0)), (3, .ref o), (4, .ref od)]) : W p l e room_1 s m #[Value.ref bs] below meth c H locs 1000 60000 (lw_Z below #[Value.ref bs] s) (F0 m 2301 ls []) := by
  have hx := C.1
  have hb := C.2.1
  have hown := C.2.2.2.1
  have hts := C.2.2.2.2
  refine lv_aload_n hx hb dL_law_2301 rfl (lv_at hl 2 rfl) ?_
  refine lv_aload_n hx hb dL_law_2302 rfl (lv_at hl 1 rfl) ?_
  refine lv_iload hx hb dL_law_2303 (lv_at hl 0 rfl) ?_
  refine lv_iconst (v := 1) hx hb dL_law_2305 (by decide) ?_
  refine lv_iadd hx hb dL_law_2306 ?_
  refine zrd (x := 1) (by decide) ?_
  refine zsld (v := xs 1) C hw hXs hbl hbs (zin_of (N := 9) (by decide) (by decide) (by decide)) rfl dL_law_2307 ?_
  refine lv_aload_n hx hb dL_law_2308 rfl (lv_at hl 1 rfl) ?_
  refine lv_iload hx hb dL_law_2309 (lv_at hl 0 rfl) ?_
  refine lv_iconst (v := 2) hx hb dL_law_2311 (by decide) ?_
  refine lv_iadd hx hb dL_law_2312 ?_
  refine zrd (x := 2) (by decide) ?_
  refine zsld (v := xs 2) C hw hXs hbl hbs (zin_of (N := 9) (by decide) (by decide) (by decide)) rfl dL_law_2313 ?_
  refine lv_aload_n hx hb dL_law_2314 rfl (lv_at hl 4 rfl) ?_
  refine zcSW_i (As := [.ref (a 0), .int (xs 1), .int (xs 2), .ref o]) (rest := []) (n9 := 4) C hw (c_L_rate l hst D y base S a (xs 1) (xs 2) o hX (by first | assumption | exact zbo_01 _) hko (by first | assumption | exact zbo_01 _)) gL_law_L_rate rfl (by decide +kernel) ⟨⟨rfl, rfl⟩, Nat.le_of_ble_eq_true rfl, Nat.le_of_ble_eq_true rfl⟩ rfl hl.1 rfl (Nat.le_of_ble_eq_true rfl) ⟨Nat.le_of_ble_eq_true rfl, Nat.le_of_ble_eq_true rfl⟩ dL_law_2315 (fun r2315 S2315 H locs hp2315 hw => ?_)
  obtain ⟨hk9, hv9, hco⟩ := hp2315
  obtain ⟨hM9, hM09, hF9, hF95⟩ := hco.ref hM hM0 hF
  obtain ⟨hko9, hno9⟩ := hco.o hko hno
  obtain ⟨y, y92, y94, y95, y96, hw⟩ := zW_out hw hy hko9 hno9
  have hMd : zMd (zdl S2315 o) b := hM9.dl hko9
  have hM0d : zMd0 (zdl S2315 o) b := hM09
  have hFd : zQ (zdl S2315 o) 49 (b 4) = some (y 92) := by rw [y92]; exact hF9
  have hEd : zMdE (zdl S2315 o) b := ⟨⟨_, hF9⟩, _, hF95⟩
  refine lv_istore (lv' := [(6, .int r2315), (5, .int 0), (0, .ref bs), (1, .ref (a 0)), (2, .ref (b 0)), (3, .ref o), (4, .ref od)]) hx hb dL_law_2318 hl (by decide) rfl (fun ls hl => ?_)
  refine lv_aload_n hx hb dL_law_2320 rfl (lv_at hl 4 rfl) ?_
  refine lv_aload_n hx hb dL_law_2321 rfl (lv_at hl 2 rfl) ?_
  refine lv_iload hx hb dL_law_2322 (lv_at hl 1 rfl) ?_
  refine lv_iconst (v := 1) hx hb dL_law_2324 (by decide) ?_
  refine lv_iadd hx hb dL_law_2325 ?_
  refine zrd (x := 1) (by decide) ?_
  refine zsld (v := xs 1) C hw hXs hbl hbs (zin_of (N := 9) (by decide) (by decide) (by decide)) rfl dL_law_2326 ?_
  refine lv_aload_n hx hb dL_law_2327 rfl (lv_at hl 2 rfl) ?_
  refine lv_iload hx hb dL_law_2328 (lv_at hl 1 rfl) ?_
  refine lv_iconst (v := 2) hx hb dL_law_2330 (by decide) ?_
  refine lv_iadd hx hb dL_law_2331 ?_
  refine zrd (x := 2) (by decide) ?_
  refine zsld (v := xs 2) C hw hXs hbl hbs (zin_of (N := 9) (by decide) (by decide) (by decide)) rfl dL_law_2332 ?_
  refine zcV_i (As := [.int (xs 1), .int (xs 2)]) (rest := []) (n9 := 2) (b := (b 0)) C hw (c_X11_rate l D y base (zdl S2315 o) b (xs 1) (xs 2) hMd (by first | assumption | exact zbo_01 _)) gL_law_X11_rate rfl (by decide +kernel) ⟨⟨rfl, rfl⟩, Nat.le_of_ble_eq_true rfl, Nat.le_of_ble_eq_true rfl⟩ hMd.1 ⟨by decide, by decide⟩ rfl rfl hl.1 rfl (Nat.le_of_ble_eq_true rfl) ⟨Nat.le_of_ble_eq_true rfl, Nat.le_of_ble_eq_true rfl⟩ dL_law_2333 (fun r2333 S2333 H locs hp2333 hw => ?_)
  obtain ⟨r1, r2, r3⟩ := hp2333
  refine lv_istore (lv' := [(7, .int r2333), (6, .int r2315), (5, .int 0), (0, .ref bs), (1, .ref (a 0)), (2, .ref (b 0)), (3, .ref o), (4, .ref od)]) hx hb dL_law_2336 hl (by decide) rfl (fun ls hl => ?_)
  refine lv_aload_n hx hb dL_law_2338 rfl (lv_at hl 5 rfl) ?_
  refine zcV_i (As := []) (rest := []) (n9 := 0) (b := (b 0)) C hw (c_X11_thrown l D y base S2333 (b 0) (kd_run (xs 1) (xs 2)) r1 r2) gL_law_X11_thrown rfl (by decide +kernel) ⟨⟨rfl, rfl⟩, Nat.le_of_ble_eq_true rfl, Nat.le_of_ble_eq_true rfl⟩ r1 ⟨by decide, by decide⟩ rfl rfl hl.1 rfl (Nat.le_of_ble_eq_true rfl) ⟨Nat.le_of_ble_eq_true rfl, Nat.le_of_ble_eq_true rfl⟩ dL_law_2339 (fun r2339 S2339 H locs hp2339 hw => ?_)
  obtain ⟨rfl, hS9⟩ := hp2339
  have hS9 := hS9.symm
  subst hS9
  refine lv_iload hx hb dL_law_2342 (lv_at hl 1 rfl) ?_
  refine lv_icmp_eq (tgt := 2349) hx hb dL_law_2344 (by decide) (fun c2344 => ?_) (fun c2344 => (show False from (c2344 hk9.symm)).elim)
  refine lv_iload hx hb dL_law_2349 (lv_at hl 1 rfl) ?_
  refine lv_if_ne (tgt := 2366) hx hb dL_law_2351 (by decide) (fun c2351 => ?_) (fun c2351 => ?_)
  · refine lv_goto (tgt := 2892) hx hb dL_law_2366 (by decide) ?_
    exact hend _ _ _ _ _ (Nat.le_of_ble_eq_true rfl) (Nat.le_of_ble_eq_true rfl) hw.2.2.1 (lv_sub hl [2, 3] rfl)
  · have hz9 : kd_run (xs 1) (xs 2) = 0 := hk9.symm.trans c2351
    have hb9 := r3 hz9
    subst hb9
    refine lv_aload_n hx hb dL_law_2354 rfl (lv_at hl 6 rfl) ?_
    refine lv_iconst (v := 0) hx hb dL_law_2355 (by decide) ?_
    refine zaldX C hw y94 y95 dL_law_2356 ?_
    refine zrdl (x := ((0 : Int32).toInt64)) (y96.trans (hv9 hz9)) ?_
    refine lv_iload hx hb dL_law_2357 (lv_at hl 0 rfl) ?_
    refine lv_i2l (v := (0 : Int32).toInt64) hx hb dL_law_2359 rfl ?_
    refine W.lcmp hx hb dL_law_2360 ?_
    refine zrd (x := 0) ((lg_cmp_eq _ _).mpr rfl) ?_
    refine lv_if_eq (tgt := 2366) hx hb dL_law_2361 (by decide) (fun _ => ?_) (fun c2361 => absurd c2361 (by decide))
    refine lv_goto (tgt := 2892) hx hb dL_law_2366 (by decide) ?_
    exact hend _ _ _ _ _ (Nat.le_of_ble_eq_true rfl) (Nat.le_of_ble_eq_true rfl) hw.2.2.1 (lv_sub hl [2, 3] rfl)

set_option maxHeartbeats 4000000 in
set_option maxRecDepth 100000 in
theorem law_case_29 {p : Program} {l : Launch} {e : Env} {s : State} {m : MethodId} {below : List Frame} {meth : Method} {c : Code} {H : Heap} {locs : List Loc} {ls : Array Slot} {D : va_G} {y : Nat → ClassId} {base : Nat} {S : zS} {a b : Nat → Nat} {o od bs : Nat} {xs : Nat → Int32} (hst : l.stackTraces = false) (C : CallFix p m c code 9 s #[Value.ref bs] wsL_law RL) (hend : zEnd p l e s m bs below meth c base)
    (hXs : va_X bs 9 xs s s.heap) (hbl : bs < s.heap.size) (hbs : base = s.heap.size) (hy : y 94 = 0) (hX : zX S a) (h0 : zX0 S a) (hM : zMd S b) (hM0 : zMd0 S b) (hF : zQ S 49 (b 4) = some (y 92) ∧ zQ S 49 (b 5) = some (y 92)) (hreg : ∀ i j, i < 128 → zR S 22 (b (100 + i)) j = 0) (hko : zK S o = 24) (hno : zN S o = 1)
    (hw : zW D y base S s H locs) (hl : lv_has ls 9 [(5, .int 0), (0, .ref bs), (1, .ref (a 0)), (2, .ref (b 0)), (3, .ref o), (4, .ref od)]) : W p l e room_1 s m #[Value.ref bs] below meth c H locs 1000 60000 (lw_Z below #[Value.ref bs] s) (F0 m 2369 ls []) := by
  have hx := C.1
  have hb := C.2.1
  have hown := C.2.2.2.1
  have hts := C.2.2.2.2
  refine lv_aload_n hx hb dL_law_2369 rfl (lv_at hl 2 rfl) ?_
  refine lv_aload_n hx hb dL_law_2370 rfl (lv_at hl 1 rfl) ?_
  refine lv_iload hx hb dL_law_2371 (lv_at hl 0 rfl) ?_
  refine lv_iconst (v := 1) hx hb dL_law_2373 (by decide) ?_
  refine lv_iadd hx hb dL_law_2374 ?_
  refine zrd (x := 1) (by decide) ?_
  refine zsld (v := xs 1) C hw hXs hbl hbs (zin_of (N := 9) (by decide) (by decide) (by decide)) rfl dL_law_2375 ?_
  refine lv_aload_n hx hb dL_law_2376 rfl (lv_at hl 1 rfl) ?_
  refine lv_iload hx hb dL_law_2377 (lv_at hl 0 rfl) ?_
  refine lv_iconst (v := 2) hx hb dL_law_2379 (by decide) ?_
  refine lv_iadd hx hb dL_law_2380 ?_
  refine zrd (x := 2) (by decide) ?_
  refine zsld (v := xs 2) C hw hXs hbl hbs (zin_of (N := 9) (by decide) (by decide) (by decide)) rfl dL_law_2381 ?_
  refine lv_aload_n hx hb dL_law_2382 rfl (lv_at hl 4 rfl) ?_
  refine zcSW_i (As := [.ref (a 0), .int (xs 1), .int (xs 2), .ref o]) (rest := []) (n9 := 4) C hw (c_L_register l hst D y base S a (xs 1) (xs 2) o hX (by first | assumption | exact zbo_01 _) hko (by first | assumption | exact zbo_01 _)) gL_law_L_register rfl (by decide +kernel) ⟨⟨rfl, rfl⟩, Nat.le_of_ble_eq_true rfl, Nat.le_of_ble_eq_true rfl⟩ rfl hl.1 rfl (Nat.le_of_ble_eq_true rfl) ⟨Nat.le_of_ble_eq_true rfl, Nat.le_of_ble_eq_true rfl⟩ dL_law_2383 (fun r2383 S2383 H locs hp2383 hw => ?_)
  obtain ⟨hk9, hv9, hco, hrg9⟩ := hp2383
  obtain ⟨hM9, hM09, hF9, hF95⟩ := hco.ref hM hM0 hF
  obtain ⟨hko9, hno9⟩ := hco.o hko hno
  obtain ⟨y, y92, y94, y95, y96, hw⟩ := zW_out hw hy hko9 hno9
  have hMd : zMd (zdl S2383 o) b := hM9.dl hko9
  have hM0d : zMd0 (zdl S2383 o) b := hM09
  have hFd : zQ (zdl S2383 o) 49 (b 4) = some (y 92) := by rw [y92]; exact hF9
  have hEd : zMdE (zdl S2383 o) b := ⟨⟨_, hF9⟩, _, hF95⟩
  have hreg9 : kd_register (xs 1) (xs 2) = 0 → ∀ i j, i < 128 → zR (zdl S2383 o) 22 (b (100 + i)) j = 0 := fun h9 i j hi => by obtain ⟨f, rfl⟩ := hrg9 h9; exact hreg i j hi
  refine lv_istore (lv' := [(6, .int r2383), (5, .int 0), (0, .ref bs), (1, .ref (a 0)), (2, .ref (b 0)), (3, .ref o), (4, .ref od)]) hx hb dL_law_2386 hl (by decide) rfl (fun ls hl => ?_)
  refine lv_aload_n hx hb dL_law_2388 rfl (lv_at hl 4 rfl) ?_
  refine lv_aload_n hx hb dL_law_2389 rfl (lv_at hl 2 rfl) ?_
  refine lv_iload hx hb dL_law_2390 (lv_at hl 1 rfl) ?_
  refine lv_iconst (v := 1) hx hb dL_law_2392 (by decide) ?_
  refine lv_iadd hx hb dL_law_2393 ?_
  refine zrd (x := 1) (by decide) ?_
  refine zsld (v := xs 1) C hw hXs hbl hbs (zin_of (N := 9) (by decide) (by decide) (by decide)) rfl dL_law_2394 ?_
  refine lv_aload_n hx hb dL_law_2395 rfl (lv_at hl 2 rfl) ?_
  refine lv_iload hx hb dL_law_2396 (lv_at hl 1 rfl) ?_
  refine lv_iconst (v := 2) hx hb dL_law_2398 (by decide) ?_
  refine lv_iadd hx hb dL_law_2399 ?_
  refine zrd (x := 2) (by decide) ?_
  refine zsld (v := xs 2) C hw hXs hbl hbs (zin_of (N := 9) (by decide) (by decide) (by decide)) rfl dL_law_2400 ?_
  refine zcV_i (As := [.int (xs 1), .int (xs 2)]) (rest := []) (n9 := 2) (b := (b 0)) C hw (c_X11_register_2 l D y base (zdl S2383 o) b (xs 1) (xs 2) hMd (by first | assumption | exact zbo_01 _) (by first | assumption | exact zbo_01 _)) gL_law_X11_register rfl (by decide +kernel) ⟨⟨rfl, rfl⟩, Nat.le_of_ble_eq_true rfl, Nat.le_of_ble_eq_true rfl⟩ hMd.1 ⟨by decide, by decide⟩ rfl rfl hl.1 rfl (Nat.le_of_ble_eq_true rfl) ⟨Nat.le_of_ble_eq_true rfl, Nat.le_of_ble_eq_true rfl⟩ dL_law_2401 (fun r2401 S2401 H locs hp2401 hw => ?_)
  obtain ⟨r1, r2, r3⟩ := hp2401
  refine lv_istore (lv' := [(7, .int r2401), (6, .int r2383), (5, .int 0), (0, .ref bs), (1, .ref (a 0)), (2, .ref (b 0)), (3, .ref o), (4, .ref od)]) hx hb dL_law_2404 hl (by decide) rfl (fun ls hl => ?_)
  refine lv_aload_n hx hb dL_law_2406 rfl (lv_at hl 5 rfl) ?_
  refine zcV_i (As := []) (rest := []) (n9 := 0) (b := (b 0)) C hw (c_X11_thrown l D y base S2401 (b 0) (kd_register (xs 1) (xs 2)) r1 r2) gL_law_X11_thrown rfl (by decide +kernel) ⟨⟨rfl, rfl⟩, Nat.le_of_ble_eq_true rfl, Nat.le_of_ble_eq_true rfl⟩ r1 ⟨by decide, by decide⟩ rfl rfl hl.1 rfl (Nat.le_of_ble_eq_true rfl) ⟨Nat.le_of_ble_eq_true rfl, Nat.le_of_ble_eq_true rfl⟩ dL_law_2407 (fun r2407 S2407 H locs hp2407 hw => ?_)
  obtain ⟨rfl, hS9⟩ := hp2407
  have hS9 := hS9.symm
  subst hS9
  refine lv_iload hx hb dL_law_2410 (lv_at hl 1 rfl) ?_
  refine lv_icmp_eq (tgt := 2417) hx hb dL_law_2412 (by decide) (fun c2412 => ?_) (fun c2412 => (show False from (c2412 hk9.symm)).elim)
  refine lv_iload hx hb dL_law_2417 (lv_at hl 1 rfl) ?_
  refine lv_if_ne (tgt := 2434) hx hb dL_law_2419 (by decide) (fun c2419 => ?_) (fun c2419 => ?_)
  · refine lv_goto (tgt := 2892) hx hb dL_law_2434 (by decide) ?_
    exact hend _ _ _ _ _ (Nat.le_of_ble_eq_true rfl) (Nat.le_of_ble_eq_true rfl) hw.2.2.1 (lv_sub hl [2, 3] rfl)
  · have hz9 : kd_register (xs 1) (xs 2) = 0 := hk9.symm.trans c2419
    have hb9 := r3 hz9
    subst hb9
    refine lv_aload_n hx hb dL_law_2422 rfl (lv_at hl 6 rfl) ?_
    refine lv_iconst (v := 0) hx hb dL_law_2423 (by decide) ?_
    refine zaldX C hw y94 y95 dL_law_2424 ?_
    refine zrdl (x := ((0 : Int32).toInt64)) (y96.trans (hv9 hz9)) ?_
    refine lv_iload hx hb dL_law_2425 (lv_at hl 0 rfl) ?_
    refine lv_i2l (v := (0 : Int32).toInt64) hx hb dL_law_2427 rfl ?_
    refine W.lcmp hx hb dL_law_2428 ?_
    refine zrd (x := 0) ((lg_cmp_eq _ _).mpr rfl) ?_
    refine lv_if_eq (tgt := 2434) hx hb dL_law_2429 (by decide) (fun _ => ?_) (fun c2429 => absurd c2429 (by decide))
    refine lv_goto (tgt := 2892) hx hb dL_law_2434 (by decide) ?_
    exact hend _ _ _ _ _ (Nat.le_of_ble_eq_true rfl) (Nat.le_of_ble_eq_true rfl) hw.2.2.1 (lv_sub hl [2, 3] rfl)

set_option maxHeartbeats 4000000 in
set_option maxRecDepth 100000 in
theorem law_case_30 {p : Program} {l : Launch} {e : Env} {s : State} {m : MethodId} {below : List Frame} {meth : Method} {c : Code} {H : Heap} {locs : List Loc} {ls : Array Slot} {D : va_G} {y : Nat → ClassId} {base : Nat} {S : zS} {a b : Nat → Nat} {o od bs : Nat} {xs : Nat → Int32} (hst : l.stackTraces = false) (C : CallFix p m c code 9 s #[Value.ref bs] wsL_law RL) (hend : zEnd p l e s m bs below meth c base)
    (hXs : va_X bs 9 xs s s.heap) (hbl : bs < s.heap.size) (hbs : base = s.heap.size) (hy : y 94 = 0) (hX : zX S a) (h0 : zX0 S a) (hM : zMd S b) (hM0 : zMd0 S b) (hF : zQ S 49 (b 4) = some (y 92) ∧ zQ S 49 (b 5) = some (y 92)) (hreg : ∀ i j, i < 128 → zR S 22 (b (100 + i)) j = 0) (hko : zK S o = 24) (hno : zN S o = 1)
    (hw : zW D y base S s H locs) (hl : lv_has ls 9 [(5, .int 0), (0, .ref bs), (1, .ref (a 0)), (2, .ref (b 0)), (3, .ref o), (4, .ref od)]) : W p l e room_1 s m #[Value.ref bs] below meth c H locs 1000 60000 (lw_Z below #[Value.ref bs] s) (F0 m 2437 ls []) := by
  have hx := C.1
  have hb := C.2.1
  have hown := C.2.2.2.1
  have hts := C.2.2.2.2
  refine lv_aload_n hx hb dL_law_2437 rfl (lv_at hl 2 rfl) ?_
  refine lv_aload_n hx hb dL_law_2438 rfl (lv_at hl 1 rfl) ?_
  refine lv_iload hx hb dL_law_2439 (lv_at hl 0 rfl) ?_
  refine lv_iconst (v := 1) hx hb dL_law_2441 (by decide) ?_
  refine lv_iadd hx hb dL_law_2442 ?_
  refine zrd (x := 1) (by decide) ?_
  refine zsld (v := xs 1) C hw hXs hbl hbs (zin_of (N := 9) (by decide) (by decide) (by decide)) rfl dL_law_2443 ?_
  refine lv_aload_n hx hb dL_law_2444 rfl (lv_at hl 1 rfl) ?_
  refine lv_iload hx hb dL_law_2445 (lv_at hl 0 rfl) ?_
  refine lv_iconst (v := 2) hx hb dL_law_2447 (by decide) ?_
  refine lv_iadd hx hb dL_law_2448 ?_
  refine zrd (x := 2) (by decide) ?_
  refine zsld (v := xs 2) C hw hXs hbl hbs (zin_of (N := 9) (by decide) (by decide) (by decide)) rfl dL_law_2449 ?_
  refine lv_aload_n hx hb dL_law_2450 rfl (lv_at hl 4 rfl) ?_
  refine zcSW_i (As := [.ref (a 0), .int (xs 1), .int (xs 2), .ref o]) (rest := []) (n9 := 4) C hw (c_L_follows l hst D y base S a (xs 1) (xs 2) o hX (by first | assumption | exact zbo_01 _) hko (by first | assumption | exact zbo_01 _)) gL_law_L_follows rfl (by decide +kernel) ⟨⟨rfl, rfl⟩, Nat.le_of_ble_eq_true rfl, Nat.le_of_ble_eq_true rfl⟩ rfl hl.1 rfl (Nat.le_of_ble_eq_true rfl) ⟨Nat.le_of_ble_eq_true rfl, Nat.le_of_ble_eq_true rfl⟩ dL_law_2451 (fun r2451 S2451 H locs hp2451 hw => ?_)
  obtain ⟨hk9, hv9, hco⟩ := hp2451
  obtain ⟨hM9, hM09, hF9, hF95⟩ := hco.ref hM hM0 hF
  obtain ⟨hko9, hno9⟩ := hco.o hko hno
  obtain ⟨y, y92, y94, y95, y96, hw⟩ := zW_out hw hy hko9 hno9
  have hMd : zMd (zdl S2451 o) b := hM9.dl hko9
  have hM0d : zMd0 (zdl S2451 o) b := hM09
  have hFd : zQ (zdl S2451 o) 49 (b 4) = some (y 92) := by rw [y92]; exact hF9
  have hEd : zMdE (zdl S2451 o) b := ⟨⟨_, hF9⟩, _, hF95⟩
  refine lv_istore (lv' := [(6, .int r2451), (5, .int 0), (0, .ref bs), (1, .ref (a 0)), (2, .ref (b 0)), (3, .ref o), (4, .ref od)]) hx hb dL_law_2454 hl (by decide) rfl (fun ls hl => ?_)
  refine lv_aload_n hx hb dL_law_2456 rfl (lv_at hl 4 rfl) ?_
  refine lv_aload_n hx hb dL_law_2457 rfl (lv_at hl 2 rfl) ?_
  refine lv_iload hx hb dL_law_2458 (lv_at hl 1 rfl) ?_
  refine lv_iconst (v := 1) hx hb dL_law_2460 (by decide) ?_
  refine lv_iadd hx hb dL_law_2461 ?_
  refine zrd (x := 1) (by decide) ?_
  refine zsld (v := xs 1) C hw hXs hbl hbs (zin_of (N := 9) (by decide) (by decide) (by decide)) rfl dL_law_2462 ?_
  refine lv_aload_n hx hb dL_law_2463 rfl (lv_at hl 2 rfl) ?_
  refine lv_iload hx hb dL_law_2464 (lv_at hl 1 rfl) ?_
  refine lv_iconst (v := 2) hx hb dL_law_2466 (by decide) ?_
  refine lv_iadd hx hb dL_law_2467 ?_
  refine zrd (x := 2) (by decide) ?_
  refine zsld (v := xs 2) C hw hXs hbl hbs (zin_of (N := 9) (by decide) (by decide) (by decide)) rfl dL_law_2468 ?_
  refine zcV_i (As := [.int (xs 1), .int (xs 2)]) (rest := []) (n9 := 2) (b := (b 0)) C hw (c_X11_follows l D y base (zdl S2451 o) b (xs 1) (xs 2) hMd (by first | assumption | exact zbo_01 _)) gL_law_X11_follows rfl (by decide +kernel) ⟨⟨rfl, rfl⟩, Nat.le_of_ble_eq_true rfl, Nat.le_of_ble_eq_true rfl⟩ hMd.1 ⟨by decide, by decide⟩ rfl rfl hl.1 rfl (Nat.le_of_ble_eq_true rfl) ⟨Nat.le_of_ble_eq_true rfl, Nat.le_of_ble_eq_true rfl⟩ dL_law_2469 (fun r2469 S2469 H locs hp2469 hw => ?_)
  obtain ⟨r1, r2, r3⟩ := hp2469
  refine lv_istore (lv' := [(7, .int r2469), (6, .int r2451), (5, .int 0), (0, .ref bs), (1, .ref (a 0)), (2, .ref (b 0)), (3, .ref o), (4, .ref od)]) hx hb dL_law_2472 hl (by decide) rfl (fun ls hl => ?_)
  refine lv_aload_n hx hb dL_law_2474 rfl (lv_at hl 5 rfl) ?_
  refine zcV_i (As := []) (rest := []) (n9 := 0) (b := (b 0)) C hw (c_X11_thrown l D y base S2469 (b 0) (kd_follows (xs 1) (xs 2)) r1 r2) gL_law_X11_thrown rfl (by decide +kernel) ⟨⟨rfl, rfl⟩, Nat.le_of_ble_eq_true rfl, Nat.le_of_ble_eq_true rfl⟩ r1 ⟨by decide, by decide⟩ rfl rfl hl.1 rfl (Nat.le_of_ble_eq_true rfl) ⟨Nat.le_of_ble_eq_true rfl, Nat.le_of_ble_eq_true rfl⟩ dL_law_2475 (fun r2475 S2475 H locs hp2475 hw => ?_)
  obtain ⟨rfl, hS9⟩ := hp2475
  have hS9 := hS9.symm
  subst hS9
  refine lv_iload hx hb dL_law_2478 (lv_at hl 1 rfl) ?_
  refine lv_icmp_eq (tgt := 2485) hx hb dL_law_2480 (by decide) (fun c2480 => ?_) (fun c2480 => (show False from (c2480 hk9.symm)).elim)
  refine lv_iload hx hb dL_law_2485 (lv_at hl 1 rfl) ?_
  refine lv_if_ne (tgt := 2502) hx hb dL_law_2487 (by decide) (fun c2487 => ?_) (fun c2487 => ?_)
  · refine lv_goto (tgt := 2892) hx hb dL_law_2502 (by decide) ?_
    exact hend _ _ _ _ _ (Nat.le_of_ble_eq_true rfl) (Nat.le_of_ble_eq_true rfl) hw.2.2.1 (lv_sub hl [2, 3] rfl)
  · have hz9 : kd_follows (xs 1) (xs 2) = 0 := hk9.symm.trans c2487
    have hb9 := r3 hz9
    subst hb9
    refine lv_aload_n hx hb dL_law_2490 rfl (lv_at hl 6 rfl) ?_
    refine lv_iconst (v := 0) hx hb dL_law_2491 (by decide) ?_
    refine zaldX C hw y94 y95 dL_law_2492 ?_
    refine zrdl (x := ((0 : Int32).toInt64)) (y96.trans (hv9 hz9)) ?_
    refine lv_iload hx hb dL_law_2493 (lv_at hl 0 rfl) ?_
    refine lv_i2l (v := (0 : Int32).toInt64) hx hb dL_law_2495 rfl ?_
    refine W.lcmp hx hb dL_law_2496 ?_
    refine zrd (x := 0) ((lg_cmp_eq _ _).mpr rfl) ?_
    refine lv_if_eq (tgt := 2502) hx hb dL_law_2497 (by decide) (fun _ => ?_) (fun c2497 => absurd c2497 (by decide))
    refine lv_goto (tgt := 2892) hx hb dL_law_2502 (by decide) ?_
    exact hend _ _ _ _ _ (Nat.le_of_ble_eq_true rfl) (Nat.le_of_ble_eq_true rfl) hw.2.2.1 (lv_sub hl [2, 3] rfl)

set_option maxHeartbeats 4000000 in
set_option maxRecDepth 100000 in
theorem law_case_31 {p : Program} {l : Launch} {e : Env} {s : State} {m : MethodId} {below : List Frame} {meth : Method} {c : Code} {H : Heap} {locs : List Loc} {ls : Array Slot} {D : va_G} {y : Nat → ClassId} {base : Nat} {S : zS} {a b : Nat → Nat} {o od bs : Nat} {xs : Nat → Int32} (hst : l.stackTraces = false) (C : CallFix p m c code 9 s #[Value.ref bs] wsL_law RL) (hend : zEnd p l e s m bs below meth c base)
    (hXs : va_X bs 9 xs s s.heap) (hbl : bs < s.heap.size) (hbs : base = s.heap.size) (hy : y 94 = 0) (hX : zX S a) (h0 : zX0 S a) (hM : zMd S b) (hM0 : zMd0 S b) (hF : zQ S 49 (b 4) = some (y 92) ∧ zQ S 49 (b 5) = some (y 92)) (hreg : ∀ i j, i < 128 → zR S 22 (b (100 + i)) j = 0) (hko : zK S o = 24) (hno : zN S o = 1)
    (hw : zW D y base S s H locs) (hl : lv_has ls 9 [(5, .int 0), (0, .ref bs), (1, .ref (a 0)), (2, .ref (b 0)), (3, .ref o), (4, .ref od)]) : W p l e room_1 s m #[Value.ref bs] below meth c H locs 1000 60000 (lw_Z below #[Value.ref bs] s) (F0 m 2505 ls []) := by
  have hx := C.1
  have hb := C.2.1
  have hown := C.2.2.2.1
  have hts := C.2.2.2.2
  refine lv_aload_n hx hb dL_law_2505 rfl (lv_at hl 2 rfl) ?_
  refine lv_aload_n hx hb dL_law_2506 rfl (lv_at hl 1 rfl) ?_
  refine lv_iload hx hb dL_law_2507 (lv_at hl 0 rfl) ?_
  refine lv_iconst (v := 1) hx hb dL_law_2509 (by decide) ?_
  refine lv_iadd hx hb dL_law_2510 ?_
  refine zrd (x := 1) (by decide) ?_
  refine zsld (v := xs 1) C hw hXs hbl hbs (zin_of (N := 9) (by decide) (by decide) (by decide)) rfl dL_law_2511 ?_
  refine lv_aload_n hx hb dL_law_2512 rfl (lv_at hl 4 rfl) ?_
  refine zcSW_i (As := [.ref (a 0), .int (xs 1), .ref o]) (rest := []) (n9 := 3) C hw (c_L_alike l hst D y base S a (xs 1) o hX (by first | assumption | exact zbo_01 _) hko (by first | assumption | exact zbo_01 _)) gL_law_L_alike rfl (by decide +kernel) ⟨⟨rfl, rfl⟩, Nat.le_of_ble_eq_true rfl, Nat.le_of_ble_eq_true rfl⟩ rfl hl.1 rfl (Nat.le_of_ble_eq_true rfl) ⟨Nat.le_of_ble_eq_true rfl, Nat.le_of_ble_eq_true rfl⟩ dL_law_2513 (fun r2513 S2513 H locs hp2513 hw => ?_)
  obtain ⟨hk9, hv9, hco⟩ := hp2513
  obtain ⟨hM9, hM09, hF9, hF95⟩ := hco.ref hM hM0 hF
  obtain ⟨hko9, hno9⟩ := hco.o hko hno
  obtain ⟨y, y92, y94, y95, y96, hw⟩ := zW_out hw hy hko9 hno9
  have hMd : zMd (zdl S2513 o) b := hM9.dl hko9
  have hM0d : zMd0 (zdl S2513 o) b := hM09
  have hFd : zQ (zdl S2513 o) 49 (b 4) = some (y 92) := by rw [y92]; exact hF9
  have hEd : zMdE (zdl S2513 o) b := ⟨⟨_, hF9⟩, _, hF95⟩
  refine lv_istore (lv' := [(6, .int r2513), (5, .int 0), (0, .ref bs), (1, .ref (a 0)), (2, .ref (b 0)), (3, .ref o), (4, .ref od)]) hx hb dL_law_2516 hl (by decide) rfl (fun ls hl => ?_)
  refine lv_aload_n hx hb dL_law_2518 rfl (lv_at hl 4 rfl) ?_
  refine lv_aload_n hx hb dL_law_2519 rfl (lv_at hl 2 rfl) ?_
  refine lv_iload hx hb dL_law_2520 (lv_at hl 1 rfl) ?_
  refine lv_iconst (v := 1) hx hb dL_law_2522 (by decide) ?_
  refine lv_iadd hx hb dL_law_2523 ?_
  refine zrd (x := 1) (by decide) ?_
  refine zsld (v := xs 1) C hw hXs hbl hbs (zin_of (N := 9) (by decide) (by decide) (by decide)) rfl dL_law_2524 ?_
  refine zcV_i (As := [.int (xs 1)]) (rest := []) (n9 := 1) (b := (b 0)) C hw (c_X11_alike l D y base (zdl S2513 o) b (xs 1) hMd (by first | assumption | exact zbo_01 _)) gL_law_X11_alike rfl (by decide +kernel) ⟨⟨rfl, rfl⟩, Nat.le_of_ble_eq_true rfl, Nat.le_of_ble_eq_true rfl⟩ hMd.1 ⟨by decide, by decide⟩ rfl rfl hl.1 rfl (Nat.le_of_ble_eq_true rfl) ⟨Nat.le_of_ble_eq_true rfl, Nat.le_of_ble_eq_true rfl⟩ dL_law_2525 (fun r2525 S2525 H locs hp2525 hw => ?_)
  obtain ⟨r1, r2, r3⟩ := hp2525
  refine lv_istore (lv' := [(7, .int r2525), (6, .int r2513), (5, .int 0), (0, .ref bs), (1, .ref (a 0)), (2, .ref (b 0)), (3, .ref o), (4, .ref od)]) hx hb dL_law_2528 hl (by decide) rfl (fun ls hl => ?_)
  refine lv_aload_n hx hb dL_law_2530 rfl (lv_at hl 5 rfl) ?_
  refine zcV_i (As := []) (rest := []) (n9 := 0) (b := (b 0)) C hw (c_X11_thrown l D y base S2525 (b 0) (kd_alike (xs 1)) r1 r2) gL_law_X11_thrown rfl (by decide +kernel) ⟨⟨rfl, rfl⟩, Nat.le_of_ble_eq_true rfl, Nat.le_of_ble_eq_true rfl⟩ r1 ⟨by decide, by decide⟩ rfl rfl hl.1 rfl (Nat.le_of_ble_eq_true rfl) ⟨Nat.le_of_ble_eq_true rfl, Nat.le_of_ble_eq_true rfl⟩ dL_law_2531 (fun r2531 S2531 H locs hp2531 hw => ?_)
  obtain ⟨rfl, hS9⟩ := hp2531
  have hS9 := hS9.symm
  subst hS9
  refine lv_iload hx hb dL_law_2534 (lv_at hl 1 rfl) ?_
  refine lv_icmp_eq (tgt := 2541) hx hb dL_law_2536 (by decide) (fun c2536 => ?_) (fun c2536 => (show False from (c2536 hk9.symm)).elim)
  refine lv_iload hx hb dL_law_2541 (lv_at hl 1 rfl) ?_
  refine lv_if_ne (tgt := 2558) hx hb dL_law_2543 (by decide) (fun c2543 => ?_) (fun c2543 => ?_)
  · refine lv_goto (tgt := 2892) hx hb dL_law_2558 (by decide) ?_
    exact hend _ _ _ _ _ (Nat.le_of_ble_eq_true rfl) (Nat.le_of_ble_eq_true rfl) hw.2.2.1 (lv_sub hl [2, 3] rfl)
  · have hz9 : kd_alike (xs 1) = 0 := hk9.symm.trans c2543
    have hb9 := r3 hz9
    subst hb9
    refine lv_aload_n hx hb dL_law_2546 rfl (lv_at hl 6 rfl) ?_
    refine lv_iconst (v := 0) hx hb dL_law_2547 (by decide) ?_
    refine zaldX C hw y94 y95 dL_law_2548 ?_
    refine zrdl (x := ((0 : Int32).toInt64)) (y96.trans (hv9 hz9)) ?_
    refine lv_iload hx hb dL_law_2549 (lv_at hl 0 rfl) ?_
    refine lv_i2l (v := (0 : Int32).toInt64) hx hb dL_law_2551 rfl ?_
    refine W.lcmp hx hb dL_law_2552 ?_
    refine zrd (x := 0) ((lg_cmp_eq _ _).mpr rfl) ?_
    refine lv_if_eq (tgt := 2558) hx hb dL_law_2553 (by decide) (fun _ => ?_) (fun c2553 => absurd c2553 (by decide))
    refine lv_goto (tgt := 2892) hx hb dL_law_2558 (by decide) ?_
    exact hend _ _ _ _ _ (Nat.le_of_ble_eq_true rfl) (Nat.le_of_ble_eq_true rfl) hw.2.2.1 (lv_sub hl [2, 3] rfl)

