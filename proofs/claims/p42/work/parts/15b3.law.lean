set_option maxHeartbeats 4000000 in
set_option maxRecDepth 100000 in
theorem law_part_21 {p : Program} {l : Launch} {e : Env} {s : State} {m : MethodId} {below : List Frame} {meth : Method} {c : Code} {H : Heap} {locs : List Loc} {ls : Array Slot} {D : va_G} {y : Nat → ClassId} {base : Nat} {S : zS} {a : Nat → Nat} {bs : Nat} (hst : l.stackTraces = false) (C : CallFix p m c code 2 s #[Value.ref bs] wsL_law RL) (hr : meth.sig.returnType = ret) (hlocks : meth.locks = false) (hy31 : y 99 < 2 ^ 31) (hNw : zNew S a) (hDs : zDs a) (hbase : base = s.heap.size) (hw : zW D y base S s H locs) (hl : lv_has ls 2 [(1, .ref (a 0)), (0, .ref (y 98))]) : W p l e room_1 s m #[Value.ref bs] below meth c H locs 250 6877 (lw_Z below #[Value.ref bs] s) (F0 m 1258 ls []) := by
  have hx := C.1
  have hb := C.2.1
  have hown := C.2.2.2.1
  have hts := C.2.2.2.2
  refine lv_aload_n hx hb dL_law_1258 rfl (lv_at hl 0 rfl) ?_
  refine lv_bipush (v := 104) hx hb dL_law_1259 (by decide) ?_
  refine lv_iconst (v := 2) hx hb dL_law_1261 (by decide) ?_
  refine znewI (N := 2) C hw (by decide +kernel) (by decide) (by decide) (Nat.le_of_ble_eq_true rfl) (Nat.le_of_ble_eq_true rfl) (Nat.le_of_ble_eq_true rfl) dL_law_1262 (fun q1262 H kq1262 hw => ?_)
  have hA : zAr S (znR S q1262 22 2 (fun _ => 0)) q1262 2 [] := zAr.new kq1262
  generalize (znR S q1262 22 2 (fun _ => 0)) = Sa1262 at hw hA
  refine lv_dup hx hb dL_law_1264 rfl ?_
  refine lv_iconst (v := 0) hx hb dL_law_1265 (by decide) ?_
  refine lv_iconst (v := 0) hx hb dL_law_1266 (by decide) ?_
  refine zast_I (a := q1262) C hw hA.2.1 hA.2.2.1 (zin_of (N := 2) (by decide) (by grind) (by grind)) dL_law_1267 (fun H locs hw => ?_)
  have hA : zAr S (zsR Sa1262 22 q1262 (upd (zR Sa1262 22 q1262) (0 : Int32).toNatClampNeg 0)) q1262 2 [0] := zAr.st (k := 0) hA kq1262 (by decide) rfl
  generalize (zsR Sa1262 22 q1262 (upd (zR Sa1262 22 q1262) (0 : Int32).toNatClampNeg 0)) = Sa1267 at hw hA
  refine lv_dup hx hb dL_law_1268 rfl ?_
  refine lv_iconst (v := 1) hx hb dL_law_1269 (by decide) ?_
  refine lv_iconst (v := 0) hx hb dL_law_1270 (by decide) ?_
  refine zast_I (a := q1262) C hw hA.2.1 hA.2.2.1 (zin_of (N := 2) (by decide) (by grind) (by grind)) dL_law_1271 (fun H locs hw => ?_)
  have hA : zAr S (zsR Sa1267 22 q1262 (upd (zR Sa1267 22 q1262) (1 : Int32).toNatClampNeg 0)) q1262 2 [0, 0] := zAr.st (k := 1) hA kq1262 (by decide) rfl
  generalize (zsR Sa1267 22 q1262 (upd (zR Sa1267 22 q1262) (1 : Int32).toNatClampNeg 0)) = Sa1271 at hw hA
  obtain ⟨hG, hK9, hN9, hA⟩ := hA
  have hj0 : zR Sa1271 22 q1262 0 = 0 := (hA 0 0 rfl).trans rfl
  have hj1 : zR Sa1271 22 q1262 1 = 0 := (hA 1 0 rfl).trans rfl
  have hNw := zNew.gw hG hNw
  refine zcSW_i (As := [.ref (a 0), .int 104, .ref q1262]) (rest := []) (n9 := 3) C hw (c_L_ask_h_shortest_r l hst D y base Sa1271 a 0 0 q1262 hNw.1 hNw.2.1 hK9 hN9 hj0 hj1) gL_law_L_ask rfl (by decide +kernel) ⟨⟨rfl, rfl⟩, Nat.le_of_ble_eq_true rfl, Nat.le_of_ble_eq_true rfl⟩ rfl hl.1 rfl (Nat.le_of_ble_eq_true rfl) ⟨Nat.le_of_ble_eq_true rfl, Nat.le_of_ble_eq_true rfl⟩ dL_law_1272 (fun r1272 S1272 H locs hp1272 hw => ?_)
  have h9 : r1272 = (-2000000005) ∧ S1272 = Sa1271 := by
    rcases hp1272 with h | h
    · exact absurd h.1 (by decide +kernel)
    · exact h.2
  obtain ⟨rfl, hS9⟩ := h9
  have hS9 := hS9.symm
  subst hS9
  refine lv_ldc (own := RL) (v := (-2000000005)) hx hb hown (hts (.constant RL 80 (-2000000005)) (by decide +kernel)) dL_law_1275 ?_
  refine lv_icmp_ne (tgt := 1945) hx hb dL_law_1277 (by decide) (fun c1277 => absurd c1277 (by decide)) (fun _ => ?_)
  refine lv_aload_n hx hb dL_law_1280 rfl (lv_at hl 0 rfl) ?_
  refine lv_bipush (v := 66) hx hb dL_law_1281 (by decide) ?_
  refine lv_iconst (v := 4) hx hb dL_law_1283 (by decide) ?_
  refine znewI (N := 4) C hw (by decide +kernel) (by decide) (by decide) (Nat.le_of_ble_eq_true rfl) (Nat.le_of_ble_eq_true rfl) (Nat.le_of_ble_eq_true rfl) dL_law_1284 (fun q1284 H kq1284 hw => ?_)
  have hA : zAr Sa1271 (znR Sa1271 q1284 22 4 (fun _ => 0)) q1284 4 [] := zAr.new kq1284
  generalize (znR Sa1271 q1284 22 4 (fun _ => 0)) = Sa1284 at hw hA
  refine lv_dup hx hb dL_law_1286 rfl ?_
  refine lv_iconst (v := 0) hx hb dL_law_1287 (by decide) ?_
  refine lv_iconst (v := 0) hx hb dL_law_1288 (by decide) ?_
  refine zast_I (a := q1284) C hw hA.2.1 hA.2.2.1 (zin_of (N := 4) (by decide) (by grind) (by grind)) dL_law_1289 (fun H locs hw => ?_)
  have hA : zAr Sa1271 (zsR Sa1284 22 q1284 (upd (zR Sa1284 22 q1284) (0 : Int32).toNatClampNeg 0)) q1284 4 [0] := zAr.st (k := 0) hA kq1284 (by decide) rfl
  generalize (zsR Sa1284 22 q1284 (upd (zR Sa1284 22 q1284) (0 : Int32).toNatClampNeg 0)) = Sa1289 at hw hA
  refine lv_dup hx hb dL_law_1290 rfl ?_
  refine lv_iconst (v := 1) hx hb dL_law_1291 (by decide) ?_
  refine lv_iconst (v := 0) hx hb dL_law_1292 (by decide) ?_
  refine zast_I (a := q1284) C hw hA.2.1 hA.2.2.1 (zin_of (N := 4) (by decide) (by grind) (by grind)) dL_law_1293 (fun H locs hw => ?_)
  have hA : zAr Sa1271 (zsR Sa1289 22 q1284 (upd (zR Sa1289 22 q1284) (1 : Int32).toNatClampNeg 0)) q1284 4 [0, 0] := zAr.st (k := 1) hA kq1284 (by decide) rfl
  generalize (zsR Sa1289 22 q1284 (upd (zR Sa1289 22 q1284) (1 : Int32).toNatClampNeg 0)) = Sa1293 at hw hA
  refine lv_dup hx hb dL_law_1294 rfl ?_
  refine lv_iconst (v := 2) hx hb dL_law_1295 (by decide) ?_
  refine lv_bipush (v := 10) hx hb dL_law_1296 (by decide) ?_
  refine zast_I (a := q1284) C hw hA.2.1 hA.2.2.1 (zin_of (N := 4) (by decide) (by grind) (by grind)) dL_law_1298 (fun H locs hw => ?_)
  have hA : zAr Sa1271 (zsR Sa1293 22 q1284 (upd (zR Sa1293 22 q1284) (2 : Int32).toNatClampNeg 10)) q1284 4 [0, 0, 10] := zAr.st (k := 2) hA kq1284 (by decide) rfl
  generalize (zsR Sa1293 22 q1284 (upd (zR Sa1293 22 q1284) (2 : Int32).toNatClampNeg 10)) = Sa1298 at hw hA
  refine lv_dup hx hb dL_law_1299 rfl ?_
  refine lv_iconst (v := 3) hx hb dL_law_1300 (by decide) ?_
  refine lv_iconst (v := 0) hx hb dL_law_1301 (by decide) ?_
  refine zast_I (a := q1284) C hw hA.2.1 hA.2.2.1 (zin_of (N := 4) (by decide) (by grind) (by grind)) dL_law_1302 (fun H locs hw => ?_)
  have hA : zAr Sa1271 (zsR Sa1298 22 q1284 (upd (zR Sa1298 22 q1284) (3 : Int32).toNatClampNeg 0)) q1284 4 [0, 0, 10, 0] := zAr.st (k := 3) hA kq1284 (by decide) rfl
  generalize (zsR Sa1298 22 q1284 (upd (zR Sa1298 22 q1284) (3 : Int32).toNatClampNeg 0)) = Sa1302 at hw hA
  obtain ⟨hG, hK9, hN9, hA⟩ := hA
  have hj0 : zR Sa1302 22 q1284 0 = 0 := (hA 0 0 rfl).trans rfl
  have hj1 : zR Sa1302 22 q1284 1 = 0 := (hA 1 0 rfl).trans rfl
  have hj2 : zR Sa1302 22 q1284 2 = 10 := (hA 2 10 rfl).trans rfl
  have hj3 : zR Sa1302 22 q1284 3 = 0 := (hA 3 0 rfl).trans rfl
  have hNw := zNew.gw hG hNw
  refine zcSW_i (As := [.ref (a 0), .int 66, .ref q1284]) (rest := []) (n9 := 3) C hw (c_L_ask_B_block_r l hst D y base Sa1302 a 0 0 10 0 q1284 hNw.1 hNw.2.1 hK9 hN9 hj0 hj1 hj2 hj3) gL_law_L_ask rfl (by decide +kernel) ⟨⟨rfl, rfl⟩, Nat.le_of_ble_eq_true rfl, Nat.le_of_ble_eq_true rfl⟩ rfl hl.1 rfl (Nat.le_of_ble_eq_true rfl) ⟨Nat.le_of_ble_eq_true rfl, Nat.le_of_ble_eq_true rfl⟩ dL_law_1303 (fun r1303 S1303 H locs hp1303 hw => ?_)
  have h9 : r1303 = (-2000000002) ∧ S1303 = Sa1302 := by
    rcases hp1303 with h | h | h
    · exact absurd h.1 (by decide +kernel)
    · exact h.2
    · exact absurd h.1 (by decide +kernel)
  obtain ⟨rfl, hS9⟩ := h9
  have hS9 := hS9.symm
  subst hS9
  refine lv_ldc (own := RL) (v := (-2000000002)) hx hb hown (hts (.constant RL 71 (-2000000002)) (by decide +kernel)) dL_law_1306 ?_
  refine lv_icmp_ne (tgt := 1945) hx hb dL_law_1308 (by decide) (fun c1308 => absurd c1308 (by decide)) (fun _ => ?_)
  exact law_part_22 hst C hr hlocks hy31 hNw hDs hbase hw hl

set_option maxHeartbeats 4000000 in
set_option maxRecDepth 100000 in
theorem law_part_20 {p : Program} {l : Launch} {e : Env} {s : State} {m : MethodId} {below : List Frame} {meth : Method} {c : Code} {H : Heap} {locs : List Loc} {ls : Array Slot} {D : va_G} {y : Nat → ClassId} {base : Nat} {S : zS} {a : Nat → Nat} {bs : Nat} (hst : l.stackTraces = false) (C : CallFix p m c code 2 s #[Value.ref bs] wsL_law RL) (hr : meth.sig.returnType = ret) (hlocks : meth.locks = false) (hy31 : y 99 < 2 ^ 31) (hNw : zNew S a) (hDs : zDs a) (hbase : base = s.heap.size) (hw : zW D y base S s H locs) (hl : lv_has ls 2 [(1, .ref (a 0)), (0, .ref (y 98))]) : W p l e room_1 s m #[Value.ref bs] below meth c H locs 240 6828 (lw_Z below #[Value.ref bs] s) (F0 m 1190 ls []) := by
  have hx := C.1
  have hb := C.2.1
  have hown := C.2.2.2.1
  have hts := C.2.2.2.2
  refine lv_aload_n hx hb dL_law_1190 rfl (lv_at hl 0 rfl) ?_
  refine lv_bipush (v := 114) hx hb dL_law_1191 (by decide) ?_
  refine lv_iconst (v := 2) hx hb dL_law_1193 (by decide) ?_
  refine znewI (N := 2) C hw (by decide +kernel) (by decide) (by decide) (Nat.le_of_ble_eq_true rfl) (Nat.le_of_ble_eq_true rfl) (Nat.le_of_ble_eq_true rfl) dL_law_1194 (fun q1194 H kq1194 hw => ?_)
  have hA : zAr S (znR S q1194 22 2 (fun _ => 0)) q1194 2 [] := zAr.new kq1194
  generalize (znR S q1194 22 2 (fun _ => 0)) = Sa1194 at hw hA
  refine lv_dup hx hb dL_law_1196 rfl ?_
  refine lv_iconst (v := 0) hx hb dL_law_1197 (by decide) ?_
  refine lv_iconst (v := 0) hx hb dL_law_1198 (by decide) ?_
  refine zast_I (a := q1194) C hw hA.2.1 hA.2.2.1 (zin_of (N := 2) (by decide) (by grind) (by grind)) dL_law_1199 (fun H locs hw => ?_)
  have hA : zAr S (zsR Sa1194 22 q1194 (upd (zR Sa1194 22 q1194) (0 : Int32).toNatClampNeg 0)) q1194 2 [0] := zAr.st (k := 0) hA kq1194 (by decide) rfl
  generalize (zsR Sa1194 22 q1194 (upd (zR Sa1194 22 q1194) (0 : Int32).toNatClampNeg 0)) = Sa1199 at hw hA
  refine lv_dup hx hb dL_law_1200 rfl ?_
  refine lv_iconst (v := 1) hx hb dL_law_1201 (by decide) ?_
  refine lv_iconst (v := 4) hx hb dL_law_1202 (by decide) ?_
  refine zast_I (a := q1194) C hw hA.2.1 hA.2.2.1 (zin_of (N := 2) (by decide) (by grind) (by grind)) dL_law_1203 (fun H locs hw => ?_)
  have hA : zAr S (zsR Sa1199 22 q1194 (upd (zR Sa1199 22 q1194) (1 : Int32).toNatClampNeg 4)) q1194 2 [0, 4] := zAr.st (k := 1) hA kq1194 (by decide) rfl
  generalize (zsR Sa1199 22 q1194 (upd (zR Sa1199 22 q1194) (1 : Int32).toNatClampNeg 4)) = Sa1203 at hw hA
  obtain ⟨hG, hK9, hN9, hA⟩ := hA
  have hj0 : zR Sa1203 22 q1194 0 = 0 := (hA 0 0 rfl).trans rfl
  have hj1 : zR Sa1203 22 q1194 1 = 4 := (hA 1 4 rfl).trans rfl
  have hNw := zNew.gw hG hNw
  refine zcSW_i (As := [.ref (a 0), .int 114, .ref q1194]) (rest := []) (n9 := 3) C hw (c_L_ask_r_runs_r l hst D y base Sa1203 a 0 4 q1194 hNw.1 hNw.2.1 hK9 hN9 hj0 hj1) gL_law_L_ask rfl (by decide +kernel) ⟨⟨rfl, rfl⟩, Nat.le_of_ble_eq_true rfl, Nat.le_of_ble_eq_true rfl⟩ rfl hl.1 rfl (Nat.le_of_ble_eq_true rfl) ⟨Nat.le_of_ble_eq_true rfl, Nat.le_of_ble_eq_true rfl⟩ dL_law_1204 (fun r1204 S1204 H locs hp1204 hw => ?_)
  have h9 : r1204 = (-2000000001) ∧ S1204 = Sa1203 := by
    rcases hp1204 with h | h
    · exact h.2
    · exact absurd h.1 (by decide +kernel)
  obtain ⟨rfl, hS9⟩ := h9
  have hS9 := hS9.symm
  subst hS9
  refine lv_ldc (own := RL) (v := (-2000000001)) hx hb hown (hts (.constant RL 68 (-2000000001)) (by decide +kernel)) dL_law_1207 ?_
  refine lv_icmp_ne (tgt := 1945) hx hb dL_law_1209 (by decide) (fun c1209 => absurd c1209 (by decide)) (fun _ => ?_)
  refine lv_aload_n hx hb dL_law_1212 rfl (lv_at hl 0 rfl) ?_
  refine lv_bipush (v := 114) hx hb dL_law_1213 (by decide) ?_
  refine lv_iconst (v := 2) hx hb dL_law_1215 (by decide) ?_
  refine znewI (N := 2) C hw (by decide +kernel) (by decide) (by decide) (Nat.le_of_ble_eq_true rfl) (Nat.le_of_ble_eq_true rfl) (Nat.le_of_ble_eq_true rfl) dL_law_1216 (fun q1216 H kq1216 hw => ?_)
  have hA : zAr Sa1203 (znR Sa1203 q1216 22 2 (fun _ => 0)) q1216 2 [] := zAr.new kq1216
  generalize (znR Sa1203 q1216 22 2 (fun _ => 0)) = Sa1216 at hw hA
  refine lv_dup hx hb dL_law_1218 rfl ?_
  refine lv_iconst (v := 0) hx hb dL_law_1219 (by decide) ?_
  refine lv_iconst (v := 0) hx hb dL_law_1220 (by decide) ?_
  refine zast_I (a := q1216) C hw hA.2.1 hA.2.2.1 (zin_of (N := 2) (by decide) (by grind) (by grind)) dL_law_1221 (fun H locs hw => ?_)
  have hA : zAr Sa1203 (zsR Sa1216 22 q1216 (upd (zR Sa1216 22 q1216) (0 : Int32).toNatClampNeg 0)) q1216 2 [0] := zAr.st (k := 0) hA kq1216 (by decide) rfl
  generalize (zsR Sa1216 22 q1216 (upd (zR Sa1216 22 q1216) (0 : Int32).toNatClampNeg 0)) = Sa1221 at hw hA
  refine lv_dup hx hb dL_law_1222 rfl ?_
  refine lv_iconst (v := 1) hx hb dL_law_1223 (by decide) ?_
  refine lv_iconst (v := 0) hx hb dL_law_1224 (by decide) ?_
  refine zast_I (a := q1216) C hw hA.2.1 hA.2.2.1 (zin_of (N := 2) (by decide) (by grind) (by grind)) dL_law_1225 (fun H locs hw => ?_)
  have hA : zAr Sa1203 (zsR Sa1221 22 q1216 (upd (zR Sa1221 22 q1216) (1 : Int32).toNatClampNeg 0)) q1216 2 [0, 0] := zAr.st (k := 1) hA kq1216 (by decide) rfl
  generalize (zsR Sa1221 22 q1216 (upd (zR Sa1221 22 q1216) (1 : Int32).toNatClampNeg 0)) = Sa1225 at hw hA
  obtain ⟨hG, hK9, hN9, hA⟩ := hA
  have hj0 : zR Sa1225 22 q1216 0 = 0 := (hA 0 0 rfl).trans rfl
  have hj1 : zR Sa1225 22 q1216 1 = 0 := (hA 1 0 rfl).trans rfl
  have hNw := zNew.gw hG hNw
  refine zcSW_i (As := [.ref (a 0), .int 114, .ref q1216]) (rest := []) (n9 := 3) C hw (c_L_ask_r_runs_r l hst D y base Sa1225 a 0 0 q1216 hNw.1 hNw.2.1 hK9 hN9 hj0 hj1) gL_law_L_ask rfl (by decide +kernel) ⟨⟨rfl, rfl⟩, Nat.le_of_ble_eq_true rfl, Nat.le_of_ble_eq_true rfl⟩ rfl hl.1 rfl (Nat.le_of_ble_eq_true rfl) ⟨Nat.le_of_ble_eq_true rfl, Nat.le_of_ble_eq_true rfl⟩ dL_law_1226 (fun r1226 S1226 H locs hp1226 hw => ?_)
  have h9 : r1226 = (0) ∧ S1226 = Sa1225 := by
    rcases hp1226 with h | h
    · exact absurd h.1 (by decide +kernel)
    · exact h.2
  obtain ⟨rfl, hS9⟩ := h9
  have hS9 := hS9.symm
  subst hS9
  refine lv_if_ne (tgt := 1945) hx hb dL_law_1229 (by decide) (fun c1229 => absurd c1229 (by decide)) (fun _ => ?_)
  refine lv_aload_n hx hb dL_law_1232 rfl (lv_at hl 0 rfl) ?_
  refine lv_bipush (v := 82) hx hb dL_law_1233 (by decide) ?_
  refine lv_iconst (v := 3) hx hb dL_law_1235 (by decide) ?_
  refine znewI (N := 3) C hw (by decide +kernel) (by decide) (by decide) (Nat.le_of_ble_eq_true rfl) (Nat.le_of_ble_eq_true rfl) (Nat.le_of_ble_eq_true rfl) dL_law_1236 (fun q1236 H kq1236 hw => ?_)
  have hA : zAr Sa1225 (znR Sa1225 q1236 22 3 (fun _ => 0)) q1236 3 [] := zAr.new kq1236
  generalize (znR Sa1225 q1236 22 3 (fun _ => 0)) = Sa1236 at hw hA
  refine lv_dup hx hb dL_law_1238 rfl ?_
  refine lv_iconst (v := 0) hx hb dL_law_1239 (by decide) ?_
  refine lv_iconst (v := 0) hx hb dL_law_1240 (by decide) ?_
  refine zast_I (a := q1236) C hw hA.2.1 hA.2.2.1 (zin_of (N := 3) (by decide) (by grind) (by grind)) dL_law_1241 (fun H locs hw => ?_)
  have hA : zAr Sa1225 (zsR Sa1236 22 q1236 (upd (zR Sa1236 22 q1236) (0 : Int32).toNatClampNeg 0)) q1236 3 [0] := zAr.st (k := 0) hA kq1236 (by decide) rfl
  generalize (zsR Sa1236 22 q1236 (upd (zR Sa1236 22 q1236) (0 : Int32).toNatClampNeg 0)) = Sa1241 at hw hA
  refine lv_dup hx hb dL_law_1242 rfl ?_
  refine lv_iconst (v := 1) hx hb dL_law_1243 (by decide) ?_
  refine lv_iconst (v := 0) hx hb dL_law_1244 (by decide) ?_
  refine zast_I (a := q1236) C hw hA.2.1 hA.2.2.1 (zin_of (N := 3) (by decide) (by grind) (by grind)) dL_law_1245 (fun H locs hw => ?_)
  have hA : zAr Sa1225 (zsR Sa1241 22 q1236 (upd (zR Sa1241 22 q1236) (1 : Int32).toNatClampNeg 0)) q1236 3 [0, 0] := zAr.st (k := 1) hA kq1236 (by decide) rfl
  generalize (zsR Sa1241 22 q1236 (upd (zR Sa1241 22 q1236) (1 : Int32).toNatClampNeg 0)) = Sa1245 at hw hA
  refine lv_dup hx hb dL_law_1246 rfl ?_
  refine lv_iconst (v := 2) hx hb dL_law_1247 (by decide) ?_
  refine lv_iconst (v := 0) hx hb dL_law_1248 (by decide) ?_
  refine zast_I (a := q1236) C hw hA.2.1 hA.2.2.1 (zin_of (N := 3) (by decide) (by grind) (by grind)) dL_law_1249 (fun H locs hw => ?_)
  have hA : zAr Sa1225 (zsR Sa1245 22 q1236 (upd (zR Sa1245 22 q1236) (2 : Int32).toNatClampNeg 0)) q1236 3 [0, 0, 0] := zAr.st (k := 2) hA kq1236 (by decide) rfl
  generalize (zsR Sa1245 22 q1236 (upd (zR Sa1245 22 q1236) (2 : Int32).toNatClampNeg 0)) = Sa1249 at hw hA
  obtain ⟨hG, hK9, hN9, hA⟩ := hA
  have hj0 : zR Sa1249 22 q1236 0 = 0 := (hA 0 0 rfl).trans rfl
  have hj1 : zR Sa1249 22 q1236 1 = 0 := (hA 1 0 rfl).trans rfl
  have hj2 : zR Sa1249 22 q1236 2 = 0 := (hA 2 0 rfl).trans rfl
  have hNw := zNew.gw hG hNw
  refine zcSW_i (As := [.ref (a 0), .int 82, .ref q1236]) (rest := []) (n9 := 3) C hw (c_L_ask_R_run_r l hst D y base Sa1249 a 0 0 0 q1236 hNw.1 hNw.2.1 hK9 hN9 hj0 hj1 hj2) gL_law_L_ask rfl (by decide +kernel) ⟨⟨rfl, rfl⟩, Nat.le_of_ble_eq_true rfl, Nat.le_of_ble_eq_true rfl⟩ rfl hl.1 rfl (Nat.le_of_ble_eq_true rfl) ⟨Nat.le_of_ble_eq_true rfl, Nat.le_of_ble_eq_true rfl⟩ dL_law_1250 (fun r1250 S1250 H locs hp1250 hw => ?_)
  have h9 : r1250 = (-2000000005) ∧ S1250 = Sa1249 := by
    rcases hp1250 with h | h
    · exact absurd h.1 (by decide +kernel)
    · exact h.2
  obtain ⟨rfl, hS9⟩ := h9
  have hS9 := hS9.symm
  subst hS9
  refine lv_ldc (own := RL) (v := (-2000000005)) hx hb hown (hts (.constant RL 80 (-2000000005)) (by decide +kernel)) dL_law_1253 ?_
  refine lv_icmp_ne (tgt := 1945) hx hb dL_law_1255 (by decide) (fun c1255 => absurd c1255 (by decide)) (fun _ => ?_)
  exact law_part_21 hst C hr hlocks hy31 hNw hDs hbase hw hl

set_option maxHeartbeats 4000000 in
set_option maxRecDepth 100000 in
theorem law_part_19 {p : Program} {l : Launch} {e : Env} {s : State} {m : MethodId} {below : List Frame} {meth : Method} {c : Code} {H : Heap} {locs : List Loc} {ls : Array Slot} {D : va_G} {y : Nat → ClassId} {base : Nat} {S : zS} {a : Nat → Nat} {bs : Nat} (hst : l.stackTraces = false) (C : CallFix p m c code 2 s #[Value.ref bs] wsL_law RL) (hr : meth.sig.returnType = ret) (hlocks : meth.locks = false) (hy31 : y 99 < 2 ^ 31) (hNw : zNew S a) (hDs : zDs a) (hbase : base = s.heap.size) (hw : zW D y base S s H locs) (hl : lv_has ls 2 [(1, .ref (a 0)), (0, .ref (y 98))]) : W p l e room_1 s m #[Value.ref bs] below meth c H locs 233 6800 (lw_Z below #[Value.ref bs] s) (F0 m 1134 ls []) := by
  have hx := C.1
  have hb := C.2.1
  have hown := C.2.2.2.1
  have hts := C.2.2.2.2
  refine lv_aload_n hx hb dL_law_1134 rfl (lv_at hl 0 rfl) ?_
  refine lv_bipush (v := 83) hx hb dL_law_1135 (by decide) ?_
  refine lv_iconst (v := 1) hx hb dL_law_1137 (by decide) ?_
  refine znewI (N := 1) C hw (by decide +kernel) (by decide) (by decide) (Nat.le_of_ble_eq_true rfl) (Nat.le_of_ble_eq_true rfl) (Nat.le_of_ble_eq_true rfl) dL_law_1138 (fun q1138 H kq1138 hw => ?_)
  have hA : zAr S (znR S q1138 22 1 (fun _ => 0)) q1138 1 [] := zAr.new kq1138
  generalize (znR S q1138 22 1 (fun _ => 0)) = Sa1138 at hw hA
  refine lv_dup hx hb dL_law_1140 rfl ?_
  refine lv_iconst (v := 0) hx hb dL_law_1141 (by decide) ?_
  refine lv_iconst (v := 2) hx hb dL_law_1142 (by decide) ?_
  refine zast_I (a := q1138) C hw hA.2.1 hA.2.2.1 (zin_of (N := 1) (by decide) (by grind) (by grind)) dL_law_1143 (fun H locs hw => ?_)
  have hA : zAr S (zsR Sa1138 22 q1138 (upd (zR Sa1138 22 q1138) (0 : Int32).toNatClampNeg 2)) q1138 1 [2] := zAr.st (k := 0) hA kq1138 (by decide) rfl
  generalize (zsR Sa1138 22 q1138 (upd (zR Sa1138 22 q1138) (0 : Int32).toNatClampNeg 2)) = Sa1143 at hw hA
  obtain ⟨hG, hK9, hN9, hA⟩ := hA
  have hj0 : zR Sa1143 22 q1138 0 = 2 := (hA 0 2 rfl).trans rfl
  have hNw := zNew.gw hG hNw
  refine zcSW_i (As := [.ref (a 0), .int 83, .ref q1138]) (rest := []) (n9 := 3) C hw (c_L_ask_S_samples_r l hst D y base Sa1143 a 2 q1138 hNw.1 hNw.2.1 hK9 hN9 hj0) gL_law_L_ask rfl (by decide +kernel) ⟨⟨rfl, rfl⟩, Nat.le_of_ble_eq_true rfl, Nat.le_of_ble_eq_true rfl⟩ rfl hl.1 rfl (Nat.le_of_ble_eq_true rfl) ⟨Nat.le_of_ble_eq_true rfl, Nat.le_of_ble_eq_true rfl⟩ dL_law_1144 (fun r1144 S1144 H locs hp1144 hw => ?_)
  have h9 : r1144 = (-2000000001) ∧ S1144 = Sa1143 := by
    rcases hp1144 with h | h
    · exact h.2
    · exact absurd h.1 (by decide +kernel)
  obtain ⟨rfl, hS9⟩ := h9
  have hS9 := hS9.symm
  subst hS9
  refine lv_ldc (own := RL) (v := (-2000000001)) hx hb hown (hts (.constant RL 68 (-2000000001)) (by decide +kernel)) dL_law_1147 ?_
  refine lv_icmp_ne (tgt := 1945) hx hb dL_law_1149 (by decide) (fun c1149 => absurd c1149 (by decide)) (fun _ => ?_)
  refine lv_aload_n hx hb dL_law_1152 rfl (lv_at hl 0 rfl) ?_
  refine lv_bipush (v := 83) hx hb dL_law_1153 (by decide) ?_
  refine lv_iconst (v := 1) hx hb dL_law_1155 (by decide) ?_
  refine znewI (N := 1) C hw (by decide +kernel) (by decide) (by decide) (Nat.le_of_ble_eq_true rfl) (Nat.le_of_ble_eq_true rfl) (Nat.le_of_ble_eq_true rfl) dL_law_1156 (fun q1156 H kq1156 hw => ?_)
  have hA : zAr Sa1143 (znR Sa1143 q1156 22 1 (fun _ => 0)) q1156 1 [] := zAr.new kq1156
  generalize (znR Sa1143 q1156 22 1 (fun _ => 0)) = Sa1156 at hw hA
  refine lv_dup hx hb dL_law_1158 rfl ?_
  refine lv_iconst (v := 0) hx hb dL_law_1159 (by decide) ?_
  refine lv_iconst (v := 0) hx hb dL_law_1160 (by decide) ?_
  refine zast_I (a := q1156) C hw hA.2.1 hA.2.2.1 (zin_of (N := 1) (by decide) (by grind) (by grind)) dL_law_1161 (fun H locs hw => ?_)
  have hA : zAr Sa1143 (zsR Sa1156 22 q1156 (upd (zR Sa1156 22 q1156) (0 : Int32).toNatClampNeg 0)) q1156 1 [0] := zAr.st (k := 0) hA kq1156 (by decide) rfl
  generalize (zsR Sa1156 22 q1156 (upd (zR Sa1156 22 q1156) (0 : Int32).toNatClampNeg 0)) = Sa1161 at hw hA
  obtain ⟨hG, hK9, hN9, hA⟩ := hA
  have hj0 : zR Sa1161 22 q1156 0 = 0 := (hA 0 0 rfl).trans rfl
  have hNw := zNew.gw hG hNw
  refine zcSW_i (As := [.ref (a 0), .int 83, .ref q1156]) (rest := []) (n9 := 3) C hw (c_L_ask_S_samples_r l hst D y base Sa1161 a 0 q1156 hNw.1 hNw.2.1 hK9 hN9 hj0) gL_law_L_ask rfl (by decide +kernel) ⟨⟨rfl, rfl⟩, Nat.le_of_ble_eq_true rfl, Nat.le_of_ble_eq_true rfl⟩ rfl hl.1 rfl (Nat.le_of_ble_eq_true rfl) ⟨Nat.le_of_ble_eq_true rfl, Nat.le_of_ble_eq_true rfl⟩ dL_law_1162 (fun r1162 S1162 H locs hp1162 hw => ?_)
  have h9 : r1162 = (0) ∧ S1162 = Sa1161 := by
    rcases hp1162 with h | h
    · exact absurd h.1 (by decide +kernel)
    · exact h.2
  obtain ⟨rfl, hS9⟩ := h9
  have hS9 := hS9.symm
  subst hS9
  refine lv_if_ne (tgt := 1945) hx hb dL_law_1165 (by decide) (fun c1165 => absurd c1165 (by decide)) (fun _ => ?_)
  refine lv_aload_n hx hb dL_law_1168 rfl (lv_at hl 0 rfl) ?_
  refine lv_bipush (v := 97) hx hb dL_law_1169 (by decide) ?_
  refine lv_iconst (v := 2) hx hb dL_law_1171 (by decide) ?_
  refine znewI (N := 2) C hw (by decide +kernel) (by decide) (by decide) (Nat.le_of_ble_eq_true rfl) (Nat.le_of_ble_eq_true rfl) (Nat.le_of_ble_eq_true rfl) dL_law_1172 (fun q1172 H kq1172 hw => ?_)
  have hA : zAr Sa1161 (znR Sa1161 q1172 22 2 (fun _ => 0)) q1172 2 [] := zAr.new kq1172
  generalize (znR Sa1161 q1172 22 2 (fun _ => 0)) = Sa1172 at hw hA
  refine lv_dup hx hb dL_law_1174 rfl ?_
  refine lv_iconst (v := 0) hx hb dL_law_1175 (by decide) ?_
  refine lv_iconst (v := 0) hx hb dL_law_1176 (by decide) ?_
  refine zast_I (a := q1172) C hw hA.2.1 hA.2.2.1 (zin_of (N := 2) (by decide) (by grind) (by grind)) dL_law_1177 (fun H locs hw => ?_)
  have hA : zAr Sa1161 (zsR Sa1172 22 q1172 (upd (zR Sa1172 22 q1172) (0 : Int32).toNatClampNeg 0)) q1172 2 [0] := zAr.st (k := 0) hA kq1172 (by decide) rfl
  generalize (zsR Sa1172 22 q1172 (upd (zR Sa1172 22 q1172) (0 : Int32).toNatClampNeg 0)) = Sa1177 at hw hA
  refine lv_dup hx hb dL_law_1178 rfl ?_
  refine lv_iconst (v := 1) hx hb dL_law_1179 (by decide) ?_
  refine lv_iconst (v := 0) hx hb dL_law_1180 (by decide) ?_
  refine zast_I (a := q1172) C hw hA.2.1 hA.2.2.1 (zin_of (N := 2) (by decide) (by grind) (by grind)) dL_law_1181 (fun H locs hw => ?_)
  have hA : zAr Sa1161 (zsR Sa1177 22 q1172 (upd (zR Sa1177 22 q1172) (1 : Int32).toNatClampNeg 0)) q1172 2 [0, 0] := zAr.st (k := 1) hA kq1172 (by decide) rfl
  generalize (zsR Sa1177 22 q1172 (upd (zR Sa1177 22 q1172) (1 : Int32).toNatClampNeg 0)) = Sa1181 at hw hA
  obtain ⟨hG, hK9, hN9, hA⟩ := hA
  have hj0 : zR Sa1181 22 q1172 0 = 0 := (hA 0 0 rfl).trans rfl
  have hj1 : zR Sa1181 22 q1172 1 = 0 := (hA 1 0 rfl).trans rfl
  have hNw := zNew.gw hG hNw
  refine zcSW_i (As := [.ref (a 0), .int 97, .ref q1172]) (rest := []) (n9 := 3) C hw (c_L_ask_a_sample_r l hst D y base Sa1181 a 0 0 q1172 hNw.1 hNw.2.1 hK9 hN9 hj0 hj1) gL_law_L_ask rfl (by decide +kernel) ⟨⟨rfl, rfl⟩, Nat.le_of_ble_eq_true rfl, Nat.le_of_ble_eq_true rfl⟩ rfl hl.1 rfl (Nat.le_of_ble_eq_true rfl) ⟨Nat.le_of_ble_eq_true rfl, Nat.le_of_ble_eq_true rfl⟩ dL_law_1182 (fun r1182 S1182 H locs hp1182 hw => ?_)
  have h9 : r1182 = (-2000000005) ∧ S1182 = Sa1181 := by
    rcases hp1182 with h | h
    · exact absurd h.1 (by decide +kernel)
    · exact h.2
  obtain ⟨rfl, hS9⟩ := h9
  have hS9 := hS9.symm
  subst hS9
  refine lv_ldc (own := RL) (v := (-2000000005)) hx hb hown (hts (.constant RL 80 (-2000000005)) (by decide +kernel)) dL_law_1185 ?_
  refine lv_icmp_ne (tgt := 1945) hx hb dL_law_1187 (by decide) (fun c1187 => absurd c1187 (by decide)) (fun _ => ?_)
  exact law_part_20 hst C hr hlocks hy31 hNw hDs hbase hw hl

set_option maxHeartbeats 4000000 in
set_option maxRecDepth 100000 in
theorem law_part_18 {p : Program} {l : Launch} {e : Env} {s : State} {m : MethodId} {below : List Frame} {meth : Method} {c : Code} {H : Heap} {locs : List Loc} {ls : Array Slot} {D : va_G} {y : Nat → ClassId} {base : Nat} {S : zS} {a : Nat → Nat} {bs : Nat} (hst : l.stackTraces = false) (C : CallFix p m c code 2 s #[Value.ref bs] wsL_law RL) (hr : meth.sig.returnType = ret) (hlocks : meth.locks = false) (hy31 : y 99 < 2 ^ 31) (hNw : zNew S a) (hDs : zDs a) (hbase : base = s.heap.size) (hw : zW D y base S s H locs) (hl : lv_has ls 2 [(1, .ref (a 0)), (0, .ref (y 98))]) : W p l e room_1 s m #[Value.ref bs] below meth c H locs 221 6732 (lw_Z below #[Value.ref bs] s) (F0 m 1070 ls []) := by
  have hx := C.1
  have hb := C.2.1
  have hown := C.2.2.2.1
  have hts := C.2.2.2.2
  refine lv_aload_n hx hb dL_law_1070 rfl (lv_at hl 0 rfl) ?_
  refine lv_bipush (v := 67) hx hb dL_law_1071 (by decide) ?_
  refine lv_iconst (v := 4) hx hb dL_law_1073 (by decide) ?_
  refine znewI (N := 4) C hw (by decide +kernel) (by decide) (by decide) (Nat.le_of_ble_eq_true rfl) (Nat.le_of_ble_eq_true rfl) (Nat.le_of_ble_eq_true rfl) dL_law_1074 (fun q1074 H kq1074 hw => ?_)
  have hA : zAr S (znR S q1074 22 4 (fun _ => 0)) q1074 4 [] := zAr.new kq1074
  generalize (znR S q1074 22 4 (fun _ => 0)) = Sa1074 at hw hA
  refine lv_dup hx hb dL_law_1076 rfl ?_
  refine lv_iconst (v := 0) hx hb dL_law_1077 (by decide) ?_
  refine lv_iconst (v := 0) hx hb dL_law_1078 (by decide) ?_
  refine zast_I (a := q1074) C hw hA.2.1 hA.2.2.1 (zin_of (N := 4) (by decide) (by grind) (by grind)) dL_law_1079 (fun H locs hw => ?_)
  have hA : zAr S (zsR Sa1074 22 q1074 (upd (zR Sa1074 22 q1074) (0 : Int32).toNatClampNeg 0)) q1074 4 [0] := zAr.st (k := 0) hA kq1074 (by decide) rfl
  generalize (zsR Sa1074 22 q1074 (upd (zR Sa1074 22 q1074) (0 : Int32).toNatClampNeg 0)) = Sa1079 at hw hA
  refine lv_dup hx hb dL_law_1080 rfl ?_
  refine lv_iconst (v := 1) hx hb dL_law_1081 (by decide) ?_
  refine lv_iconst (v := 0) hx hb dL_law_1082 (by decide) ?_
  refine zast_I (a := q1074) C hw hA.2.1 hA.2.2.1 (zin_of (N := 4) (by decide) (by grind) (by grind)) dL_law_1083 (fun H locs hw => ?_)
  have hA : zAr S (zsR Sa1079 22 q1074 (upd (zR Sa1079 22 q1074) (1 : Int32).toNatClampNeg 0)) q1074 4 [0, 0] := zAr.st (k := 1) hA kq1074 (by decide) rfl
  generalize (zsR Sa1079 22 q1074 (upd (zR Sa1079 22 q1074) (1 : Int32).toNatClampNeg 0)) = Sa1083 at hw hA
  refine lv_dup hx hb dL_law_1084 rfl ?_
  refine lv_iconst (v := 2) hx hb dL_law_1085 (by decide) ?_
  refine lv_iconst (v := 1) hx hb dL_law_1086 (by decide) ?_
  refine zast_I (a := q1074) C hw hA.2.1 hA.2.2.1 (zin_of (N := 4) (by decide) (by grind) (by grind)) dL_law_1087 (fun H locs hw => ?_)
  have hA : zAr S (zsR Sa1083 22 q1074 (upd (zR Sa1083 22 q1074) (2 : Int32).toNatClampNeg 1)) q1074 4 [0, 0, 1] := zAr.st (k := 2) hA kq1074 (by decide) rfl
  generalize (zsR Sa1083 22 q1074 (upd (zR Sa1083 22 q1074) (2 : Int32).toNatClampNeg 1)) = Sa1087 at hw hA
  refine lv_dup hx hb dL_law_1088 rfl ?_
  refine lv_iconst (v := 3) hx hb dL_law_1089 (by decide) ?_
  refine lv_sipush (v := 401) hx hb dL_law_1090 (by decide) ?_
  refine zast_I (a := q1074) C hw hA.2.1 hA.2.2.1 (zin_of (N := 4) (by decide) (by grind) (by grind)) dL_law_1093 (fun H locs hw => ?_)
  have hA : zAr S (zsR Sa1087 22 q1074 (upd (zR Sa1087 22 q1074) (3 : Int32).toNatClampNeg 401)) q1074 4 [0, 0, 1, 401] := zAr.st (k := 3) hA kq1074 (by decide) rfl
  generalize (zsR Sa1087 22 q1074 (upd (zR Sa1087 22 q1074) (3 : Int32).toNatClampNeg 401)) = Sa1093 at hw hA
  obtain ⟨hG, hK9, hN9, hA⟩ := hA
  have hj0 : zR Sa1093 22 q1074 0 = 0 := (hA 0 0 rfl).trans rfl
  have hj1 : zR Sa1093 22 q1074 1 = 0 := (hA 1 0 rfl).trans rfl
  have hj2 : zR Sa1093 22 q1074 2 = 1 := (hA 2 1 rfl).trans rfl
  have hj3 : zR Sa1093 22 q1074 3 = 401 := (hA 3 401 rfl).trans rfl
  have hNw := zNew.gw hG hNw
  refine zcSW_i (As := [.ref (a 0), .int 67, .ref q1074]) (rest := []) (n9 := 3) C hw (c_L_ask_C_capture_r l hst D y base Sa1093 a 0 0 1 401 q1074 hNw.1 hNw.2.1 (by decide +kernel) hK9 hN9 hj0 hj1 hj2 hj3) gL_law_L_ask rfl (by decide +kernel) ⟨⟨rfl, rfl⟩, Nat.le_of_ble_eq_true rfl, Nat.le_of_ble_eq_true rfl⟩ rfl hl.1 rfl (Nat.le_of_ble_eq_true rfl) ⟨Nat.le_of_ble_eq_true rfl, Nat.le_of_ble_eq_true rfl⟩ dL_law_1094 (fun r1094 S1094 H locs hp1094 hw => ?_)
  have h9 : r1094 = (-2000000002) ∧ S1094 = Sa1093 := by
    rcases hp1094 with h | h
    · exact absurd h.1 (by decide +kernel)
    · exact h.2
  obtain ⟨rfl, hS9⟩ := h9
  have hS9 := hS9.symm
  subst hS9
  refine lv_ldc (own := RL) (v := (-2000000002)) hx hb hown (hts (.constant RL 71 (-2000000002)) (by decide +kernel)) dL_law_1097 ?_
  refine lv_icmp_ne (tgt := 1945) hx hb dL_law_1099 (by decide) (fun c1099 => absurd c1099 (by decide)) (fun _ => ?_)
  refine lv_aload_n hx hb dL_law_1102 rfl (lv_at hl 0 rfl) ?_
  refine lv_bipush (v := 67) hx hb dL_law_1103 (by decide) ?_
  refine lv_iconst (v := 4) hx hb dL_law_1105 (by decide) ?_
  refine znewI (N := 4) C hw (by decide +kernel) (by decide) (by decide) (Nat.le_of_ble_eq_true rfl) (Nat.le_of_ble_eq_true rfl) (Nat.le_of_ble_eq_true rfl) dL_law_1106 (fun q1106 H kq1106 hw => ?_)
  have hA : zAr Sa1093 (znR Sa1093 q1106 22 4 (fun _ => 0)) q1106 4 [] := zAr.new kq1106
  generalize (znR Sa1093 q1106 22 4 (fun _ => 0)) = Sa1106 at hw hA
  refine lv_dup hx hb dL_law_1108 rfl ?_
  refine lv_iconst (v := 0) hx hb dL_law_1109 (by decide) ?_
  refine lv_iconst (v := 0) hx hb dL_law_1110 (by decide) ?_
  refine zast_I (a := q1106) C hw hA.2.1 hA.2.2.1 (zin_of (N := 4) (by decide) (by grind) (by grind)) dL_law_1111 (fun H locs hw => ?_)
  have hA : zAr Sa1093 (zsR Sa1106 22 q1106 (upd (zR Sa1106 22 q1106) (0 : Int32).toNatClampNeg 0)) q1106 4 [0] := zAr.st (k := 0) hA kq1106 (by decide) rfl
  generalize (zsR Sa1106 22 q1106 (upd (zR Sa1106 22 q1106) (0 : Int32).toNatClampNeg 0)) = Sa1111 at hw hA
  refine lv_dup hx hb dL_law_1112 rfl ?_
  refine lv_iconst (v := 1) hx hb dL_law_1113 (by decide) ?_
  refine lv_sipush (v := 9999) hx hb dL_law_1114 (by decide) ?_
  refine zast_I (a := q1106) C hw hA.2.1 hA.2.2.1 (zin_of (N := 4) (by decide) (by grind) (by grind)) dL_law_1117 (fun H locs hw => ?_)
  have hA : zAr Sa1093 (zsR Sa1111 22 q1106 (upd (zR Sa1111 22 q1106) (1 : Int32).toNatClampNeg 9999)) q1106 4 [0, 9999] := zAr.st (k := 1) hA kq1106 (by decide) rfl
  generalize (zsR Sa1111 22 q1106 (upd (zR Sa1111 22 q1106) (1 : Int32).toNatClampNeg 9999)) = Sa1117 at hw hA
  refine lv_dup hx hb dL_law_1118 rfl ?_
  refine lv_iconst (v := 2) hx hb dL_law_1119 (by decide) ?_
  refine lv_iconst (v := 1) hx hb dL_law_1120 (by decide) ?_
  refine zast_I (a := q1106) C hw hA.2.1 hA.2.2.1 (zin_of (N := 4) (by decide) (by grind) (by grind)) dL_law_1121 (fun H locs hw => ?_)
  have hA : zAr Sa1093 (zsR Sa1117 22 q1106 (upd (zR Sa1117 22 q1106) (2 : Int32).toNatClampNeg 1)) q1106 4 [0, 9999, 1] := zAr.st (k := 2) hA kq1106 (by decide) rfl
  generalize (zsR Sa1117 22 q1106 (upd (zR Sa1117 22 q1106) (2 : Int32).toNatClampNeg 1)) = Sa1121 at hw hA
  refine lv_dup hx hb dL_law_1122 rfl ?_
  refine lv_iconst (v := 3) hx hb dL_law_1123 (by decide) ?_
  refine lv_iconst (v := 2) hx hb dL_law_1124 (by decide) ?_
  refine zast_I (a := q1106) C hw hA.2.1 hA.2.2.1 (zin_of (N := 4) (by decide) (by grind) (by grind)) dL_law_1125 (fun H locs hw => ?_)
  have hA : zAr Sa1093 (zsR Sa1121 22 q1106 (upd (zR Sa1121 22 q1106) (3 : Int32).toNatClampNeg 2)) q1106 4 [0, 9999, 1, 2] := zAr.st (k := 3) hA kq1106 (by decide) rfl
  generalize (zsR Sa1121 22 q1106 (upd (zR Sa1121 22 q1106) (3 : Int32).toNatClampNeg 2)) = Sa1125 at hw hA
  obtain ⟨hG, hK9, hN9, hA⟩ := hA
  have hj0 : zR Sa1125 22 q1106 0 = 0 := (hA 0 0 rfl).trans rfl
  have hj1 : zR Sa1125 22 q1106 1 = 9999 := (hA 1 9999 rfl).trans rfl
  have hj2 : zR Sa1125 22 q1106 2 = 1 := (hA 2 1 rfl).trans rfl
  have hj3 : zR Sa1125 22 q1106 3 = 2 := (hA 3 2 rfl).trans rfl
  have hNw := zNew.gw hG hNw
  refine zcSW_i (As := [.ref (a 0), .int 67, .ref q1106]) (rest := []) (n9 := 3) C hw (c_L_ask_C_capture_r l hst D y base Sa1125 a 0 9999 1 2 q1106 hNw.1 hNw.2.1 (by decide +kernel) hK9 hN9 hj0 hj1 hj2 hj3) gL_law_L_ask rfl (by decide +kernel) ⟨⟨rfl, rfl⟩, Nat.le_of_ble_eq_true rfl, Nat.le_of_ble_eq_true rfl⟩ rfl hl.1 rfl (Nat.le_of_ble_eq_true rfl) ⟨Nat.le_of_ble_eq_true rfl, Nat.le_of_ble_eq_true rfl⟩ dL_law_1126 (fun r1126 S1126 H locs hp1126 hw => ?_)
  have h9 : r1126 = (-2000000002) ∧ S1126 = Sa1125 := by
    rcases hp1126 with h | h
    · exact absurd h.1 (by decide +kernel)
    · exact h.2
  obtain ⟨rfl, hS9⟩ := h9
  have hS9 := hS9.symm
  subst hS9
  refine lv_ldc (own := RL) (v := (-2000000002)) hx hb hown (hts (.constant RL 71 (-2000000002)) (by decide +kernel)) dL_law_1129 ?_
  refine lv_icmp_ne (tgt := 1945) hx hb dL_law_1131 (by decide) (fun c1131 => absurd c1131 (by decide)) (fun _ => ?_)
  exact law_part_19 hst C hr hlocks hy31 hNw hDs hbase hw hl

set_option maxHeartbeats 4000000 in
set_option maxRecDepth 100000 in
theorem law_part_17 {p : Program} {l : Launch} {e : Env} {s : State} {m : MethodId} {below : List Frame} {meth : Method} {c : Code} {H : Heap} {locs : List Loc} {ls : Array Slot} {D : va_G} {y : Nat → ClassId} {base : Nat} {S : zS} {a : Nat → Nat} {bs : Nat} (hst : l.stackTraces = false) (C : CallFix p m c code 2 s #[Value.ref bs] wsL_law RL) (hr : meth.sig.returnType = ret) (hlocks : meth.locks = false) (hy31 : y 99 < 2 ^ 31) (hNw : zNew S a) (hDs : zDs a) (hbase : base = s.heap.size) (hw : zW D y base S s H locs) (hl : lv_has ls 2 [(1, .ref (a 0)), (0, .ref (y 98))]) : W p l e room_1 s m #[Value.ref bs] below meth c H locs 209 6664 (lw_Z below #[Value.ref bs] s) (F0 m 1010 ls []) := by
  have hx := C.1
  have hb := C.2.1
  have hown := C.2.2.2.1
  have hts := C.2.2.2.2
  refine lv_aload_n hx hb dL_law_1010 rfl (lv_at hl 0 rfl) ?_
  refine lv_bipush (v := 67) hx hb dL_law_1011 (by decide) ?_
  refine lv_iconst (v := 4) hx hb dL_law_1013 (by decide) ?_
  refine znewI (N := 4) C hw (by decide +kernel) (by decide) (by decide) (Nat.le_of_ble_eq_true rfl) (Nat.le_of_ble_eq_true rfl) (Nat.le_of_ble_eq_true rfl) dL_law_1014 (fun q1014 H kq1014 hw => ?_)
  have hA : zAr S (znR S q1014 22 4 (fun _ => 0)) q1014 4 [] := zAr.new kq1014
  generalize (znR S q1014 22 4 (fun _ => 0)) = Sa1014 at hw hA
  refine lv_dup hx hb dL_law_1016 rfl ?_
  refine lv_iconst (v := 0) hx hb dL_law_1017 (by decide) ?_
  refine lv_iconst (v := 2) hx hb dL_law_1018 (by decide) ?_
  refine zast_I (a := q1014) C hw hA.2.1 hA.2.2.1 (zin_of (N := 4) (by decide) (by grind) (by grind)) dL_law_1019 (fun H locs hw => ?_)
  have hA : zAr S (zsR Sa1014 22 q1014 (upd (zR Sa1014 22 q1014) (0 : Int32).toNatClampNeg 2)) q1014 4 [2] := zAr.st (k := 0) hA kq1014 (by decide) rfl
  generalize (zsR Sa1014 22 q1014 (upd (zR Sa1014 22 q1014) (0 : Int32).toNatClampNeg 2)) = Sa1019 at hw hA
  refine lv_dup hx hb dL_law_1020 rfl ?_
  refine lv_iconst (v := 1) hx hb dL_law_1021 (by decide) ?_
  refine lv_iconst (v := 0) hx hb dL_law_1022 (by decide) ?_
  refine zast_I (a := q1014) C hw hA.2.1 hA.2.2.1 (zin_of (N := 4) (by decide) (by grind) (by grind)) dL_law_1023 (fun H locs hw => ?_)
  have hA : zAr S (zsR Sa1019 22 q1014 (upd (zR Sa1019 22 q1014) (1 : Int32).toNatClampNeg 0)) q1014 4 [2, 0] := zAr.st (k := 1) hA kq1014 (by decide) rfl
  generalize (zsR Sa1019 22 q1014 (upd (zR Sa1019 22 q1014) (1 : Int32).toNatClampNeg 0)) = Sa1023 at hw hA
  refine lv_dup hx hb dL_law_1024 rfl ?_
  refine lv_iconst (v := 2) hx hb dL_law_1025 (by decide) ?_
  refine lv_iconst (v := 1) hx hb dL_law_1026 (by decide) ?_
  refine zast_I (a := q1014) C hw hA.2.1 hA.2.2.1 (zin_of (N := 4) (by decide) (by grind) (by grind)) dL_law_1027 (fun H locs hw => ?_)
  have hA : zAr S (zsR Sa1023 22 q1014 (upd (zR Sa1023 22 q1014) (2 : Int32).toNatClampNeg 1)) q1014 4 [2, 0, 1] := zAr.st (k := 2) hA kq1014 (by decide) rfl
  generalize (zsR Sa1023 22 q1014 (upd (zR Sa1023 22 q1014) (2 : Int32).toNatClampNeg 1)) = Sa1027 at hw hA
  refine lv_dup hx hb dL_law_1028 rfl ?_
  refine lv_iconst (v := 3) hx hb dL_law_1029 (by decide) ?_
  refine lv_iconst (v := 1) hx hb dL_law_1030 (by decide) ?_
  refine zast_I (a := q1014) C hw hA.2.1 hA.2.2.1 (zin_of (N := 4) (by decide) (by grind) (by grind)) dL_law_1031 (fun H locs hw => ?_)
  have hA : zAr S (zsR Sa1027 22 q1014 (upd (zR Sa1027 22 q1014) (3 : Int32).toNatClampNeg 1)) q1014 4 [2, 0, 1, 1] := zAr.st (k := 3) hA kq1014 (by decide) rfl
  generalize (zsR Sa1027 22 q1014 (upd (zR Sa1027 22 q1014) (3 : Int32).toNatClampNeg 1)) = Sa1031 at hw hA
  obtain ⟨hG, hK9, hN9, hA⟩ := hA
  have hj0 : zR Sa1031 22 q1014 0 = 2 := (hA 0 2 rfl).trans rfl
  have hj1 : zR Sa1031 22 q1014 1 = 0 := (hA 1 0 rfl).trans rfl
  have hj2 : zR Sa1031 22 q1014 2 = 1 := (hA 2 1 rfl).trans rfl
  have hj3 : zR Sa1031 22 q1014 3 = 1 := (hA 3 1 rfl).trans rfl
  have hNw := zNew.gw hG hNw
  refine zcSW_i (As := [.ref (a 0), .int 67, .ref q1014]) (rest := []) (n9 := 3) C hw (c_L_ask_C_capture_r l hst D y base Sa1031 a 2 0 1 1 q1014 hNw.1 hNw.2.1 (by decide +kernel) hK9 hN9 hj0 hj1 hj2 hj3) gL_law_L_ask rfl (by decide +kernel) ⟨⟨rfl, rfl⟩, Nat.le_of_ble_eq_true rfl, Nat.le_of_ble_eq_true rfl⟩ rfl hl.1 rfl (Nat.le_of_ble_eq_true rfl) ⟨Nat.le_of_ble_eq_true rfl, Nat.le_of_ble_eq_true rfl⟩ dL_law_1032 (fun r1032 S1032 H locs hp1032 hw => ?_)
  have h9 : r1032 = (-2000000001) ∧ S1032 = Sa1031 := by
    rcases hp1032 with h | h
    · exact h.2
    · exact absurd h.1 (by decide +kernel)
  obtain ⟨rfl, hS9⟩ := h9
  have hS9 := hS9.symm
  subst hS9
  refine lv_ldc (own := RL) (v := (-2000000001)) hx hb hown (hts (.constant RL 68 (-2000000001)) (by decide +kernel)) dL_law_1035 ?_
  refine lv_icmp_ne (tgt := 1945) hx hb dL_law_1037 (by decide) (fun c1037 => absurd c1037 (by decide)) (fun _ => ?_)
  refine lv_aload_n hx hb dL_law_1040 rfl (lv_at hl 0 rfl) ?_
  refine lv_bipush (v := 67) hx hb dL_law_1041 (by decide) ?_
  refine lv_iconst (v := 4) hx hb dL_law_1043 (by decide) ?_
  refine znewI (N := 4) C hw (by decide +kernel) (by decide) (by decide) (Nat.le_of_ble_eq_true rfl) (Nat.le_of_ble_eq_true rfl) (Nat.le_of_ble_eq_true rfl) dL_law_1044 (fun q1044 H kq1044 hw => ?_)
  have hA : zAr Sa1031 (znR Sa1031 q1044 22 4 (fun _ => 0)) q1044 4 [] := zAr.new kq1044
  generalize (znR Sa1031 q1044 22 4 (fun _ => 0)) = Sa1044 at hw hA
  refine lv_dup hx hb dL_law_1046 rfl ?_
  refine lv_iconst (v := 0) hx hb dL_law_1047 (by decide) ?_
  refine lv_iconst (v := 0) hx hb dL_law_1048 (by decide) ?_
  refine zast_I (a := q1044) C hw hA.2.1 hA.2.2.1 (zin_of (N := 4) (by decide) (by grind) (by grind)) dL_law_1049 (fun H locs hw => ?_)
  have hA : zAr Sa1031 (zsR Sa1044 22 q1044 (upd (zR Sa1044 22 q1044) (0 : Int32).toNatClampNeg 0)) q1044 4 [0] := zAr.st (k := 0) hA kq1044 (by decide) rfl
  generalize (zsR Sa1044 22 q1044 (upd (zR Sa1044 22 q1044) (0 : Int32).toNatClampNeg 0)) = Sa1049 at hw hA
  refine lv_dup hx hb dL_law_1050 rfl ?_
  refine lv_iconst (v := 1) hx hb dL_law_1051 (by decide) ?_
  refine lv_iconst (v := 0) hx hb dL_law_1052 (by decide) ?_
  refine zast_I (a := q1044) C hw hA.2.1 hA.2.2.1 (zin_of (N := 4) (by decide) (by grind) (by grind)) dL_law_1053 (fun H locs hw => ?_)
  have hA : zAr Sa1031 (zsR Sa1049 22 q1044 (upd (zR Sa1049 22 q1044) (1 : Int32).toNatClampNeg 0)) q1044 4 [0, 0] := zAr.st (k := 1) hA kq1044 (by decide) rfl
  generalize (zsR Sa1049 22 q1044 (upd (zR Sa1049 22 q1044) (1 : Int32).toNatClampNeg 0)) = Sa1053 at hw hA
  refine lv_dup hx hb dL_law_1054 rfl ?_
  refine lv_iconst (v := 2) hx hb dL_law_1055 (by decide) ?_
  refine lv_iconst (v := 0) hx hb dL_law_1056 (by decide) ?_
  refine zast_I (a := q1044) C hw hA.2.1 hA.2.2.1 (zin_of (N := 4) (by decide) (by grind) (by grind)) dL_law_1057 (fun H locs hw => ?_)
  have hA : zAr Sa1031 (zsR Sa1053 22 q1044 (upd (zR Sa1053 22 q1044) (2 : Int32).toNatClampNeg 0)) q1044 4 [0, 0, 0] := zAr.st (k := 2) hA kq1044 (by decide) rfl
  generalize (zsR Sa1053 22 q1044 (upd (zR Sa1053 22 q1044) (2 : Int32).toNatClampNeg 0)) = Sa1057 at hw hA
  refine lv_dup hx hb dL_law_1058 rfl ?_
  refine lv_iconst (v := 3) hx hb dL_law_1059 (by decide) ?_
  refine lv_iconst (v := 1) hx hb dL_law_1060 (by decide) ?_
  refine zast_I (a := q1044) C hw hA.2.1 hA.2.2.1 (zin_of (N := 4) (by decide) (by grind) (by grind)) dL_law_1061 (fun H locs hw => ?_)
  have hA : zAr Sa1031 (zsR Sa1057 22 q1044 (upd (zR Sa1057 22 q1044) (3 : Int32).toNatClampNeg 1)) q1044 4 [0, 0, 0, 1] := zAr.st (k := 3) hA kq1044 (by decide) rfl
  generalize (zsR Sa1057 22 q1044 (upd (zR Sa1057 22 q1044) (3 : Int32).toNatClampNeg 1)) = Sa1061 at hw hA
  obtain ⟨hG, hK9, hN9, hA⟩ := hA
  have hj0 : zR Sa1061 22 q1044 0 = 0 := (hA 0 0 rfl).trans rfl
  have hj1 : zR Sa1061 22 q1044 1 = 0 := (hA 1 0 rfl).trans rfl
  have hj2 : zR Sa1061 22 q1044 2 = 0 := (hA 2 0 rfl).trans rfl
  have hj3 : zR Sa1061 22 q1044 3 = 1 := (hA 3 1 rfl).trans rfl
  have hNw := zNew.gw hG hNw
  refine zcSW_i (As := [.ref (a 0), .int 67, .ref q1044]) (rest := []) (n9 := 3) C hw (c_L_ask_C_capture_r l hst D y base Sa1061 a 0 0 0 1 q1044 hNw.1 hNw.2.1 (by decide +kernel) hK9 hN9 hj0 hj1 hj2 hj3) gL_law_L_ask rfl (by decide +kernel) ⟨⟨rfl, rfl⟩, Nat.le_of_ble_eq_true rfl, Nat.le_of_ble_eq_true rfl⟩ rfl hl.1 rfl (Nat.le_of_ble_eq_true rfl) ⟨Nat.le_of_ble_eq_true rfl, Nat.le_of_ble_eq_true rfl⟩ dL_law_1062 (fun r1062 S1062 H locs hp1062 hw => ?_)
  have h9 : r1062 = (-2000000002) ∧ S1062 = Sa1061 := by
    rcases hp1062 with h | h
    · exact absurd h.1 (by decide +kernel)
    · exact h.2
  obtain ⟨rfl, hS9⟩ := h9
  have hS9 := hS9.symm
  subst hS9
  refine lv_ldc (own := RL) (v := (-2000000002)) hx hb hown (hts (.constant RL 71 (-2000000002)) (by decide +kernel)) dL_law_1065 ?_
  refine lv_icmp_ne (tgt := 1945) hx hb dL_law_1067 (by decide) (fun c1067 => absurd c1067 (by decide)) (fun _ => ?_)
  exact law_part_18 hst C hr hlocks hy31 hNw hDs hbase hw hl
