set_option maxHeartbeats 4000000 in
set_option maxRecDepth 100000 in
theorem law_part_16 {p : Program} {l : Launch} {e : Env} {s : State} {m : MethodId} {below : List Frame} {meth : Method} {c : Code} {H : Heap} {locs : List Loc} {ls : Array Slot} {D : va_G} {y : Nat → ClassId} {base : Nat} {S : zS} {a : Nat → Nat} {bs : Nat} (hst : l.stackTraces = false) (C : CallFix p m c code 2 s #[Value.ref bs] wsL_law RL) (hr : meth.sig.returnType = ret) (hlocks : meth.locks = false) (hy31 : y 99 < 2 ^ 31) (hNw : zNew S a) (hDs : zDs a) (hbase : base = s.heap.size) (hw : zW D y base S s H locs) (hl : lv_has ls 2 [(1, .ref (a 0)), (0, .ref (y 98))]) : W p l e room_1 s m #[Value.ref bs] below meth c H locs 197 6591 (lw_Z below #[Value.ref bs] s) (F0 m 964 ls []) := by
  have hx := C.1
  have hb := C.2.1
  have hown := C.2.2.2.1
  have hts := C.2.2.2.2
  refine lv_aload_n hx hb dL_law_964 rfl (lv_at hl 0 rfl) ?_
  refine lv_bipush (v := 102) hx hb dL_law_965 (by decide) ?_
  refine lv_bipush (v := 7) hx hb dL_law_967 (by decide) ?_
  refine znewI (N := 7) C hw (by decide +kernel) (by decide) (by decide) (Nat.le_of_ble_eq_true rfl) (Nat.le_of_ble_eq_true rfl) (Nat.le_of_ble_eq_true rfl) dL_law_969 (fun q969 H kq969 hw => ?_)
  have hA : zAr S (znR S q969 22 7 (fun _ => 0)) q969 7 [] := zAr.new kq969
  generalize (znR S q969 22 7 (fun _ => 0)) = Sa969 at hw hA
  refine lv_dup hx hb dL_law_971 rfl ?_
  refine lv_iconst (v := 0) hx hb dL_law_972 (by decide) ?_
  refine lv_iconst (v := 0) hx hb dL_law_973 (by decide) ?_
  refine zast_I (a := q969) C hw hA.2.1 hA.2.2.1 (zin_of (N := 7) (by decide) (by grind) (by grind)) dL_law_974 (fun H locs hw => ?_)
  have hA : zAr S (zsR Sa969 22 q969 (upd (zR Sa969 22 q969) (0 : Int32).toNatClampNeg 0)) q969 7 [0] := zAr.st (k := 0) hA kq969 (by decide) rfl
  generalize (zsR Sa969 22 q969 (upd (zR Sa969 22 q969) (0 : Int32).toNatClampNeg 0)) = Sa974 at hw hA
  refine lv_dup hx hb dL_law_975 rfl ?_
  refine lv_iconst (v := 1) hx hb dL_law_976 (by decide) ?_
  refine lv_iconst (v := 1) hx hb dL_law_977 (by decide) ?_
  refine zast_I (a := q969) C hw hA.2.1 hA.2.2.1 (zin_of (N := 7) (by decide) (by grind) (by grind)) dL_law_978 (fun H locs hw => ?_)
  have hA : zAr S (zsR Sa974 22 q969 (upd (zR Sa974 22 q969) (1 : Int32).toNatClampNeg 1)) q969 7 [0, 1] := zAr.st (k := 1) hA kq969 (by decide) rfl
  generalize (zsR Sa974 22 q969 (upd (zR Sa974 22 q969) (1 : Int32).toNatClampNeg 1)) = Sa978 at hw hA
  refine lv_dup hx hb dL_law_979 rfl ?_
  refine lv_iconst (v := 2) hx hb dL_law_980 (by decide) ?_
  refine lv_iconst (v := 2) hx hb dL_law_981 (by decide) ?_
  refine zast_I (a := q969) C hw hA.2.1 hA.2.2.1 (zin_of (N := 7) (by decide) (by grind) (by grind)) dL_law_982 (fun H locs hw => ?_)
  have hA : zAr S (zsR Sa978 22 q969 (upd (zR Sa978 22 q969) (2 : Int32).toNatClampNeg 2)) q969 7 [0, 1, 2] := zAr.st (k := 2) hA kq969 (by decide) rfl
  generalize (zsR Sa978 22 q969 (upd (zR Sa978 22 q969) (2 : Int32).toNatClampNeg 2)) = Sa982 at hw hA
  refine lv_dup hx hb dL_law_983 rfl ?_
  refine lv_iconst (v := 3) hx hb dL_law_984 (by decide) ?_
  refine lv_iconst (v := 0) hx hb dL_law_985 (by decide) ?_
  refine zast_I (a := q969) C hw hA.2.1 hA.2.2.1 (zin_of (N := 7) (by decide) (by grind) (by grind)) dL_law_986 (fun H locs hw => ?_)
  have hA : zAr S (zsR Sa982 22 q969 (upd (zR Sa982 22 q969) (3 : Int32).toNatClampNeg 0)) q969 7 [0, 1, 2, 0] := zAr.st (k := 3) hA kq969 (by decide) rfl
  generalize (zsR Sa982 22 q969 (upd (zR Sa982 22 q969) (3 : Int32).toNatClampNeg 0)) = Sa986 at hw hA
  refine lv_dup hx hb dL_law_987 rfl ?_
  refine lv_iconst (v := 4) hx hb dL_law_988 (by decide) ?_
  refine lv_sipush (v := 9990) hx hb dL_law_989 (by decide) ?_
  refine zast_I (a := q969) C hw hA.2.1 hA.2.2.1 (zin_of (N := 7) (by decide) (by grind) (by grind)) dL_law_992 (fun H locs hw => ?_)
  have hA : zAr S (zsR Sa986 22 q969 (upd (zR Sa986 22 q969) (4 : Int32).toNatClampNeg 9990)) q969 7 [0, 1, 2, 0, 9990] := zAr.st (k := 4) hA kq969 (by decide) rfl
  generalize (zsR Sa986 22 q969 (upd (zR Sa986 22 q969) (4 : Int32).toNatClampNeg 9990)) = Sa992 at hw hA
  refine lv_dup hx hb dL_law_993 rfl ?_
  refine lv_iconst (v := 5) hx hb dL_law_994 (by decide) ?_
  refine lv_iconst (v := 1) hx hb dL_law_995 (by decide) ?_
  refine zast_I (a := q969) C hw hA.2.1 hA.2.2.1 (zin_of (N := 7) (by decide) (by grind) (by grind)) dL_law_996 (fun H locs hw => ?_)
  have hA : zAr S (zsR Sa992 22 q969 (upd (zR Sa992 22 q969) (5 : Int32).toNatClampNeg 1)) q969 7 [0, 1, 2, 0, 9990, 1] := zAr.st (k := 5) hA kq969 (by decide) rfl
  generalize (zsR Sa992 22 q969 (upd (zR Sa992 22 q969) (5 : Int32).toNatClampNeg 1)) = Sa996 at hw hA
  refine lv_dup hx hb dL_law_997 rfl ?_
  refine lv_bipush (v := 6) hx hb dL_law_998 (by decide) ?_
  refine lv_iconst (v := 0) hx hb dL_law_1000 (by decide) ?_
  refine zast_I (a := q969) C hw hA.2.1 hA.2.2.1 (zin_of (N := 7) (by decide) (by grind) (by grind)) dL_law_1001 (fun H locs hw => ?_)
  have hA : zAr S (zsR Sa996 22 q969 (upd (zR Sa996 22 q969) (6 : Int32).toNatClampNeg 0)) q969 7 [0, 1, 2, 0, 9990, 1, 0] := zAr.st (k := 6) hA kq969 (by decide) rfl
  generalize (zsR Sa996 22 q969 (upd (zR Sa996 22 q969) (6 : Int32).toNatClampNeg 0)) = Sa1001 at hw hA
  obtain ⟨hG, hK9, hN9, hA⟩ := hA
  have hj0 : zR Sa1001 22 q969 0 = (nI 0) := (hA 0 0 rfl).trans rfl
  have hj1 : zR Sa1001 22 q969 1 = (nI 1) := (hA 1 1 rfl).trans rfl
  have hj2 : zR Sa1001 22 q969 2 = (nI 2) := (hA 2 2 rfl).trans rfl
  have hj3 : zR Sa1001 22 q969 3 = (nI 0) := (hA 3 0 rfl).trans rfl
  have hj4 : zR Sa1001 22 q969 4 = (nI 9990) := (hA 4 9990 rfl).trans rfl
  have hj5 : zR Sa1001 22 q969 5 = (nI 1) := (hA 5 1 rfl).trans rfl
  have hj6 : zR Sa1001 22 q969 6 = (nI 0) := (hA 6 0 rfl).trans rfl
  have hNw := zNew.gw hG hNw
  refine zcSW_i (As := [.ref (a 0), .int 102, .ref q969]) (rest := []) (n9 := 3) C hw (c_L_ask_f_fourWires_n l hst D y base Sa1001 a 0 1 2 0 9990 1 0 _ _ _ _ _ _ _ q969 hNw.1 hDs (by decide +kernel) (by decide +kernel) (by decide +kernel) (by decide +kernel) (by decide +kernel) (by decide +kernel) (by decide +kernel) (by decide +kernel) (zOb.new hNw) (⟨10000, by decide, by decide +kernel⟩) hK9 hN9 hj0 hj1 hj2 hj3 hj4 hj5 hj6) gL_law_L_ask rfl (by decide +kernel) ⟨⟨rfl, rfl⟩, Nat.le_of_ble_eq_true rfl, Nat.le_of_ble_eq_true rfl⟩ rfl hl.1 rfl (Nat.le_of_ble_eq_true rfl) ⟨Nat.le_of_ble_eq_true rfl, Nat.le_of_ble_eq_true rfl⟩ dL_law_1002 (fun r1002 S1002 H locs hp1002 hw => ?_)
  obtain ⟨rfl, hLt⟩ := hp1002
  have hNw := zNew.late hDs hNw hLt
  refine lv_ldc (own := RL) (v := (-2000000003)) hx hb hown (hts (.constant RL 74 (-2000000003)) (by decide +kernel)) dL_law_1005 ?_
  refine lv_icmp_ne (tgt := 1945) hx hb dL_law_1007 (by decide) (fun c1007 => absurd c1007 (by decide)) (fun _ => ?_)
  exact law_part_17 hst C hr hlocks hy31 hNw hDs hbase hw hl

set_option maxHeartbeats 4000000 in
set_option maxRecDepth 100000 in
theorem law_part_15 {p : Program} {l : Launch} {e : Env} {s : State} {m : MethodId} {below : List Frame} {meth : Method} {c : Code} {H : Heap} {locs : List Loc} {ls : Array Slot} {D : va_G} {y : Nat → ClassId} {base : Nat} {S : zS} {a : Nat → Nat} {bs : Nat} (hst : l.stackTraces = false) (C : CallFix p m c code 2 s #[Value.ref bs] wsL_law RL) (hr : meth.sig.returnType = ret) (hlocks : meth.locks = false) (hy31 : y 99 < 2 ^ 31) (hNw : zNew S a) (hDs : zDs a) (hbase : base = s.heap.size) (hw : zW D y base S s H locs) (hl : lv_has ls 2 [(1, .ref (a 0)), (0, .ref (y 98))]) : W p l e room_1 s m #[Value.ref bs] below meth c H locs 186 6524 (lw_Z below #[Value.ref bs] s) (F0 m 920 ls []) := by
  have hx := C.1
  have hb := C.2.1
  have hown := C.2.2.2.1
  have hts := C.2.2.2.2
  refine lv_aload_n hx hb dL_law_920 rfl (lv_at hl 0 rfl) ?_
  refine lv_bipush (v := 102) hx hb dL_law_921 (by decide) ?_
  refine lv_bipush (v := 7) hx hb dL_law_923 (by decide) ?_
  refine znewI (N := 7) C hw (by decide +kernel) (by decide) (by decide) (Nat.le_of_ble_eq_true rfl) (Nat.le_of_ble_eq_true rfl) (Nat.le_of_ble_eq_true rfl) dL_law_925 (fun q925 H kq925 hw => ?_)
  have hA : zAr S (znR S q925 22 7 (fun _ => 0)) q925 7 [] := zAr.new kq925
  generalize (znR S q925 22 7 (fun _ => 0)) = Sa925 at hw hA
  refine lv_dup hx hb dL_law_927 rfl ?_
  refine lv_iconst (v := 0) hx hb dL_law_928 (by decide) ?_
  refine lv_iconst (v := 0) hx hb dL_law_929 (by decide) ?_
  refine zast_I (a := q925) C hw hA.2.1 hA.2.2.1 (zin_of (N := 7) (by decide) (by grind) (by grind)) dL_law_930 (fun H locs hw => ?_)
  have hA : zAr S (zsR Sa925 22 q925 (upd (zR Sa925 22 q925) (0 : Int32).toNatClampNeg 0)) q925 7 [0] := zAr.st (k := 0) hA kq925 (by decide) rfl
  generalize (zsR Sa925 22 q925 (upd (zR Sa925 22 q925) (0 : Int32).toNatClampNeg 0)) = Sa930 at hw hA
  refine lv_dup hx hb dL_law_931 rfl ?_
  refine lv_iconst (v := 1) hx hb dL_law_932 (by decide) ?_
  refine lv_iconst (v := 1) hx hb dL_law_933 (by decide) ?_
  refine zast_I (a := q925) C hw hA.2.1 hA.2.2.1 (zin_of (N := 7) (by decide) (by grind) (by grind)) dL_law_934 (fun H locs hw => ?_)
  have hA : zAr S (zsR Sa930 22 q925 (upd (zR Sa930 22 q925) (1 : Int32).toNatClampNeg 1)) q925 7 [0, 1] := zAr.st (k := 1) hA kq925 (by decide) rfl
  generalize (zsR Sa930 22 q925 (upd (zR Sa930 22 q925) (1 : Int32).toNatClampNeg 1)) = Sa934 at hw hA
  refine lv_dup hx hb dL_law_935 rfl ?_
  refine lv_iconst (v := 2) hx hb dL_law_936 (by decide) ?_
  refine lv_iconst (v := 2) hx hb dL_law_937 (by decide) ?_
  refine zast_I (a := q925) C hw hA.2.1 hA.2.2.1 (zin_of (N := 7) (by decide) (by grind) (by grind)) dL_law_938 (fun H locs hw => ?_)
  have hA : zAr S (zsR Sa934 22 q925 (upd (zR Sa934 22 q925) (2 : Int32).toNatClampNeg 2)) q925 7 [0, 1, 2] := zAr.st (k := 2) hA kq925 (by decide) rfl
  generalize (zsR Sa934 22 q925 (upd (zR Sa934 22 q925) (2 : Int32).toNatClampNeg 2)) = Sa938 at hw hA
  refine lv_dup hx hb dL_law_939 rfl ?_
  refine lv_iconst (v := 3) hx hb dL_law_940 (by decide) ?_
  refine lv_iconst (v := 0) hx hb dL_law_941 (by decide) ?_
  refine zast_I (a := q925) C hw hA.2.1 hA.2.2.1 (zin_of (N := 7) (by decide) (by grind) (by grind)) dL_law_942 (fun H locs hw => ?_)
  have hA : zAr S (zsR Sa938 22 q925 (upd (zR Sa938 22 q925) (3 : Int32).toNatClampNeg 0)) q925 7 [0, 1, 2, 0] := zAr.st (k := 3) hA kq925 (by decide) rfl
  generalize (zsR Sa938 22 q925 (upd (zR Sa938 22 q925) (3 : Int32).toNatClampNeg 0)) = Sa942 at hw hA
  refine lv_dup hx hb dL_law_943 rfl ?_
  refine lv_iconst (v := 4) hx hb dL_law_944 (by decide) ?_
  refine lv_iconst (v := 0) hx hb dL_law_945 (by decide) ?_
  refine zast_I (a := q925) C hw hA.2.1 hA.2.2.1 (zin_of (N := 7) (by decide) (by grind) (by grind)) dL_law_946 (fun H locs hw => ?_)
  have hA : zAr S (zsR Sa942 22 q925 (upd (zR Sa942 22 q925) (4 : Int32).toNatClampNeg 0)) q925 7 [0, 1, 2, 0, 0] := zAr.st (k := 4) hA kq925 (by decide) rfl
  generalize (zsR Sa942 22 q925 (upd (zR Sa942 22 q925) (4 : Int32).toNatClampNeg 0)) = Sa946 at hw hA
  refine lv_dup hx hb dL_law_947 rfl ?_
  refine lv_iconst (v := 5) hx hb dL_law_948 (by decide) ?_
  refine lv_iconst (v := 1) hx hb dL_law_949 (by decide) ?_
  refine zast_I (a := q925) C hw hA.2.1 hA.2.2.1 (zin_of (N := 7) (by decide) (by grind) (by grind)) dL_law_950 (fun H locs hw => ?_)
  have hA : zAr S (zsR Sa946 22 q925 (upd (zR Sa946 22 q925) (5 : Int32).toNatClampNeg 1)) q925 7 [0, 1, 2, 0, 0, 1] := zAr.st (k := 5) hA kq925 (by decide) rfl
  generalize (zsR Sa946 22 q925 (upd (zR Sa946 22 q925) (5 : Int32).toNatClampNeg 1)) = Sa950 at hw hA
  refine lv_dup hx hb dL_law_951 rfl ?_
  refine lv_bipush (v := 6) hx hb dL_law_952 (by decide) ?_
  refine lv_iconst (v := 4) hx hb dL_law_954 (by decide) ?_
  refine zast_I (a := q925) C hw hA.2.1 hA.2.2.1 (zin_of (N := 7) (by decide) (by grind) (by grind)) dL_law_955 (fun H locs hw => ?_)
  have hA : zAr S (zsR Sa950 22 q925 (upd (zR Sa950 22 q925) (6 : Int32).toNatClampNeg 4)) q925 7 [0, 1, 2, 0, 0, 1, 4] := zAr.st (k := 6) hA kq925 (by decide) rfl
  generalize (zsR Sa950 22 q925 (upd (zR Sa950 22 q925) (6 : Int32).toNatClampNeg 4)) = Sa955 at hw hA
  obtain ⟨hG, hK9, hN9, hA⟩ := hA
  have hj0 : zR Sa955 22 q925 0 = 0 := (hA 0 0 rfl).trans rfl
  have hj1 : zR Sa955 22 q925 1 = 1 := (hA 1 1 rfl).trans rfl
  have hj2 : zR Sa955 22 q925 2 = 2 := (hA 2 2 rfl).trans rfl
  have hj3 : zR Sa955 22 q925 3 = 0 := (hA 3 0 rfl).trans rfl
  have hj4 : zR Sa955 22 q925 4 = 0 := (hA 4 0 rfl).trans rfl
  have hj5 : zR Sa955 22 q925 5 = 1 := (hA 5 1 rfl).trans rfl
  have hj6 : zR Sa955 22 q925 6 = 4 := (hA 6 4 rfl).trans rfl
  have hNw := zNew.gw hG hNw
  refine zcSW_i (As := [.ref (a 0), .int 102, .ref q925]) (rest := []) (n9 := 3) C hw (c_L_ask_f_fourWires_r l hst D y base Sa955 a 0 1 2 0 0 1 4 q925 hNw.1 hNw.2.1 (by decide +kernel) hK9 hN9 hj0 hj1 hj2 hj3 hj4 hj5 hj6) gL_law_L_ask rfl (by decide +kernel) ⟨⟨rfl, rfl⟩, Nat.le_of_ble_eq_true rfl, Nat.le_of_ble_eq_true rfl⟩ rfl hl.1 rfl (Nat.le_of_ble_eq_true rfl) ⟨Nat.le_of_ble_eq_true rfl, Nat.le_of_ble_eq_true rfl⟩ dL_law_956 (fun r956 S956 H locs hp956 hw => ?_)
  have h9 : r956 = (-2000000002) ∧ S956 = Sa955 := by
    rcases hp956 with h | h
    · exact absurd h.1 (by decide +kernel)
    · exact h.2
  obtain ⟨rfl, hS9⟩ := h9
  have hS9 := hS9.symm
  subst hS9
  refine lv_ldc (own := RL) (v := (-2000000002)) hx hb hown (hts (.constant RL 71 (-2000000002)) (by decide +kernel)) dL_law_959 ?_
  refine lv_icmp_ne (tgt := 1945) hx hb dL_law_961 (by decide) (fun c961 => absurd c961 (by decide)) (fun _ => ?_)
  exact law_part_16 hst C hr hlocks hy31 hNw hDs hbase hw hl

set_option maxHeartbeats 4000000 in
set_option maxRecDepth 100000 in
theorem law_part_14 {p : Program} {l : Launch} {e : Env} {s : State} {m : MethodId} {below : List Frame} {meth : Method} {c : Code} {H : Heap} {locs : List Loc} {ls : Array Slot} {D : va_G} {y : Nat → ClassId} {base : Nat} {S : zS} {a : Nat → Nat} {bs : Nat} (hst : l.stackTraces = false) (C : CallFix p m c code 2 s #[Value.ref bs] wsL_law RL) (hr : meth.sig.returnType = ret) (hlocks : meth.locks = false) (hy31 : y 99 < 2 ^ 31) (hNw : zNew S a) (hDs : zDs a) (hbase : base = s.heap.size) (hw : zW D y base S s H locs) (hl : lv_has ls 2 [(1, .ref (a 0)), (0, .ref (y 98))]) : W p l e room_1 s m #[Value.ref bs] below meth c H locs 175 6457 (lw_Z below #[Value.ref bs] s) (F0 m 876 ls []) := by
  have hx := C.1
  have hb := C.2.1
  have hown := C.2.2.2.1
  have hts := C.2.2.2.2
  refine lv_aload_n hx hb dL_law_876 rfl (lv_at hl 0 rfl) ?_
  refine lv_bipush (v := 102) hx hb dL_law_877 (by decide) ?_
  refine lv_bipush (v := 7) hx hb dL_law_879 (by decide) ?_
  refine znewI (N := 7) C hw (by decide +kernel) (by decide) (by decide) (Nat.le_of_ble_eq_true rfl) (Nat.le_of_ble_eq_true rfl) (Nat.le_of_ble_eq_true rfl) dL_law_881 (fun q881 H kq881 hw => ?_)
  have hA : zAr S (znR S q881 22 7 (fun _ => 0)) q881 7 [] := zAr.new kq881
  generalize (znR S q881 22 7 (fun _ => 0)) = Sa881 at hw hA
  refine lv_dup hx hb dL_law_883 rfl ?_
  refine lv_iconst (v := 0) hx hb dL_law_884 (by decide) ?_
  refine lv_iconst (v := 0) hx hb dL_law_885 (by decide) ?_
  refine zast_I (a := q881) C hw hA.2.1 hA.2.2.1 (zin_of (N := 7) (by decide) (by grind) (by grind)) dL_law_886 (fun H locs hw => ?_)
  have hA : zAr S (zsR Sa881 22 q881 (upd (zR Sa881 22 q881) (0 : Int32).toNatClampNeg 0)) q881 7 [0] := zAr.st (k := 0) hA kq881 (by decide) rfl
  generalize (zsR Sa881 22 q881 (upd (zR Sa881 22 q881) (0 : Int32).toNatClampNeg 0)) = Sa886 at hw hA
  refine lv_dup hx hb dL_law_887 rfl ?_
  refine lv_iconst (v := 1) hx hb dL_law_888 (by decide) ?_
  refine lv_iconst (v := 1) hx hb dL_law_889 (by decide) ?_
  refine zast_I (a := q881) C hw hA.2.1 hA.2.2.1 (zin_of (N := 7) (by decide) (by grind) (by grind)) dL_law_890 (fun H locs hw => ?_)
  have hA : zAr S (zsR Sa886 22 q881 (upd (zR Sa886 22 q881) (1 : Int32).toNatClampNeg 1)) q881 7 [0, 1] := zAr.st (k := 1) hA kq881 (by decide) rfl
  generalize (zsR Sa886 22 q881 (upd (zR Sa886 22 q881) (1 : Int32).toNatClampNeg 1)) = Sa890 at hw hA
  refine lv_dup hx hb dL_law_891 rfl ?_
  refine lv_iconst (v := 2) hx hb dL_law_892 (by decide) ?_
  refine lv_iconst (v := 1) hx hb dL_law_893 (by decide) ?_
  refine zast_I (a := q881) C hw hA.2.1 hA.2.2.1 (zin_of (N := 7) (by decide) (by grind) (by grind)) dL_law_894 (fun H locs hw => ?_)
  have hA : zAr S (zsR Sa890 22 q881 (upd (zR Sa890 22 q881) (2 : Int32).toNatClampNeg 1)) q881 7 [0, 1, 1] := zAr.st (k := 2) hA kq881 (by decide) rfl
  generalize (zsR Sa890 22 q881 (upd (zR Sa890 22 q881) (2 : Int32).toNatClampNeg 1)) = Sa894 at hw hA
  refine lv_dup hx hb dL_law_895 rfl ?_
  refine lv_iconst (v := 3) hx hb dL_law_896 (by decide) ?_
  refine lv_iconst (v := 0) hx hb dL_law_897 (by decide) ?_
  refine zast_I (a := q881) C hw hA.2.1 hA.2.2.1 (zin_of (N := 7) (by decide) (by grind) (by grind)) dL_law_898 (fun H locs hw => ?_)
  have hA : zAr S (zsR Sa894 22 q881 (upd (zR Sa894 22 q881) (3 : Int32).toNatClampNeg 0)) q881 7 [0, 1, 1, 0] := zAr.st (k := 3) hA kq881 (by decide) rfl
  generalize (zsR Sa894 22 q881 (upd (zR Sa894 22 q881) (3 : Int32).toNatClampNeg 0)) = Sa898 at hw hA
  refine lv_dup hx hb dL_law_899 rfl ?_
  refine lv_iconst (v := 4) hx hb dL_law_900 (by decide) ?_
  refine lv_iconst (v := 0) hx hb dL_law_901 (by decide) ?_
  refine zast_I (a := q881) C hw hA.2.1 hA.2.2.1 (zin_of (N := 7) (by decide) (by grind) (by grind)) dL_law_902 (fun H locs hw => ?_)
  have hA : zAr S (zsR Sa898 22 q881 (upd (zR Sa898 22 q881) (4 : Int32).toNatClampNeg 0)) q881 7 [0, 1, 1, 0, 0] := zAr.st (k := 4) hA kq881 (by decide) rfl
  generalize (zsR Sa898 22 q881 (upd (zR Sa898 22 q881) (4 : Int32).toNatClampNeg 0)) = Sa902 at hw hA
  refine lv_dup hx hb dL_law_903 rfl ?_
  refine lv_iconst (v := 5) hx hb dL_law_904 (by decide) ?_
  refine lv_iconst (v := 1) hx hb dL_law_905 (by decide) ?_
  refine zast_I (a := q881) C hw hA.2.1 hA.2.2.1 (zin_of (N := 7) (by decide) (by grind) (by grind)) dL_law_906 (fun H locs hw => ?_)
  have hA : zAr S (zsR Sa902 22 q881 (upd (zR Sa902 22 q881) (5 : Int32).toNatClampNeg 1)) q881 7 [0, 1, 1, 0, 0, 1] := zAr.st (k := 5) hA kq881 (by decide) rfl
  generalize (zsR Sa902 22 q881 (upd (zR Sa902 22 q881) (5 : Int32).toNatClampNeg 1)) = Sa906 at hw hA
  refine lv_dup hx hb dL_law_907 rfl ?_
  refine lv_bipush (v := 6) hx hb dL_law_908 (by decide) ?_
  refine lv_iconst (v := 0) hx hb dL_law_910 (by decide) ?_
  refine zast_I (a := q881) C hw hA.2.1 hA.2.2.1 (zin_of (N := 7) (by decide) (by grind) (by grind)) dL_law_911 (fun H locs hw => ?_)
  have hA : zAr S (zsR Sa906 22 q881 (upd (zR Sa906 22 q881) (6 : Int32).toNatClampNeg 0)) q881 7 [0, 1, 1, 0, 0, 1, 0] := zAr.st (k := 6) hA kq881 (by decide) rfl
  generalize (zsR Sa906 22 q881 (upd (zR Sa906 22 q881) (6 : Int32).toNatClampNeg 0)) = Sa911 at hw hA
  obtain ⟨hG, hK9, hN9, hA⟩ := hA
  have hj0 : zR Sa911 22 q881 0 = 0 := (hA 0 0 rfl).trans rfl
  have hj1 : zR Sa911 22 q881 1 = 1 := (hA 1 1 rfl).trans rfl
  have hj2 : zR Sa911 22 q881 2 = 1 := (hA 2 1 rfl).trans rfl
  have hj3 : zR Sa911 22 q881 3 = 0 := (hA 3 0 rfl).trans rfl
  have hj4 : zR Sa911 22 q881 4 = 0 := (hA 4 0 rfl).trans rfl
  have hj5 : zR Sa911 22 q881 5 = 1 := (hA 5 1 rfl).trans rfl
  have hj6 : zR Sa911 22 q881 6 = 0 := (hA 6 0 rfl).trans rfl
  have hNw := zNew.gw hG hNw
  refine zcSW_i (As := [.ref (a 0), .int 102, .ref q881]) (rest := []) (n9 := 3) C hw (c_L_ask_f_fourWires_r l hst D y base Sa911 a 0 1 1 0 0 1 0 q881 hNw.1 hNw.2.1 (by decide +kernel) hK9 hN9 hj0 hj1 hj2 hj3 hj4 hj5 hj6) gL_law_L_ask rfl (by decide +kernel) ⟨⟨rfl, rfl⟩, Nat.le_of_ble_eq_true rfl, Nat.le_of_ble_eq_true rfl⟩ rfl hl.1 rfl (Nat.le_of_ble_eq_true rfl) ⟨Nat.le_of_ble_eq_true rfl, Nat.le_of_ble_eq_true rfl⟩ dL_law_912 (fun r912 S912 H locs hp912 hw => ?_)
  have h9 : r912 = (-2000000002) ∧ S912 = Sa911 := by
    rcases hp912 with h | h
    · exact absurd h.1 (by decide +kernel)
    · exact h.2
  obtain ⟨rfl, hS9⟩ := h9
  have hS9 := hS9.symm
  subst hS9
  refine lv_ldc (own := RL) (v := (-2000000002)) hx hb hown (hts (.constant RL 71 (-2000000002)) (by decide +kernel)) dL_law_915 ?_
  refine lv_icmp_ne (tgt := 1945) hx hb dL_law_917 (by decide) (fun c917 => absurd c917 (by decide)) (fun _ => ?_)
  exact law_part_15 hst C hr hlocks hy31 hNw hDs hbase hw hl

set_option maxHeartbeats 4000000 in
set_option maxRecDepth 100000 in
theorem law_part_13 {p : Program} {l : Launch} {e : Env} {s : State} {m : MethodId} {below : List Frame} {meth : Method} {c : Code} {H : Heap} {locs : List Loc} {ls : Array Slot} {D : va_G} {y : Nat → ClassId} {base : Nat} {S : zS} {a : Nat → Nat} {bs : Nat} (hst : l.stackTraces = false) (C : CallFix p m c code 2 s #[Value.ref bs] wsL_law RL) (hr : meth.sig.returnType = ret) (hlocks : meth.locks = false) (hy31 : y 99 < 2 ^ 31) (hNw : zNew S a) (hDs : zDs a) (hbase : base = s.heap.size) (hw : zW D y base S s H locs) (hl : lv_has ls 2 [(1, .ref (a 0)), (0, .ref (y 98))]) : W p l e room_1 s m #[Value.ref bs] below meth c H locs 164 6390 (lw_Z below #[Value.ref bs] s) (F0 m 832 ls []) := by
  have hx := C.1
  have hb := C.2.1
  have hown := C.2.2.2.1
  have hts := C.2.2.2.2
  refine lv_aload_n hx hb dL_law_832 rfl (lv_at hl 0 rfl) ?_
  refine lv_bipush (v := 102) hx hb dL_law_833 (by decide) ?_
  refine lv_bipush (v := 7) hx hb dL_law_835 (by decide) ?_
  refine znewI (N := 7) C hw (by decide +kernel) (by decide) (by decide) (Nat.le_of_ble_eq_true rfl) (Nat.le_of_ble_eq_true rfl) (Nat.le_of_ble_eq_true rfl) dL_law_837 (fun q837 H kq837 hw => ?_)
  have hA : zAr S (znR S q837 22 7 (fun _ => 0)) q837 7 [] := zAr.new kq837
  generalize (znR S q837 22 7 (fun _ => 0)) = Sa837 at hw hA
  refine lv_dup hx hb dL_law_839 rfl ?_
  refine lv_iconst (v := 0) hx hb dL_law_840 (by decide) ?_
  refine lv_iconst (v := 0) hx hb dL_law_841 (by decide) ?_
  refine zast_I (a := q837) C hw hA.2.1 hA.2.2.1 (zin_of (N := 7) (by decide) (by grind) (by grind)) dL_law_842 (fun H locs hw => ?_)
  have hA : zAr S (zsR Sa837 22 q837 (upd (zR Sa837 22 q837) (0 : Int32).toNatClampNeg 0)) q837 7 [0] := zAr.st (k := 0) hA kq837 (by decide) rfl
  generalize (zsR Sa837 22 q837 (upd (zR Sa837 22 q837) (0 : Int32).toNatClampNeg 0)) = Sa842 at hw hA
  refine lv_dup hx hb dL_law_843 rfl ?_
  refine lv_iconst (v := 1) hx hb dL_law_844 (by decide) ?_
  refine lv_iconst (v := 1) hx hb dL_law_845 (by decide) ?_
  refine zast_I (a := q837) C hw hA.2.1 hA.2.2.1 (zin_of (N := 7) (by decide) (by grind) (by grind)) dL_law_846 (fun H locs hw => ?_)
  have hA : zAr S (zsR Sa842 22 q837 (upd (zR Sa842 22 q837) (1 : Int32).toNatClampNeg 1)) q837 7 [0, 1] := zAr.st (k := 1) hA kq837 (by decide) rfl
  generalize (zsR Sa842 22 q837 (upd (zR Sa842 22 q837) (1 : Int32).toNatClampNeg 1)) = Sa846 at hw hA
  refine lv_dup hx hb dL_law_847 rfl ?_
  refine lv_iconst (v := 2) hx hb dL_law_848 (by decide) ?_
  refine lv_iconst (v := 4) hx hb dL_law_849 (by decide) ?_
  refine zast_I (a := q837) C hw hA.2.1 hA.2.2.1 (zin_of (N := 7) (by decide) (by grind) (by grind)) dL_law_850 (fun H locs hw => ?_)
  have hA : zAr S (zsR Sa846 22 q837 (upd (zR Sa846 22 q837) (2 : Int32).toNatClampNeg 4)) q837 7 [0, 1, 4] := zAr.st (k := 2) hA kq837 (by decide) rfl
  generalize (zsR Sa846 22 q837 (upd (zR Sa846 22 q837) (2 : Int32).toNatClampNeg 4)) = Sa850 at hw hA
  refine lv_dup hx hb dL_law_851 rfl ?_
  refine lv_iconst (v := 3) hx hb dL_law_852 (by decide) ?_
  refine lv_iconst (v := 0) hx hb dL_law_853 (by decide) ?_
  refine zast_I (a := q837) C hw hA.2.1 hA.2.2.1 (zin_of (N := 7) (by decide) (by grind) (by grind)) dL_law_854 (fun H locs hw => ?_)
  have hA : zAr S (zsR Sa850 22 q837 (upd (zR Sa850 22 q837) (3 : Int32).toNatClampNeg 0)) q837 7 [0, 1, 4, 0] := zAr.st (k := 3) hA kq837 (by decide) rfl
  generalize (zsR Sa850 22 q837 (upd (zR Sa850 22 q837) (3 : Int32).toNatClampNeg 0)) = Sa854 at hw hA
  refine lv_dup hx hb dL_law_855 rfl ?_
  refine lv_iconst (v := 4) hx hb dL_law_856 (by decide) ?_
  refine lv_iconst (v := 0) hx hb dL_law_857 (by decide) ?_
  refine zast_I (a := q837) C hw hA.2.1 hA.2.2.1 (zin_of (N := 7) (by decide) (by grind) (by grind)) dL_law_858 (fun H locs hw => ?_)
  have hA : zAr S (zsR Sa854 22 q837 (upd (zR Sa854 22 q837) (4 : Int32).toNatClampNeg 0)) q837 7 [0, 1, 4, 0, 0] := zAr.st (k := 4) hA kq837 (by decide) rfl
  generalize (zsR Sa854 22 q837 (upd (zR Sa854 22 q837) (4 : Int32).toNatClampNeg 0)) = Sa858 at hw hA
  refine lv_dup hx hb dL_law_859 rfl ?_
  refine lv_iconst (v := 5) hx hb dL_law_860 (by decide) ?_
  refine lv_iconst (v := 1) hx hb dL_law_861 (by decide) ?_
  refine zast_I (a := q837) C hw hA.2.1 hA.2.2.1 (zin_of (N := 7) (by decide) (by grind) (by grind)) dL_law_862 (fun H locs hw => ?_)
  have hA : zAr S (zsR Sa858 22 q837 (upd (zR Sa858 22 q837) (5 : Int32).toNatClampNeg 1)) q837 7 [0, 1, 4, 0, 0, 1] := zAr.st (k := 5) hA kq837 (by decide) rfl
  generalize (zsR Sa858 22 q837 (upd (zR Sa858 22 q837) (5 : Int32).toNatClampNeg 1)) = Sa862 at hw hA
  refine lv_dup hx hb dL_law_863 rfl ?_
  refine lv_bipush (v := 6) hx hb dL_law_864 (by decide) ?_
  refine lv_iconst (v := 0) hx hb dL_law_866 (by decide) ?_
  refine zast_I (a := q837) C hw hA.2.1 hA.2.2.1 (zin_of (N := 7) (by decide) (by grind) (by grind)) dL_law_867 (fun H locs hw => ?_)
  have hA : zAr S (zsR Sa862 22 q837 (upd (zR Sa862 22 q837) (6 : Int32).toNatClampNeg 0)) q837 7 [0, 1, 4, 0, 0, 1, 0] := zAr.st (k := 6) hA kq837 (by decide) rfl
  generalize (zsR Sa862 22 q837 (upd (zR Sa862 22 q837) (6 : Int32).toNatClampNeg 0)) = Sa867 at hw hA
  obtain ⟨hG, hK9, hN9, hA⟩ := hA
  have hj0 : zR Sa867 22 q837 0 = 0 := (hA 0 0 rfl).trans rfl
  have hj1 : zR Sa867 22 q837 1 = 1 := (hA 1 1 rfl).trans rfl
  have hj2 : zR Sa867 22 q837 2 = 4 := (hA 2 4 rfl).trans rfl
  have hj3 : zR Sa867 22 q837 3 = 0 := (hA 3 0 rfl).trans rfl
  have hj4 : zR Sa867 22 q837 4 = 0 := (hA 4 0 rfl).trans rfl
  have hj5 : zR Sa867 22 q837 5 = 1 := (hA 5 1 rfl).trans rfl
  have hj6 : zR Sa867 22 q837 6 = 0 := (hA 6 0 rfl).trans rfl
  have hNw := zNew.gw hG hNw
  refine zcSW_i (As := [.ref (a 0), .int 102, .ref q837]) (rest := []) (n9 := 3) C hw (c_L_ask_f_fourWires_r l hst D y base Sa867 a 0 1 4 0 0 1 0 q837 hNw.1 hNw.2.1 (by decide +kernel) hK9 hN9 hj0 hj1 hj2 hj3 hj4 hj5 hj6) gL_law_L_ask rfl (by decide +kernel) ⟨⟨rfl, rfl⟩, Nat.le_of_ble_eq_true rfl, Nat.le_of_ble_eq_true rfl⟩ rfl hl.1 rfl (Nat.le_of_ble_eq_true rfl) ⟨Nat.le_of_ble_eq_true rfl, Nat.le_of_ble_eq_true rfl⟩ dL_law_868 (fun r868 S868 H locs hp868 hw => ?_)
  have h9 : r868 = (-2000000001) ∧ S868 = Sa867 := by
    rcases hp868 with h | h
    · exact h.2
    · exact absurd h.1 (by decide +kernel)
  obtain ⟨rfl, hS9⟩ := h9
  have hS9 := hS9.symm
  subst hS9
  refine lv_ldc (own := RL) (v := (-2000000001)) hx hb hown (hts (.constant RL 68 (-2000000001)) (by decide +kernel)) dL_law_871 ?_
  refine lv_icmp_ne (tgt := 1945) hx hb dL_law_873 (by decide) (fun c873 => absurd c873 (by decide)) (fun _ => ?_)
  exact law_part_14 hst C hr hlocks hy31 hNw hDs hbase hw hl

set_option maxHeartbeats 4000000 in
set_option maxRecDepth 100000 in
theorem law_part_12 {p : Program} {l : Launch} {e : Env} {s : State} {m : MethodId} {below : List Frame} {meth : Method} {c : Code} {H : Heap} {locs : List Loc} {ls : Array Slot} {D : va_G} {y : Nat → ClassId} {base : Nat} {S : zS} {a : Nat → Nat} {bs : Nat} (hst : l.stackTraces = false) (C : CallFix p m c code 2 s #[Value.ref bs] wsL_law RL) (hr : meth.sig.returnType = ret) (hlocks : meth.locks = false) (hy31 : y 99 < 2 ^ 31) (hNw : zNew S a) (hDs : zDs a) (hbase : base = s.heap.size) (hw : zW D y base S s H locs) (hl : lv_has ls 2 [(1, .ref (a 0)), (0, .ref (y 98))]) : W p l e room_1 s m #[Value.ref bs] below meth c H locs 154 6328 (lw_Z below #[Value.ref bs] s) (F0 m 781 ls []) := by
  have hx := C.1
  have hb := C.2.1
  have hown := C.2.2.2.1
  have hts := C.2.2.2.2
  refine lv_aload_n hx hb dL_law_781 rfl (lv_at hl 0 rfl) ?_
  refine lv_bipush (v := 116) hx hb dL_law_782 (by decide) ?_
  refine lv_bipush (v := 8) hx hb dL_law_784 (by decide) ?_
  refine znewI (N := 8) C hw (by decide +kernel) (by decide) (by decide) (Nat.le_of_ble_eq_true rfl) (Nat.le_of_ble_eq_true rfl) (Nat.le_of_ble_eq_true rfl) dL_law_786 (fun q786 H kq786 hw => ?_)
  have hA : zAr S (znR S q786 22 8 (fun _ => 0)) q786 8 [] := zAr.new kq786
  generalize (znR S q786 22 8 (fun _ => 0)) = Sa786 at hw hA
  refine lv_dup hx hb dL_law_788 rfl ?_
  refine lv_iconst (v := 0) hx hb dL_law_789 (by decide) ?_
  refine lv_iconst (v := 0) hx hb dL_law_790 (by decide) ?_
  refine zast_I (a := q786) C hw hA.2.1 hA.2.2.1 (zin_of (N := 8) (by decide) (by grind) (by grind)) dL_law_791 (fun H locs hw => ?_)
  have hA : zAr S (zsR Sa786 22 q786 (upd (zR Sa786 22 q786) (0 : Int32).toNatClampNeg 0)) q786 8 [0] := zAr.st (k := 0) hA kq786 (by decide) rfl
  generalize (zsR Sa786 22 q786 (upd (zR Sa786 22 q786) (0 : Int32).toNatClampNeg 0)) = Sa791 at hw hA
  refine lv_dup hx hb dL_law_792 rfl ?_
  refine lv_iconst (v := 1) hx hb dL_law_793 (by decide) ?_
  refine lv_iconst (v := 1) hx hb dL_law_794 (by decide) ?_
  refine zast_I (a := q786) C hw hA.2.1 hA.2.2.1 (zin_of (N := 8) (by decide) (by grind) (by grind)) dL_law_795 (fun H locs hw => ?_)
  have hA : zAr S (zsR Sa791 22 q786 (upd (zR Sa791 22 q786) (1 : Int32).toNatClampNeg 1)) q786 8 [0, 1] := zAr.st (k := 1) hA kq786 (by decide) rfl
  generalize (zsR Sa791 22 q786 (upd (zR Sa791 22 q786) (1 : Int32).toNatClampNeg 1)) = Sa795 at hw hA
  refine lv_dup hx hb dL_law_796 rfl ?_
  refine lv_iconst (v := 2) hx hb dL_law_797 (by decide) ?_
  refine lv_iconst (v := 0) hx hb dL_law_798 (by decide) ?_
  refine zast_I (a := q786) C hw hA.2.1 hA.2.2.1 (zin_of (N := 8) (by decide) (by grind) (by grind)) dL_law_799 (fun H locs hw => ?_)
  have hA : zAr S (zsR Sa795 22 q786 (upd (zR Sa795 22 q786) (2 : Int32).toNatClampNeg 0)) q786 8 [0, 1, 0] := zAr.st (k := 2) hA kq786 (by decide) rfl
  generalize (zsR Sa795 22 q786 (upd (zR Sa795 22 q786) (2 : Int32).toNatClampNeg 0)) = Sa799 at hw hA
  refine lv_dup hx hb dL_law_800 rfl ?_
  refine lv_iconst (v := 3) hx hb dL_law_801 (by decide) ?_
  refine lv_iconst (v := 0) hx hb dL_law_802 (by decide) ?_
  refine zast_I (a := q786) C hw hA.2.1 hA.2.2.1 (zin_of (N := 8) (by decide) (by grind) (by grind)) dL_law_803 (fun H locs hw => ?_)
  have hA : zAr S (zsR Sa799 22 q786 (upd (zR Sa799 22 q786) (3 : Int32).toNatClampNeg 0)) q786 8 [0, 1, 0, 0] := zAr.st (k := 3) hA kq786 (by decide) rfl
  generalize (zsR Sa799 22 q786 (upd (zR Sa799 22 q786) (3 : Int32).toNatClampNeg 0)) = Sa803 at hw hA
  refine lv_dup hx hb dL_law_804 rfl ?_
  refine lv_iconst (v := 4) hx hb dL_law_805 (by decide) ?_
  refine lv_iconst (v := 0) hx hb dL_law_806 (by decide) ?_
  refine zast_I (a := q786) C hw hA.2.1 hA.2.2.1 (zin_of (N := 8) (by decide) (by grind) (by grind)) dL_law_807 (fun H locs hw => ?_)
  have hA : zAr S (zsR Sa803 22 q786 (upd (zR Sa803 22 q786) (4 : Int32).toNatClampNeg 0)) q786 8 [0, 1, 0, 0, 0] := zAr.st (k := 4) hA kq786 (by decide) rfl
  generalize (zsR Sa803 22 q786 (upd (zR Sa803 22 q786) (4 : Int32).toNatClampNeg 0)) = Sa807 at hw hA
  refine lv_dup hx hb dL_law_808 rfl ?_
  refine lv_iconst (v := 5) hx hb dL_law_809 (by decide) ?_
  refine lv_iconst (v := 0) hx hb dL_law_810 (by decide) ?_
  refine zast_I (a := q786) C hw hA.2.1 hA.2.2.1 (zin_of (N := 8) (by decide) (by grind) (by grind)) dL_law_811 (fun H locs hw => ?_)
  have hA : zAr S (zsR Sa807 22 q786 (upd (zR Sa807 22 q786) (5 : Int32).toNatClampNeg 0)) q786 8 [0, 1, 0, 0, 0, 0] := zAr.st (k := 5) hA kq786 (by decide) rfl
  generalize (zsR Sa807 22 q786 (upd (zR Sa807 22 q786) (5 : Int32).toNatClampNeg 0)) = Sa811 at hw hA
  refine lv_dup hx hb dL_law_812 rfl ?_
  refine lv_bipush (v := 6) hx hb dL_law_813 (by decide) ?_
  refine lv_sipush (v := 9990) hx hb dL_law_815 (by decide) ?_
  refine zast_I (a := q786) C hw hA.2.1 hA.2.2.1 (zin_of (N := 8) (by decide) (by grind) (by grind)) dL_law_818 (fun H locs hw => ?_)
  have hA : zAr S (zsR Sa811 22 q786 (upd (zR Sa811 22 q786) (6 : Int32).toNatClampNeg 9990)) q786 8 [0, 1, 0, 0, 0, 0, 9990] := zAr.st (k := 6) hA kq786 (by decide) rfl
  generalize (zsR Sa811 22 q786 (upd (zR Sa811 22 q786) (6 : Int32).toNatClampNeg 9990)) = Sa818 at hw hA
  refine lv_dup hx hb dL_law_819 rfl ?_
  refine lv_bipush (v := 7) hx hb dL_law_820 (by decide) ?_
  refine lv_iconst (v := 1) hx hb dL_law_822 (by decide) ?_
  refine zast_I (a := q786) C hw hA.2.1 hA.2.2.1 (zin_of (N := 8) (by decide) (by grind) (by grind)) dL_law_823 (fun H locs hw => ?_)
  have hA : zAr S (zsR Sa818 22 q786 (upd (zR Sa818 22 q786) (7 : Int32).toNatClampNeg 1)) q786 8 [0, 1, 0, 0, 0, 0, 9990, 1] := zAr.st (k := 7) hA kq786 (by decide) rfl
  generalize (zsR Sa818 22 q786 (upd (zR Sa818 22 q786) (7 : Int32).toNatClampNeg 1)) = Sa823 at hw hA
  obtain ⟨hG, hK9, hN9, hA⟩ := hA
  have hj0 : zR Sa823 22 q786 0 = (nI 0) := (hA 0 0 rfl).trans rfl
  have hj1 : zR Sa823 22 q786 1 = (nI 1) := (hA 1 1 rfl).trans rfl
  have hj2 : zR Sa823 22 q786 2 = (nI 0) := (hA 2 0 rfl).trans rfl
  have hj3 : zR Sa823 22 q786 3 = (zb (false = true)) := (hA 3 0 rfl).trans rfl
  have hj4 : zR Sa823 22 q786 4 = (nI 0) := (hA 4 0 rfl).trans rfl
  have hj5 : zR Sa823 22 q786 5 = (nI 0) := (hA 5 0 rfl).trans rfl
  have hj6 : zR Sa823 22 q786 6 = (nI 9990) := (hA 6 9990 rfl).trans rfl
  have hj7 : zR Sa823 22 q786 7 = (nI 1) := (hA 7 1 rfl).trans rfl
  have hNw := zNew.gw hG hNw
  refine zcSW_i (As := [.ref (a 0), .int 116, .ref q786]) (rest := []) (n9 := 3) C hw (c_L_ask_t_twoWires_n l hst D y base Sa823 a 0 1 0 false 0 0 9990 1 _ _ _ _ _ _ _ q786 hNw.1 hDs (by decide +kernel) (by decide +kernel) (by decide +kernel) (by decide +kernel) (by decide +kernel) (by decide +kernel) (by decide +kernel) (by decide +kernel) (zOb.new hNw) (⟨10000, by decide, by decide +kernel⟩) hK9 hN9 hj0 hj1 hj2 hj3 hj4 hj5 hj6 hj7) gL_law_L_ask rfl (by decide +kernel) ⟨⟨rfl, rfl⟩, Nat.le_of_ble_eq_true rfl, Nat.le_of_ble_eq_true rfl⟩ rfl hl.1 rfl (Nat.le_of_ble_eq_true rfl) ⟨Nat.le_of_ble_eq_true rfl, Nat.le_of_ble_eq_true rfl⟩ dL_law_824 (fun r824 S824 H locs hp824 hw => ?_)
  obtain ⟨rfl, hLt⟩ := hp824
  have hNw := zNew.late hDs hNw hLt
  refine lv_ldc (own := RL) (v := (-2000000003)) hx hb hown (hts (.constant RL 74 (-2000000003)) (by decide +kernel)) dL_law_827 ?_
  refine lv_icmp_ne (tgt := 1945) hx hb dL_law_829 (by decide) (fun c829 => absurd c829 (by decide)) (fun _ => ?_)
  exact law_part_13 hst C hr hlocks hy31 hNw hDs hbase hw hl
