set_option maxHeartbeats 4000000 in
set_option maxRecDepth 100000 in
theorem law_part_3 {p : Program} {l : Launch} {e : Env} {s : State} {m : MethodId} {below : List Frame} {meth : Method} {c : Code} {H : Heap} {locs : List Loc} {ls : Array Slot} {D : va_G} {y : Nat → ClassId} {base : Nat} {S : zS} {a : Nat → Nat} {bs : Nat} (hst : l.stackTraces = false) (C : CallFix p m c code 2 s #[Value.ref bs] wsL_law RL) (hr : meth.sig.returnType = ret) (hlocks : meth.locks = false) (hy31 : y 99 < 2 ^ 31) (hNw : zNew S a) (hDs : zDs a) (hbase : base = s.heap.size) (hw : zW D y base S s H locs) (hl : lv_has ls 2 [(1, .ref (a 0)), (0, .ref (y 98))]) : W p l e room_1 s m #[Value.ref bs] below meth c H locs 209 6664 (lw_Z below #[Value.ref bs] s) (F0 m 1010 ls []) := by
  have hx := C.1
  have hb := C.2.1
  have hown := C.2.2.2.1
  have hts := C.2.2.2.2
  refine lv_aload_n hx hb dL_law_1010 rfl (lv_at hl 0 rfl) ?_
  refine lv_bipush (v := 67) hx hb dL_law_1011 (by decide) ?_
  refine lv_iconst (v := 4) hx hb dL_law_1013 (by decide) ?_
  refine znewI (N := 4) C hw (by decide +kernel) (by decide) (by decide) (Nat.le_of_ble_eq_true rfl) (Nat.le_of_ble_eq_true rfl) (Nat.le_of_ble_eq_true rfl) dL_law_1014 (fun q1014 H kq1014 hw => ?_)
  have hA : zAr S (znR S q1014 22 4 (fun _ => 0)) q1014 4 [] := zAr.new kq1014
  generalize (znR S q1014 22 4 (fun _ => 0)) = Sa1014 at hw hA
  refine lv_dup hx hb dL_law_1016 rfl ?_
  refine lv_iconst (v := 0) hx hb dL_law_1017 (by decide) ?_
  refine lv_iconst (v := 2) hx hb dL_law_1018 (by decide) ?_
  refine zast_I (a := q1014) C hw hA.2.1 hA.2.2.1 (zin_of (N := 4) (by decide) (by grind) (by grind)) dL_law_1019 (fun H locs hw => ?_)
  have hA : zAr S (zsR Sa1014 22 q1014 (upd (zR Sa1014 22 q1014) (0 : Int32).toNatClampNeg 2)) q1014 4 [2] := zAr.st (k := 0) hA kq1014 (by decide) rfl
  generalize (zsR Sa1014 22 q1014 (upd (zR Sa1014 22 q1014) (0 : Int32).toNatClampNeg 2)) = Sa1019 at hw hA
  refine lv_dup hx hb dL_law_1020 rfl ?_
  refine lv_iconst (v := 1) hx hb dL_law_1021 (by decide) ?_
  refine lv_iconst (v := 0) hx hb dL_law_1022 (by decide) ?_
  refine zast_I (a := q1014) C hw hA.2.1 hA.2.2.1 (zin_of (N := 4) (by decide) (by grind) (by grind)) dL_law_1023 (fun H locs hw => ?_)
  have hA : zAr S (zsR Sa1019 22 q1014 (upd (zR Sa1019 22 q1014) (1 : Int32).toNatClampNeg 0)) q1014 4 [2, 0] := zAr.st (k := 1) hA kq1014 (by decide) rfl
  generalize (zsR Sa1019 22 q1014 (upd (zR Sa1019 22 q1014) (1 : Int32).toNatClampNeg 0)) = Sa1023 at hw hA
  refine lv_dup hx hb dL_law_1024 rfl ?_
  refine lv_iconst (v := 2) hx hb dL_law_1025 (by decide) ?_
  refine lv_iconst (v := 1) hx hb dL_law_1026 (by decide) ?_
  refine zast_I (a := q1014) C hw hA.2.1 hA.2.2.1 (zin_of (N := 4) (by decide) (by grind) (by grind)) dL_law_1027 (fun H locs hw => ?_)
  have hA : zAr S (zsR Sa1023 22 q1014 (upd (zR Sa1023 22 q1014) (2 : Int32).toNatClampNeg 1)) q1014 4 [2, 0, 1] := zAr.st (k := 2) hA kq1014 (by decide) rfl
  generalize (zsR Sa1023 22 q1014 (upd (zR Sa1023 22 q1014) (2 : Int32).toNatClampNeg 1)) = Sa1027 at hw hA
  refine lv_dup hx hb dL_law_1028 rfl ?_
  refine lv_iconst (v := 3) hx hb dL_law_1029 (by decide) ?_
  refine lv_iconst (v := 1) hx hb dL_law_1030 (by decide) ?_
  refine zast_I (a := q1014) C hw hA.2.1 hA.2.2.1 (zin_of (N := 4) (by decide) (by grind) (by grind)) dL_law_1031 (fun H locs hw => ?_)
  have hA : zAr S (zsR Sa1027 22 q1014 (upd (zR Sa1027 22 q1014) (3 : Int32).toNatClampNeg 1)) q1014 4 [2, 0, 1, 1] := zAr.st (k := 3) hA kq1014 (by decide) rfl
  generalize (zsR Sa1027 22 q1014 (upd (zR Sa1027 22 q1014) (3 : Int32).toNatClampNeg 1)) = Sa1031 at hw hA
  obtain ⟨hG, hK9, hN9, hA⟩ := hA
  have hj0 : zR Sa1031 22 q1014 0 = 2 := (hA 0 2 rfl).trans rfl
  have hj1 : zR Sa1031 22 q1014 1 = 0 := (hA 1 0 rfl).trans rfl
  have hj2 : zR Sa1031 22 q1014 2 = 1 := (hA 2 1 rfl).trans rfl
  have hj3 : zR Sa1031 22 q1014 3 = 1 := (hA 3 1 rfl).trans rfl
  have hNw := zNew.gw hG hNw
  refine zcSW_i (As := [.ref (a 0), .int 67, .ref q1014]) (rest := []) (n9 := 3) C hw (c_L_ask_C_capture_r l hst D y base Sa1031 a 2 0 1 1 q1014 hNw.1 hNw.2.1 (by decide +kernel) hK9 hN9 hj0 hj1 hj2 hj3) gL_law_L_ask rfl (by decide +kernel) ⟨⟨rfl, rfl⟩, Nat.le_of_ble_eq_true rfl, Nat.le_of_ble_eq_true rfl⟩ rfl hl.1 rfl (Nat.le_of_ble_eq_true rfl) ⟨Nat.le_of_ble_eq_true rfl, Nat.le_of_ble_eq_true rfl⟩ dL_law_1032 (fun r1032 S1032 H locs hp1032 hw => ?_)
  have h9 : r1032 = (-2000000001) ∧ S1032 = Sa1031 := by
    rcases hp1032 with h | h
    · exact h.2
    · exact absurd h.1 (by decide +kernel)
  obtain ⟨rfl, hS9⟩ := h9
  have hS9 := hS9.symm
  subst hS9
  refine lv_ldc (own := RL) (v := (-2000000001)) hx hb hown (hts (.constant RL 68 (-2000000001)) (by decide +kernel)) dL_law_1035 ?_
  refine lv_icmp_ne (tgt := 1945) hx hb dL_law_1037 (by decide) (fun c1037 => absurd c1037 (by decide)) (fun _ => ?_)
  refine lv_aload_n hx hb dL_law_1040 rfl (lv_at hl 0 rfl) ?_
  refine lv_bipush (v := 67) hx hb dL_law_1041 (by decide) ?_
  refine lv_iconst (v := 4) hx hb dL_law_1043 (by decide) ?_
  refine znewI (N := 4) C hw (by decide +kernel) (by decide) (by decide) (Nat.le_of_ble_eq_true rfl) (Nat.le_of_ble_eq_true rfl) (Nat.le_of_ble_eq_true rfl) dL_law_1044 (fun q1044 H kq1044 hw => ?_)
  have hA : zAr Sa1031 (znR Sa1031 q1044 22 4 (fun _ => 0)) q1044 4 [] := zAr.new kq1044
  generalize (znR Sa1031 q1044 22 4 (fun _ => 0)) = Sa1044 at hw hA
  refine lv_dup hx hb dL_law_1046 rfl ?_
  refine lv_iconst (v := 0) hx hb dL_law_1047 (by decide) ?_
  refine lv_iconst (v := 0) hx hb dL_law_1048 (by decide) ?_
  refine zast_I (a := q1044) C hw hA.2.1 hA.2.2.1 (zin_of (N := 4) (by decide) (by grind) (by grind)) dL_law_1049 (fun H locs hw => ?_)
  have hA : zAr Sa1031 (zsR Sa1044 22 q1044 (upd (zR Sa1044 22 q1044) (0 : Int32).toNatClampNeg 0)) q1044 4 [0] := zAr.st (k := 0) hA kq1044 (by decide) rfl
  generalize (zsR Sa1044 22 q1044 (upd (zR Sa1044 22 q1044) (0 : Int32).toNatClampNeg 0)) = Sa1049 at hw hA
  refine lv_dup hx hb dL_law_1050 rfl ?_
  refine lv_iconst (v := 1) hx hb dL_law_1051 (by decide) ?_
  refine lv_iconst (v := 0) hx hb dL_law_1052 (by decide) ?_
  refine zast_I (a := q1044) C hw hA.2.1 hA.2.2.1 (zin_of (N := 4) (by decide) (by grind) (by grind)) dL_law_1053 (fun H locs hw => ?_)
  have hA : zAr Sa1031 (zsR Sa1049 22 q1044 (upd (zR Sa1049 22 q1044) (1 : Int32).toNatClampNeg 0)) q1044 4 [0, 0] := zAr.st (k := 1) hA kq1044 (by decide) rfl
  generalize (zsR Sa1049 22 q1044 (upd (zR Sa1049 22 q1044) (1 : Int32).toNatClampNeg 0)) = Sa1053 at hw hA
  refine lv_dup hx hb dL_law_1054 rfl ?_
  refine lv_iconst (v := 2) hx hb dL_law_1055 (by decide) ?_
  refine lv_iconst (v := 0) hx hb dL_law_1056 (by decide) ?_
  refine zast_I (a := q1044) C hw hA.2.1 hA.2.2.1 (zin_of (N := 4) (by decide) (by grind) (by grind)) dL_law_1057 (fun H locs hw => ?_)
  have hA : zAr Sa1031 (zsR Sa1053 22 q1044 (upd (zR Sa1053 22 q1044) (2 : Int32).toNatClampNeg 0)) q1044 4 [0, 0, 0] := zAr.st (k := 2) hA kq1044 (by decide) rfl
  generalize (zsR Sa1053 22 q1044 (upd (zR Sa1053 22 q1044) (2 : Int32).toNatClampNeg 0)) = Sa1057 at hw hA
  refine lv_dup hx hb dL_law_1058 rfl ?_
  refine lv_iconst (v := 3) hx hb dL_law_1059 (by decide) ?_
  refine lv_iconst (v := 1) hx hb dL_law_1060 (by decide) ?_
  refine zast_I (a := q1044) C hw hA.2.1 hA.2.2.1 (zin_of (N := 4) (by decide) (by grind) (by grind)) dL_law_1061 (fun H locs hw => ?_)
  have hA : zAr Sa1031 (zsR Sa1057 22 q1044 (upd (zR Sa1057 22 q1044) (3 : Int32).toNatClampNeg 1)) q1044 4 [0, 0, 0, 1] := zAr.st (k := 3) hA kq1044 (by decide) rfl
  generalize (zsR Sa1057 22 q1044 (upd (zR Sa1057 22 q1044) (3 : Int32).toNatClampNeg 1)) = Sa1061 at hw hA
  obtain ⟨hG, hK9, hN9, hA⟩ := hA
  have hj0 : zR Sa1061 22 q1044 0 = 0 := (hA 0 0 rfl).trans rfl
  have hj1 : zR Sa1061 22 q1044 1 = 0 := (hA 1 0 rfl).trans rfl
  have hj2 : zR Sa1061 22 q1044 2 = 0 := (hA 2 0 rfl).trans rfl
  have hj3 : zR Sa1061 22 q1044 3 = 1 := (hA 3 1 rfl).trans rfl
  have hNw := zNew.gw hG hNw
  refine zcSW_i (As := [.ref (a 0), .int 67, .ref q1044]) (rest := []) (n9 := 3) C hw (c_L_ask_C_capture_r l hst D y base Sa1061 a 0 0 0 1 q1044 hNw.1 hNw.2.1 (by decide +kernel) hK9 hN9 hj0 hj1 hj2 hj3) gL_law_L_ask rfl (by decide +kernel) ⟨⟨rfl, rfl⟩, Nat.le_of_ble_eq_true rfl, Nat.le_of_ble_eq_true rfl⟩ rfl hl.1 rfl (Nat.le_of_ble_eq_true rfl) ⟨Nat.le_of_ble_eq_true rfl, Nat.le_of_ble_eq_true rfl⟩ dL_law_1062 (fun r1062 S1062 H locs hp1062 hw => ?_)
  have h9 : r1062 = (-2000000002) ∧ S1062 = Sa1061 := by
    rcases hp1062 with h | h
    · exact absurd h.1 (by decide +kernel)
    · exact h.2
  obtain ⟨rfl, hS9⟩ := h9
  have hS9 := hS9.symm
  subst hS9
  refine lv_ldc (own := RL) (v := (-2000000002)) hx hb hown (hts (.constant RL 71 (-2000000002)) (by decide +kernel)) dL_law_1065 ?_
  refine lv_icmp_ne (tgt := 1945) hx hb dL_law_1067 (by decide) (fun c1067 => absurd c1067 (by decide)) (fun _ => ?_)
  refine lv_aload_n hx hb dL_law_1070 rfl (lv_at hl 0 rfl) ?_
  refine lv_bipush (v := 67) hx hb dL_law_1071 (by decide) ?_
  refine lv_iconst (v := 4) hx hb dL_law_1073 (by decide) ?_
  refine znewI (N := 4) C hw (by decide +kernel) (by decide) (by decide) (Nat.le_of_ble_eq_true rfl) (Nat.le_of_ble_eq_true rfl) (Nat.le_of_ble_eq_true rfl) dL_law_1074 (fun q1074 H kq1074 hw => ?_)
  have hA : zAr Sa1061 (znR Sa1061 q1074 22 4 (fun _ => 0)) q1074 4 [] := zAr.new kq1074
  generalize (znR Sa1061 q1074 22 4 (fun _ => 0)) = Sa1074 at hw hA
  refine lv_dup hx hb dL_law_1076 rfl ?_
  refine lv_iconst (v := 0) hx hb dL_law_1077 (by decide) ?_
  refine lv_iconst (v := 0) hx hb dL_law_1078 (by decide) ?_
  refine zast_I (a := q1074) C hw hA.2.1 hA.2.2.1 (zin_of (N := 4) (by decide) (by grind) (by grind)) dL_law_1079 (fun H locs hw => ?_)
  have hA : zAr Sa1061 (zsR Sa1074 22 q1074 (upd (zR Sa1074 22 q1074) (0 : Int32).toNatClampNeg 0)) q1074 4 [0] := zAr.st (k := 0) hA kq1074 (by decide) rfl
  generalize (zsR Sa1074 22 q1074 (upd (zR Sa1074 22 q1074) (0 : Int32).toNatClampNeg 0)) = Sa1079 at hw hA
  refine lv_dup hx hb dL_law_1080 rfl ?_
  refine lv_iconst (v := 1) hx hb dL_law_1081 (by decide) ?_
  refine lv_iconst (v := 0) hx hb dL_law_1082 (by decide) ?_
  refine zast_I (a := q1074) C hw hA.2.1 hA.2.2.1 (zin_of (N := 4) (by decide) (by grind) (by grind)) dL_law_1083 (fun H locs hw => ?_)
  have hA : zAr Sa1061 (zsR Sa1079 22 q1074 (upd (zR Sa1079 22 q1074) (1 : Int32).toNatClampNeg 0)) q1074 4 [0, 0] := zAr.st (k := 1) hA kq1074 (by decide) rfl
  generalize (zsR Sa1079 22 q1074 (upd (zR Sa1079 22 q1074) (1 : Int32).toNatClampNeg 0)) = Sa1083 at hw hA
  refine lv_dup hx hb dL_law_1084 rfl ?_
  refine lv_iconst (v := 2) hx hb dL_law_1085 (by decide) ?_
  refine lv_iconst (v := 1) hx hb dL_law_1086 (by decide) ?_
  refine zast_I (a := q1074) C hw hA.2.1 hA.2.2.1 (zin_of (N := 4) (by decide) (by grind) (by grind)) dL_law_1087 (fun H locs hw => ?_)
  have hA : zAr Sa1061 (zsR Sa1083 22 q1074 (upd (zR Sa1083 22 q1074) (2 : Int32).toNatClampNeg 1)) q1074 4 [0, 0, 1] := zAr.st (k := 2) hA kq1074 (by decide) rfl
  generalize (zsR Sa1083 22 q1074 (upd (zR Sa1083 22 q1074) (2 : Int32).toNatClampNeg 1)) = Sa1087 at hw hA
  refine lv_dup hx hb dL_law_1088 rfl ?_
  refine lv_iconst (v := 3) hx hb dL_law_1089 (by decide) ?_
  refine lv_sipush (v := 401) hx hb dL_law_1090 (by decide) ?_
  refine zast_I (a := q1074) C hw hA.2.1 hA.2.2.1 (zin_of (N := 4) (by decide) (by grind) (by grind)) dL_law_1093 (fun H locs hw => ?_)
  have hA : zAr Sa1061 (zsR Sa1087 22 q1074 (upd (zR Sa1087 22 q1074) (3 : Int32).toNatClampNeg 401)) q1074 4 [0, 0, 1, 401] := zAr.st (k := 3) hA kq1074 (by decide) rfl
  generalize (zsR Sa1087 22 q1074 (upd (zR Sa1087 22 q1074) (3 : Int32).toNatClampNeg 401)) = Sa1093 at hw hA
  obtain ⟨hG, hK9, hN9, hA⟩ := hA
  have hj0 : zR Sa1093 22 q1074 0 = 0 := (hA 0 0 rfl).trans rfl
  have hj1 : zR Sa1093 22 q1074 1 = 0 := (hA 1 0 rfl).trans rfl
  have hj2 : zR Sa1093 22 q1074 2 = 1 := (hA 2 1 rfl).trans rfl
  have hj3 : zR Sa1093 22 q1074 3 = 401 := (hA 3 401 rfl).trans rfl
  have hNw := zNew.gw hG hNw
  refine zcSW_i (As := [.ref (a 0), .int 67, .ref q1074]) (rest := []) (n9 := 3) C hw (c_L_ask_C_capture_r l hst D y base Sa1093 a 0 0 1 401 q1074 hNw.1 hNw.2.1 (by decide +kernel) hK9 hN9 hj0 hj1 hj2 hj3) gL_law_L_ask rfl (by decide +kernel) ⟨⟨rfl, rfl⟩, Nat.le_of_ble_eq_true rfl, Nat.le_of_ble_eq_true rfl⟩ rfl hl.1 rfl (Nat.le_of_ble_eq_true rfl) ⟨Nat.le_of_ble_eq_true rfl, Nat.le_of_ble_eq_true rfl⟩ dL_law_1094 (fun r1094 S1094 H locs hp1094 hw => ?_)
  have h9 : r1094 = (-2000000002) ∧ S1094 = Sa1093 := by
    rcases hp1094 with h | h
    · exact absurd h.1 (by decide +kernel)
    · exact h.2
  obtain ⟨rfl, hS9⟩ := h9
  have hS9 := hS9.symm
  subst hS9
  refine lv_ldc (own := RL) (v := (-2000000002)) hx hb hown (hts (.constant RL 71 (-2000000002)) (by decide +kernel)) dL_law_1097 ?_
  refine lv_icmp_ne (tgt := 1945) hx hb dL_law_1099 (by decide) (fun c1099 => absurd c1099 (by decide)) (fun _ => ?_)
  refine lv_aload_n hx hb dL_law_1102 rfl (lv_at hl 0 rfl) ?_
  refine lv_bipush (v := 67) hx hb dL_law_1103 (by decide) ?_
  refine lv_iconst (v := 4) hx hb dL_law_1105 (by decide) ?_
  refine znewI (N := 4) C hw (by decide +kernel) (by decide) (by decide) (Nat.le_of_ble_eq_true rfl) (Nat.le_of_ble_eq_true rfl) (Nat.le_of_ble_eq_true rfl) dL_law_1106 (fun q1106 H kq1106 hw => ?_)
  have hA : zAr Sa1093 (znR Sa1093 q1106 22 4 (fun _ => 0)) q1106 4 [] := zAr.new kq1106
  generalize (znR Sa1093 q1106 22 4 (fun _ => 0)) = Sa1106 at hw hA
  refine lv_dup hx hb dL_law_1108 rfl ?_
  refine lv_iconst (v := 0) hx hb dL_law_1109 (by decide) ?_
  refine lv_iconst (v := 0) hx hb dL_law_1110 (by decide) ?_
  refine zast_I (a := q1106) C hw hA.2.1 hA.2.2.1 (zin_of (N := 4) (by decide) (by grind) (by grind)) dL_law_1111 (fun H locs hw => ?_)
  have hA : zAr Sa1093 (zsR Sa1106 22 q1106 (upd (zR Sa1106 22 q1106) (0 : Int32).toNatClampNeg 0)) q1106 4 [0] := zAr.st (k := 0) hA kq1106 (by decide) rfl
  generalize (zsR Sa1106 22 q1106 (upd (zR Sa1106 22 q1106) (0 : Int32).toNatClampNeg 0)) = Sa1111 at hw hA
  refine lv_dup hx hb dL_law_1112 rfl ?_
  refine lv_iconst (v := 1) hx hb dL_law_1113 (by decide) ?_
  refine lv_sipush (v := 9999) hx hb dL_law_1114 (by decide) ?_
  refine zast_I (a := q1106) C hw hA.2.1 hA.2.2.1 (zin_of (N := 4) (by decide) (by grind) (by grind)) dL_law_1117 (fun H locs hw => ?_)
  have hA : zAr Sa1093 (zsR Sa1111 22 q1106 (upd (zR Sa1111 22 q1106) (1 : Int32).toNatClampNeg 9999)) q1106 4 [0, 9999] := zAr.st (k := 1) hA kq1106 (by decide) rfl
  generalize (zsR Sa1111 22 q1106 (upd (zR Sa1111 22 q1106) (1 : Int32).toNatClampNeg 9999)) = Sa1117 at hw hA
  refine lv_dup hx hb dL_law_1118 rfl ?_
  refine lv_iconst (v := 2) hx hb dL_law_1119 (by decide) ?_
  refine lv_iconst (v := 1) hx hb dL_law_1120 (by decide) ?_
  refine zast_I (a := q1106) C hw hA.2.1 hA.2.2.1 (zin_of (N := 4) (by decide) (by grind) (by grind)) dL_law_1121 (fun H locs hw => ?_)
  have hA : zAr Sa1093 (zsR Sa1117 22 q1106 (upd (zR Sa1117 22 q1106) (2 : Int32).toNatClampNeg 1)) q1106 4 [0, 9999, 1] := zAr.st (k := 2) hA kq1106 (by decide) rfl
  generalize (zsR Sa1117 22 q1106 (upd (zR Sa1117 22 q1106) (2 : Int32).toNatClampNeg 1)) = Sa1121 at hw hA
  refine lv_dup hx hb dL_law_1122 rfl ?_
  refine lv_iconst (v := 3) hx hb dL_law_1123 (by decide) ?_
  refine lv_iconst (v := 2) hx hb dL_law_1124 (by decide) ?_
  refine zast_I (a := q1106) C hw hA.2.1 hA.2.2.1 (zin_of (N := 4) (by decide) (by grind) (by grind)) dL_law_1125 (fun H locs hw => ?_)
  have hA : zAr Sa1093 (zsR Sa1121 22 q1106 (upd (zR Sa1121 22 q1106) (3 : Int32).toNatClampNeg 2)) q1106 4 [0, 9999, 1, 2] := zAr.st (k := 3) hA kq1106 (by decide) rfl
  generalize (zsR Sa1121 22 q1106 (upd (zR Sa1121 22 q1106) (3 : Int32).toNatClampNeg 2)) = Sa1125 at hw hA
  obtain ⟨hG, hK9, hN9, hA⟩ := hA
  have hj0 : zR Sa1125 22 q1106 0 = 0 := (hA 0 0 rfl).trans rfl
  have hj1 : zR Sa1125 22 q1106 1 = 9999 := (hA 1 9999 rfl).trans rfl
  have hj2 : zR Sa1125 22 q1106 2 = 1 := (hA 2 1 rfl).trans rfl
  have hj3 : zR Sa1125 22 q1106 3 = 2 := (hA 3 2 rfl).trans rfl
  have hNw := zNew.gw hG hNw
  refine zcSW_i (As := [.ref (a 0), .int 67, .ref q1106]) (rest := []) (n9 := 3) C hw (c_L_ask_C_capture_r l hst D y base Sa1125 a 0 9999 1 2 q1106 hNw.1 hNw.2.1 (by decide +kernel) hK9 hN9 hj0 hj1 hj2 hj3) gL_law_L_ask rfl (by decide +kernel) ⟨⟨rfl, rfl⟩, Nat.le_of_ble_eq_true rfl, Nat.le_of_ble_eq_true rfl⟩ rfl hl.1 rfl (Nat.le_of_ble_eq_true rfl) ⟨Nat.le_of_ble_eq_true rfl, Nat.le_of_ble_eq_true rfl⟩ dL_law_1126 (fun r1126 S1126 H locs hp1126 hw => ?_)
  have h9 : r1126 = (-2000000002) ∧ S1126 = Sa1125 := by
    rcases hp1126 with h | h
    · exact absurd h.1 (by decide +kernel)
    · exact h.2
  obtain ⟨rfl, hS9⟩ := h9
  have hS9 := hS9.symm
  subst hS9
  refine lv_ldc (own := RL) (v := (-2000000002)) hx hb hown (hts (.constant RL 71 (-2000000002)) (by decide +kernel)) dL_law_1129 ?_
  refine lv_icmp_ne (tgt := 1945) hx hb dL_law_1131 (by decide) (fun c1131 => absurd c1131 (by decide)) (fun _ => ?_)
  refine lv_aload_n hx hb dL_law_1134 rfl (lv_at hl 0 rfl) ?_
  refine lv_bipush (v := 83) hx hb dL_law_1135 (by decide) ?_
  refine lv_iconst (v := 1) hx hb dL_law_1137 (by decide) ?_
  refine znewI (N := 1) C hw (by decide +kernel) (by decide) (by decide) (Nat.le_of_ble_eq_true rfl) (Nat.le_of_ble_eq_true rfl) (Nat.le_of_ble_eq_true rfl) dL_law_1138 (fun q1138 H kq1138 hw => ?_)
  have hA : zAr Sa1125 (znR Sa1125 q1138 22 1 (fun _ => 0)) q1138 1 [] := zAr.new kq1138
  generalize (znR Sa1125 q1138 22 1 (fun _ => 0)) = Sa1138 at hw hA
  refine lv_dup hx hb dL_law_1140 rfl ?_
  refine lv_iconst (v := 0) hx hb dL_law_1141 (by decide) ?_
  refine lv_iconst (v := 2) hx hb dL_law_1142 (by decide) ?_
  refine zast_I (a := q1138) C hw hA.2.1 hA.2.2.1 (zin_of (N := 1) (by decide) (by grind) (by grind)) dL_law_1143 (fun H locs hw => ?_)
  have hA : zAr Sa1125 (zsR Sa1138 22 q1138 (upd (zR Sa1138 22 q1138) (0 : Int32).toNatClampNeg 2)) q1138 1 [2] := zAr.st (k := 0) hA kq1138 (by decide) rfl
  generalize (zsR Sa1138 22 q1138 (upd (zR Sa1138 22 q1138) (0 : Int32).toNatClampNeg 2)) = Sa1143 at hw hA
  obtain ⟨hG, hK9, hN9, hA⟩ := hA
  have hj0 : zR Sa1143 22 q1138 0 = 2 := (hA 0 2 rfl).trans rfl
  have hNw := zNew.gw hG hNw
  refine zcSW_i (As := [.ref (a 0), .int 83, .ref q1138]) (rest := []) (n9 := 3) C hw (c_L_ask_S_samples_r l hst D y base Sa1143 a 2 q1138 hNw.1 hNw.2.1 hK9 hN9 hj0) gL_law_L_ask rfl (by decide +kernel) ⟨⟨rfl, rfl⟩, Nat.le_of_ble_eq_true rfl, Nat.le_of_ble_eq_true rfl⟩ rfl hl.1 rfl (Nat.le_of_ble_eq_true rfl) ⟨Nat.le_of_ble_eq_true rfl, Nat.le_of_ble_eq_true rfl⟩ dL_law_1144 (fun r1144 S1144 H locs hp1144 hw => ?_)
  have h9 : r1144 = (-2000000001) ∧ S1144 = Sa1143 := by
    rcases hp1144 with h | h
    · exact h.2
    · exact absurd h.1 (by decide +kernel)
  obtain ⟨rfl, hS9⟩ := h9
  have hS9 := hS9.symm
  subst hS9
  refine lv_ldc (own := RL) (v := (-2000000001)) hx hb hown (hts (.constant RL 68 (-2000000001)) (by decide +kernel)) dL_law_1147 ?_
  refine lv_icmp_ne (tgt := 1945) hx hb dL_law_1149 (by decide) (fun c1149 => absurd c1149 (by decide)) (fun _ => ?_)
  refine lv_aload_n hx hb dL_law_1152 rfl (lv_at hl 0 rfl) ?_
  refine lv_bipush (v := 83) hx hb dL_law_1153 (by decide) ?_
  refine lv_iconst (v := 1) hx hb dL_law_1155 (by decide) ?_
  refine znewI (N := 1) C hw (by decide +kernel) (by decide) (by decide) (Nat.le_of_ble_eq_true rfl) (Nat.le_of_ble_eq_true rfl) (Nat.le_of_ble_eq_true rfl) dL_law_1156 (fun q1156 H kq1156 hw => ?_)
  have hA : zAr Sa1143 (znR Sa1143 q1156 22 1 (fun _ => 0)) q1156 1 [] := zAr.new kq1156
  generalize (znR Sa1143 q1156 22 1 (fun _ => 0)) = Sa1156 at hw hA
  refine lv_dup hx hb dL_law_1158 rfl ?_
  refine lv_iconst (v := 0) hx hb dL_law_1159 (by decide) ?_
  refine lv_iconst (v := 0) hx hb dL_law_1160 (by decide) ?_
  refine zast_I (a := q1156) C hw hA.2.1 hA.2.2.1 (zin_of (N := 1) (by decide) (by grind) (by grind)) dL_law_1161 (fun H locs hw => ?_)
  have hA : zAr Sa1143 (zsR Sa1156 22 q1156 (upd (zR Sa1156 22 q1156) (0 : Int32).toNatClampNeg 0)) q1156 1 [0] := zAr.st (k := 0) hA kq1156 (by decide) rfl
  generalize (zsR Sa1156 22 q1156 (upd (zR Sa1156 22 q1156) (0 : Int32).toNatClampNeg 0)) = Sa1161 at hw hA
  obtain ⟨hG, hK9, hN9, hA⟩ := hA
  have hj0 : zR Sa1161 22 q1156 0 = 0 := (hA 0 0 rfl).trans rfl
  have hNw := zNew.gw hG hNw
  refine zcSW_i (As := [.ref (a 0), .int 83, .ref q1156]) (rest := []) (n9 := 3) C hw (c_L_ask_S_samples_r l hst D y base Sa1161 a 0 q1156 hNw.1 hNw.2.1 hK9 hN9 hj0) gL_law_L_ask rfl (by decide +kernel) ⟨⟨rfl, rfl⟩, Nat.le_of_ble_eq_true rfl, Nat.le_of_ble_eq_true rfl⟩ rfl hl.1 rfl (Nat.le_of_ble_eq_true rfl) ⟨Nat.le_of_ble_eq_true rfl, Nat.le_of_ble_eq_true rfl⟩ dL_law_1162 (fun r1162 S1162 H locs hp1162 hw => ?_)
  have h9 : r1162 = (0) ∧ S1162 = Sa1161 := by
    rcases hp1162 with h | h
    · exact absurd h.1 (by decide +kernel)
    · exact h.2
  obtain ⟨rfl, hS9⟩ := h9
  have hS9 := hS9.symm
  subst hS9
  refine lv_if_ne (tgt := 1945) hx hb dL_law_1165 (by decide) (fun c1165 => absurd c1165 (by decide)) (fun _ => ?_)
  refine lv_aload_n hx hb dL_law_1168 rfl (lv_at hl 0 rfl) ?_
  refine lv_bipush (v := 97) hx hb dL_law_1169 (by decide) ?_
  refine lv_iconst (v := 2) hx hb dL_law_1171 (by decide) ?_
  refine znewI (N := 2) C hw (by decide +kernel) (by decide) (by decide) (Nat.le_of_ble_eq_true rfl) (Nat.le_of_ble_eq_true rfl) (Nat.le_of_ble_eq_true rfl) dL_law_1172 (fun q1172 H kq1172 hw => ?_)
  have hA : zAr Sa1161 (znR Sa1161 q1172 22 2 (fun _ => 0)) q1172 2 [] := zAr.new kq1172
  generalize (znR Sa1161 q1172 22 2 (fun _ => 0)) = Sa1172 at hw hA
  refine lv_dup hx hb dL_law_1174 rfl ?_
  refine lv_iconst (v := 0) hx hb dL_law_1175 (by decide) ?_
  refine lv_iconst (v := 0) hx hb dL_law_1176 (by decide) ?_
  refine zast_I (a := q1172) C hw hA.2.1 hA.2.2.1 (zin_of (N := 2) (by decide) (by grind) (by grind)) dL_law_1177 (fun H locs hw => ?_)
  have hA : zAr Sa1161 (zsR Sa1172 22 q1172 (upd (zR Sa1172 22 q1172) (0 : Int32).toNatClampNeg 0)) q1172 2 [0] := zAr.st (k := 0) hA kq1172 (by decide) rfl
  generalize (zsR Sa1172 22 q1172 (upd (zR Sa1172 22 q1172) (0 : Int32).toNatClampNeg 0)) = Sa1177 at hw hA
  refine lv_dup hx hb dL_law_1178 rfl ?_
  refine lv_iconst (v := 1) hx hb dL_law_1179 (by decide) ?_
  refine lv_iconst (v := 0) hx hb dL_law_1180 (by decide) ?_
  refine zast_I (a := q1172) C hw hA.2.1 hA.2.2.1 (zin_of (N := 2) (by decide) (by grind) (by grind)) dL_law_1181 (fun H locs hw => ?_)
  have hA : zAr Sa1161 (zsR Sa1177 22 q1172 (upd (zR Sa1177 22 q1172) (1 : Int32).toNatClampNeg 0)) q1172 2 [0, 0] := zAr.st (k := 1) hA kq1172 (by decide) rfl
  generalize (zsR Sa1177 22 q1172 (upd (zR Sa1177 22 q1172) (1 : Int32).toNatClampNeg 0)) = Sa1181 at hw hA
  obtain ⟨hG, hK9, hN9, hA⟩ := hA
  have hj0 : zR Sa1181 22 q1172 0 = 0 := (hA 0 0 rfl).trans rfl
  have hj1 : zR Sa1181 22 q1172 1 = 0 := (hA 1 0 rfl).trans rfl
  have hNw := zNew.gw hG hNw
  refine zcSW_i (As := [.ref (a 0), .int 97, .ref q1172]) (rest := []) (n9 := 3) C hw (c_L_ask_a_sample_r l hst D y base Sa1181 a 0 0 q1172 hNw.1 hNw.2.1 hK9 hN9 hj0 hj1) gL_law_L_ask rfl (by decide +kernel) ⟨⟨rfl, rfl⟩, Nat.le_of_ble_eq_true rfl, Nat.le_of_ble_eq_true rfl⟩ rfl hl.1 rfl (Nat.le_of_ble_eq_true rfl) ⟨Nat.le_of_ble_eq_true rfl, Nat.le_of_ble_eq_true rfl⟩ dL_law_1182 (fun r1182 S1182 H locs hp1182 hw => ?_)
  have h9 : r1182 = (-2000000005) ∧ S1182 = Sa1181 := by
    rcases hp1182 with h | h
    · exact absurd h.1 (by decide +kernel)
    · exact h.2
  obtain ⟨rfl, hS9⟩ := h9
  have hS9 := hS9.symm
  subst hS9
  refine lv_ldc (own := RL) (v := (-2000000005)) hx hb hown (hts (.constant RL 80 (-2000000005)) (by decide +kernel)) dL_law_1185 ?_
  refine lv_icmp_ne (tgt := 1945) hx hb dL_law_1187 (by decide) (fun c1187 => absurd c1187 (by decide)) (fun _ => ?_)
  refine lv_aload_n hx hb dL_law_1190 rfl (lv_at hl 0 rfl) ?_
  refine lv_bipush (v := 114) hx hb dL_law_1191 (by decide) ?_
  refine lv_iconst (v := 2) hx hb dL_law_1193 (by decide) ?_
  refine znewI (N := 2) C hw (by decide +kernel) (by decide) (by decide) (Nat.le_of_ble_eq_true rfl) (Nat.le_of_ble_eq_true rfl) (Nat.le_of_ble_eq_true rfl) dL_law_1194 (fun q1194 H kq1194 hw => ?_)
  have hA : zAr Sa1181 (znR Sa1181 q1194 22 2 (fun _ => 0)) q1194 2 [] := zAr.new kq1194
  generalize (znR Sa1181 q1194 22 2 (fun _ => 0)) = Sa1194 at hw hA
  refine lv_dup hx hb dL_law_1196 rfl ?_
  refine lv_iconst (v := 0) hx hb dL_law_1197 (by decide) ?_
  refine lv_iconst (v := 0) hx hb dL_law_1198 (by decide) ?_
  refine zast_I (a := q1194) C hw hA.2.1 hA.2.2.1 (zin_of (N := 2) (by decide) (by grind) (by grind)) dL_law_1199 (fun H locs hw => ?_)
  have hA : zAr Sa1181 (zsR Sa1194 22 q1194 (upd (zR Sa1194 22 q1194) (0 : Int32).toNatClampNeg 0)) q1194 2 [0] := zAr.st (k := 0) hA kq1194 (by decide) rfl
  generalize (zsR Sa1194 22 q1194 (upd (zR Sa1194 22 q1194) (0 : Int32).toNatClampNeg 0)) = Sa1199 at hw hA
  refine lv_dup hx hb dL_law_1200 rfl ?_
  refine lv_iconst (v := 1) hx hb dL_law_1201 (by decide) ?_
  refine lv_iconst (v := 4) hx hb dL_law_1202 (by decide) ?_
  refine zast_I (a := q1194) C hw hA.2.1 hA.2.2.1 (zin_of (N := 2) (by decide) (by grind) (by grind)) dL_law_1203 (fun H locs hw => ?_)
  have hA : zAr Sa1181 (zsR Sa1199 22 q1194 (upd (zR Sa1199 22 q1194) (1 : Int32).toNatClampNeg 4)) q1194 2 [0, 4] := zAr.st (k := 1) hA kq1194 (by decide) rfl
  generalize (zsR Sa1199 22 q1194 (upd (zR Sa1199 22 q1194) (1 : Int32).toNatClampNeg 4)) = Sa1203 at hw hA
  obtain ⟨hG, hK9, hN9, hA⟩ := hA
  have hj0 : zR Sa1203 22 q1194 0 = 0 := (hA 0 0 rfl).trans rfl
  have hj1 : zR Sa1203 22 q1194 1 = 4 := (hA 1 4 rfl).trans rfl
  have hNw := zNew.gw hG hNw
  refine zcSW_i (As := [.ref (a 0), .int 114, .ref q1194]) (rest := []) (n9 := 3) C hw (c_L_ask_r_runs_r l hst D y base Sa1203 a 0 4 q1194 hNw.1 hNw.2.1 hK9 hN9 hj0 hj1) gL_law_L_ask rfl (by decide +kernel) ⟨⟨rfl, rfl⟩, Nat.le_of_ble_eq_true rfl, Nat.le_of_ble_eq_true rfl⟩ rfl hl.1 rfl (Nat.le_of_ble_eq_true rfl) ⟨Nat.le_of_ble_eq_true rfl, Nat.le_of_ble_eq_true rfl⟩ dL_law_1204 (fun r1204 S1204 H locs hp1204 hw => ?_)
  have h9 : r1204 = (-2000000001) ∧ S1204 = Sa1203 := by
    rcases hp1204 with h | h
    · exact h.2
    · exact absurd h.1 (by decide +kernel)
  obtain ⟨rfl, hS9⟩ := h9
  have hS9 := hS9.symm
  subst hS9
  refine lv_ldc (own := RL) (v := (-2000000001)) hx hb hown (hts (.constant RL 68 (-2000000001)) (by decide +kernel)) dL_law_1207 ?_
  refine lv_icmp_ne (tgt := 1945) hx hb dL_law_1209 (by decide) (fun c1209 => absurd c1209 (by decide)) (fun _ => ?_)
  refine lv_aload_n hx hb dL_law_1212 rfl (lv_at hl 0 rfl) ?_
  refine lv_bipush (v := 114) hx hb dL_law_1213 (by decide) ?_
  refine lv_iconst (v := 2) hx hb dL_law_1215 (by decide) ?_
  refine znewI (N := 2) C hw (by decide +kernel) (by decide) (by decide) (Nat.le_of_ble_eq_true rfl) (Nat.le_of_ble_eq_true rfl) (Nat.le_of_ble_eq_true rfl) dL_law_1216 (fun q1216 H kq1216 hw => ?_)
  have hA : zAr Sa1203 (znR Sa1203 q1216 22 2 (fun _ => 0)) q1216 2 [] := zAr.new kq1216
  generalize (znR Sa1203 q1216 22 2 (fun _ => 0)) = Sa1216 at hw hA
  refine lv_dup hx hb dL_law_1218 rfl ?_
  refine lv_iconst (v := 0) hx hb dL_law_1219 (by decide) ?_
  refine lv_iconst (v := 0) hx hb dL_law_1220 (by decide) ?_
  refine zast_I (a := q1216) C hw hA.2.1 hA.2.2.1 (zin_of (N := 2) (by decide) (by grind) (by grind)) dL_law_1221 (fun H locs hw => ?_)
  have hA : zAr Sa1203 (zsR Sa1216 22 q1216 (upd (zR Sa1216 22 q1216) (0 : Int32).toNatClampNeg 0)) q1216 2 [0] := zAr.st (k := 0) hA kq1216 (by decide) rfl
  generalize (zsR Sa1216 22 q1216 (upd (zR Sa1216 22 q1216) (0 : Int32).toNatClampNeg 0)) = Sa1221 at hw hA
  refine lv_dup hx hb dL_law_1222 rfl ?_
  refine lv_iconst (v := 1) hx hb dL_law_1223 (by decide) ?_
  refine lv_iconst (v := 0) hx hb dL_law_1224 (by decide) ?_
  refine zast_I (a := q1216) C hw hA.2.1 hA.2.2.1 (zin_of (N := 2) (by decide) (by grind) (by grind)) dL_law_1225 (fun H locs hw => ?_)
  have hA : zAr Sa1203 (zsR Sa1221 22 q1216 (upd (zR Sa1221 22 q1216) (1 : Int32).toNatClampNeg 0)) q1216 2 [0, 0] := zAr.st (k := 1) hA kq1216 (by decide) rfl
  generalize (zsR Sa1221 22 q1216 (upd (zR Sa1221 22 q1216) (1 : Int32).toNatClampNeg 0)) = Sa1225 at hw hA
  obtain ⟨hG, hK9, hN9, hA⟩ := hA
  have hj0 : zR Sa1225 22 q1216 0 = 0 := (hA 0 0 rfl).trans rfl
  have hj1 : zR Sa1225 22 q1216 1 = 0 := (hA 1 0 rfl).trans rfl
  have hNw := zNew.gw hG hNw
  refine zcSW_i (As := [.ref (a 0), .int 114, .ref q1216]) (rest := []) (n9 := 3) C hw (c_L_ask_r_runs_r l hst D y base Sa1225 a 0 0 q1216 hNw.1 hNw.2.1 hK9 hN9 hj0 hj1) gL_law_L_ask rfl (by decide +kernel) ⟨⟨rfl, rfl⟩, Nat.le_of_ble_eq_true rfl, Nat.le_of_ble_eq_true rfl⟩ rfl hl.1 rfl (Nat.le_of_ble_eq_true rfl) ⟨Nat.le_of_ble_eq_true rfl, Nat.le_of_ble_eq_true rfl⟩ dL_law_1226 (fun r1226 S1226 H locs hp1226 hw => ?_)
  have h9 : r1226 = (0) ∧ S1226 = Sa1225 := by
    rcases hp1226 with h | h
    · exact absurd h.1 (by decide +kernel)
    · exact h.2
  obtain ⟨rfl, hS9⟩ := h9
  have hS9 := hS9.symm
  subst hS9
  refine lv_if_ne (tgt := 1945) hx hb dL_law_1229 (by decide) (fun c1229 => absurd c1229 (by decide)) (fun _ => ?_)
  exact law_part_4 hst C hr hlocks hy31 hNw hDs hbase hw hl

set_option maxHeartbeats 4000000 in
set_option maxRecDepth 100000 in
theorem law_part_2 {p : Program} {l : Launch} {e : Env} {s : State} {m : MethodId} {below : List Frame} {meth : Method} {c : Code} {H : Heap} {locs : List Loc} {ls : Array Slot} {D : va_G} {y : Nat → ClassId} {base : Nat} {S : zS} {a : Nat → Nat} {bs : Nat} (hst : l.stackTraces = false) (C : CallFix p m c code 2 s #[Value.ref bs] wsL_law RL) (hr : meth.sig.returnType = ret) (hlocks : meth.locks = false) (hy31 : y 99 < 2 ^ 31) (hNw : zNew S a) (hDs : zDs a) (hbase : base = s.heap.size) (hw : zW D y base S s H locs) (hl : lv_has ls 2 [(1, .ref (a 0)), (0, .ref (y 98))]) : W p l e room_1 s m #[Value.ref bs] below meth c H locs 118 6104 (lw_Z below #[Value.ref bs] s) (F0 m 581 ls []) := by
  have hx := C.1
  have hb := C.2.1
  have hown := C.2.2.2.1
  have hts := C.2.2.2.2
  refine lv_aload_n hx hb dL_law_581 rfl (lv_at hl 0 rfl) ?_
  refine lv_bipush (v := 116) hx hb dL_law_582 (by decide) ?_
  refine lv_bipush (v := 8) hx hb dL_law_584 (by decide) ?_
  refine znewI (N := 8) C hw (by decide +kernel) (by decide) (by decide) (Nat.le_of_ble_eq_true rfl) (Nat.le_of_ble_eq_true rfl) (Nat.le_of_ble_eq_true rfl) dL_law_586 (fun q586 H kq586 hw => ?_)
  have hA : zAr S (znR S q586 22 8 (fun _ => 0)) q586 8 [] := zAr.new kq586
  generalize (znR S q586 22 8 (fun _ => 0)) = Sa586 at hw hA
  refine lv_dup hx hb dL_law_588 rfl ?_
  refine lv_iconst (v := 0) hx hb dL_law_589 (by decide) ?_
  refine lv_iconst (v := 0) hx hb dL_law_590 (by decide) ?_
  refine zast_I (a := q586) C hw hA.2.1 hA.2.2.1 (zin_of (N := 8) (by decide) (by grind) (by grind)) dL_law_591 (fun H locs hw => ?_)
  have hA : zAr S (zsR Sa586 22 q586 (upd (zR Sa586 22 q586) (0 : Int32).toNatClampNeg 0)) q586 8 [0] := zAr.st (k := 0) hA kq586 (by decide) rfl
  generalize (zsR Sa586 22 q586 (upd (zR Sa586 22 q586) (0 : Int32).toNatClampNeg 0)) = Sa591 at hw hA
  refine lv_dup hx hb dL_law_592 rfl ?_
  refine lv_iconst (v := 1) hx hb dL_law_593 (by decide) ?_
  refine lv_iconst (v := 0) hx hb dL_law_594 (by decide) ?_
  refine zast_I (a := q586) C hw hA.2.1 hA.2.2.1 (zin_of (N := 8) (by decide) (by grind) (by grind)) dL_law_595 (fun H locs hw => ?_)
  have hA : zAr S (zsR Sa591 22 q586 (upd (zR Sa591 22 q586) (1 : Int32).toNatClampNeg 0)) q586 8 [0, 0] := zAr.st (k := 1) hA kq586 (by decide) rfl
  generalize (zsR Sa591 22 q586 (upd (zR Sa591 22 q586) (1 : Int32).toNatClampNeg 0)) = Sa595 at hw hA
  refine lv_dup hx hb dL_law_596 rfl ?_
  refine lv_iconst (v := 2) hx hb dL_law_597 (by decide) ?_
  refine lv_iconst (v := 0) hx hb dL_law_598 (by decide) ?_
  refine zast_I (a := q586) C hw hA.2.1 hA.2.2.1 (zin_of (N := 8) (by decide) (by grind) (by grind)) dL_law_599 (fun H locs hw => ?_)
  have hA : zAr S (zsR Sa595 22 q586 (upd (zR Sa595 22 q586) (2 : Int32).toNatClampNeg 0)) q586 8 [0, 0, 0] := zAr.st (k := 2) hA kq586 (by decide) rfl
  generalize (zsR Sa595 22 q586 (upd (zR Sa595 22 q586) (2 : Int32).toNatClampNeg 0)) = Sa599 at hw hA
  refine lv_dup hx hb dL_law_600 rfl ?_
  refine lv_iconst (v := 3) hx hb dL_law_601 (by decide) ?_
  refine lv_iconst (v := 0) hx hb dL_law_602 (by decide) ?_
  refine zast_I (a := q586) C hw hA.2.1 hA.2.2.1 (zin_of (N := 8) (by decide) (by grind) (by grind)) dL_law_603 (fun H locs hw => ?_)
  have hA : zAr S (zsR Sa599 22 q586 (upd (zR Sa599 22 q586) (3 : Int32).toNatClampNeg 0)) q586 8 [0, 0, 0, 0] := zAr.st (k := 3) hA kq586 (by decide) rfl
  generalize (zsR Sa599 22 q586 (upd (zR Sa599 22 q586) (3 : Int32).toNatClampNeg 0)) = Sa603 at hw hA
  refine lv_dup hx hb dL_law_604 rfl ?_
  refine lv_iconst (v := 4) hx hb dL_law_605 (by decide) ?_
  refine lv_iconst (v := 0) hx hb dL_law_606 (by decide) ?_
  refine zast_I (a := q586) C hw hA.2.1 hA.2.2.1 (zin_of (N := 8) (by decide) (by grind) (by grind)) dL_law_607 (fun H locs hw => ?_)
  have hA : zAr S (zsR Sa603 22 q586 (upd (zR Sa603 22 q586) (4 : Int32).toNatClampNeg 0)) q586 8 [0, 0, 0, 0, 0] := zAr.st (k := 4) hA kq586 (by decide) rfl
  generalize (zsR Sa603 22 q586 (upd (zR Sa603 22 q586) (4 : Int32).toNatClampNeg 0)) = Sa607 at hw hA
  refine lv_dup hx hb dL_law_608 rfl ?_
  refine lv_iconst (v := 5) hx hb dL_law_609 (by decide) ?_
  refine lv_iconst (v := 0) hx hb dL_law_610 (by decide) ?_
  refine zast_I (a := q586) C hw hA.2.1 hA.2.2.1 (zin_of (N := 8) (by decide) (by grind) (by grind)) dL_law_611 (fun H locs hw => ?_)
  have hA : zAr S (zsR Sa607 22 q586 (upd (zR Sa607 22 q586) (5 : Int32).toNatClampNeg 0)) q586 8 [0, 0, 0, 0, 0, 0] := zAr.st (k := 5) hA kq586 (by decide) rfl
  generalize (zsR Sa607 22 q586 (upd (zR Sa607 22 q586) (5 : Int32).toNatClampNeg 0)) = Sa611 at hw hA
  refine lv_dup hx hb dL_law_612 rfl ?_
  refine lv_bipush (v := 6) hx hb dL_law_613 (by decide) ?_
  refine lv_iconst (v := 0) hx hb dL_law_615 (by decide) ?_
  refine zast_I (a := q586) C hw hA.2.1 hA.2.2.1 (zin_of (N := 8) (by decide) (by grind) (by grind)) dL_law_616 (fun H locs hw => ?_)
  have hA : zAr S (zsR Sa611 22 q586 (upd (zR Sa611 22 q586) (6 : Int32).toNatClampNeg 0)) q586 8 [0, 0, 0, 0, 0, 0, 0] := zAr.st (k := 6) hA kq586 (by decide) rfl
  generalize (zsR Sa611 22 q586 (upd (zR Sa611 22 q586) (6 : Int32).toNatClampNeg 0)) = Sa616 at hw hA
  refine lv_dup hx hb dL_law_617 rfl ?_
  refine lv_bipush (v := 7) hx hb dL_law_618 (by decide) ?_
  refine lv_iconst (v := 1) hx hb dL_law_620 (by decide) ?_
  refine zast_I (a := q586) C hw hA.2.1 hA.2.2.1 (zin_of (N := 8) (by decide) (by grind) (by grind)) dL_law_621 (fun H locs hw => ?_)
  have hA : zAr S (zsR Sa616 22 q586 (upd (zR Sa616 22 q586) (7 : Int32).toNatClampNeg 1)) q586 8 [0, 0, 0, 0, 0, 0, 0, 1] := zAr.st (k := 7) hA kq586 (by decide) rfl
  generalize (zsR Sa616 22 q586 (upd (zR Sa616 22 q586) (7 : Int32).toNatClampNeg 1)) = Sa621 at hw hA
  obtain ⟨hG, hK9, hN9, hA⟩ := hA
  have hj0 : zR Sa621 22 q586 0 = 0 := (hA 0 0 rfl).trans rfl
  have hj1 : zR Sa621 22 q586 1 = 0 := (hA 1 0 rfl).trans rfl
  have hj2 : zR Sa621 22 q586 2 = 0 := (hA 2 0 rfl).trans rfl
  have hj3 : zR Sa621 22 q586 3 = 0 := (hA 3 0 rfl).trans rfl
  have hj4 : zR Sa621 22 q586 4 = 0 := (hA 4 0 rfl).trans rfl
  have hj5 : zR Sa621 22 q586 5 = 0 := (hA 5 0 rfl).trans rfl
  have hj6 : zR Sa621 22 q586 6 = 0 := (hA 6 0 rfl).trans rfl
  have hj7 : zR Sa621 22 q586 7 = 1 := (hA 7 1 rfl).trans rfl
  have hNw := zNew.gw hG hNw
  refine zcSW_i (As := [.ref (a 0), .int 116, .ref q586]) (rest := []) (n9 := 3) C hw (c_L_ask_t_twoWires_r l hst D y base Sa621 a 0 0 0 0 0 0 0 1 q586 hNw.1 hNw.2.1 (by decide +kernel) (by decide +kernel) hK9 hN9 hj0 hj1 hj2 hj3 hj4 hj5 hj6 hj7) gL_law_L_ask rfl (by decide +kernel) ⟨⟨rfl, rfl⟩, Nat.le_of_ble_eq_true rfl, Nat.le_of_ble_eq_true rfl⟩ rfl hl.1 rfl (Nat.le_of_ble_eq_true rfl) ⟨Nat.le_of_ble_eq_true rfl, Nat.le_of_ble_eq_true rfl⟩ dL_law_622 (fun r622 S622 H locs hp622 hw => ?_)
  have h9 : r622 = (-2000000002) ∧ S622 = Sa621 := by
    rcases hp622 with h | h
    · exact absurd h.1 (by decide +kernel)
    · exact h.2
  obtain ⟨rfl, hS9⟩ := h9
  have hS9 := hS9.symm
  subst hS9
  refine lv_ldc (own := RL) (v := (-2000000002)) hx hb hown (hts (.constant RL 71 (-2000000002)) (by decide +kernel)) dL_law_625 ?_
  refine lv_icmp_ne (tgt := 1945) hx hb dL_law_627 (by decide) (fun c627 => absurd c627 (by decide)) (fun _ => ?_)
  refine lv_aload_n hx hb dL_law_630 rfl (lv_at hl 0 rfl) ?_
  refine lv_bipush (v := 116) hx hb dL_law_631 (by decide) ?_
  refine lv_bipush (v := 8) hx hb dL_law_633 (by decide) ?_
  refine znewI (N := 8) C hw (by decide +kernel) (by decide) (by decide) (Nat.le_of_ble_eq_true rfl) (Nat.le_of_ble_eq_true rfl) (Nat.le_of_ble_eq_true rfl) dL_law_635 (fun q635 H kq635 hw => ?_)
  have hA : zAr Sa621 (znR Sa621 q635 22 8 (fun _ => 0)) q635 8 [] := zAr.new kq635
  generalize (znR Sa621 q635 22 8 (fun _ => 0)) = Sa635 at hw hA
  refine lv_dup hx hb dL_law_637 rfl ?_
  refine lv_iconst (v := 0) hx hb dL_law_638 (by decide) ?_
  refine lv_iconst (v := 0) hx hb dL_law_639 (by decide) ?_
  refine zast_I (a := q635) C hw hA.2.1 hA.2.2.1 (zin_of (N := 8) (by decide) (by grind) (by grind)) dL_law_640 (fun H locs hw => ?_)
  have hA : zAr Sa621 (zsR Sa635 22 q635 (upd (zR Sa635 22 q635) (0 : Int32).toNatClampNeg 0)) q635 8 [0] := zAr.st (k := 0) hA kq635 (by decide) rfl
  generalize (zsR Sa635 22 q635 (upd (zR Sa635 22 q635) (0 : Int32).toNatClampNeg 0)) = Sa640 at hw hA
  refine lv_dup hx hb dL_law_641 rfl ?_
  refine lv_iconst (v := 1) hx hb dL_law_642 (by decide) ?_
  refine lv_iconst (v := 1) hx hb dL_law_643 (by decide) ?_
  refine zast_I (a := q635) C hw hA.2.1 hA.2.2.1 (zin_of (N := 8) (by decide) (by grind) (by grind)) dL_law_644 (fun H locs hw => ?_)
  have hA : zAr Sa621 (zsR Sa640 22 q635 (upd (zR Sa640 22 q635) (1 : Int32).toNatClampNeg 1)) q635 8 [0, 1] := zAr.st (k := 1) hA kq635 (by decide) rfl
  generalize (zsR Sa640 22 q635 (upd (zR Sa640 22 q635) (1 : Int32).toNatClampNeg 1)) = Sa644 at hw hA
  refine lv_dup hx hb dL_law_645 rfl ?_
  refine lv_iconst (v := 2) hx hb dL_law_646 (by decide) ?_
  refine lv_sipush (v := 128) hx hb dL_law_647 (by decide) ?_
  refine zast_I (a := q635) C hw hA.2.1 hA.2.2.1 (zin_of (N := 8) (by decide) (by grind) (by grind)) dL_law_650 (fun H locs hw => ?_)
  have hA : zAr Sa621 (zsR Sa644 22 q635 (upd (zR Sa644 22 q635) (2 : Int32).toNatClampNeg 128)) q635 8 [0, 1, 128] := zAr.st (k := 2) hA kq635 (by decide) rfl
  generalize (zsR Sa644 22 q635 (upd (zR Sa644 22 q635) (2 : Int32).toNatClampNeg 128)) = Sa650 at hw hA
  refine lv_dup hx hb dL_law_651 rfl ?_
  refine lv_iconst (v := 3) hx hb dL_law_652 (by decide) ?_
  refine lv_iconst (v := 0) hx hb dL_law_653 (by decide) ?_
  refine zast_I (a := q635) C hw hA.2.1 hA.2.2.1 (zin_of (N := 8) (by decide) (by grind) (by grind)) dL_law_654 (fun H locs hw => ?_)
  have hA : zAr Sa621 (zsR Sa650 22 q635 (upd (zR Sa650 22 q635) (3 : Int32).toNatClampNeg 0)) q635 8 [0, 1, 128, 0] := zAr.st (k := 3) hA kq635 (by decide) rfl
  generalize (zsR Sa650 22 q635 (upd (zR Sa650 22 q635) (3 : Int32).toNatClampNeg 0)) = Sa654 at hw hA
  refine lv_dup hx hb dL_law_655 rfl ?_
  refine lv_iconst (v := 4) hx hb dL_law_656 (by decide) ?_
  refine lv_iconst (v := 0) hx hb dL_law_657 (by decide) ?_
  refine zast_I (a := q635) C hw hA.2.1 hA.2.2.1 (zin_of (N := 8) (by decide) (by grind) (by grind)) dL_law_658 (fun H locs hw => ?_)
  have hA : zAr Sa621 (zsR Sa654 22 q635 (upd (zR Sa654 22 q635) (4 : Int32).toNatClampNeg 0)) q635 8 [0, 1, 128, 0, 0] := zAr.st (k := 4) hA kq635 (by decide) rfl
  generalize (zsR Sa654 22 q635 (upd (zR Sa654 22 q635) (4 : Int32).toNatClampNeg 0)) = Sa658 at hw hA
  refine lv_dup hx hb dL_law_659 rfl ?_
  refine lv_iconst (v := 5) hx hb dL_law_660 (by decide) ?_
  refine lv_iconst (v := 0) hx hb dL_law_661 (by decide) ?_
  refine zast_I (a := q635) C hw hA.2.1 hA.2.2.1 (zin_of (N := 8) (by decide) (by grind) (by grind)) dL_law_662 (fun H locs hw => ?_)
  have hA : zAr Sa621 (zsR Sa658 22 q635 (upd (zR Sa658 22 q635) (5 : Int32).toNatClampNeg 0)) q635 8 [0, 1, 128, 0, 0, 0] := zAr.st (k := 5) hA kq635 (by decide) rfl
  generalize (zsR Sa658 22 q635 (upd (zR Sa658 22 q635) (5 : Int32).toNatClampNeg 0)) = Sa662 at hw hA
  refine lv_dup hx hb dL_law_663 rfl ?_
  refine lv_bipush (v := 6) hx hb dL_law_664 (by decide) ?_
  refine lv_iconst (v := 0) hx hb dL_law_666 (by decide) ?_
  refine zast_I (a := q635) C hw hA.2.1 hA.2.2.1 (zin_of (N := 8) (by decide) (by grind) (by grind)) dL_law_667 (fun H locs hw => ?_)
  have hA : zAr Sa621 (zsR Sa662 22 q635 (upd (zR Sa662 22 q635) (6 : Int32).toNatClampNeg 0)) q635 8 [0, 1, 128, 0, 0, 0, 0] := zAr.st (k := 6) hA kq635 (by decide) rfl
  generalize (zsR Sa662 22 q635 (upd (zR Sa662 22 q635) (6 : Int32).toNatClampNeg 0)) = Sa667 at hw hA
  refine lv_dup hx hb dL_law_668 rfl ?_
  refine lv_bipush (v := 7) hx hb dL_law_669 (by decide) ?_
  refine lv_iconst (v := 1) hx hb dL_law_671 (by decide) ?_
  refine zast_I (a := q635) C hw hA.2.1 hA.2.2.1 (zin_of (N := 8) (by decide) (by grind) (by grind)) dL_law_672 (fun H locs hw => ?_)
  have hA : zAr Sa621 (zsR Sa667 22 q635 (upd (zR Sa667 22 q635) (7 : Int32).toNatClampNeg 1)) q635 8 [0, 1, 128, 0, 0, 0, 0, 1] := zAr.st (k := 7) hA kq635 (by decide) rfl
  generalize (zsR Sa667 22 q635 (upd (zR Sa667 22 q635) (7 : Int32).toNatClampNeg 1)) = Sa672 at hw hA
  obtain ⟨hG, hK9, hN9, hA⟩ := hA
  have hj0 : zR Sa672 22 q635 0 = 0 := (hA 0 0 rfl).trans rfl
  have hj1 : zR Sa672 22 q635 1 = 1 := (hA 1 1 rfl).trans rfl
  have hj2 : zR Sa672 22 q635 2 = 128 := (hA 2 128 rfl).trans rfl
  have hj3 : zR Sa672 22 q635 3 = 0 := (hA 3 0 rfl).trans rfl
  have hj4 : zR Sa672 22 q635 4 = 0 := (hA 4 0 rfl).trans rfl
  have hj5 : zR Sa672 22 q635 5 = 0 := (hA 5 0 rfl).trans rfl
  have hj6 : zR Sa672 22 q635 6 = 0 := (hA 6 0 rfl).trans rfl
  have hj7 : zR Sa672 22 q635 7 = 1 := (hA 7 1 rfl).trans rfl
  have hNw := zNew.gw hG hNw
  refine zcSW_i (As := [.ref (a 0), .int 116, .ref q635]) (rest := []) (n9 := 3) C hw (c_L_ask_t_twoWires_r l hst D y base Sa672 a 0 1 128 0 0 0 0 1 q635 hNw.1 hNw.2.1 (by decide +kernel) (by decide +kernel) hK9 hN9 hj0 hj1 hj2 hj3 hj4 hj5 hj6 hj7) gL_law_L_ask rfl (by decide +kernel) ⟨⟨rfl, rfl⟩, Nat.le_of_ble_eq_true rfl, Nat.le_of_ble_eq_true rfl⟩ rfl hl.1 rfl (Nat.le_of_ble_eq_true rfl) ⟨Nat.le_of_ble_eq_true rfl, Nat.le_of_ble_eq_true rfl⟩ dL_law_673 (fun r673 S673 H locs hp673 hw => ?_)
  have h9 : r673 = (-2000000002) ∧ S673 = Sa672 := by
    rcases hp673 with h | h
    · exact absurd h.1 (by decide +kernel)
    · exact h.2
  obtain ⟨rfl, hS9⟩ := h9
  have hS9 := hS9.symm
  subst hS9
  refine lv_ldc (own := RL) (v := (-2000000002)) hx hb hown (hts (.constant RL 71 (-2000000002)) (by decide +kernel)) dL_law_676 ?_
  refine lv_icmp_ne (tgt := 1945) hx hb dL_law_678 (by decide) (fun c678 => absurd c678 (by decide)) (fun _ => ?_)
  refine lv_aload_n hx hb dL_law_681 rfl (lv_at hl 0 rfl) ?_
  refine lv_bipush (v := 116) hx hb dL_law_682 (by decide) ?_
  refine lv_bipush (v := 8) hx hb dL_law_684 (by decide) ?_
  refine znewI (N := 8) C hw (by decide +kernel) (by decide) (by decide) (Nat.le_of_ble_eq_true rfl) (Nat.le_of_ble_eq_true rfl) (Nat.le_of_ble_eq_true rfl) dL_law_686 (fun q686 H kq686 hw => ?_)
  have hA : zAr Sa672 (znR Sa672 q686 22 8 (fun _ => 0)) q686 8 [] := zAr.new kq686
  generalize (znR Sa672 q686 22 8 (fun _ => 0)) = Sa686 at hw hA
  refine lv_dup hx hb dL_law_688 rfl ?_
  refine lv_iconst (v := 0) hx hb dL_law_689 (by decide) ?_
  refine lv_iconst (v := 0) hx hb dL_law_690 (by decide) ?_
  refine zast_I (a := q686) C hw hA.2.1 hA.2.2.1 (zin_of (N := 8) (by decide) (by grind) (by grind)) dL_law_691 (fun H locs hw => ?_)
  have hA : zAr Sa672 (zsR Sa686 22 q686 (upd (zR Sa686 22 q686) (0 : Int32).toNatClampNeg 0)) q686 8 [0] := zAr.st (k := 0) hA kq686 (by decide) rfl
  generalize (zsR Sa686 22 q686 (upd (zR Sa686 22 q686) (0 : Int32).toNatClampNeg 0)) = Sa691 at hw hA
  refine lv_dup hx hb dL_law_692 rfl ?_
  refine lv_iconst (v := 1) hx hb dL_law_693 (by decide) ?_
  refine lv_iconst (v := 1) hx hb dL_law_694 (by decide) ?_
  refine zast_I (a := q686) C hw hA.2.1 hA.2.2.1 (zin_of (N := 8) (by decide) (by grind) (by grind)) dL_law_695 (fun H locs hw => ?_)
  have hA : zAr Sa672 (zsR Sa691 22 q686 (upd (zR Sa691 22 q686) (1 : Int32).toNatClampNeg 1)) q686 8 [0, 1] := zAr.st (k := 1) hA kq686 (by decide) rfl
  generalize (zsR Sa691 22 q686 (upd (zR Sa691 22 q686) (1 : Int32).toNatClampNeg 1)) = Sa695 at hw hA
  refine lv_dup hx hb dL_law_696 rfl ?_
  refine lv_iconst (v := 2) hx hb dL_law_697 (by decide) ?_
  refine lv_iconst (v := 0) hx hb dL_law_698 (by decide) ?_
  refine zast_I (a := q686) C hw hA.2.1 hA.2.2.1 (zin_of (N := 8) (by decide) (by grind) (by grind)) dL_law_699 (fun H locs hw => ?_)
  have hA : zAr Sa672 (zsR Sa695 22 q686 (upd (zR Sa695 22 q686) (2 : Int32).toNatClampNeg 0)) q686 8 [0, 1, 0] := zAr.st (k := 2) hA kq686 (by decide) rfl
  generalize (zsR Sa695 22 q686 (upd (zR Sa695 22 q686) (2 : Int32).toNatClampNeg 0)) = Sa699 at hw hA
  refine lv_dup hx hb dL_law_700 rfl ?_
  refine lv_iconst (v := 3) hx hb dL_law_701 (by decide) ?_
  refine lv_iconst (v := 0) hx hb dL_law_702 (by decide) ?_
  refine zast_I (a := q686) C hw hA.2.1 hA.2.2.1 (zin_of (N := 8) (by decide) (by grind) (by grind)) dL_law_703 (fun H locs hw => ?_)
  have hA : zAr Sa672 (zsR Sa699 22 q686 (upd (zR Sa699 22 q686) (3 : Int32).toNatClampNeg 0)) q686 8 [0, 1, 0, 0] := zAr.st (k := 3) hA kq686 (by decide) rfl
  generalize (zsR Sa699 22 q686 (upd (zR Sa699 22 q686) (3 : Int32).toNatClampNeg 0)) = Sa703 at hw hA
  refine lv_dup hx hb dL_law_704 rfl ?_
  refine lv_iconst (v := 4) hx hb dL_law_705 (by decide) ?_
  refine lv_bipush (v := 16) hx hb dL_law_706 (by decide) ?_
  refine zast_I (a := q686) C hw hA.2.1 hA.2.2.1 (zin_of (N := 8) (by decide) (by grind) (by grind)) dL_law_708 (fun H locs hw => ?_)
  have hA : zAr Sa672 (zsR Sa703 22 q686 (upd (zR Sa703 22 q686) (4 : Int32).toNatClampNeg 16)) q686 8 [0, 1, 0, 0, 16] := zAr.st (k := 4) hA kq686 (by decide) rfl
  generalize (zsR Sa703 22 q686 (upd (zR Sa703 22 q686) (4 : Int32).toNatClampNeg 16)) = Sa708 at hw hA
  refine lv_dup hx hb dL_law_709 rfl ?_
  refine lv_iconst (v := 5) hx hb dL_law_710 (by decide) ?_
  refine lv_iconst (v := 0) hx hb dL_law_711 (by decide) ?_
  refine zast_I (a := q686) C hw hA.2.1 hA.2.2.1 (zin_of (N := 8) (by decide) (by grind) (by grind)) dL_law_712 (fun H locs hw => ?_)
  have hA : zAr Sa672 (zsR Sa708 22 q686 (upd (zR Sa708 22 q686) (5 : Int32).toNatClampNeg 0)) q686 8 [0, 1, 0, 0, 16, 0] := zAr.st (k := 5) hA kq686 (by decide) rfl
  generalize (zsR Sa708 22 q686 (upd (zR Sa708 22 q686) (5 : Int32).toNatClampNeg 0)) = Sa712 at hw hA
  refine lv_dup hx hb dL_law_713 rfl ?_
  refine lv_bipush (v := 6) hx hb dL_law_714 (by decide) ?_
  refine lv_iconst (v := 0) hx hb dL_law_716 (by decide) ?_
  refine zast_I (a := q686) C hw hA.2.1 hA.2.2.1 (zin_of (N := 8) (by decide) (by grind) (by grind)) dL_law_717 (fun H locs hw => ?_)
  have hA : zAr Sa672 (zsR Sa712 22 q686 (upd (zR Sa712 22 q686) (6 : Int32).toNatClampNeg 0)) q686 8 [0, 1, 0, 0, 16, 0, 0] := zAr.st (k := 6) hA kq686 (by decide) rfl
  generalize (zsR Sa712 22 q686 (upd (zR Sa712 22 q686) (6 : Int32).toNatClampNeg 0)) = Sa717 at hw hA
  refine lv_dup hx hb dL_law_718 rfl ?_
  refine lv_bipush (v := 7) hx hb dL_law_719 (by decide) ?_
  refine lv_iconst (v := 1) hx hb dL_law_721 (by decide) ?_
  refine zast_I (a := q686) C hw hA.2.1 hA.2.2.1 (zin_of (N := 8) (by decide) (by grind) (by grind)) dL_law_722 (fun H locs hw => ?_)
  have hA : zAr Sa672 (zsR Sa717 22 q686 (upd (zR Sa717 22 q686) (7 : Int32).toNatClampNeg 1)) q686 8 [0, 1, 0, 0, 16, 0, 0, 1] := zAr.st (k := 7) hA kq686 (by decide) rfl
  generalize (zsR Sa717 22 q686 (upd (zR Sa717 22 q686) (7 : Int32).toNatClampNeg 1)) = Sa722 at hw hA
  obtain ⟨hG, hK9, hN9, hA⟩ := hA
  have hj0 : zR Sa722 22 q686 0 = 0 := (hA 0 0 rfl).trans rfl
  have hj1 : zR Sa722 22 q686 1 = 1 := (hA 1 1 rfl).trans rfl
  have hj2 : zR Sa722 22 q686 2 = 0 := (hA 2 0 rfl).trans rfl
  have hj3 : zR Sa722 22 q686 3 = 0 := (hA 3 0 rfl).trans rfl
  have hj4 : zR Sa722 22 q686 4 = 16 := (hA 4 16 rfl).trans rfl
  have hj5 : zR Sa722 22 q686 5 = 0 := (hA 5 0 rfl).trans rfl
  have hj6 : zR Sa722 22 q686 6 = 0 := (hA 6 0 rfl).trans rfl
  have hj7 : zR Sa722 22 q686 7 = 1 := (hA 7 1 rfl).trans rfl
  have hNw := zNew.gw hG hNw
  refine zcSW_i (As := [.ref (a 0), .int 116, .ref q686]) (rest := []) (n9 := 3) C hw (c_L_ask_t_twoWires_r l hst D y base Sa722 a 0 1 0 0 16 0 0 1 q686 hNw.1 hNw.2.1 (by decide +kernel) (by decide +kernel) hK9 hN9 hj0 hj1 hj2 hj3 hj4 hj5 hj6 hj7) gL_law_L_ask rfl (by decide +kernel) ⟨⟨rfl, rfl⟩, Nat.le_of_ble_eq_true rfl, Nat.le_of_ble_eq_true rfl⟩ rfl hl.1 rfl (Nat.le_of_ble_eq_true rfl) ⟨Nat.le_of_ble_eq_true rfl, Nat.le_of_ble_eq_true rfl⟩ dL_law_723 (fun r723 S723 H locs hp723 hw => ?_)
  have h9 : r723 = (-2000000002) ∧ S723 = Sa722 := by
    rcases hp723 with h | h
    · exact absurd h.1 (by decide +kernel)
    · exact h.2
  obtain ⟨rfl, hS9⟩ := h9
  have hS9 := hS9.symm
  subst hS9
  refine lv_ldc (own := RL) (v := (-2000000002)) hx hb hown (hts (.constant RL 71 (-2000000002)) (by decide +kernel)) dL_law_726 ?_
  refine lv_icmp_ne (tgt := 1945) hx hb dL_law_728 (by decide) (fun c728 => absurd c728 (by decide)) (fun _ => ?_)
  refine lv_aload_n hx hb dL_law_731 rfl (lv_at hl 0 rfl) ?_
  refine lv_bipush (v := 116) hx hb dL_law_732 (by decide) ?_
  refine lv_bipush (v := 8) hx hb dL_law_734 (by decide) ?_
  refine znewI (N := 8) C hw (by decide +kernel) (by decide) (by decide) (Nat.le_of_ble_eq_true rfl) (Nat.le_of_ble_eq_true rfl) (Nat.le_of_ble_eq_true rfl) dL_law_736 (fun q736 H kq736 hw => ?_)
  have hA : zAr Sa722 (znR Sa722 q736 22 8 (fun _ => 0)) q736 8 [] := zAr.new kq736
  generalize (znR Sa722 q736 22 8 (fun _ => 0)) = Sa736 at hw hA
  refine lv_dup hx hb dL_law_738 rfl ?_
  refine lv_iconst (v := 0) hx hb dL_law_739 (by decide) ?_
  refine lv_iconst (v := 0) hx hb dL_law_740 (by decide) ?_
  refine zast_I (a := q736) C hw hA.2.1 hA.2.2.1 (zin_of (N := 8) (by decide) (by grind) (by grind)) dL_law_741 (fun H locs hw => ?_)
  have hA : zAr Sa722 (zsR Sa736 22 q736 (upd (zR Sa736 22 q736) (0 : Int32).toNatClampNeg 0)) q736 8 [0] := zAr.st (k := 0) hA kq736 (by decide) rfl
  generalize (zsR Sa736 22 q736 (upd (zR Sa736 22 q736) (0 : Int32).toNatClampNeg 0)) = Sa741 at hw hA
  refine lv_dup hx hb dL_law_742 rfl ?_
  refine lv_iconst (v := 1) hx hb dL_law_743 (by decide) ?_
  refine lv_iconst (v := 1) hx hb dL_law_744 (by decide) ?_
  refine zast_I (a := q736) C hw hA.2.1 hA.2.2.1 (zin_of (N := 8) (by decide) (by grind) (by grind)) dL_law_745 (fun H locs hw => ?_)
  have hA : zAr Sa722 (zsR Sa741 22 q736 (upd (zR Sa741 22 q736) (1 : Int32).toNatClampNeg 1)) q736 8 [0, 1] := zAr.st (k := 1) hA kq736 (by decide) rfl
  generalize (zsR Sa741 22 q736 (upd (zR Sa741 22 q736) (1 : Int32).toNatClampNeg 1)) = Sa745 at hw hA
  refine lv_dup hx hb dL_law_746 rfl ?_
  refine lv_iconst (v := 2) hx hb dL_law_747 (by decide) ?_
  refine lv_iconst (v := 0) hx hb dL_law_748 (by decide) ?_
  refine zast_I (a := q736) C hw hA.2.1 hA.2.2.1 (zin_of (N := 8) (by decide) (by grind) (by grind)) dL_law_749 (fun H locs hw => ?_)
  have hA : zAr Sa722 (zsR Sa745 22 q736 (upd (zR Sa745 22 q736) (2 : Int32).toNatClampNeg 0)) q736 8 [0, 1, 0] := zAr.st (k := 2) hA kq736 (by decide) rfl
  generalize (zsR Sa745 22 q736 (upd (zR Sa745 22 q736) (2 : Int32).toNatClampNeg 0)) = Sa749 at hw hA
  refine lv_dup hx hb dL_law_750 rfl ?_
  refine lv_iconst (v := 3) hx hb dL_law_751 (by decide) ?_
  refine lv_iconst (v := 0) hx hb dL_law_752 (by decide) ?_
  refine zast_I (a := q736) C hw hA.2.1 hA.2.2.1 (zin_of (N := 8) (by decide) (by grind) (by grind)) dL_law_753 (fun H locs hw => ?_)
  have hA : zAr Sa722 (zsR Sa749 22 q736 (upd (zR Sa749 22 q736) (3 : Int32).toNatClampNeg 0)) q736 8 [0, 1, 0, 0] := zAr.st (k := 3) hA kq736 (by decide) rfl
  generalize (zsR Sa749 22 q736 (upd (zR Sa749 22 q736) (3 : Int32).toNatClampNeg 0)) = Sa753 at hw hA
  refine lv_dup hx hb dL_law_754 rfl ?_
  refine lv_iconst (v := 4) hx hb dL_law_755 (by decide) ?_
  refine lv_iconst (v := 0) hx hb dL_law_756 (by decide) ?_
  refine zast_I (a := q736) C hw hA.2.1 hA.2.2.1 (zin_of (N := 8) (by decide) (by grind) (by grind)) dL_law_757 (fun H locs hw => ?_)
  have hA : zAr Sa722 (zsR Sa753 22 q736 (upd (zR Sa753 22 q736) (4 : Int32).toNatClampNeg 0)) q736 8 [0, 1, 0, 0, 0] := zAr.st (k := 4) hA kq736 (by decide) rfl
  generalize (zsR Sa753 22 q736 (upd (zR Sa753 22 q736) (4 : Int32).toNatClampNeg 0)) = Sa757 at hw hA
  refine lv_dup hx hb dL_law_758 rfl ?_
  refine lv_iconst (v := 5) hx hb dL_law_759 (by decide) ?_
  refine lv_iconst (v := 0) hx hb dL_law_760 (by decide) ?_
  refine zast_I (a := q736) C hw hA.2.1 hA.2.2.1 (zin_of (N := 8) (by decide) (by grind) (by grind)) dL_law_761 (fun H locs hw => ?_)
  have hA : zAr Sa722 (zsR Sa757 22 q736 (upd (zR Sa757 22 q736) (5 : Int32).toNatClampNeg 0)) q736 8 [0, 1, 0, 0, 0, 0] := zAr.st (k := 5) hA kq736 (by decide) rfl
  generalize (zsR Sa757 22 q736 (upd (zR Sa757 22 q736) (5 : Int32).toNatClampNeg 0)) = Sa761 at hw hA
  refine lv_dup hx hb dL_law_762 rfl ?_
  refine lv_bipush (v := 6) hx hb dL_law_763 (by decide) ?_
  refine lv_iconst (v := 0) hx hb dL_law_765 (by decide) ?_
  refine zast_I (a := q736) C hw hA.2.1 hA.2.2.1 (zin_of (N := 8) (by decide) (by grind) (by grind)) dL_law_766 (fun H locs hw => ?_)
  have hA : zAr Sa722 (zsR Sa761 22 q736 (upd (zR Sa761 22 q736) (6 : Int32).toNatClampNeg 0)) q736 8 [0, 1, 0, 0, 0, 0, 0] := zAr.st (k := 6) hA kq736 (by decide) rfl
  generalize (zsR Sa761 22 q736 (upd (zR Sa761 22 q736) (6 : Int32).toNatClampNeg 0)) = Sa766 at hw hA
  refine lv_dup hx hb dL_law_767 rfl ?_
  refine lv_bipush (v := 7) hx hb dL_law_768 (by decide) ?_
  refine lv_bipush (v := 51) hx hb dL_law_770 (by decide) ?_
  refine zast_I (a := q736) C hw hA.2.1 hA.2.2.1 (zin_of (N := 8) (by decide) (by grind) (by grind)) dL_law_772 (fun H locs hw => ?_)
  have hA : zAr Sa722 (zsR Sa766 22 q736 (upd (zR Sa766 22 q736) (7 : Int32).toNatClampNeg 51)) q736 8 [0, 1, 0, 0, 0, 0, 0, 51] := zAr.st (k := 7) hA kq736 (by decide) rfl
  generalize (zsR Sa766 22 q736 (upd (zR Sa766 22 q736) (7 : Int32).toNatClampNeg 51)) = Sa772 at hw hA
  obtain ⟨hG, hK9, hN9, hA⟩ := hA
  have hj0 : zR Sa772 22 q736 0 = 0 := (hA 0 0 rfl).trans rfl
  have hj1 : zR Sa772 22 q736 1 = 1 := (hA 1 1 rfl).trans rfl
  have hj2 : zR Sa772 22 q736 2 = 0 := (hA 2 0 rfl).trans rfl
  have hj3 : zR Sa772 22 q736 3 = 0 := (hA 3 0 rfl).trans rfl
  have hj4 : zR Sa772 22 q736 4 = 0 := (hA 4 0 rfl).trans rfl
  have hj5 : zR Sa772 22 q736 5 = 0 := (hA 5 0 rfl).trans rfl
  have hj6 : zR Sa772 22 q736 6 = 0 := (hA 6 0 rfl).trans rfl
  have hj7 : zR Sa772 22 q736 7 = 51 := (hA 7 51 rfl).trans rfl
  have hNw := zNew.gw hG hNw
  refine zcSW_i (As := [.ref (a 0), .int 116, .ref q736]) (rest := []) (n9 := 3) C hw (c_L_ask_t_twoWires_r l hst D y base Sa772 a 0 1 0 0 0 0 0 51 q736 hNw.1 hNw.2.1 (by decide +kernel) (by decide +kernel) hK9 hN9 hj0 hj1 hj2 hj3 hj4 hj5 hj6 hj7) gL_law_L_ask rfl (by decide +kernel) ⟨⟨rfl, rfl⟩, Nat.le_of_ble_eq_true rfl, Nat.le_of_ble_eq_true rfl⟩ rfl hl.1 rfl (Nat.le_of_ble_eq_true rfl) ⟨Nat.le_of_ble_eq_true rfl, Nat.le_of_ble_eq_true rfl⟩ dL_law_773 (fun r773 S773 H locs hp773 hw => ?_)
  have h9 : r773 = (-2000000002) ∧ S773 = Sa772 := by
    rcases hp773 with h | h
    · exact absurd h.1 (by decide +kernel)
    · exact h.2
  obtain ⟨rfl, hS9⟩ := h9
  have hS9 := hS9.symm
  subst hS9
  refine lv_ldc (own := RL) (v := (-2000000002)) hx hb hown (hts (.constant RL 71 (-2000000002)) (by decide +kernel)) dL_law_776 ?_
  refine lv_icmp_ne (tgt := 1945) hx hb dL_law_778 (by decide) (fun c778 => absurd c778 (by decide)) (fun _ => ?_)
  refine lv_aload_n hx hb dL_law_781 rfl (lv_at hl 0 rfl) ?_
  refine lv_bipush (v := 116) hx hb dL_law_782 (by decide) ?_
  refine lv_bipush (v := 8) hx hb dL_law_784 (by decide) ?_
  refine znewI (N := 8) C hw (by decide +kernel) (by decide) (by decide) (Nat.le_of_ble_eq_true rfl) (Nat.le_of_ble_eq_true rfl) (Nat.le_of_ble_eq_true rfl) dL_law_786 (fun q786 H kq786 hw => ?_)
  have hA : zAr Sa772 (znR Sa772 q786 22 8 (fun _ => 0)) q786 8 [] := zAr.new kq786
  generalize (znR Sa772 q786 22 8 (fun _ => 0)) = Sa786 at hw hA
  refine lv_dup hx hb dL_law_788 rfl ?_
  refine lv_iconst (v := 0) hx hb dL_law_789 (by decide) ?_
  refine lv_iconst (v := 0) hx hb dL_law_790 (by decide) ?_
  refine zast_I (a := q786) C hw hA.2.1 hA.2.2.1 (zin_of (N := 8) (by decide) (by grind) (by grind)) dL_law_791 (fun H locs hw => ?_)
  have hA : zAr Sa772 (zsR Sa786 22 q786 (upd (zR Sa786 22 q786) (0 : Int32).toNatClampNeg 0)) q786 8 [0] := zAr.st (k := 0) hA kq786 (by decide) rfl
  generalize (zsR Sa786 22 q786 (upd (zR Sa786 22 q786) (0 : Int32).toNatClampNeg 0)) = Sa791 at hw hA
  refine lv_dup hx hb dL_law_792 rfl ?_
  refine lv_iconst (v := 1) hx hb dL_law_793 (by decide) ?_
  refine lv_iconst (v := 1) hx hb dL_law_794 (by decide) ?_
  refine zast_I (a := q786) C hw hA.2.1 hA.2.2.1 (zin_of (N := 8) (by decide) (by grind) (by grind)) dL_law_795 (fun H locs hw => ?_)
  have hA : zAr Sa772 (zsR Sa791 22 q786 (upd (zR Sa791 22 q786) (1 : Int32).toNatClampNeg 1)) q786 8 [0, 1] := zAr.st (k := 1) hA kq786 (by decide) rfl
  generalize (zsR Sa791 22 q786 (upd (zR Sa791 22 q786) (1 : Int32).toNatClampNeg 1)) = Sa795 at hw hA
  refine lv_dup hx hb dL_law_796 rfl ?_
  refine lv_iconst (v := 2) hx hb dL_law_797 (by decide) ?_
  refine lv_iconst (v := 0) hx hb dL_law_798 (by decide) ?_
  refine zast_I (a := q786) C hw hA.2.1 hA.2.2.1 (zin_of (N := 8) (by decide) (by grind) (by grind)) dL_law_799 (fun H locs hw => ?_)
  have hA : zAr Sa772 (zsR Sa795 22 q786 (upd (zR Sa795 22 q786) (2 : Int32).toNatClampNeg 0)) q786 8 [0, 1, 0] := zAr.st (k := 2) hA kq786 (by decide) rfl
  generalize (zsR Sa795 22 q786 (upd (zR Sa795 22 q786) (2 : Int32).toNatClampNeg 0)) = Sa799 at hw hA
  refine lv_dup hx hb dL_law_800 rfl ?_
  refine lv_iconst (v := 3) hx hb dL_law_801 (by decide) ?_
  refine lv_iconst (v := 0) hx hb dL_law_802 (by decide) ?_
  refine zast_I (a := q786) C hw hA.2.1 hA.2.2.1 (zin_of (N := 8) (by decide) (by grind) (by grind)) dL_law_803 (fun H locs hw => ?_)
  have hA : zAr Sa772 (zsR Sa799 22 q786 (upd (zR Sa799 22 q786) (3 : Int32).toNatClampNeg 0)) q786 8 [0, 1, 0, 0] := zAr.st (k := 3) hA kq786 (by decide) rfl
  generalize (zsR Sa799 22 q786 (upd (zR Sa799 22 q786) (3 : Int32).toNatClampNeg 0)) = Sa803 at hw hA
  refine lv_dup hx hb dL_law_804 rfl ?_
  refine lv_iconst (v := 4) hx hb dL_law_805 (by decide) ?_
  refine lv_iconst (v := 0) hx hb dL_law_806 (by decide) ?_
  refine zast_I (a := q786) C hw hA.2.1 hA.2.2.1 (zin_of (N := 8) (by decide) (by grind) (by grind)) dL_law_807 (fun H locs hw => ?_)
  have hA : zAr Sa772 (zsR Sa803 22 q786 (upd (zR Sa803 22 q786) (4 : Int32).toNatClampNeg 0)) q786 8 [0, 1, 0, 0, 0] := zAr.st (k := 4) hA kq786 (by decide) rfl
  generalize (zsR Sa803 22 q786 (upd (zR Sa803 22 q786) (4 : Int32).toNatClampNeg 0)) = Sa807 at hw hA
  refine lv_dup hx hb dL_law_808 rfl ?_
  refine lv_iconst (v := 5) hx hb dL_law_809 (by decide) ?_
  refine lv_iconst (v := 0) hx hb dL_law_810 (by decide) ?_
  refine zast_I (a := q786) C hw hA.2.1 hA.2.2.1 (zin_of (N := 8) (by decide) (by grind) (by grind)) dL_law_811 (fun H locs hw => ?_)
  have hA : zAr Sa772 (zsR Sa807 22 q786 (upd (zR Sa807 22 q786) (5 : Int32).toNatClampNeg 0)) q786 8 [0, 1, 0, 0, 0, 0] := zAr.st (k := 5) hA kq786 (by decide) rfl
  generalize (zsR Sa807 22 q786 (upd (zR Sa807 22 q786) (5 : Int32).toNatClampNeg 0)) = Sa811 at hw hA
  refine lv_dup hx hb dL_law_812 rfl ?_
  refine lv_bipush (v := 6) hx hb dL_law_813 (by decide) ?_
  refine lv_sipush (v := 9990) hx hb dL_law_815 (by decide) ?_
  refine zast_I (a := q786) C hw hA.2.1 hA.2.2.1 (zin_of (N := 8) (by decide) (by grind) (by grind)) dL_law_818 (fun H locs hw => ?_)
  have hA : zAr Sa772 (zsR Sa811 22 q786 (upd (zR Sa811 22 q786) (6 : Int32).toNatClampNeg 9990)) q786 8 [0, 1, 0, 0, 0, 0, 9990] := zAr.st (k := 6) hA kq786 (by decide) rfl
  generalize (zsR Sa811 22 q786 (upd (zR Sa811 22 q786) (6 : Int32).toNatClampNeg 9990)) = Sa818 at hw hA
  refine lv_dup hx hb dL_law_819 rfl ?_
  refine lv_bipush (v := 7) hx hb dL_law_820 (by decide) ?_
  refine lv_iconst (v := 1) hx hb dL_law_822 (by decide) ?_
  refine zast_I (a := q786) C hw hA.2.1 hA.2.2.1 (zin_of (N := 8) (by decide) (by grind) (by grind)) dL_law_823 (fun H locs hw => ?_)
  have hA : zAr Sa772 (zsR Sa818 22 q786 (upd (zR Sa818 22 q786) (7 : Int32).toNatClampNeg 1)) q786 8 [0, 1, 0, 0, 0, 0, 9990, 1] := zAr.st (k := 7) hA kq786 (by decide) rfl
  generalize (zsR Sa818 22 q786 (upd (zR Sa818 22 q786) (7 : Int32).toNatClampNeg 1)) = Sa823 at hw hA
  obtain ⟨hG, hK9, hN9, hA⟩ := hA
  have hj0 : zR Sa823 22 q786 0 = (nI 0) := (hA 0 0 rfl).trans rfl
  have hj1 : zR Sa823 22 q786 1 = (nI 1) := (hA 1 1 rfl).trans rfl
  have hj2 : zR Sa823 22 q786 2 = (nI 0) := (hA 2 0 rfl).trans rfl
  have hj3 : zR Sa823 22 q786 3 = (zb (false = true)) := (hA 3 0 rfl).trans rfl
  have hj4 : zR Sa823 22 q786 4 = (nI 0) := (hA 4 0 rfl).trans rfl
  have hj5 : zR Sa823 22 q786 5 = (nI 0) := (hA 5 0 rfl).trans rfl
  have hj6 : zR Sa823 22 q786 6 = (nI 9990) := (hA 6 9990 rfl).trans rfl
  have hj7 : zR Sa823 22 q786 7 = (nI 1) := (hA 7 1 rfl).trans rfl
  have hNw := zNew.gw hG hNw
  refine zcSW_i (As := [.ref (a 0), .int 116, .ref q786]) (rest := []) (n9 := 3) C hw (c_L_ask_t_twoWires_n l hst D y base Sa823 a 0 1 0 false 0 0 9990 1 _ _ _ _ _ _ _ q786 hNw.1 hDs (by decide +kernel) (by decide +kernel) (by decide +kernel) (by decide +kernel) (by decide +kernel) (by decide +kernel) (by decide +kernel) (by decide +kernel) (zOb.new hNw) (⟨10000, by decide, by decide +kernel⟩) hK9 hN9 hj0 hj1 hj2 hj3 hj4 hj5 hj6 hj7) gL_law_L_ask rfl (by decide +kernel) ⟨⟨rfl, rfl⟩, Nat.le_of_ble_eq_true rfl, Nat.le_of_ble_eq_true rfl⟩ rfl hl.1 rfl (Nat.le_of_ble_eq_true rfl) ⟨Nat.le_of_ble_eq_true rfl, Nat.le_of_ble_eq_true rfl⟩ dL_law_824 (fun r824 S824 H locs hp824 hw => ?_)
  obtain ⟨rfl, hLt⟩ := hp824
  have hNw := zNew.late hDs hNw hLt
  refine lv_ldc (own := RL) (v := (-2000000003)) hx hb hown (hts (.constant RL 74 (-2000000003)) (by decide +kernel)) dL_law_827 ?_
  refine lv_icmp_ne (tgt := 1945) hx hb dL_law_829 (by decide) (fun c829 => absurd c829 (by decide)) (fun _ => ?_)
  refine lv_aload_n hx hb dL_law_832 rfl (lv_at hl 0 rfl) ?_
  refine lv_bipush (v := 102) hx hb dL_law_833 (by decide) ?_
  refine lv_bipush (v := 7) hx hb dL_law_835 (by decide) ?_
  refine znewI (N := 7) C hw (by decide +kernel) (by decide) (by decide) (Nat.le_of_ble_eq_true rfl) (Nat.le_of_ble_eq_true rfl) (Nat.le_of_ble_eq_true rfl) dL_law_837 (fun q837 H kq837 hw => ?_)
  have hA : zAr S824 (znR S824 q837 22 7 (fun _ => 0)) q837 7 [] := zAr.new kq837
  generalize (znR S824 q837 22 7 (fun _ => 0)) = Sa837 at hw hA
  refine lv_dup hx hb dL_law_839 rfl ?_
  refine lv_iconst (v := 0) hx hb dL_law_840 (by decide) ?_
  refine lv_iconst (v := 0) hx hb dL_law_841 (by decide) ?_
  refine zast_I (a := q837) C hw hA.2.1 hA.2.2.1 (zin_of (N := 7) (by decide) (by grind) (by grind)) dL_law_842 (fun H locs hw => ?_)
  have hA : zAr S824 (zsR Sa837 22 q837 (upd (zR Sa837 22 q837) (0 : Int32).toNatClampNeg 0)) q837 7 [0] := zAr.st (k := 0) hA kq837 (by decide) rfl
  generalize (zsR Sa837 22 q837 (upd (zR Sa837 22 q837) (0 : Int32).toNatClampNeg 0)) = Sa842 at hw hA
  refine lv_dup hx hb dL_law_843 rfl ?_
  refine lv_iconst (v := 1) hx hb dL_law_844 (by decide) ?_
  refine lv_iconst (v := 1) hx hb dL_law_845 (by decide) ?_
  refine zast_I (a := q837) C hw hA.2.1 hA.2.2.1 (zin_of (N := 7) (by decide) (by grind) (by grind)) dL_law_846 (fun H locs hw => ?_)
  have hA : zAr S824 (zsR Sa842 22 q837 (upd (zR Sa842 22 q837) (1 : Int32).toNatClampNeg 1)) q837 7 [0, 1] := zAr.st (k := 1) hA kq837 (by decide) rfl
  generalize (zsR Sa842 22 q837 (upd (zR Sa842 22 q837) (1 : Int32).toNatClampNeg 1)) = Sa846 at hw hA
  refine lv_dup hx hb dL_law_847 rfl ?_
  refine lv_iconst (v := 2) hx hb dL_law_848 (by decide) ?_
  refine lv_iconst (v := 4) hx hb dL_law_849 (by decide) ?_
  refine zast_I (a := q837) C hw hA.2.1 hA.2.2.1 (zin_of (N := 7) (by decide) (by grind) (by grind)) dL_law_850 (fun H locs hw => ?_)
  have hA : zAr S824 (zsR Sa846 22 q837 (upd (zR Sa846 22 q837) (2 : Int32).toNatClampNeg 4)) q837 7 [0, 1, 4] := zAr.st (k := 2) hA kq837 (by decide) rfl
  generalize (zsR Sa846 22 q837 (upd (zR Sa846 22 q837) (2 : Int32).toNatClampNeg 4)) = Sa850 at hw hA
  refine lv_dup hx hb dL_law_851 rfl ?_
  refine lv_iconst (v := 3) hx hb dL_law_852 (by decide) ?_
  refine lv_iconst (v := 0) hx hb dL_law_853 (by decide) ?_
  refine zast_I (a := q837) C hw hA.2.1 hA.2.2.1 (zin_of (N := 7) (by decide) (by grind) (by grind)) dL_law_854 (fun H locs hw => ?_)
  have hA : zAr S824 (zsR Sa850 22 q837 (upd (zR Sa850 22 q837) (3 : Int32).toNatClampNeg 0)) q837 7 [0, 1, 4, 0] := zAr.st (k := 3) hA kq837 (by decide) rfl
  generalize (zsR Sa850 22 q837 (upd (zR Sa850 22 q837) (3 : Int32).toNatClampNeg 0)) = Sa854 at hw hA
  refine lv_dup hx hb dL_law_855 rfl ?_
  refine lv_iconst (v := 4) hx hb dL_law_856 (by decide) ?_
  refine lv_iconst (v := 0) hx hb dL_law_857 (by decide) ?_
  refine zast_I (a := q837) C hw hA.2.1 hA.2.2.1 (zin_of (N := 7) (by decide) (by grind) (by grind)) dL_law_858 (fun H locs hw => ?_)
  have hA : zAr S824 (zsR Sa854 22 q837 (upd (zR Sa854 22 q837) (4 : Int32).toNatClampNeg 0)) q837 7 [0, 1, 4, 0, 0] := zAr.st (k := 4) hA kq837 (by decide) rfl
  generalize (zsR Sa854 22 q837 (upd (zR Sa854 22 q837) (4 : Int32).toNatClampNeg 0)) = Sa858 at hw hA
  refine lv_dup hx hb dL_law_859 rfl ?_
  refine lv_iconst (v := 5) hx hb dL_law_860 (by decide) ?_
  refine lv_iconst (v := 1) hx hb dL_law_861 (by decide) ?_
  refine zast_I (a := q837) C hw hA.2.1 hA.2.2.1 (zin_of (N := 7) (by decide) (by grind) (by grind)) dL_law_862 (fun H locs hw => ?_)
  have hA : zAr S824 (zsR Sa858 22 q837 (upd (zR Sa858 22 q837) (5 : Int32).toNatClampNeg 1)) q837 7 [0, 1, 4, 0, 0, 1] := zAr.st (k := 5) hA kq837 (by decide) rfl
  generalize (zsR Sa858 22 q837 (upd (zR Sa858 22 q837) (5 : Int32).toNatClampNeg 1)) = Sa862 at hw hA
  refine lv_dup hx hb dL_law_863 rfl ?_
  refine lv_bipush (v := 6) hx hb dL_law_864 (by decide) ?_
  refine lv_iconst (v := 0) hx hb dL_law_866 (by decide) ?_
  refine zast_I (a := q837) C hw hA.2.1 hA.2.2.1 (zin_of (N := 7) (by decide) (by grind) (by grind)) dL_law_867 (fun H locs hw => ?_)
  have hA : zAr S824 (zsR Sa862 22 q837 (upd (zR Sa862 22 q837) (6 : Int32).toNatClampNeg 0)) q837 7 [0, 1, 4, 0, 0, 1, 0] := zAr.st (k := 6) hA kq837 (by decide) rfl
  generalize (zsR Sa862 22 q837 (upd (zR Sa862 22 q837) (6 : Int32).toNatClampNeg 0)) = Sa867 at hw hA
  obtain ⟨hG, hK9, hN9, hA⟩ := hA
  have hj0 : zR Sa867 22 q837 0 = 0 := (hA 0 0 rfl).trans rfl
  have hj1 : zR Sa867 22 q837 1 = 1 := (hA 1 1 rfl).trans rfl
  have hj2 : zR Sa867 22 q837 2 = 4 := (hA 2 4 rfl).trans rfl
  have hj3 : zR Sa867 22 q837 3 = 0 := (hA 3 0 rfl).trans rfl
  have hj4 : zR Sa867 22 q837 4 = 0 := (hA 4 0 rfl).trans rfl
  have hj5 : zR Sa867 22 q837 5 = 1 := (hA 5 1 rfl).trans rfl
  have hj6 : zR Sa867 22 q837 6 = 0 := (hA 6 0 rfl).trans rfl
  have hNw := zNew.gw hG hNw
  refine zcSW_i (As := [.ref (a 0), .int 102, .ref q837]) (rest := []) (n9 := 3) C hw (c_L_ask_f_fourWires_r l hst D y base Sa867 a 0 1 4 0 0 1 0 q837 hNw.1 hNw.2.1 (by decide +kernel) hK9 hN9 hj0 hj1 hj2 hj3 hj4 hj5 hj6) gL_law_L_ask rfl (by decide +kernel) ⟨⟨rfl, rfl⟩, Nat.le_of_ble_eq_true rfl, Nat.le_of_ble_eq_true rfl⟩ rfl hl.1 rfl (Nat.le_of_ble_eq_true rfl) ⟨Nat.le_of_ble_eq_true rfl, Nat.le_of_ble_eq_true rfl⟩ dL_law_868 (fun r868 S868 H locs hp868 hw => ?_)
  have h9 : r868 = (-2000000001) ∧ S868 = Sa867 := by
    rcases hp868 with h | h
    · exact h.2
    · exact absurd h.1 (by decide +kernel)
  obtain ⟨rfl, hS9⟩ := h9
  have hS9 := hS9.symm
  subst hS9
  refine lv_ldc (own := RL) (v := (-2000000001)) hx hb hown (hts (.constant RL 68 (-2000000001)) (by decide +kernel)) dL_law_871 ?_
  refine lv_icmp_ne (tgt := 1945) hx hb dL_law_873 (by decide) (fun c873 => absurd c873 (by decide)) (fun _ => ?_)
  refine lv_aload_n hx hb dL_law_876 rfl (lv_at hl 0 rfl) ?_
  refine lv_bipush (v := 102) hx hb dL_law_877 (by decide) ?_
  refine lv_bipush (v := 7) hx hb dL_law_879 (by decide) ?_
  refine znewI (N := 7) C hw (by decide +kernel) (by decide) (by decide) (Nat.le_of_ble_eq_true rfl) (Nat.le_of_ble_eq_true rfl) (Nat.le_of_ble_eq_true rfl) dL_law_881 (fun q881 H kq881 hw => ?_)
  have hA : zAr Sa867 (znR Sa867 q881 22 7 (fun _ => 0)) q881 7 [] := zAr.new kq881
  generalize (znR Sa867 q881 22 7 (fun _ => 0)) = Sa881 at hw hA
  refine lv_dup hx hb dL_law_883 rfl ?_
  refine lv_iconst (v := 0) hx hb dL_law_884 (by decide) ?_
  refine lv_iconst (v := 0) hx hb dL_law_885 (by decide) ?_
  refine zast_I (a := q881) C hw hA.2.1 hA.2.2.1 (zin_of (N := 7) (by decide) (by grind) (by grind)) dL_law_886 (fun H locs hw => ?_)
  have hA : zAr Sa867 (zsR Sa881 22 q881 (upd (zR Sa881 22 q881) (0 : Int32).toNatClampNeg 0)) q881 7 [0] := zAr.st (k := 0) hA kq881 (by decide) rfl
  generalize (zsR Sa881 22 q881 (upd (zR Sa881 22 q881) (0 : Int32).toNatClampNeg 0)) = Sa886 at hw hA
  refine lv_dup hx hb dL_law_887 rfl ?_
  refine lv_iconst (v := 1) hx hb dL_law_888 (by decide) ?_
  refine lv_iconst (v := 1) hx hb dL_law_889 (by decide) ?_
  refine zast_I (a := q881) C hw hA.2.1 hA.2.2.1 (zin_of (N := 7) (by decide) (by grind) (by grind)) dL_law_890 (fun H locs hw => ?_)
  have hA : zAr Sa867 (zsR Sa886 22 q881 (upd (zR Sa886 22 q881) (1 : Int32).toNatClampNeg 1)) q881 7 [0, 1] := zAr.st (k := 1) hA kq881 (by decide) rfl
  generalize (zsR Sa886 22 q881 (upd (zR Sa886 22 q881) (1 : Int32).toNatClampNeg 1)) = Sa890 at hw hA
  refine lv_dup hx hb dL_law_891 rfl ?_
  refine lv_iconst (v := 2) hx hb dL_law_892 (by decide) ?_
  refine lv_iconst (v := 1) hx hb dL_law_893 (by decide) ?_
  refine zast_I (a := q881) C hw hA.2.1 hA.2.2.1 (zin_of (N := 7) (by decide) (by grind) (by grind)) dL_law_894 (fun H locs hw => ?_)
  have hA : zAr Sa867 (zsR Sa890 22 q881 (upd (zR Sa890 22 q881) (2 : Int32).toNatClampNeg 1)) q881 7 [0, 1, 1] := zAr.st (k := 2) hA kq881 (by decide) rfl
  generalize (zsR Sa890 22 q881 (upd (zR Sa890 22 q881) (2 : Int32).toNatClampNeg 1)) = Sa894 at hw hA
  refine lv_dup hx hb dL_law_895 rfl ?_
  refine lv_iconst (v := 3) hx hb dL_law_896 (by decide) ?_
  refine lv_iconst (v := 0) hx hb dL_law_897 (by decide) ?_
  refine zast_I (a := q881) C hw hA.2.1 hA.2.2.1 (zin_of (N := 7) (by decide) (by grind) (by grind)) dL_law_898 (fun H locs hw => ?_)
  have hA : zAr Sa867 (zsR Sa894 22 q881 (upd (zR Sa894 22 q881) (3 : Int32).toNatClampNeg 0)) q881 7 [0, 1, 1, 0] := zAr.st (k := 3) hA kq881 (by decide) rfl
  generalize (zsR Sa894 22 q881 (upd (zR Sa894 22 q881) (3 : Int32).toNatClampNeg 0)) = Sa898 at hw hA
  refine lv_dup hx hb dL_law_899 rfl ?_
  refine lv_iconst (v := 4) hx hb dL_law_900 (by decide) ?_
  refine lv_iconst (v := 0) hx hb dL_law_901 (by decide) ?_
  refine zast_I (a := q881) C hw hA.2.1 hA.2.2.1 (zin_of (N := 7) (by decide) (by grind) (by grind)) dL_law_902 (fun H locs hw => ?_)
  have hA : zAr Sa867 (zsR Sa898 22 q881 (upd (zR Sa898 22 q881) (4 : Int32).toNatClampNeg 0)) q881 7 [0, 1, 1, 0, 0] := zAr.st (k := 4) hA kq881 (by decide) rfl
  generalize (zsR Sa898 22 q881 (upd (zR Sa898 22 q881) (4 : Int32).toNatClampNeg 0)) = Sa902 at hw hA
  refine lv_dup hx hb dL_law_903 rfl ?_
  refine lv_iconst (v := 5) hx hb dL_law_904 (by decide) ?_
  refine lv_iconst (v := 1) hx hb dL_law_905 (by decide) ?_
  refine zast_I (a := q881) C hw hA.2.1 hA.2.2.1 (zin_of (N := 7) (by decide) (by grind) (by grind)) dL_law_906 (fun H locs hw => ?_)
  have hA : zAr Sa867 (zsR Sa902 22 q881 (upd (zR Sa902 22 q881) (5 : Int32).toNatClampNeg 1)) q881 7 [0, 1, 1, 0, 0, 1] := zAr.st (k := 5) hA kq881 (by decide) rfl
  generalize (zsR Sa902 22 q881 (upd (zR Sa902 22 q881) (5 : Int32).toNatClampNeg 1)) = Sa906 at hw hA
  refine lv_dup hx hb dL_law_907 rfl ?_
  refine lv_bipush (v := 6) hx hb dL_law_908 (by decide) ?_
  refine lv_iconst (v := 0) hx hb dL_law_910 (by decide) ?_
  refine zast_I (a := q881) C hw hA.2.1 hA.2.2.1 (zin_of (N := 7) (by decide) (by grind) (by grind)) dL_law_911 (fun H locs hw => ?_)
  have hA : zAr Sa867 (zsR Sa906 22 q881 (upd (zR Sa906 22 q881) (6 : Int32).toNatClampNeg 0)) q881 7 [0, 1, 1, 0, 0, 1, 0] := zAr.st (k := 6) hA kq881 (by decide) rfl
  generalize (zsR Sa906 22 q881 (upd (zR Sa906 22 q881) (6 : Int32).toNatClampNeg 0)) = Sa911 at hw hA
  obtain ⟨hG, hK9, hN9, hA⟩ := hA
  have hj0 : zR Sa911 22 q881 0 = 0 := (hA 0 0 rfl).trans rfl
  have hj1 : zR Sa911 22 q881 1 = 1 := (hA 1 1 rfl).trans rfl
  have hj2 : zR Sa911 22 q881 2 = 1 := (hA 2 1 rfl).trans rfl
  have hj3 : zR Sa911 22 q881 3 = 0 := (hA 3 0 rfl).trans rfl
  have hj4 : zR Sa911 22 q881 4 = 0 := (hA 4 0 rfl).trans rfl
  have hj5 : zR Sa911 22 q881 5 = 1 := (hA 5 1 rfl).trans rfl
  have hj6 : zR Sa911 22 q881 6 = 0 := (hA 6 0 rfl).trans rfl
  have hNw := zNew.gw hG hNw
  refine zcSW_i (As := [.ref (a 0), .int 102, .ref q881]) (rest := []) (n9 := 3) C hw (c_L_ask_f_fourWires_r l hst D y base Sa911 a 0 1 1 0 0 1 0 q881 hNw.1 hNw.2.1 (by decide +kernel) hK9 hN9 hj0 hj1 hj2 hj3 hj4 hj5 hj6) gL_law_L_ask rfl (by decide +kernel) ⟨⟨rfl, rfl⟩, Nat.le_of_ble_eq_true rfl, Nat.le_of_ble_eq_true rfl⟩ rfl hl.1 rfl (Nat.le_of_ble_eq_true rfl) ⟨Nat.le_of_ble_eq_true rfl, Nat.le_of_ble_eq_true rfl⟩ dL_law_912 (fun r912 S912 H locs hp912 hw => ?_)
  have h9 : r912 = (-2000000002) ∧ S912 = Sa911 := by
    rcases hp912 with h | h
    · exact absurd h.1 (by decide +kernel)
    · exact h.2
  obtain ⟨rfl, hS9⟩ := h9
  have hS9 := hS9.symm
  subst hS9
  refine lv_ldc (own := RL) (v := (-2000000002)) hx hb hown (hts (.constant RL 71 (-2000000002)) (by decide +kernel)) dL_law_915 ?_
  refine lv_icmp_ne (tgt := 1945) hx hb dL_law_917 (by decide) (fun c917 => absurd c917 (by decide)) (fun _ => ?_)
  refine lv_aload_n hx hb dL_law_920 rfl (lv_at hl 0 rfl) ?_
  refine lv_bipush (v := 102) hx hb dL_law_921 (by decide) ?_
  refine lv_bipush (v := 7) hx hb dL_law_923 (by decide) ?_
  refine znewI (N := 7) C hw (by decide +kernel) (by decide) (by decide) (Nat.le_of_ble_eq_true rfl) (Nat.le_of_ble_eq_true rfl) (Nat.le_of_ble_eq_true rfl) dL_law_925 (fun q925 H kq925 hw => ?_)
  have hA : zAr Sa911 (znR Sa911 q925 22 7 (fun _ => 0)) q925 7 [] := zAr.new kq925
  generalize (znR Sa911 q925 22 7 (fun _ => 0)) = Sa925 at hw hA
  refine lv_dup hx hb dL_law_927 rfl ?_
  refine lv_iconst (v := 0) hx hb dL_law_928 (by decide) ?_
  refine lv_iconst (v := 0) hx hb dL_law_929 (by decide) ?_
  refine zast_I (a := q925) C hw hA.2.1 hA.2.2.1 (zin_of (N := 7) (by decide) (by grind) (by grind)) dL_law_930 (fun H locs hw => ?_)
  have hA : zAr Sa911 (zsR Sa925 22 q925 (upd (zR Sa925 22 q925) (0 : Int32).toNatClampNeg 0)) q925 7 [0] := zAr.st (k := 0) hA kq925 (by decide) rfl
  generalize (zsR Sa925 22 q925 (upd (zR Sa925 22 q925) (0 : Int32).toNatClampNeg 0)) = Sa930 at hw hA
  refine lv_dup hx hb dL_law_931 rfl ?_
  refine lv_iconst (v := 1) hx hb dL_law_932 (by decide) ?_
  refine lv_iconst (v := 1) hx hb dL_law_933 (by decide) ?_
  refine zast_I (a := q925) C hw hA.2.1 hA.2.2.1 (zin_of (N := 7) (by decide) (by grind) (by grind)) dL_law_934 (fun H locs hw => ?_)
  have hA : zAr Sa911 (zsR Sa930 22 q925 (upd (zR Sa930 22 q925) (1 : Int32).toNatClampNeg 1)) q925 7 [0, 1] := zAr.st (k := 1) hA kq925 (by decide) rfl
  generalize (zsR Sa930 22 q925 (upd (zR Sa930 22 q925) (1 : Int32).toNatClampNeg 1)) = Sa934 at hw hA
  refine lv_dup hx hb dL_law_935 rfl ?_
  refine lv_iconst (v := 2) hx hb dL_law_936 (by decide) ?_
  refine lv_iconst (v := 2) hx hb dL_law_937 (by decide) ?_
  refine zast_I (a := q925) C hw hA.2.1 hA.2.2.1 (zin_of (N := 7) (by decide) (by grind) (by grind)) dL_law_938 (fun H locs hw => ?_)
  have hA : zAr Sa911 (zsR Sa934 22 q925 (upd (zR Sa934 22 q925) (2 : Int32).toNatClampNeg 2)) q925 7 [0, 1, 2] := zAr.st (k := 2) hA kq925 (by decide) rfl
  generalize (zsR Sa934 22 q925 (upd (zR Sa934 22 q925) (2 : Int32).toNatClampNeg 2)) = Sa938 at hw hA
  refine lv_dup hx hb dL_law_939 rfl ?_
  refine lv_iconst (v := 3) hx hb dL_law_940 (by decide) ?_
  refine lv_iconst (v := 0) hx hb dL_law_941 (by decide) ?_
  refine zast_I (a := q925) C hw hA.2.1 hA.2.2.1 (zin_of (N := 7) (by decide) (by grind) (by grind)) dL_law_942 (fun H locs hw => ?_)
  have hA : zAr Sa911 (zsR Sa938 22 q925 (upd (zR Sa938 22 q925) (3 : Int32).toNatClampNeg 0)) q925 7 [0, 1, 2, 0] := zAr.st (k := 3) hA kq925 (by decide) rfl
  generalize (zsR Sa938 22 q925 (upd (zR Sa938 22 q925) (3 : Int32).toNatClampNeg 0)) = Sa942 at hw hA
  refine lv_dup hx hb dL_law_943 rfl ?_
  refine lv_iconst (v := 4) hx hb dL_law_944 (by decide) ?_
  refine lv_iconst (v := 0) hx hb dL_law_945 (by decide) ?_
  refine zast_I (a := q925) C hw hA.2.1 hA.2.2.1 (zin_of (N := 7) (by decide) (by grind) (by grind)) dL_law_946 (fun H locs hw => ?_)
  have hA : zAr Sa911 (zsR Sa942 22 q925 (upd (zR Sa942 22 q925) (4 : Int32).toNatClampNeg 0)) q925 7 [0, 1, 2, 0, 0] := zAr.st (k := 4) hA kq925 (by decide) rfl
  generalize (zsR Sa942 22 q925 (upd (zR Sa942 22 q925) (4 : Int32).toNatClampNeg 0)) = Sa946 at hw hA
  refine lv_dup hx hb dL_law_947 rfl ?_
  refine lv_iconst (v := 5) hx hb dL_law_948 (by decide) ?_
  refine lv_iconst (v := 1) hx hb dL_law_949 (by decide) ?_
  refine zast_I (a := q925) C hw hA.2.1 hA.2.2.1 (zin_of (N := 7) (by decide) (by grind) (by grind)) dL_law_950 (fun H locs hw => ?_)
  have hA : zAr Sa911 (zsR Sa946 22 q925 (upd (zR Sa946 22 q925) (5 : Int32).toNatClampNeg 1)) q925 7 [0, 1, 2, 0, 0, 1] := zAr.st (k := 5) hA kq925 (by decide) rfl
  generalize (zsR Sa946 22 q925 (upd (zR Sa946 22 q925) (5 : Int32).toNatClampNeg 1)) = Sa950 at hw hA
  refine lv_dup hx hb dL_law_951 rfl ?_
  refine lv_bipush (v := 6) hx hb dL_law_952 (by decide) ?_
  refine lv_iconst (v := 4) hx hb dL_law_954 (by decide) ?_
  refine zast_I (a := q925) C hw hA.2.1 hA.2.2.1 (zin_of (N := 7) (by decide) (by grind) (by grind)) dL_law_955 (fun H locs hw => ?_)
  have hA : zAr Sa911 (zsR Sa950 22 q925 (upd (zR Sa950 22 q925) (6 : Int32).toNatClampNeg 4)) q925 7 [0, 1, 2, 0, 0, 1, 4] := zAr.st (k := 6) hA kq925 (by decide) rfl
  generalize (zsR Sa950 22 q925 (upd (zR Sa950 22 q925) (6 : Int32).toNatClampNeg 4)) = Sa955 at hw hA
  obtain ⟨hG, hK9, hN9, hA⟩ := hA
  have hj0 : zR Sa955 22 q925 0 = 0 := (hA 0 0 rfl).trans rfl
  have hj1 : zR Sa955 22 q925 1 = 1 := (hA 1 1 rfl).trans rfl
  have hj2 : zR Sa955 22 q925 2 = 2 := (hA 2 2 rfl).trans rfl
  have hj3 : zR Sa955 22 q925 3 = 0 := (hA 3 0 rfl).trans rfl
  have hj4 : zR Sa955 22 q925 4 = 0 := (hA 4 0 rfl).trans rfl
  have hj5 : zR Sa955 22 q925 5 = 1 := (hA 5 1 rfl).trans rfl
  have hj6 : zR Sa955 22 q925 6 = 4 := (hA 6 4 rfl).trans rfl
  have hNw := zNew.gw hG hNw
  refine zcSW_i (As := [.ref (a 0), .int 102, .ref q925]) (rest := []) (n9 := 3) C hw (c_L_ask_f_fourWires_r l hst D y base Sa955 a 0 1 2 0 0 1 4 q925 hNw.1 hNw.2.1 (by decide +kernel) hK9 hN9 hj0 hj1 hj2 hj3 hj4 hj5 hj6) gL_law_L_ask rfl (by decide +kernel) ⟨⟨rfl, rfl⟩, Nat.le_of_ble_eq_true rfl, Nat.le_of_ble_eq_true rfl⟩ rfl hl.1 rfl (Nat.le_of_ble_eq_true rfl) ⟨Nat.le_of_ble_eq_true rfl, Nat.le_of_ble_eq_true rfl⟩ dL_law_956 (fun r956 S956 H locs hp956 hw => ?_)
  have h9 : r956 = (-2000000002) ∧ S956 = Sa955 := by
    rcases hp956 with h | h
    · exact absurd h.1 (by decide +kernel)
    · exact h.2
  obtain ⟨rfl, hS9⟩ := h9
  have hS9 := hS9.symm
  subst hS9
  refine lv_ldc (own := RL) (v := (-2000000002)) hx hb hown (hts (.constant RL 71 (-2000000002)) (by decide +kernel)) dL_law_959 ?_
  refine lv_icmp_ne (tgt := 1945) hx hb dL_law_961 (by decide) (fun c961 => absurd c961 (by decide)) (fun _ => ?_)
  refine lv_aload_n hx hb dL_law_964 rfl (lv_at hl 0 rfl) ?_
  refine lv_bipush (v := 102) hx hb dL_law_965 (by decide) ?_
  refine lv_bipush (v := 7) hx hb dL_law_967 (by decide) ?_
  refine znewI (N := 7) C hw (by decide +kernel) (by decide) (by decide) (Nat.le_of_ble_eq_true rfl) (Nat.le_of_ble_eq_true rfl) (Nat.le_of_ble_eq_true rfl) dL_law_969 (fun q969 H kq969 hw => ?_)
  have hA : zAr Sa955 (znR Sa955 q969 22 7 (fun _ => 0)) q969 7 [] := zAr.new kq969
  generalize (znR Sa955 q969 22 7 (fun _ => 0)) = Sa969 at hw hA
  refine lv_dup hx hb dL_law_971 rfl ?_
  refine lv_iconst (v := 0) hx hb dL_law_972 (by decide) ?_
  refine lv_iconst (v := 0) hx hb dL_law_973 (by decide) ?_
  refine zast_I (a := q969) C hw hA.2.1 hA.2.2.1 (zin_of (N := 7) (by decide) (by grind) (by grind)) dL_law_974 (fun H locs hw => ?_)
  have hA : zAr Sa955 (zsR Sa969 22 q969 (upd (zR Sa969 22 q969) (0 : Int32).toNatClampNeg 0)) q969 7 [0] := zAr.st (k := 0) hA kq969 (by decide) rfl
  generalize (zsR Sa969 22 q969 (upd (zR Sa969 22 q969) (0 : Int32).toNatClampNeg 0)) = Sa974 at hw hA
  refine lv_dup hx hb dL_law_975 rfl ?_
  refine lv_iconst (v := 1) hx hb dL_law_976 (by decide) ?_
  refine lv_iconst (v := 1) hx hb dL_law_977 (by decide) ?_
  refine zast_I (a := q969) C hw hA.2.1 hA.2.2.1 (zin_of (N := 7) (by decide) (by grind) (by grind)) dL_law_978 (fun H locs hw => ?_)
  have hA : zAr Sa955 (zsR Sa974 22 q969 (upd (zR Sa974 22 q969) (1 : Int32).toNatClampNeg 1)) q969 7 [0, 1] := zAr.st (k := 1) hA kq969 (by decide) rfl
  generalize (zsR Sa974 22 q969 (upd (zR Sa974 22 q969) (1 : Int32).toNatClampNeg 1)) = Sa978 at hw hA
  refine lv_dup hx hb dL_law_979 rfl ?_
  refine lv_iconst (v := 2) hx hb dL_law_980 (by decide) ?_
  refine lv_iconst (v := 2) hx hb dL_law_981 (by decide) ?_
  refine zast_I (a := q969) C hw hA.2.1 hA.2.2.1 (zin_of (N := 7) (by decide) (by grind) (by grind)) dL_law_982 (fun H locs hw => ?_)
  have hA : zAr Sa955 (zsR Sa978 22 q969 (upd (zR Sa978 22 q969) (2 : Int32).toNatClampNeg 2)) q969 7 [0, 1, 2] := zAr.st (k := 2) hA kq969 (by decide) rfl
  generalize (zsR Sa978 22 q969 (upd (zR Sa978 22 q969) (2 : Int32).toNatClampNeg 2)) = Sa982 at hw hA
  refine lv_dup hx hb dL_law_983 rfl ?_
  refine lv_iconst (v := 3) hx hb dL_law_984 (by decide) ?_
  refine lv_iconst (v := 0) hx hb dL_law_985 (by decide) ?_
  refine zast_I (a := q969) C hw hA.2.1 hA.2.2.1 (zin_of (N := 7) (by decide) (by grind) (by grind)) dL_law_986 (fun H locs hw => ?_)
  have hA : zAr Sa955 (zsR Sa982 22 q969 (upd (zR Sa982 22 q969) (3 : Int32).toNatClampNeg 0)) q969 7 [0, 1, 2, 0] := zAr.st (k := 3) hA kq969 (by decide) rfl
  generalize (zsR Sa982 22 q969 (upd (zR Sa982 22 q969) (3 : Int32).toNatClampNeg 0)) = Sa986 at hw hA
  refine lv_dup hx hb dL_law_987 rfl ?_
  refine lv_iconst (v := 4) hx hb dL_law_988 (by decide) ?_
  refine lv_sipush (v := 9990) hx hb dL_law_989 (by decide) ?_
  refine zast_I (a := q969) C hw hA.2.1 hA.2.2.1 (zin_of (N := 7) (by decide) (by grind) (by grind)) dL_law_992 (fun H locs hw => ?_)
  have hA : zAr Sa955 (zsR Sa986 22 q969 (upd (zR Sa986 22 q969) (4 : Int32).toNatClampNeg 9990)) q969 7 [0, 1, 2, 0, 9990] := zAr.st (k := 4) hA kq969 (by decide) rfl
  generalize (zsR Sa986 22 q969 (upd (zR Sa986 22 q969) (4 : Int32).toNatClampNeg 9990)) = Sa992 at hw hA
  refine lv_dup hx hb dL_law_993 rfl ?_
  refine lv_iconst (v := 5) hx hb dL_law_994 (by decide) ?_
  refine lv_iconst (v := 1) hx hb dL_law_995 (by decide) ?_
  refine zast_I (a := q969) C hw hA.2.1 hA.2.2.1 (zin_of (N := 7) (by decide) (by grind) (by grind)) dL_law_996 (fun H locs hw => ?_)
  have hA : zAr Sa955 (zsR Sa992 22 q969 (upd (zR Sa992 22 q969) (5 : Int32).toNatClampNeg 1)) q969 7 [0, 1, 2, 0, 9990, 1] := zAr.st (k := 5) hA kq969 (by decide) rfl
  generalize (zsR Sa992 22 q969 (upd (zR Sa992 22 q969) (5 : Int32).toNatClampNeg 1)) = Sa996 at hw hA
  refine lv_dup hx hb dL_law_997 rfl ?_
  refine lv_bipush (v := 6) hx hb dL_law_998 (by decide) ?_
  refine lv_iconst (v := 0) hx hb dL_law_1000 (by decide) ?_
  refine zast_I (a := q969) C hw hA.2.1 hA.2.2.1 (zin_of (N := 7) (by decide) (by grind) (by grind)) dL_law_1001 (fun H locs hw => ?_)
  have hA : zAr Sa955 (zsR Sa996 22 q969 (upd (zR Sa996 22 q969) (6 : Int32).toNatClampNeg 0)) q969 7 [0, 1, 2, 0, 9990, 1, 0] := zAr.st (k := 6) hA kq969 (by decide) rfl
  generalize (zsR Sa996 22 q969 (upd (zR Sa996 22 q969) (6 : Int32).toNatClampNeg 0)) = Sa1001 at hw hA
  obtain ⟨hG, hK9, hN9, hA⟩ := hA
  have hj0 : zR Sa1001 22 q969 0 = (nI 0) := (hA 0 0 rfl).trans rfl
  have hj1 : zR Sa1001 22 q969 1 = (nI 1) := (hA 1 1 rfl).trans rfl
  have hj2 : zR Sa1001 22 q969 2 = (nI 2) := (hA 2 2 rfl).trans rfl
  have hj3 : zR Sa1001 22 q969 3 = (nI 0) := (hA 3 0 rfl).trans rfl
  have hj4 : zR Sa1001 22 q969 4 = (nI 9990) := (hA 4 9990 rfl).trans rfl
  have hj5 : zR Sa1001 22 q969 5 = (nI 1) := (hA 5 1 rfl).trans rfl
  have hj6 : zR Sa1001 22 q969 6 = (nI 0) := (hA 6 0 rfl).trans rfl
  have hNw := zNew.gw hG hNw
  refine zcSW_i (As := [.ref (a 0), .int 102, .ref q969]) (rest := []) (n9 := 3) C hw (c_L_ask_f_fourWires_n l hst D y base Sa1001 a 0 1 2 0 9990 1 0 _ _ _ _ _ _ _ q969 hNw.1 hDs (by decide +kernel) (by decide +kernel) (by decide +kernel) (by decide +kernel) (by decide +kernel) (by decide +kernel) (by decide +kernel) (by decide +kernel) (zOb.new hNw) (⟨10000, by decide, by decide +kernel⟩) hK9 hN9 hj0 hj1 hj2 hj3 hj4 hj5 hj6) gL_law_L_ask rfl (by decide +kernel) ⟨⟨rfl, rfl⟩, Nat.le_of_ble_eq_true rfl, Nat.le_of_ble_eq_true rfl⟩ rfl hl.1 rfl (Nat.le_of_ble_eq_true rfl) ⟨Nat.le_of_ble_eq_true rfl, Nat.le_of_ble_eq_true rfl⟩ dL_law_1002 (fun r1002 S1002 H locs hp1002 hw => ?_)
  obtain ⟨rfl, hLt⟩ := hp1002
  have hNw := zNew.late hDs hNw hLt
  refine lv_ldc (own := RL) (v := (-2000000003)) hx hb hown (hts (.constant RL 74 (-2000000003)) (by decide +kernel)) dL_law_1005 ?_
  refine lv_icmp_ne (tgt := 1945) hx hb dL_law_1007 (by decide) (fun c1007 => absurd c1007 (by decide)) (fun _ => ?_)
  exact law_part_3 hst C hr hlocks hy31 hNw hDs hbase hw hl

set_option maxHeartbeats 4000000 in
set_option maxRecDepth 100000 in
theorem law_part_1 {p : Program} {l : Launch} {e : Env} {s : State} {m : MethodId} {below : List Frame} {meth : Method} {c : Code} {H : Heap} {locs : List Loc} {ls : Array Slot} {D : va_G} {y : Nat → ClassId} {base : Nat} {S : zS} {a : Nat → Nat} {bs : Nat} (hst : l.stackTraces = false) (C : CallFix p m c code 2 s #[Value.ref bs] wsL_law RL) (hr : meth.sig.returnType = ret) (hlocks : meth.locks = false) (hy31 : y 99 < 2 ^ 31) (hNw : zNew S a) (hDs : zDs a) (hbase : base = s.heap.size) (hw : zW D y base S s H locs) (hl : lv_has ls 2 [(1, .ref (a 0)), (0, .ref (y 98))]) : W p l e room_1 s m #[Value.ref bs] below meth c H locs 69 5826 (lw_Z below #[Value.ref bs] s) (F0 m 287 ls []) := by
  have hx := C.1
  have hb := C.2.1
  have hown := C.2.2.2.1
  have hts := C.2.2.2.2
  refine lv_aload_n hx hb dL_law_287 rfl (lv_at hl 0 rfl) ?_
  refine lv_bipush (v := 103) hx hb dL_law_288 (by decide) ?_
  refine lv_iconst (v := 3) hx hb dL_law_290 (by decide) ?_
  refine znewI (N := 3) C hw (by decide +kernel) (by decide) (by decide) (Nat.le_of_ble_eq_true rfl) (Nat.le_of_ble_eq_true rfl) (Nat.le_of_ble_eq_true rfl) dL_law_291 (fun q291 H kq291 hw => ?_)
  have hA : zAr S (znR S q291 22 3 (fun _ => 0)) q291 3 [] := zAr.new kq291
  generalize (znR S q291 22 3 (fun _ => 0)) = Sa291 at hw hA
  refine lv_dup hx hb dL_law_293 rfl ?_
  refine lv_iconst (v := 0) hx hb dL_law_294 (by decide) ?_
  refine lv_iconst (v := 0) hx hb dL_law_295 (by decide) ?_
  refine zast_I (a := q291) C hw hA.2.1 hA.2.2.1 (zin_of (N := 3) (by decide) (by grind) (by grind)) dL_law_296 (fun H locs hw => ?_)
  have hA : zAr S (zsR Sa291 22 q291 (upd (zR Sa291 22 q291) (0 : Int32).toNatClampNeg 0)) q291 3 [0] := zAr.st (k := 0) hA kq291 (by decide) rfl
  generalize (zsR Sa291 22 q291 (upd (zR Sa291 22 q291) (0 : Int32).toNatClampNeg 0)) = Sa296 at hw hA
  refine lv_dup hx hb dL_law_297 rfl ?_
  refine lv_iconst (v := 1) hx hb dL_law_298 (by decide) ?_
  refine lv_sipush (v := 9999) hx hb dL_law_299 (by decide) ?_
  refine zast_I (a := q291) C hw hA.2.1 hA.2.2.1 (zin_of (N := 3) (by decide) (by grind) (by grind)) dL_law_302 (fun H locs hw => ?_)
  have hA : zAr S (zsR Sa296 22 q291 (upd (zR Sa296 22 q291) (1 : Int32).toNatClampNeg 9999)) q291 3 [0, 9999] := zAr.st (k := 1) hA kq291 (by decide) rfl
  generalize (zsR Sa296 22 q291 (upd (zR Sa296 22 q291) (1 : Int32).toNatClampNeg 9999)) = Sa302 at hw hA
  refine lv_dup hx hb dL_law_303 rfl ?_
  refine lv_iconst (v := 2) hx hb dL_law_304 (by decide) ?_
  refine lv_iconst (v := 1) hx hb dL_law_305 (by decide) ?_
  refine zast_I (a := q291) C hw hA.2.1 hA.2.2.1 (zin_of (N := 3) (by decide) (by grind) (by grind)) dL_law_306 (fun H locs hw => ?_)
  have hA : zAr S (zsR Sa302 22 q291 (upd (zR Sa302 22 q291) (2 : Int32).toNatClampNeg 1)) q291 3 [0, 9999, 1] := zAr.st (k := 2) hA kq291 (by decide) rfl
  generalize (zsR Sa302 22 q291 (upd (zR Sa302 22 q291) (2 : Int32).toNatClampNeg 1)) = Sa306 at hw hA
  obtain ⟨hG, hK9, hN9, hA⟩ := hA
  have hj0 : zR Sa306 22 q291 0 = 0 := (hA 0 0 rfl).trans rfl
  have hj1 : zR Sa306 22 q291 1 = 9999 := (hA 1 9999 rfl).trans rfl
  have hj2 : zR Sa306 22 q291 2 = 1 := (hA 2 1 rfl).trans rfl
  have hNw := zNew.gw hG hNw
  refine zcSW_i (As := [.ref (a 0), .int 103, .ref q291]) (rest := []) (n9 := 3) C hw (c_L_ask_g_glitch_r l hst D y base Sa306 a 0 9999 1 q291 hNw.1 hNw.2.1 (by decide +kernel) hK9 hN9 hj0 hj1 hj2) gL_law_L_ask rfl (by decide +kernel) ⟨⟨rfl, rfl⟩, Nat.le_of_ble_eq_true rfl, Nat.le_of_ble_eq_true rfl⟩ rfl hl.1 rfl (Nat.le_of_ble_eq_true rfl) ⟨Nat.le_of_ble_eq_true rfl, Nat.le_of_ble_eq_true rfl⟩ dL_law_307 (fun r307 S307 H locs hp307 hw => ?_)
  have h9 : r307 = (-2000000002) ∧ S307 = Sa306 := by
    rcases hp307 with h | h
    · exact absurd h.1 (by decide +kernel)
    · exact h.2
  obtain ⟨rfl, hS9⟩ := h9
  have hS9 := hS9.symm
  subst hS9
  refine lv_ldc (own := RL) (v := (-2000000002)) hx hb hown (hts (.constant RL 71 (-2000000002)) (by decide +kernel)) dL_law_310 ?_
  refine lv_icmp_ne (tgt := 1945) hx hb dL_law_312 (by decide) (fun c312 => absurd c312 (by decide)) (fun _ => ?_)
  refine lv_aload_n hx hb dL_law_315 rfl (lv_at hl 0 rfl) ?_
  refine lv_bipush (v := 68) hx hb dL_law_316 (by decide) ?_
  refine lv_iconst (v := 1) hx hb dL_law_318 (by decide) ?_
  refine znewI (N := 1) C hw (by decide +kernel) (by decide) (by decide) (Nat.le_of_ble_eq_true rfl) (Nat.le_of_ble_eq_true rfl) (Nat.le_of_ble_eq_true rfl) dL_law_319 (fun q319 H kq319 hw => ?_)
  have hA : zAr Sa306 (znR Sa306 q319 22 1 (fun _ => 0)) q319 1 [] := zAr.new kq319
  generalize (znR Sa306 q319 22 1 (fun _ => 0)) = Sa319 at hw hA
  refine lv_dup hx hb dL_law_321 rfl ?_
  refine lv_iconst (v := 0) hx hb dL_law_322 (by decide) ?_
  refine lv_bipush (v := 51) hx hb dL_law_323 (by decide) ?_
  refine zast_I (a := q319) C hw hA.2.1 hA.2.2.1 (zin_of (N := 1) (by decide) (by grind) (by grind)) dL_law_325 (fun H locs hw => ?_)
  have hA : zAr Sa306 (zsR Sa319 22 q319 (upd (zR Sa319 22 q319) (0 : Int32).toNatClampNeg 51)) q319 1 [51] := zAr.st (k := 0) hA kq319 (by decide) rfl
  generalize (zsR Sa319 22 q319 (upd (zR Sa319 22 q319) (0 : Int32).toNatClampNeg 51)) = Sa325 at hw hA
  obtain ⟨hG, hK9, hN9, hA⟩ := hA
  have hj0 : zR Sa325 22 q319 0 = 51 := (hA 0 51 rfl).trans rfl
  have hNw := zNew.gw hG hNw
  refine zcSW_i (As := [.ref (a 0), .int 68, .ref q319]) (rest := []) (n9 := 3) C hw (c_L_ask_D_drift_r l hst D y base Sa325 a 51 q319 hNw.1 hNw.2.1 (by decide +kernel) hK9 hN9 hj0) gL_law_L_ask rfl (by decide +kernel) ⟨⟨rfl, rfl⟩, Nat.le_of_ble_eq_true rfl, Nat.le_of_ble_eq_true rfl⟩ rfl hl.1 rfl (Nat.le_of_ble_eq_true rfl) ⟨Nat.le_of_ble_eq_true rfl, Nat.le_of_ble_eq_true rfl⟩ dL_law_326 (fun r326 S326 H locs hp326 hw => ?_)
  have h9 : r326 = (-2000000002) ∧ S326 = Sa325 := hp326.2
  obtain ⟨rfl, hS9⟩ := h9
  have hS9 := hS9.symm
  subst hS9
  refine lv_ldc (own := RL) (v := (-2000000002)) hx hb hown (hts (.constant RL 71 (-2000000002)) (by decide +kernel)) dL_law_329 ?_
  refine lv_icmp_ne (tgt := 1945) hx hb dL_law_331 (by decide) (fun c331 => absurd c331 (by decide)) (fun _ => ?_)
  refine lv_aload_n hx hb dL_law_334 rfl (lv_at hl 0 rfl) ?_
  refine lv_bipush (v := 68) hx hb dL_law_335 (by decide) ?_
  refine lv_iconst (v := 1) hx hb dL_law_337 (by decide) ?_
  refine znewI (N := 1) C hw (by decide +kernel) (by decide) (by decide) (Nat.le_of_ble_eq_true rfl) (Nat.le_of_ble_eq_true rfl) (Nat.le_of_ble_eq_true rfl) dL_law_338 (fun q338 H kq338 hw => ?_)
  have hA : zAr Sa325 (znR Sa325 q338 22 1 (fun _ => 0)) q338 1 [] := zAr.new kq338
  generalize (znR Sa325 q338 22 1 (fun _ => 0)) = Sa338 at hw hA
  refine lv_dup hx hb dL_law_340 rfl ?_
  refine lv_iconst (v := 0) hx hb dL_law_341 (by decide) ?_
  refine lv_bipush (v := (-51)) hx hb dL_law_342 (by decide) ?_
  refine zast_I (a := q338) C hw hA.2.1 hA.2.2.1 (zin_of (N := 1) (by decide) (by grind) (by grind)) dL_law_344 (fun H locs hw => ?_)
  have hA : zAr Sa325 (zsR Sa338 22 q338 (upd (zR Sa338 22 q338) (0 : Int32).toNatClampNeg (-51))) q338 1 [(-51)] := zAr.st (k := 0) hA kq338 (by decide) rfl
  generalize (zsR Sa338 22 q338 (upd (zR Sa338 22 q338) (0 : Int32).toNatClampNeg (-51))) = Sa344 at hw hA
  obtain ⟨hG, hK9, hN9, hA⟩ := hA
  have hj0 : zR Sa344 22 q338 0 = (-51) := (hA 0 (-51) rfl).trans rfl
  have hNw := zNew.gw hG hNw
  refine zcSW_i (As := [.ref (a 0), .int 68, .ref q338]) (rest := []) (n9 := 3) C hw (c_L_ask_D_drift_r l hst D y base Sa344 a (-51) q338 hNw.1 hNw.2.1 (by decide +kernel) hK9 hN9 hj0) gL_law_L_ask rfl (by decide +kernel) ⟨⟨rfl, rfl⟩, Nat.le_of_ble_eq_true rfl, Nat.le_of_ble_eq_true rfl⟩ rfl hl.1 rfl (Nat.le_of_ble_eq_true rfl) ⟨Nat.le_of_ble_eq_true rfl, Nat.le_of_ble_eq_true rfl⟩ dL_law_345 (fun r345 S345 H locs hp345 hw => ?_)
  have h9 : r345 = (-2000000002) ∧ S345 = Sa344 := hp345.2
  obtain ⟨rfl, hS9⟩ := h9
  have hS9 := hS9.symm
  subst hS9
  refine lv_ldc (own := RL) (v := (-2000000002)) hx hb hown (hts (.constant RL 71 (-2000000002)) (by decide +kernel)) dL_law_348 ?_
  refine lv_icmp_ne (tgt := 1945) hx hb dL_law_350 (by decide) (fun c350 => absurd c350 (by decide)) (fun _ => ?_)
  refine lv_aload_n hx hb dL_law_353 rfl (lv_at hl 0 rfl) ?_
  refine lv_bipush (v := 115) hx hb dL_law_354 (by decide) ?_
  refine lv_iconst (v := 5) hx hb dL_law_356 (by decide) ?_
  refine znewI (N := 5) C hw (by decide +kernel) (by decide) (by decide) (Nat.le_of_ble_eq_true rfl) (Nat.le_of_ble_eq_true rfl) (Nat.le_of_ble_eq_true rfl) dL_law_357 (fun q357 H kq357 hw => ?_)
  have hA : zAr Sa344 (znR Sa344 q357 22 5 (fun _ => 0)) q357 5 [] := zAr.new kq357
  generalize (znR Sa344 q357 22 5 (fun _ => 0)) = Sa357 at hw hA
  refine lv_dup hx hb dL_law_359 rfl ?_
  refine lv_iconst (v := 0) hx hb dL_law_360 (by decide) ?_
  refine lv_iconst (v := 4) hx hb dL_law_361 (by decide) ?_
  refine zast_I (a := q357) C hw hA.2.1 hA.2.2.1 (zin_of (N := 5) (by decide) (by grind) (by grind)) dL_law_362 (fun H locs hw => ?_)
  have hA : zAr Sa344 (zsR Sa357 22 q357 (upd (zR Sa357 22 q357) (0 : Int32).toNatClampNeg 4)) q357 5 [4] := zAr.st (k := 0) hA kq357 (by decide) rfl
  generalize (zsR Sa357 22 q357 (upd (zR Sa357 22 q357) (0 : Int32).toNatClampNeg 4)) = Sa362 at hw hA
  refine lv_dup hx hb dL_law_363 rfl ?_
  refine lv_iconst (v := 1) hx hb dL_law_364 (by decide) ?_
  refine lv_iconst (v := 0) hx hb dL_law_365 (by decide) ?_
  refine zast_I (a := q357) C hw hA.2.1 hA.2.2.1 (zin_of (N := 5) (by decide) (by grind) (by grind)) dL_law_366 (fun H locs hw => ?_)
  have hA : zAr Sa344 (zsR Sa362 22 q357 (upd (zR Sa362 22 q357) (1 : Int32).toNatClampNeg 0)) q357 5 [4, 0] := zAr.st (k := 1) hA kq357 (by decide) rfl
  generalize (zsR Sa362 22 q357 (upd (zR Sa362 22 q357) (1 : Int32).toNatClampNeg 0)) = Sa366 at hw hA
  refine lv_dup hx hb dL_law_367 rfl ?_
  refine lv_iconst (v := 2) hx hb dL_law_368 (by decide) ?_
  refine lv_iconst (v := 0) hx hb dL_law_369 (by decide) ?_
  refine zast_I (a := q357) C hw hA.2.1 hA.2.2.1 (zin_of (N := 5) (by decide) (by grind) (by grind)) dL_law_370 (fun H locs hw => ?_)
  have hA : zAr Sa344 (zsR Sa366 22 q357 (upd (zR Sa366 22 q357) (2 : Int32).toNatClampNeg 0)) q357 5 [4, 0, 0] := zAr.st (k := 2) hA kq357 (by decide) rfl
  generalize (zsR Sa366 22 q357 (upd (zR Sa366 22 q357) (2 : Int32).toNatClampNeg 0)) = Sa370 at hw hA
  refine lv_dup hx hb dL_law_371 rfl ?_
  refine lv_iconst (v := 3) hx hb dL_law_372 (by decide) ?_
  refine lv_iconst (v := 2) hx hb dL_law_373 (by decide) ?_
  refine zast_I (a := q357) C hw hA.2.1 hA.2.2.1 (zin_of (N := 5) (by decide) (by grind) (by grind)) dL_law_374 (fun H locs hw => ?_)
  have hA : zAr Sa344 (zsR Sa370 22 q357 (upd (zR Sa370 22 q357) (3 : Int32).toNatClampNeg 2)) q357 5 [4, 0, 0, 2] := zAr.st (k := 3) hA kq357 (by decide) rfl
  generalize (zsR Sa370 22 q357 (upd (zR Sa370 22 q357) (3 : Int32).toNatClampNeg 2)) = Sa374 at hw hA
  refine lv_dup hx hb dL_law_375 rfl ?_
  refine lv_iconst (v := 4) hx hb dL_law_376 (by decide) ?_
  refine lv_bipush (v := 110) hx hb dL_law_377 (by decide) ?_
  refine zast_I (a := q357) C hw hA.2.1 hA.2.2.1 (zin_of (N := 5) (by decide) (by grind) (by grind)) dL_law_379 (fun H locs hw => ?_)
  have hA : zAr Sa344 (zsR Sa374 22 q357 (upd (zR Sa374 22 q357) (4 : Int32).toNatClampNeg 110)) q357 5 [4, 0, 0, 2, 110] := zAr.st (k := 4) hA kq357 (by decide) rfl
  generalize (zsR Sa374 22 q357 (upd (zR Sa374 22 q357) (4 : Int32).toNatClampNeg 110)) = Sa379 at hw hA
  obtain ⟨hG, hK9, hN9, hA⟩ := hA
  have hj0 : zR Sa379 22 q357 0 = 4 := (hA 0 4 rfl).trans rfl
  have hj1 : zR Sa379 22 q357 1 = 0 := (hA 1 0 rfl).trans rfl
  have hj2 : zR Sa379 22 q357 2 = 0 := (hA 2 0 rfl).trans rfl
  have hj3 : zR Sa379 22 q357 3 = 2 := (hA 3 2 rfl).trans rfl
  have hj4 : zR Sa379 22 q357 4 = 110 := (hA 4 110 rfl).trans rfl
  have hNw := zNew.gw hG hNw
  refine zcSW_i (As := [.ref (a 0), .int 115, .ref q357]) (rest := []) (n9 := 3) C hw (c_L_ask_s_serial_r l hst D y base Sa379 a 4 0 0 2 110 q357 hNw.1 hNw.2.1 (by decide +kernel) hK9 hN9 hj0 hj1 hj2 hj3 hj4 (by decide)) gL_law_L_ask rfl (by decide +kernel) ⟨⟨rfl, rfl⟩, Nat.le_of_ble_eq_true rfl, Nat.le_of_ble_eq_true rfl⟩ rfl hl.1 rfl (Nat.le_of_ble_eq_true rfl) ⟨Nat.le_of_ble_eq_true rfl, Nat.le_of_ble_eq_true rfl⟩ dL_law_380 (fun r380 S380 H locs hp380 hw => ?_)
  have h9 : r380 = (-2000000001) ∧ S380 = Sa379 := by
    rcases hp380 with h | h
    · exact h.2
    · exact absurd h.1 (by decide +kernel)
  obtain ⟨rfl, hS9⟩ := h9
  have hS9 := hS9.symm
  subst hS9
  refine lv_ldc (own := RL) (v := (-2000000001)) hx hb hown (hts (.constant RL 68 (-2000000001)) (by decide +kernel)) dL_law_383 ?_
  refine lv_icmp_ne (tgt := 1945) hx hb dL_law_385 (by decide) (fun c385 => absurd c385 (by decide)) (fun _ => ?_)
  refine lv_aload_n hx hb dL_law_388 rfl (lv_at hl 0 rfl) ?_
  refine lv_bipush (v := 115) hx hb dL_law_389 (by decide) ?_
  refine lv_iconst (v := 5) hx hb dL_law_391 (by decide) ?_
  refine znewI (N := 5) C hw (by decide +kernel) (by decide) (by decide) (Nat.le_of_ble_eq_true rfl) (Nat.le_of_ble_eq_true rfl) (Nat.le_of_ble_eq_true rfl) dL_law_392 (fun q392 H kq392 hw => ?_)
  have hA : zAr Sa379 (znR Sa379 q392 22 5 (fun _ => 0)) q392 5 [] := zAr.new kq392
  generalize (znR Sa379 q392 22 5 (fun _ => 0)) = Sa392 at hw hA
  refine lv_dup hx hb dL_law_394 rfl ?_
  refine lv_iconst (v := 0) hx hb dL_law_395 (by decide) ?_
  refine lv_iconst (v := 0) hx hb dL_law_396 (by decide) ?_
  refine zast_I (a := q392) C hw hA.2.1 hA.2.2.1 (zin_of (N := 5) (by decide) (by grind) (by grind)) dL_law_397 (fun H locs hw => ?_)
  have hA : zAr Sa379 (zsR Sa392 22 q392 (upd (zR Sa392 22 q392) (0 : Int32).toNatClampNeg 0)) q392 5 [0] := zAr.st (k := 0) hA kq392 (by decide) rfl
  generalize (zsR Sa392 22 q392 (upd (zR Sa392 22 q392) (0 : Int32).toNatClampNeg 0)) = Sa397 at hw hA
  refine lv_dup hx hb dL_law_398 rfl ?_
  refine lv_iconst (v := 1) hx hb dL_law_399 (by decide) ?_
  refine lv_sipush (v := 256) hx hb dL_law_400 (by decide) ?_
  refine zast_I (a := q392) C hw hA.2.1 hA.2.2.1 (zin_of (N := 5) (by decide) (by grind) (by grind)) dL_law_403 (fun H locs hw => ?_)
  have hA : zAr Sa379 (zsR Sa397 22 q392 (upd (zR Sa397 22 q392) (1 : Int32).toNatClampNeg 256)) q392 5 [0, 256] := zAr.st (k := 1) hA kq392 (by decide) rfl
  generalize (zsR Sa397 22 q392 (upd (zR Sa397 22 q392) (1 : Int32).toNatClampNeg 256)) = Sa403 at hw hA
  refine lv_dup hx hb dL_law_404 rfl ?_
  refine lv_iconst (v := 2) hx hb dL_law_405 (by decide) ?_
  refine lv_iconst (v := 0) hx hb dL_law_406 (by decide) ?_
  refine zast_I (a := q392) C hw hA.2.1 hA.2.2.1 (zin_of (N := 5) (by decide) (by grind) (by grind)) dL_law_407 (fun H locs hw => ?_)
  have hA : zAr Sa379 (zsR Sa403 22 q392 (upd (zR Sa403 22 q392) (2 : Int32).toNatClampNeg 0)) q392 5 [0, 256, 0] := zAr.st (k := 2) hA kq392 (by decide) rfl
  generalize (zsR Sa403 22 q392 (upd (zR Sa403 22 q392) (2 : Int32).toNatClampNeg 0)) = Sa407 at hw hA
  refine lv_dup hx hb dL_law_408 rfl ?_
  refine lv_iconst (v := 3) hx hb dL_law_409 (by decide) ?_
  refine lv_iconst (v := 2) hx hb dL_law_410 (by decide) ?_
  refine zast_I (a := q392) C hw hA.2.1 hA.2.2.1 (zin_of (N := 5) (by decide) (by grind) (by grind)) dL_law_411 (fun H locs hw => ?_)
  have hA : zAr Sa379 (zsR Sa407 22 q392 (upd (zR Sa407 22 q392) (3 : Int32).toNatClampNeg 2)) q392 5 [0, 256, 0, 2] := zAr.st (k := 3) hA kq392 (by decide) rfl
  generalize (zsR Sa407 22 q392 (upd (zR Sa407 22 q392) (3 : Int32).toNatClampNeg 2)) = Sa411 at hw hA
  refine lv_dup hx hb dL_law_412 rfl ?_
  refine lv_iconst (v := 4) hx hb dL_law_413 (by decide) ?_
  refine lv_bipush (v := 110) hx hb dL_law_414 (by decide) ?_
  refine zast_I (a := q392) C hw hA.2.1 hA.2.2.1 (zin_of (N := 5) (by decide) (by grind) (by grind)) dL_law_416 (fun H locs hw => ?_)
  have hA : zAr Sa379 (zsR Sa411 22 q392 (upd (zR Sa411 22 q392) (4 : Int32).toNatClampNeg 110)) q392 5 [0, 256, 0, 2, 110] := zAr.st (k := 4) hA kq392 (by decide) rfl
  generalize (zsR Sa411 22 q392 (upd (zR Sa411 22 q392) (4 : Int32).toNatClampNeg 110)) = Sa416 at hw hA
  obtain ⟨hG, hK9, hN9, hA⟩ := hA
  have hj0 : zR Sa416 22 q392 0 = 0 := (hA 0 0 rfl).trans rfl
  have hj1 : zR Sa416 22 q392 1 = 256 := (hA 1 256 rfl).trans rfl
  have hj2 : zR Sa416 22 q392 2 = 0 := (hA 2 0 rfl).trans rfl
  have hj3 : zR Sa416 22 q392 3 = 2 := (hA 3 2 rfl).trans rfl
  have hj4 : zR Sa416 22 q392 4 = 110 := (hA 4 110 rfl).trans rfl
  have hNw := zNew.gw hG hNw
  refine zcSW_i (As := [.ref (a 0), .int 115, .ref q392]) (rest := []) (n9 := 3) C hw (c_L_ask_s_serial_r l hst D y base Sa416 a 0 256 0 2 110 q392 hNw.1 hNw.2.1 (by decide +kernel) hK9 hN9 hj0 hj1 hj2 hj3 hj4 (by decide)) gL_law_L_ask rfl (by decide +kernel) ⟨⟨rfl, rfl⟩, Nat.le_of_ble_eq_true rfl, Nat.le_of_ble_eq_true rfl⟩ rfl hl.1 rfl (Nat.le_of_ble_eq_true rfl) ⟨Nat.le_of_ble_eq_true rfl, Nat.le_of_ble_eq_true rfl⟩ dL_law_417 (fun r417 S417 H locs hp417 hw => ?_)
  have h9 : r417 = (-2000000002) ∧ S417 = Sa416 := by
    rcases hp417 with h | h
    · exact absurd h.1 (by decide +kernel)
    · exact h.2
  obtain ⟨rfl, hS9⟩ := h9
  have hS9 := hS9.symm
  subst hS9
  refine lv_ldc (own := RL) (v := (-2000000002)) hx hb hown (hts (.constant RL 71 (-2000000002)) (by decide +kernel)) dL_law_420 ?_
  refine lv_icmp_ne (tgt := 1945) hx hb dL_law_422 (by decide) (fun c422 => absurd c422 (by decide)) (fun _ => ?_)
  refine lv_aload_n hx hb dL_law_425 rfl (lv_at hl 0 rfl) ?_
  refine lv_bipush (v := 115) hx hb dL_law_426 (by decide) ?_
  refine lv_iconst (v := 5) hx hb dL_law_428 (by decide) ?_
  refine znewI (N := 5) C hw (by decide +kernel) (by decide) (by decide) (Nat.le_of_ble_eq_true rfl) (Nat.le_of_ble_eq_true rfl) (Nat.le_of_ble_eq_true rfl) dL_law_429 (fun q429 H kq429 hw => ?_)
  have hA : zAr Sa416 (znR Sa416 q429 22 5 (fun _ => 0)) q429 5 [] := zAr.new kq429
  generalize (znR Sa416 q429 22 5 (fun _ => 0)) = Sa429 at hw hA
  refine lv_dup hx hb dL_law_431 rfl ?_
  refine lv_iconst (v := 0) hx hb dL_law_432 (by decide) ?_
  refine lv_iconst (v := 0) hx hb dL_law_433 (by decide) ?_
  refine zast_I (a := q429) C hw hA.2.1 hA.2.2.1 (zin_of (N := 5) (by decide) (by grind) (by grind)) dL_law_434 (fun H locs hw => ?_)
  have hA : zAr Sa416 (zsR Sa429 22 q429 (upd (zR Sa429 22 q429) (0 : Int32).toNatClampNeg 0)) q429 5 [0] := zAr.st (k := 0) hA kq429 (by decide) rfl
  generalize (zsR Sa429 22 q429 (upd (zR Sa429 22 q429) (0 : Int32).toNatClampNeg 0)) = Sa434 at hw hA
  refine lv_dup hx hb dL_law_435 rfl ?_
  refine lv_iconst (v := 1) hx hb dL_law_436 (by decide) ?_
  refine lv_iconst (v := 0) hx hb dL_law_437 (by decide) ?_
  refine zast_I (a := q429) C hw hA.2.1 hA.2.2.1 (zin_of (N := 5) (by decide) (by grind) (by grind)) dL_law_438 (fun H locs hw => ?_)
  have hA : zAr Sa416 (zsR Sa434 22 q429 (upd (zR Sa434 22 q429) (1 : Int32).toNatClampNeg 0)) q429 5 [0, 0] := zAr.st (k := 1) hA kq429 (by decide) rfl
  generalize (zsR Sa434 22 q429 (upd (zR Sa434 22 q429) (1 : Int32).toNatClampNeg 0)) = Sa438 at hw hA
  refine lv_dup hx hb dL_law_439 rfl ?_
  refine lv_iconst (v := 2) hx hb dL_law_440 (by decide) ?_
  refine lv_iconst (v := 0) hx hb dL_law_441 (by decide) ?_
  refine zast_I (a := q429) C hw hA.2.1 hA.2.2.1 (zin_of (N := 5) (by decide) (by grind) (by grind)) dL_law_442 (fun H locs hw => ?_)
  have hA : zAr Sa416 (zsR Sa438 22 q429 (upd (zR Sa438 22 q429) (2 : Int32).toNatClampNeg 0)) q429 5 [0, 0, 0] := zAr.st (k := 2) hA kq429 (by decide) rfl
  generalize (zsR Sa438 22 q429 (upd (zR Sa438 22 q429) (2 : Int32).toNatClampNeg 0)) = Sa442 at hw hA
  refine lv_dup hx hb dL_law_443 rfl ?_
  refine lv_iconst (v := 3) hx hb dL_law_444 (by decide) ?_
  refine lv_iconst (v := 1) hx hb dL_law_445 (by decide) ?_
  refine zast_I (a := q429) C hw hA.2.1 hA.2.2.1 (zin_of (N := 5) (by decide) (by grind) (by grind)) dL_law_446 (fun H locs hw => ?_)
  have hA : zAr Sa416 (zsR Sa442 22 q429 (upd (zR Sa442 22 q429) (3 : Int32).toNatClampNeg 1)) q429 5 [0, 0, 0, 1] := zAr.st (k := 3) hA kq429 (by decide) rfl
  generalize (zsR Sa442 22 q429 (upd (zR Sa442 22 q429) (3 : Int32).toNatClampNeg 1)) = Sa446 at hw hA
  refine lv_dup hx hb dL_law_447 rfl ?_
  refine lv_iconst (v := 4) hx hb dL_law_448 (by decide) ?_
  refine lv_bipush (v := 110) hx hb dL_law_449 (by decide) ?_
  refine zast_I (a := q429) C hw hA.2.1 hA.2.2.1 (zin_of (N := 5) (by decide) (by grind) (by grind)) dL_law_451 (fun H locs hw => ?_)
  have hA : zAr Sa416 (zsR Sa446 22 q429 (upd (zR Sa446 22 q429) (4 : Int32).toNatClampNeg 110)) q429 5 [0, 0, 0, 1, 110] := zAr.st (k := 4) hA kq429 (by decide) rfl
  generalize (zsR Sa446 22 q429 (upd (zR Sa446 22 q429) (4 : Int32).toNatClampNeg 110)) = Sa451 at hw hA
  obtain ⟨hG, hK9, hN9, hA⟩ := hA
  have hj0 : zR Sa451 22 q429 0 = 0 := (hA 0 0 rfl).trans rfl
  have hj1 : zR Sa451 22 q429 1 = 0 := (hA 1 0 rfl).trans rfl
  have hj2 : zR Sa451 22 q429 2 = 0 := (hA 2 0 rfl).trans rfl
  have hj3 : zR Sa451 22 q429 3 = 1 := (hA 3 1 rfl).trans rfl
  have hj4 : zR Sa451 22 q429 4 = 110 := (hA 4 110 rfl).trans rfl
  have hNw := zNew.gw hG hNw
  refine zcSW_i (As := [.ref (a 0), .int 115, .ref q429]) (rest := []) (n9 := 3) C hw (c_L_ask_s_serial_r l hst D y base Sa451 a 0 0 0 1 110 q429 hNw.1 hNw.2.1 (by decide +kernel) hK9 hN9 hj0 hj1 hj2 hj3 hj4 (by decide)) gL_law_L_ask rfl (by decide +kernel) ⟨⟨rfl, rfl⟩, Nat.le_of_ble_eq_true rfl, Nat.le_of_ble_eq_true rfl⟩ rfl hl.1 rfl (Nat.le_of_ble_eq_true rfl) ⟨Nat.le_of_ble_eq_true rfl, Nat.le_of_ble_eq_true rfl⟩ dL_law_452 (fun r452 S452 H locs hp452 hw => ?_)
  have h9 : r452 = (-2000000002) ∧ S452 = Sa451 := by
    rcases hp452 with h | h
    · exact absurd h.1 (by decide +kernel)
    · exact h.2
  obtain ⟨rfl, hS9⟩ := h9
  have hS9 := hS9.symm
  subst hS9
  refine lv_ldc (own := RL) (v := (-2000000002)) hx hb hown (hts (.constant RL 71 (-2000000002)) (by decide +kernel)) dL_law_455 ?_
  refine lv_icmp_ne (tgt := 1945) hx hb dL_law_457 (by decide) (fun c457 => absurd c457 (by decide)) (fun _ => ?_)
  refine lv_aload_n hx hb dL_law_460 rfl (lv_at hl 0 rfl) ?_
  refine lv_bipush (v := 115) hx hb dL_law_461 (by decide) ?_
  refine lv_iconst (v := 5) hx hb dL_law_463 (by decide) ?_
  refine znewI (N := 5) C hw (by decide +kernel) (by decide) (by decide) (Nat.le_of_ble_eq_true rfl) (Nat.le_of_ble_eq_true rfl) (Nat.le_of_ble_eq_true rfl) dL_law_464 (fun q464 H kq464 hw => ?_)
  have hA : zAr Sa451 (znR Sa451 q464 22 5 (fun _ => 0)) q464 5 [] := zAr.new kq464
  generalize (znR Sa451 q464 22 5 (fun _ => 0)) = Sa464 at hw hA
  refine lv_dup hx hb dL_law_466 rfl ?_
  refine lv_iconst (v := 0) hx hb dL_law_467 (by decide) ?_
  refine lv_iconst (v := 0) hx hb dL_law_468 (by decide) ?_
  refine zast_I (a := q464) C hw hA.2.1 hA.2.2.1 (zin_of (N := 5) (by decide) (by grind) (by grind)) dL_law_469 (fun H locs hw => ?_)
  have hA : zAr Sa451 (zsR Sa464 22 q464 (upd (zR Sa464 22 q464) (0 : Int32).toNatClampNeg 0)) q464 5 [0] := zAr.st (k := 0) hA kq464 (by decide) rfl
  generalize (zsR Sa464 22 q464 (upd (zR Sa464 22 q464) (0 : Int32).toNatClampNeg 0)) = Sa469 at hw hA
  refine lv_dup hx hb dL_law_470 rfl ?_
  refine lv_iconst (v := 1) hx hb dL_law_471 (by decide) ?_
  refine lv_iconst (v := 0) hx hb dL_law_472 (by decide) ?_
  refine zast_I (a := q464) C hw hA.2.1 hA.2.2.1 (zin_of (N := 5) (by decide) (by grind) (by grind)) dL_law_473 (fun H locs hw => ?_)
  have hA : zAr Sa451 (zsR Sa469 22 q464 (upd (zR Sa469 22 q464) (1 : Int32).toNatClampNeg 0)) q464 5 [0, 0] := zAr.st (k := 1) hA kq464 (by decide) rfl
  generalize (zsR Sa469 22 q464 (upd (zR Sa469 22 q464) (1 : Int32).toNatClampNeg 0)) = Sa473 at hw hA
  refine lv_dup hx hb dL_law_474 rfl ?_
  refine lv_iconst (v := 2) hx hb dL_law_475 (by decide) ?_
  refine lv_iconst (v := 0) hx hb dL_law_476 (by decide) ?_
  refine zast_I (a := q464) C hw hA.2.1 hA.2.2.1 (zin_of (N := 5) (by decide) (by grind) (by grind)) dL_law_477 (fun H locs hw => ?_)
  have hA : zAr Sa451 (zsR Sa473 22 q464 (upd (zR Sa473 22 q464) (2 : Int32).toNatClampNeg 0)) q464 5 [0, 0, 0] := zAr.st (k := 2) hA kq464 (by decide) rfl
  generalize (zsR Sa473 22 q464 (upd (zR Sa473 22 q464) (2 : Int32).toNatClampNeg 0)) = Sa477 at hw hA
  refine lv_dup hx hb dL_law_478 rfl ?_
  refine lv_iconst (v := 3) hx hb dL_law_479 (by decide) ?_
  refine lv_iconst (v := 2) hx hb dL_law_480 (by decide) ?_
  refine zast_I (a := q464) C hw hA.2.1 hA.2.2.1 (zin_of (N := 5) (by decide) (by grind) (by grind)) dL_law_481 (fun H locs hw => ?_)
  have hA : zAr Sa451 (zsR Sa477 22 q464 (upd (zR Sa477 22 q464) (3 : Int32).toNatClampNeg 2)) q464 5 [0, 0, 0, 2] := zAr.st (k := 3) hA kq464 (by decide) rfl
  generalize (zsR Sa477 22 q464 (upd (zR Sa477 22 q464) (3 : Int32).toNatClampNeg 2)) = Sa481 at hw hA
  refine lv_dup hx hb dL_law_482 rfl ?_
  refine lv_iconst (v := 4) hx hb dL_law_483 (by decide) ?_
  refine lv_bipush (v := 120) hx hb dL_law_484 (by decide) ?_
  refine zast_I (a := q464) C hw hA.2.1 hA.2.2.1 (zin_of (N := 5) (by decide) (by grind) (by grind)) dL_law_486 (fun H locs hw => ?_)
  have hA : zAr Sa451 (zsR Sa481 22 q464 (upd (zR Sa481 22 q464) (4 : Int32).toNatClampNeg 120)) q464 5 [0, 0, 0, 2, 120] := zAr.st (k := 4) hA kq464 (by decide) rfl
  generalize (zsR Sa481 22 q464 (upd (zR Sa481 22 q464) (4 : Int32).toNatClampNeg 120)) = Sa486 at hw hA
  obtain ⟨hG, hK9, hN9, hA⟩ := hA
  have hj0 : zR Sa486 22 q464 0 = 0 := (hA 0 0 rfl).trans rfl
  have hj1 : zR Sa486 22 q464 1 = 0 := (hA 1 0 rfl).trans rfl
  have hj2 : zR Sa486 22 q464 2 = 0 := (hA 2 0 rfl).trans rfl
  have hj3 : zR Sa486 22 q464 3 = 2 := (hA 3 2 rfl).trans rfl
  have hj4 : zR Sa486 22 q464 4 = 120 := (hA 4 120 rfl).trans rfl
  have hNw := zNew.gw hG hNw
  refine zcSW_i (As := [.ref (a 0), .int 115, .ref q464]) (rest := []) (n9 := 3) C hw (c_L_ask_s_serial_r l hst D y base Sa486 a 0 0 0 2 120 q464 hNw.1 hNw.2.1 (by decide +kernel) hK9 hN9 hj0 hj1 hj2 hj3 hj4 (by decide)) gL_law_L_ask rfl (by decide +kernel) ⟨⟨rfl, rfl⟩, Nat.le_of_ble_eq_true rfl, Nat.le_of_ble_eq_true rfl⟩ rfl hl.1 rfl (Nat.le_of_ble_eq_true rfl) ⟨Nat.le_of_ble_eq_true rfl, Nat.le_of_ble_eq_true rfl⟩ dL_law_487 (fun r487 S487 H locs hp487 hw => ?_)
  have h9 : r487 = (-2000000002) ∧ S487 = Sa486 := by
    rcases hp487 with h | h
    · exact absurd h.1 (by decide +kernel)
    · exact h.2
  obtain ⟨rfl, hS9⟩ := h9
  have hS9 := hS9.symm
  subst hS9
  refine lv_ldc (own := RL) (v := (-2000000002)) hx hb hown (hts (.constant RL 71 (-2000000002)) (by decide +kernel)) dL_law_490 ?_
  refine lv_icmp_ne (tgt := 1945) hx hb dL_law_492 (by decide) (fun c492 => absurd c492 (by decide)) (fun _ => ?_)
  refine lv_aload_n hx hb dL_law_495 rfl (lv_at hl 0 rfl) ?_
  refine lv_bipush (v := 115) hx hb dL_law_496 (by decide) ?_
  refine lv_iconst (v := 5) hx hb dL_law_498 (by decide) ?_
  refine znewI (N := 5) C hw (by decide +kernel) (by decide) (by decide) (Nat.le_of_ble_eq_true rfl) (Nat.le_of_ble_eq_true rfl) (Nat.le_of_ble_eq_true rfl) dL_law_499 (fun q499 H kq499 hw => ?_)
  have hA : zAr Sa486 (znR Sa486 q499 22 5 (fun _ => 0)) q499 5 [] := zAr.new kq499
  generalize (znR Sa486 q499 22 5 (fun _ => 0)) = Sa499 at hw hA
  refine lv_dup hx hb dL_law_501 rfl ?_
  refine lv_iconst (v := 0) hx hb dL_law_502 (by decide) ?_
  refine lv_iconst (v := 0) hx hb dL_law_503 (by decide) ?_
  refine zast_I (a := q499) C hw hA.2.1 hA.2.2.1 (zin_of (N := 5) (by decide) (by grind) (by grind)) dL_law_504 (fun H locs hw => ?_)
  have hA : zAr Sa486 (zsR Sa499 22 q499 (upd (zR Sa499 22 q499) (0 : Int32).toNatClampNeg 0)) q499 5 [0] := zAr.st (k := 0) hA kq499 (by decide) rfl
  generalize (zsR Sa499 22 q499 (upd (zR Sa499 22 q499) (0 : Int32).toNatClampNeg 0)) = Sa504 at hw hA
  refine lv_dup hx hb dL_law_505 rfl ?_
  refine lv_iconst (v := 1) hx hb dL_law_506 (by decide) ?_
  refine lv_iconst (v := 0) hx hb dL_law_507 (by decide) ?_
  refine zast_I (a := q499) C hw hA.2.1 hA.2.2.1 (zin_of (N := 5) (by decide) (by grind) (by grind)) dL_law_508 (fun H locs hw => ?_)
  have hA : zAr Sa486 (zsR Sa504 22 q499 (upd (zR Sa504 22 q499) (1 : Int32).toNatClampNeg 0)) q499 5 [0, 0] := zAr.st (k := 1) hA kq499 (by decide) rfl
  generalize (zsR Sa504 22 q499 (upd (zR Sa504 22 q499) (1 : Int32).toNatClampNeg 0)) = Sa508 at hw hA
  refine lv_dup hx hb dL_law_509 rfl ?_
  refine lv_iconst (v := 2) hx hb dL_law_510 (by decide) ?_
  refine lv_sipush (v := 9999) hx hb dL_law_511 (by decide) ?_
  refine zast_I (a := q499) C hw hA.2.1 hA.2.2.1 (zin_of (N := 5) (by decide) (by grind) (by grind)) dL_law_514 (fun H locs hw => ?_)
  have hA : zAr Sa486 (zsR Sa508 22 q499 (upd (zR Sa508 22 q499) (2 : Int32).toNatClampNeg 9999)) q499 5 [0, 0, 9999] := zAr.st (k := 2) hA kq499 (by decide) rfl
  generalize (zsR Sa508 22 q499 (upd (zR Sa508 22 q499) (2 : Int32).toNatClampNeg 9999)) = Sa514 at hw hA
  refine lv_dup hx hb dL_law_515 rfl ?_
  refine lv_iconst (v := 3) hx hb dL_law_516 (by decide) ?_
  refine lv_iconst (v := 2) hx hb dL_law_517 (by decide) ?_
  refine zast_I (a := q499) C hw hA.2.1 hA.2.2.1 (zin_of (N := 5) (by decide) (by grind) (by grind)) dL_law_518 (fun H locs hw => ?_)
  have hA : zAr Sa486 (zsR Sa514 22 q499 (upd (zR Sa514 22 q499) (3 : Int32).toNatClampNeg 2)) q499 5 [0, 0, 9999, 2] := zAr.st (k := 3) hA kq499 (by decide) rfl
  generalize (zsR Sa514 22 q499 (upd (zR Sa514 22 q499) (3 : Int32).toNatClampNeg 2)) = Sa518 at hw hA
  refine lv_dup hx hb dL_law_519 rfl ?_
  refine lv_iconst (v := 4) hx hb dL_law_520 (by decide) ?_
  refine lv_bipush (v := 110) hx hb dL_law_521 (by decide) ?_
  refine zast_I (a := q499) C hw hA.2.1 hA.2.2.1 (zin_of (N := 5) (by decide) (by grind) (by grind)) dL_law_523 (fun H locs hw => ?_)
  have hA : zAr Sa486 (zsR Sa518 22 q499 (upd (zR Sa518 22 q499) (4 : Int32).toNatClampNeg 110)) q499 5 [0, 0, 9999, 2, 110] := zAr.st (k := 4) hA kq499 (by decide) rfl
  generalize (zsR Sa518 22 q499 (upd (zR Sa518 22 q499) (4 : Int32).toNatClampNeg 110)) = Sa523 at hw hA
  obtain ⟨hG, hK9, hN9, hA⟩ := hA
  have hj0 : zR Sa523 22 q499 0 = (nI 0) := (hA 0 0 rfl).trans rfl
  have hj1 : zR Sa523 22 q499 1 = (nI 0) := (hA 1 0 rfl).trans rfl
  have hj2 : zR Sa523 22 q499 2 = (nI 9999) := (hA 2 9999 rfl).trans rfl
  have hj3 : zR Sa523 22 q499 3 = (nI 2) := (hA 3 2 rfl).trans rfl
  have hj4 : zR Sa523 22 q499 4 = 110 := (hA 4 110 rfl).trans rfl
  have hNw := zNew.gw hG hNw
  refine zcSW_i (As := [.ref (a 0), .int 115, .ref q499]) (rest := []) (n9 := 3) C hw (c_L_ask_s_serial_n l hst D y base Sa523 a 0 0 9999 2 110 _ _ _ _ _ _ _ q499 hNw.1 hDs (by decide +kernel) (by decide +kernel) (by decide +kernel) (by decide +kernel) (by decide +kernel) (zOb.new hNw) (⟨10017, by decide, by decide +kernel⟩) hK9 hN9 hj0 hj1 hj2 hj3 hj4 (by decide)) gL_law_L_ask rfl (by decide +kernel) ⟨⟨rfl, rfl⟩, Nat.le_of_ble_eq_true rfl, Nat.le_of_ble_eq_true rfl⟩ rfl hl.1 rfl (Nat.le_of_ble_eq_true rfl) ⟨Nat.le_of_ble_eq_true rfl, Nat.le_of_ble_eq_true rfl⟩ dL_law_524 (fun r524 S524 H locs hp524 hw => ?_)
  obtain ⟨rfl, hLt⟩ := hp524
  have hNw := zNew.late hDs hNw hLt
  refine lv_ldc (own := RL) (v := (-2000000003)) hx hb hown (hts (.constant RL 74 (-2000000003)) (by decide +kernel)) dL_law_527 ?_
  refine lv_icmp_ne (tgt := 1945) hx hb dL_law_529 (by decide) (fun c529 => absurd c529 (by decide)) (fun _ => ?_)
  refine lv_aload_n hx hb dL_law_532 rfl (lv_at hl 0 rfl) ?_
  refine lv_bipush (v := 116) hx hb dL_law_533 (by decide) ?_
  refine lv_bipush (v := 8) hx hb dL_law_535 (by decide) ?_
  refine znewI (N := 8) C hw (by decide +kernel) (by decide) (by decide) (Nat.le_of_ble_eq_true rfl) (Nat.le_of_ble_eq_true rfl) (Nat.le_of_ble_eq_true rfl) dL_law_537 (fun q537 H kq537 hw => ?_)
  have hA : zAr S524 (znR S524 q537 22 8 (fun _ => 0)) q537 8 [] := zAr.new kq537
  generalize (znR S524 q537 22 8 (fun _ => 0)) = Sa537 at hw hA
  refine lv_dup hx hb dL_law_539 rfl ?_
  refine lv_iconst (v := 0) hx hb dL_law_540 (by decide) ?_
  refine lv_iconst (v := 0) hx hb dL_law_541 (by decide) ?_
  refine zast_I (a := q537) C hw hA.2.1 hA.2.2.1 (zin_of (N := 8) (by decide) (by grind) (by grind)) dL_law_542 (fun H locs hw => ?_)
  have hA : zAr S524 (zsR Sa537 22 q537 (upd (zR Sa537 22 q537) (0 : Int32).toNatClampNeg 0)) q537 8 [0] := zAr.st (k := 0) hA kq537 (by decide) rfl
  generalize (zsR Sa537 22 q537 (upd (zR Sa537 22 q537) (0 : Int32).toNatClampNeg 0)) = Sa542 at hw hA
  refine lv_dup hx hb dL_law_543 rfl ?_
  refine lv_iconst (v := 1) hx hb dL_law_544 (by decide) ?_
  refine lv_iconst (v := 4) hx hb dL_law_545 (by decide) ?_
  refine zast_I (a := q537) C hw hA.2.1 hA.2.2.1 (zin_of (N := 8) (by decide) (by grind) (by grind)) dL_law_546 (fun H locs hw => ?_)
  have hA : zAr S524 (zsR Sa542 22 q537 (upd (zR Sa542 22 q537) (1 : Int32).toNatClampNeg 4)) q537 8 [0, 4] := zAr.st (k := 1) hA kq537 (by decide) rfl
  generalize (zsR Sa542 22 q537 (upd (zR Sa542 22 q537) (1 : Int32).toNatClampNeg 4)) = Sa546 at hw hA
  refine lv_dup hx hb dL_law_547 rfl ?_
  refine lv_iconst (v := 2) hx hb dL_law_548 (by decide) ?_
  refine lv_iconst (v := 0) hx hb dL_law_549 (by decide) ?_
  refine zast_I (a := q537) C hw hA.2.1 hA.2.2.1 (zin_of (N := 8) (by decide) (by grind) (by grind)) dL_law_550 (fun H locs hw => ?_)
  have hA : zAr S524 (zsR Sa546 22 q537 (upd (zR Sa546 22 q537) (2 : Int32).toNatClampNeg 0)) q537 8 [0, 4, 0] := zAr.st (k := 2) hA kq537 (by decide) rfl
  generalize (zsR Sa546 22 q537 (upd (zR Sa546 22 q537) (2 : Int32).toNatClampNeg 0)) = Sa550 at hw hA
  refine lv_dup hx hb dL_law_551 rfl ?_
  refine lv_iconst (v := 3) hx hb dL_law_552 (by decide) ?_
  refine lv_iconst (v := 0) hx hb dL_law_553 (by decide) ?_
  refine zast_I (a := q537) C hw hA.2.1 hA.2.2.1 (zin_of (N := 8) (by decide) (by grind) (by grind)) dL_law_554 (fun H locs hw => ?_)
  have hA : zAr S524 (zsR Sa550 22 q537 (upd (zR Sa550 22 q537) (3 : Int32).toNatClampNeg 0)) q537 8 [0, 4, 0, 0] := zAr.st (k := 3) hA kq537 (by decide) rfl
  generalize (zsR Sa550 22 q537 (upd (zR Sa550 22 q537) (3 : Int32).toNatClampNeg 0)) = Sa554 at hw hA
  refine lv_dup hx hb dL_law_555 rfl ?_
  refine lv_iconst (v := 4) hx hb dL_law_556 (by decide) ?_
  refine lv_iconst (v := 0) hx hb dL_law_557 (by decide) ?_
  refine zast_I (a := q537) C hw hA.2.1 hA.2.2.1 (zin_of (N := 8) (by decide) (by grind) (by grind)) dL_law_558 (fun H locs hw => ?_)
  have hA : zAr S524 (zsR Sa554 22 q537 (upd (zR Sa554 22 q537) (4 : Int32).toNatClampNeg 0)) q537 8 [0, 4, 0, 0, 0] := zAr.st (k := 4) hA kq537 (by decide) rfl
  generalize (zsR Sa554 22 q537 (upd (zR Sa554 22 q537) (4 : Int32).toNatClampNeg 0)) = Sa558 at hw hA
  refine lv_dup hx hb dL_law_559 rfl ?_
  refine lv_iconst (v := 5) hx hb dL_law_560 (by decide) ?_
  refine lv_iconst (v := 0) hx hb dL_law_561 (by decide) ?_
  refine zast_I (a := q537) C hw hA.2.1 hA.2.2.1 (zin_of (N := 8) (by decide) (by grind) (by grind)) dL_law_562 (fun H locs hw => ?_)
  have hA : zAr S524 (zsR Sa558 22 q537 (upd (zR Sa558 22 q537) (5 : Int32).toNatClampNeg 0)) q537 8 [0, 4, 0, 0, 0, 0] := zAr.st (k := 5) hA kq537 (by decide) rfl
  generalize (zsR Sa558 22 q537 (upd (zR Sa558 22 q537) (5 : Int32).toNatClampNeg 0)) = Sa562 at hw hA
  refine lv_dup hx hb dL_law_563 rfl ?_
  refine lv_bipush (v := 6) hx hb dL_law_564 (by decide) ?_
  refine lv_iconst (v := 0) hx hb dL_law_566 (by decide) ?_
  refine zast_I (a := q537) C hw hA.2.1 hA.2.2.1 (zin_of (N := 8) (by decide) (by grind) (by grind)) dL_law_567 (fun H locs hw => ?_)
  have hA : zAr S524 (zsR Sa562 22 q537 (upd (zR Sa562 22 q537) (6 : Int32).toNatClampNeg 0)) q537 8 [0, 4, 0, 0, 0, 0, 0] := zAr.st (k := 6) hA kq537 (by decide) rfl
  generalize (zsR Sa562 22 q537 (upd (zR Sa562 22 q537) (6 : Int32).toNatClampNeg 0)) = Sa567 at hw hA
  refine lv_dup hx hb dL_law_568 rfl ?_
  refine lv_bipush (v := 7) hx hb dL_law_569 (by decide) ?_
  refine lv_iconst (v := 1) hx hb dL_law_571 (by decide) ?_
  refine zast_I (a := q537) C hw hA.2.1 hA.2.2.1 (zin_of (N := 8) (by decide) (by grind) (by grind)) dL_law_572 (fun H locs hw => ?_)
  have hA : zAr S524 (zsR Sa567 22 q537 (upd (zR Sa567 22 q537) (7 : Int32).toNatClampNeg 1)) q537 8 [0, 4, 0, 0, 0, 0, 0, 1] := zAr.st (k := 7) hA kq537 (by decide) rfl
  generalize (zsR Sa567 22 q537 (upd (zR Sa567 22 q537) (7 : Int32).toNatClampNeg 1)) = Sa572 at hw hA
  obtain ⟨hG, hK9, hN9, hA⟩ := hA
  have hj0 : zR Sa572 22 q537 0 = 0 := (hA 0 0 rfl).trans rfl
  have hj1 : zR Sa572 22 q537 1 = 4 := (hA 1 4 rfl).trans rfl
  have hj2 : zR Sa572 22 q537 2 = 0 := (hA 2 0 rfl).trans rfl
  have hj3 : zR Sa572 22 q537 3 = 0 := (hA 3 0 rfl).trans rfl
  have hj4 : zR Sa572 22 q537 4 = 0 := (hA 4 0 rfl).trans rfl
  have hj5 : zR Sa572 22 q537 5 = 0 := (hA 5 0 rfl).trans rfl
  have hj6 : zR Sa572 22 q537 6 = 0 := (hA 6 0 rfl).trans rfl
  have hj7 : zR Sa572 22 q537 7 = 1 := (hA 7 1 rfl).trans rfl
  have hNw := zNew.gw hG hNw
  refine zcSW_i (As := [.ref (a 0), .int 116, .ref q537]) (rest := []) (n9 := 3) C hw (c_L_ask_t_twoWires_r l hst D y base Sa572 a 0 4 0 0 0 0 0 1 q537 hNw.1 hNw.2.1 (by decide +kernel) (by decide +kernel) hK9 hN9 hj0 hj1 hj2 hj3 hj4 hj5 hj6 hj7) gL_law_L_ask rfl (by decide +kernel) ⟨⟨rfl, rfl⟩, Nat.le_of_ble_eq_true rfl, Nat.le_of_ble_eq_true rfl⟩ rfl hl.1 rfl (Nat.le_of_ble_eq_true rfl) ⟨Nat.le_of_ble_eq_true rfl, Nat.le_of_ble_eq_true rfl⟩ dL_law_573 (fun r573 S573 H locs hp573 hw => ?_)
  have h9 : r573 = (-2000000001) ∧ S573 = Sa572 := by
    rcases hp573 with h | h
    · exact h.2
    · exact absurd h.1 (by decide +kernel)
  obtain ⟨rfl, hS9⟩ := h9
  have hS9 := hS9.symm
  subst hS9
  refine lv_ldc (own := RL) (v := (-2000000001)) hx hb hown (hts (.constant RL 68 (-2000000001)) (by decide +kernel)) dL_law_576 ?_
  refine lv_icmp_ne (tgt := 1945) hx hb dL_law_578 (by decide) (fun c578 => absurd c578 (by decide)) (fun _ => ?_)
  exact law_part_2 hst C hr hlocks hy31 hNw hDs hbase hw hl

set_option maxHeartbeats 4000000 in
set_option maxRecDepth 100000 in
theorem law_part_0 {p : Program} {l : Launch} {e : Env} {s : State} {m : MethodId} {below : List Frame} {meth : Method} {c : Code} {H : Heap} {locs : List Loc} {ls : Array Slot} {D : va_G} {y : Nat → ClassId} {base : Nat} {S : zS} {a : Nat → Nat} {bs : Nat} (hst : l.stackTraces = false) (C : CallFix p m c code 2 s #[Value.ref bs] wsL_law RL) (hr : meth.sig.returnType = ret) (hlocks : meth.locks = false) (hy31 : y 99 < 2 ^ 31) (hNw : zNew S a) (hDs : zDs a) (hbase : base = s.heap.size) (hw : zW D y base S s H locs) (hl : lv_has ls 2 [(1, .ref (a 0)), (0, .ref (y 98))]) : W p l e room_1 s m #[Value.ref bs] below meth c H locs 37 5667 (lw_Z below #[Value.ref bs] s) (F0 m 72 ls []) := by
  have hx := C.1
  have hb := C.2.1
  have hown := C.2.2.2.1
  have hts := C.2.2.2.2
  refine lv_aload_n hx hb dL_law_72 rfl (lv_at hl 0 rfl) ?_
  refine lv_bipush (v := 73) hx hb dL_law_73 (by decide) ?_
  refine lv_iconst (v := 2) hx hb dL_law_75 (by decide) ?_
  refine znewI (N := 2) C hw (by decide +kernel) (by decide) (by decide) (Nat.le_of_ble_eq_true rfl) (Nat.le_of_ble_eq_true rfl) (Nat.le_of_ble_eq_true rfl) dL_law_76 (fun q76 H kq76 hw => ?_)
  have hA : zAr S (znR S q76 22 2 (fun _ => 0)) q76 2 [] := zAr.new kq76
  generalize (znR S q76 22 2 (fun _ => 0)) = Sa76 at hw hA
  refine lv_dup hx hb dL_law_78 rfl ?_
  refine lv_iconst (v := 0) hx hb dL_law_79 (by decide) ?_
  refine lv_iconst (v := 4) hx hb dL_law_80 (by decide) ?_
  refine zast_I (a := q76) C hw hA.2.1 hA.2.2.1 (zin_of (N := 2) (by decide) (by grind) (by grind)) dL_law_81 (fun H locs hw => ?_)
  have hA : zAr S (zsR Sa76 22 q76 (upd (zR Sa76 22 q76) (0 : Int32).toNatClampNeg 4)) q76 2 [4] := zAr.st (k := 0) hA kq76 (by decide) rfl
  generalize (zsR Sa76 22 q76 (upd (zR Sa76 22 q76) (0 : Int32).toNatClampNeg 4)) = Sa81 at hw hA
  refine lv_dup hx hb dL_law_82 rfl ?_
  refine lv_iconst (v := 1) hx hb dL_law_83 (by decide) ?_
  refine lv_iconst (v := 0) hx hb dL_law_84 (by decide) ?_
  refine zast_I (a := q76) C hw hA.2.1 hA.2.2.1 (zin_of (N := 2) (by decide) (by grind) (by grind)) dL_law_85 (fun H locs hw => ?_)
  have hA : zAr S (zsR Sa81 22 q76 (upd (zR Sa81 22 q76) (1 : Int32).toNatClampNeg 0)) q76 2 [4, 0] := zAr.st (k := 1) hA kq76 (by decide) rfl
  generalize (zsR Sa81 22 q76 (upd (zR Sa81 22 q76) (1 : Int32).toNatClampNeg 0)) = Sa85 at hw hA
  obtain ⟨hG, hK9, hN9, hA⟩ := hA
  have hj0 : zR Sa85 22 q76 0 = 4 := (hA 0 4 rfl).trans rfl
  have hj1 : zR Sa85 22 q76 1 = 0 := (hA 1 0 rfl).trans rfl
  have hNw := zNew.gw hG hNw
  refine zcSW_i (As := [.ref (a 0), .int 73, .ref q76]) (rest := []) (n9 := 3) C hw (c_L_ask_I_idle_r l hst D y base Sa85 a 4 0 q76 hNw.1 hNw.2.1 (by decide +kernel) hK9 hN9 hj0 hj1 (by decide +kernel)) gL_law_L_ask rfl (by decide +kernel) ⟨⟨rfl, rfl⟩, Nat.le_of_ble_eq_true rfl, Nat.le_of_ble_eq_true rfl⟩ rfl hl.1 rfl (Nat.le_of_ble_eq_true rfl) ⟨Nat.le_of_ble_eq_true rfl, Nat.le_of_ble_eq_true rfl⟩ dL_law_86 (fun r86 S86 H locs hp86 hw => ?_)
  have h9 : r86 = (-2000000001) ∧ S86 = Sa85 := hp86.2
  obtain ⟨rfl, hS9⟩ := h9
  have hS9 := hS9.symm
  subst hS9
  refine lv_ldc (own := RL) (v := (-2000000001)) hx hb hown (hts (.constant RL 68 (-2000000001)) (by decide +kernel)) dL_law_89 ?_
  refine lv_icmp_ne (tgt := 1945) hx hb dL_law_91 (by decide) (fun c91 => absurd c91 (by decide)) (fun _ => ?_)
  refine lv_aload_n hx hb dL_law_94 rfl (lv_at hl 0 rfl) ?_
  refine lv_bipush (v := 70) hx hb dL_law_95 (by decide) ?_
  refine lv_iconst (v := 2) hx hb dL_law_97 (by decide) ?_
  refine znewI (N := 2) C hw (by decide +kernel) (by decide) (by decide) (Nat.le_of_ble_eq_true rfl) (Nat.le_of_ble_eq_true rfl) (Nat.le_of_ble_eq_true rfl) dL_law_98 (fun q98 H kq98 hw => ?_)
  have hA : zAr Sa85 (znR Sa85 q98 22 2 (fun _ => 0)) q98 2 [] := zAr.new kq98
  generalize (znR Sa85 q98 22 2 (fun _ => 0)) = Sa98 at hw hA
  refine lv_dup hx hb dL_law_100 rfl ?_
  refine lv_iconst (v := 0) hx hb dL_law_101 (by decide) ?_
  refine lv_iconst (v := (-1)) hx hb dL_law_102 (by decide) ?_
  refine zast_I (a := q98) C hw hA.2.1 hA.2.2.1 (zin_of (N := 2) (by decide) (by grind) (by grind)) dL_law_103 (fun H locs hw => ?_)
  have hA : zAr Sa85 (zsR Sa98 22 q98 (upd (zR Sa98 22 q98) (0 : Int32).toNatClampNeg (-1))) q98 2 [(-1)] := zAr.st (k := 0) hA kq98 (by decide) rfl
  generalize (zsR Sa98 22 q98 (upd (zR Sa98 22 q98) (0 : Int32).toNatClampNeg (-1))) = Sa103 at hw hA
  refine lv_dup hx hb dL_law_104 rfl ?_
  refine lv_iconst (v := 1) hx hb dL_law_105 (by decide) ?_
  refine lv_iconst (v := 0) hx hb dL_law_106 (by decide) ?_
  refine zast_I (a := q98) C hw hA.2.1 hA.2.2.1 (zin_of (N := 2) (by decide) (by grind) (by grind)) dL_law_107 (fun H locs hw => ?_)
  have hA : zAr Sa85 (zsR Sa103 22 q98 (upd (zR Sa103 22 q98) (1 : Int32).toNatClampNeg 0)) q98 2 [(-1), 0] := zAr.st (k := 1) hA kq98 (by decide) rfl
  generalize (zsR Sa103 22 q98 (upd (zR Sa103 22 q98) (1 : Int32).toNatClampNeg 0)) = Sa107 at hw hA
  obtain ⟨hG, hK9, hN9, hA⟩ := hA
  have hj0 : zR Sa107 22 q98 0 = (-1) := (hA 0 (-1) rfl).trans rfl
  have hj1 : zR Sa107 22 q98 1 = 0 := (hA 1 0 rfl).trans rfl
  have hNw := zNew.gw hG hNw
  refine zcSW_i (As := [.ref (a 0), .int 70, .ref q98]) (rest := []) (n9 := 3) C hw (c_L_ask_F_flip_r l hst D y base Sa107 a (-1) 0 q98 hNw.1 hNw.2.1 (by decide +kernel) hK9 hN9 hj0 hj1) gL_law_L_ask rfl (by decide +kernel) ⟨⟨rfl, rfl⟩, Nat.le_of_ble_eq_true rfl, Nat.le_of_ble_eq_true rfl⟩ rfl hl.1 rfl (Nat.le_of_ble_eq_true rfl) ⟨Nat.le_of_ble_eq_true rfl, Nat.le_of_ble_eq_true rfl⟩ dL_law_108 (fun r108 S108 H locs hp108 hw => ?_)
  have h9 : r108 = (-2000000001) ∧ S108 = Sa107 := by
    rcases hp108 with h | h
    · exact h.2
    · exact absurd h.1 (by decide +kernel)
  obtain ⟨rfl, hS9⟩ := h9
  have hS9 := hS9.symm
  subst hS9
  refine lv_ldc (own := RL) (v := (-2000000001)) hx hb hown (hts (.constant RL 68 (-2000000001)) (by decide +kernel)) dL_law_111 ?_
  refine lv_icmp_ne (tgt := 1945) hx hb dL_law_113 (by decide) (fun c113 => absurd c113 (by decide)) (fun _ => ?_)
  refine lv_aload_n hx hb dL_law_116 rfl (lv_at hl 0 rfl) ?_
  refine lv_bipush (v := 70) hx hb dL_law_117 (by decide) ?_
  refine lv_iconst (v := 2) hx hb dL_law_119 (by decide) ?_
  refine znewI (N := 2) C hw (by decide +kernel) (by decide) (by decide) (Nat.le_of_ble_eq_true rfl) (Nat.le_of_ble_eq_true rfl) (Nat.le_of_ble_eq_true rfl) dL_law_120 (fun q120 H kq120 hw => ?_)
  have hA : zAr Sa107 (znR Sa107 q120 22 2 (fun _ => 0)) q120 2 [] := zAr.new kq120
  generalize (znR Sa107 q120 22 2 (fun _ => 0)) = Sa120 at hw hA
  refine lv_dup hx hb dL_law_122 rfl ?_
  refine lv_iconst (v := 0) hx hb dL_law_123 (by decide) ?_
  refine lv_iconst (v := 0) hx hb dL_law_124 (by decide) ?_
  refine zast_I (a := q120) C hw hA.2.1 hA.2.2.1 (zin_of (N := 2) (by decide) (by grind) (by grind)) dL_law_125 (fun H locs hw => ?_)
  have hA : zAr Sa107 (zsR Sa120 22 q120 (upd (zR Sa120 22 q120) (0 : Int32).toNatClampNeg 0)) q120 2 [0] := zAr.st (k := 0) hA kq120 (by decide) rfl
  generalize (zsR Sa120 22 q120 (upd (zR Sa120 22 q120) (0 : Int32).toNatClampNeg 0)) = Sa125 at hw hA
  refine lv_dup hx hb dL_law_126 rfl ?_
  refine lv_iconst (v := 1) hx hb dL_law_127 (by decide) ?_
  refine lv_sipush (v := 10000) hx hb dL_law_128 (by decide) ?_
  refine zast_I (a := q120) C hw hA.2.1 hA.2.2.1 (zin_of (N := 2) (by decide) (by grind) (by grind)) dL_law_131 (fun H locs hw => ?_)
  have hA : zAr Sa107 (zsR Sa125 22 q120 (upd (zR Sa125 22 q120) (1 : Int32).toNatClampNeg 10000)) q120 2 [0, 10000] := zAr.st (k := 1) hA kq120 (by decide) rfl
  generalize (zsR Sa125 22 q120 (upd (zR Sa125 22 q120) (1 : Int32).toNatClampNeg 10000)) = Sa131 at hw hA
  obtain ⟨hG, hK9, hN9, hA⟩ := hA
  have hj0 : zR Sa131 22 q120 0 = 0 := (hA 0 0 rfl).trans rfl
  have hj1 : zR Sa131 22 q120 1 = 10000 := (hA 1 10000 rfl).trans rfl
  have hNw := zNew.gw hG hNw
  refine zcSW_i (As := [.ref (a 0), .int 70, .ref q120]) (rest := []) (n9 := 3) C hw (c_L_ask_F_flip_r l hst D y base Sa131 a 0 10000 q120 hNw.1 hNw.2.1 (by decide +kernel) hK9 hN9 hj0 hj1) gL_law_L_ask rfl (by decide +kernel) ⟨⟨rfl, rfl⟩, Nat.le_of_ble_eq_true rfl, Nat.le_of_ble_eq_true rfl⟩ rfl hl.1 rfl (Nat.le_of_ble_eq_true rfl) ⟨Nat.le_of_ble_eq_true rfl, Nat.le_of_ble_eq_true rfl⟩ dL_law_132 (fun r132 S132 H locs hp132 hw => ?_)
  have h9 : r132 = (-2000000002) ∧ S132 = Sa131 := by
    rcases hp132 with h | h
    · exact absurd h.1 (by decide +kernel)
    · exact h.2
  obtain ⟨rfl, hS9⟩ := h9
  have hS9 := hS9.symm
  subst hS9
  refine lv_ldc (own := RL) (v := (-2000000002)) hx hb hown (hts (.constant RL 71 (-2000000002)) (by decide +kernel)) dL_law_135 ?_
  refine lv_icmp_ne (tgt := 1945) hx hb dL_law_137 (by decide) (fun c137 => absurd c137 (by decide)) (fun _ => ?_)
  refine lv_aload_n hx hb dL_law_140 rfl (lv_at hl 0 rfl) ?_
  refine lv_bipush (v := 70) hx hb dL_law_141 (by decide) ?_
  refine lv_iconst (v := 2) hx hb dL_law_143 (by decide) ?_
  refine znewI (N := 2) C hw (by decide +kernel) (by decide) (by decide) (Nat.le_of_ble_eq_true rfl) (Nat.le_of_ble_eq_true rfl) (Nat.le_of_ble_eq_true rfl) dL_law_144 (fun q144 H kq144 hw => ?_)
  have hA : zAr Sa131 (znR Sa131 q144 22 2 (fun _ => 0)) q144 2 [] := zAr.new kq144
  generalize (znR Sa131 q144 22 2 (fun _ => 0)) = Sa144 at hw hA
  refine lv_dup hx hb dL_law_146 rfl ?_
  refine lv_iconst (v := 0) hx hb dL_law_147 (by decide) ?_
  refine lv_iconst (v := 0) hx hb dL_law_148 (by decide) ?_
  refine zast_I (a := q144) C hw hA.2.1 hA.2.2.1 (zin_of (N := 2) (by decide) (by grind) (by grind)) dL_law_149 (fun H locs hw => ?_)
  have hA : zAr Sa131 (zsR Sa144 22 q144 (upd (zR Sa144 22 q144) (0 : Int32).toNatClampNeg 0)) q144 2 [0] := zAr.st (k := 0) hA kq144 (by decide) rfl
  generalize (zsR Sa144 22 q144 (upd (zR Sa144 22 q144) (0 : Int32).toNatClampNeg 0)) = Sa149 at hw hA
  refine lv_dup hx hb dL_law_150 rfl ?_
  refine lv_iconst (v := 1) hx hb dL_law_151 (by decide) ?_
  refine lv_iconst (v := (-1)) hx hb dL_law_152 (by decide) ?_
  refine zast_I (a := q144) C hw hA.2.1 hA.2.2.1 (zin_of (N := 2) (by decide) (by grind) (by grind)) dL_law_153 (fun H locs hw => ?_)
  have hA : zAr Sa131 (zsR Sa149 22 q144 (upd (zR Sa149 22 q144) (1 : Int32).toNatClampNeg (-1))) q144 2 [0, (-1)] := zAr.st (k := 1) hA kq144 (by decide) rfl
  generalize (zsR Sa149 22 q144 (upd (zR Sa149 22 q144) (1 : Int32).toNatClampNeg (-1))) = Sa153 at hw hA
  obtain ⟨hG, hK9, hN9, hA⟩ := hA
  have hj0 : zR Sa153 22 q144 0 = 0 := (hA 0 0 rfl).trans rfl
  have hj1 : zR Sa153 22 q144 1 = (-1) := (hA 1 (-1) rfl).trans rfl
  have hNw := zNew.gw hG hNw
  refine zcSW_i (As := [.ref (a 0), .int 70, .ref q144]) (rest := []) (n9 := 3) C hw (c_L_ask_F_flip_r l hst D y base Sa153 a 0 (-1) q144 hNw.1 hNw.2.1 (by decide +kernel) hK9 hN9 hj0 hj1) gL_law_L_ask rfl (by decide +kernel) ⟨⟨rfl, rfl⟩, Nat.le_of_ble_eq_true rfl, Nat.le_of_ble_eq_true rfl⟩ rfl hl.1 rfl (Nat.le_of_ble_eq_true rfl) ⟨Nat.le_of_ble_eq_true rfl, Nat.le_of_ble_eq_true rfl⟩ dL_law_154 (fun r154 S154 H locs hp154 hw => ?_)
  have h9 : r154 = (-2000000002) ∧ S154 = Sa153 := by
    rcases hp154 with h | h
    · exact absurd h.1 (by decide +kernel)
    · exact h.2
  obtain ⟨rfl, hS9⟩ := h9
  have hS9 := hS9.symm
  subst hS9
  refine lv_ldc (own := RL) (v := (-2000000002)) hx hb hown (hts (.constant RL 71 (-2000000002)) (by decide +kernel)) dL_law_157 ?_
  refine lv_icmp_ne (tgt := 1945) hx hb dL_law_159 (by decide) (fun c159 => absurd c159 (by decide)) (fun _ => ?_)
  refine lv_aload_n hx hb dL_law_162 rfl (lv_at hl 0 rfl) ?_
  refine lv_bipush (v := 76) hx hb dL_law_163 (by decide) ?_
  refine lv_iconst (v := 2) hx hb dL_law_165 (by decide) ?_
  refine znewI (N := 2) C hw (by decide +kernel) (by decide) (by decide) (Nat.le_of_ble_eq_true rfl) (Nat.le_of_ble_eq_true rfl) (Nat.le_of_ble_eq_true rfl) dL_law_166 (fun q166 H kq166 hw => ?_)
  have hA : zAr Sa153 (znR Sa153 q166 22 2 (fun _ => 0)) q166 2 [] := zAr.new kq166
  generalize (znR Sa153 q166 22 2 (fun _ => 0)) = Sa166 at hw hA
  refine lv_dup hx hb dL_law_168 rfl ?_
  refine lv_iconst (v := 0) hx hb dL_law_169 (by decide) ?_
  refine lv_iconst (v := 4) hx hb dL_law_170 (by decide) ?_
  refine zast_I (a := q166) C hw hA.2.1 hA.2.2.1 (zin_of (N := 2) (by decide) (by grind) (by grind)) dL_law_171 (fun H locs hw => ?_)
  have hA : zAr Sa153 (zsR Sa166 22 q166 (upd (zR Sa166 22 q166) (0 : Int32).toNatClampNeg 4)) q166 2 [4] := zAr.st (k := 0) hA kq166 (by decide) rfl
  generalize (zsR Sa166 22 q166 (upd (zR Sa166 22 q166) (0 : Int32).toNatClampNeg 4)) = Sa171 at hw hA
  refine lv_dup hx hb dL_law_172 rfl ?_
  refine lv_iconst (v := 1) hx hb dL_law_173 (by decide) ?_
  refine lv_iconst (v := 0) hx hb dL_law_174 (by decide) ?_
  refine zast_I (a := q166) C hw hA.2.1 hA.2.2.1 (zin_of (N := 2) (by decide) (by grind) (by grind)) dL_law_175 (fun H locs hw => ?_)
  have hA : zAr Sa153 (zsR Sa171 22 q166 (upd (zR Sa171 22 q166) (1 : Int32).toNatClampNeg 0)) q166 2 [4, 0] := zAr.st (k := 1) hA kq166 (by decide) rfl
  generalize (zsR Sa171 22 q166 (upd (zR Sa171 22 q166) (1 : Int32).toNatClampNeg 0)) = Sa175 at hw hA
  obtain ⟨hG, hK9, hN9, hA⟩ := hA
  have hj0 : zR Sa175 22 q166 0 = 4 := (hA 0 4 rfl).trans rfl
  have hj1 : zR Sa175 22 q166 1 = 0 := (hA 1 0 rfl).trans rfl
  have hNw := zNew.gw hG hNw
  refine zcSW_i (As := [.ref (a 0), .int 76, .ref q166]) (rest := []) (n9 := 3) C hw (c_L_ask_L_level_r l hst D y base Sa175 a 4 0 q166 hNw.1 hNw.2.1 (by decide +kernel) hK9 hN9 hj0 hj1) gL_law_L_ask rfl (by decide +kernel) ⟨⟨rfl, rfl⟩, Nat.le_of_ble_eq_true rfl, Nat.le_of_ble_eq_true rfl⟩ rfl hl.1 rfl (Nat.le_of_ble_eq_true rfl) ⟨Nat.le_of_ble_eq_true rfl, Nat.le_of_ble_eq_true rfl⟩ dL_law_176 (fun r176 S176 H locs hp176 hw => ?_)
  have h9 : r176 = (-2000000001) ∧ S176 = Sa175 := by
    rcases hp176 with h | h
    · exact h.2
    · exact absurd h.1 (by decide +kernel)
  obtain ⟨rfl, hS9⟩ := h9
  have hS9 := hS9.symm
  subst hS9
  refine lv_ldc (own := RL) (v := (-2000000001)) hx hb hown (hts (.constant RL 68 (-2000000001)) (by decide +kernel)) dL_law_179 ?_
  refine lv_icmp_ne (tgt := 1945) hx hb dL_law_181 (by decide) (fun c181 => absurd c181 (by decide)) (fun _ => ?_)
  refine lv_aload_n hx hb dL_law_184 rfl (lv_at hl 0 rfl) ?_
  refine lv_bipush (v := 76) hx hb dL_law_185 (by decide) ?_
  refine lv_iconst (v := 2) hx hb dL_law_187 (by decide) ?_
  refine znewI (N := 2) C hw (by decide +kernel) (by decide) (by decide) (Nat.le_of_ble_eq_true rfl) (Nat.le_of_ble_eq_true rfl) (Nat.le_of_ble_eq_true rfl) dL_law_188 (fun q188 H kq188 hw => ?_)
  have hA : zAr Sa175 (znR Sa175 q188 22 2 (fun _ => 0)) q188 2 [] := zAr.new kq188
  generalize (znR Sa175 q188 22 2 (fun _ => 0)) = Sa188 at hw hA
  refine lv_dup hx hb dL_law_190 rfl ?_
  refine lv_iconst (v := 0) hx hb dL_law_191 (by decide) ?_
  refine lv_iconst (v := 0) hx hb dL_law_192 (by decide) ?_
  refine zast_I (a := q188) C hw hA.2.1 hA.2.2.1 (zin_of (N := 2) (by decide) (by grind) (by grind)) dL_law_193 (fun H locs hw => ?_)
  have hA : zAr Sa175 (zsR Sa188 22 q188 (upd (zR Sa188 22 q188) (0 : Int32).toNatClampNeg 0)) q188 2 [0] := zAr.st (k := 0) hA kq188 (by decide) rfl
  generalize (zsR Sa188 22 q188 (upd (zR Sa188 22 q188) (0 : Int32).toNatClampNeg 0)) = Sa193 at hw hA
  refine lv_dup hx hb dL_law_194 rfl ?_
  refine lv_iconst (v := 1) hx hb dL_law_195 (by decide) ?_
  refine lv_sipush (v := 10000) hx hb dL_law_196 (by decide) ?_
  refine zast_I (a := q188) C hw hA.2.1 hA.2.2.1 (zin_of (N := 2) (by decide) (by grind) (by grind)) dL_law_199 (fun H locs hw => ?_)
  have hA : zAr Sa175 (zsR Sa193 22 q188 (upd (zR Sa193 22 q188) (1 : Int32).toNatClampNeg 10000)) q188 2 [0, 10000] := zAr.st (k := 1) hA kq188 (by decide) rfl
  generalize (zsR Sa193 22 q188 (upd (zR Sa193 22 q188) (1 : Int32).toNatClampNeg 10000)) = Sa199 at hw hA
  obtain ⟨hG, hK9, hN9, hA⟩ := hA
  have hj0 : zR Sa199 22 q188 0 = 0 := (hA 0 0 rfl).trans rfl
  have hj1 : zR Sa199 22 q188 1 = 10000 := (hA 1 10000 rfl).trans rfl
  have hNw := zNew.gw hG hNw
  refine zcSW_i (As := [.ref (a 0), .int 76, .ref q188]) (rest := []) (n9 := 3) C hw (c_L_ask_L_level_r l hst D y base Sa199 a 0 10000 q188 hNw.1 hNw.2.1 (by decide +kernel) hK9 hN9 hj0 hj1) gL_law_L_ask rfl (by decide +kernel) ⟨⟨rfl, rfl⟩, Nat.le_of_ble_eq_true rfl, Nat.le_of_ble_eq_true rfl⟩ rfl hl.1 rfl (Nat.le_of_ble_eq_true rfl) ⟨Nat.le_of_ble_eq_true rfl, Nat.le_of_ble_eq_true rfl⟩ dL_law_200 (fun r200 S200 H locs hp200 hw => ?_)
  have h9 : r200 = (-2000000002) ∧ S200 = Sa199 := by
    rcases hp200 with h | h
    · exact absurd h.1 (by decide +kernel)
    · exact h.2
  obtain ⟨rfl, hS9⟩ := h9
  have hS9 := hS9.symm
  subst hS9
  refine lv_ldc (own := RL) (v := (-2000000002)) hx hb hown (hts (.constant RL 71 (-2000000002)) (by decide +kernel)) dL_law_203 ?_
  refine lv_icmp_ne (tgt := 1945) hx hb dL_law_205 (by decide) (fun c205 => absurd c205 (by decide)) (fun _ => ?_)
  refine lv_aload_n hx hb dL_law_208 rfl (lv_at hl 0 rfl) ?_
  refine lv_bipush (v := 103) hx hb dL_law_209 (by decide) ?_
  refine lv_iconst (v := 3) hx hb dL_law_211 (by decide) ?_
  refine znewI (N := 3) C hw (by decide +kernel) (by decide) (by decide) (Nat.le_of_ble_eq_true rfl) (Nat.le_of_ble_eq_true rfl) (Nat.le_of_ble_eq_true rfl) dL_law_212 (fun q212 H kq212 hw => ?_)
  have hA : zAr Sa199 (znR Sa199 q212 22 3 (fun _ => 0)) q212 3 [] := zAr.new kq212
  generalize (znR Sa199 q212 22 3 (fun _ => 0)) = Sa212 at hw hA
  refine lv_dup hx hb dL_law_214 rfl ?_
  refine lv_iconst (v := 0) hx hb dL_law_215 (by decide) ?_
  refine lv_iconst (v := 4) hx hb dL_law_216 (by decide) ?_
  refine zast_I (a := q212) C hw hA.2.1 hA.2.2.1 (zin_of (N := 3) (by decide) (by grind) (by grind)) dL_law_217 (fun H locs hw => ?_)
  have hA : zAr Sa199 (zsR Sa212 22 q212 (upd (zR Sa212 22 q212) (0 : Int32).toNatClampNeg 4)) q212 3 [4] := zAr.st (k := 0) hA kq212 (by decide) rfl
  generalize (zsR Sa212 22 q212 (upd (zR Sa212 22 q212) (0 : Int32).toNatClampNeg 4)) = Sa217 at hw hA
  refine lv_dup hx hb dL_law_218 rfl ?_
  refine lv_iconst (v := 1) hx hb dL_law_219 (by decide) ?_
  refine lv_iconst (v := 0) hx hb dL_law_220 (by decide) ?_
  refine zast_I (a := q212) C hw hA.2.1 hA.2.2.1 (zin_of (N := 3) (by decide) (by grind) (by grind)) dL_law_221 (fun H locs hw => ?_)
  have hA : zAr Sa199 (zsR Sa217 22 q212 (upd (zR Sa217 22 q212) (1 : Int32).toNatClampNeg 0)) q212 3 [4, 0] := zAr.st (k := 1) hA kq212 (by decide) rfl
  generalize (zsR Sa217 22 q212 (upd (zR Sa217 22 q212) (1 : Int32).toNatClampNeg 0)) = Sa221 at hw hA
  refine lv_dup hx hb dL_law_222 rfl ?_
  refine lv_iconst (v := 2) hx hb dL_law_223 (by decide) ?_
  refine lv_iconst (v := 1) hx hb dL_law_224 (by decide) ?_
  refine zast_I (a := q212) C hw hA.2.1 hA.2.2.1 (zin_of (N := 3) (by decide) (by grind) (by grind)) dL_law_225 (fun H locs hw => ?_)
  have hA : zAr Sa199 (zsR Sa221 22 q212 (upd (zR Sa221 22 q212) (2 : Int32).toNatClampNeg 1)) q212 3 [4, 0, 1] := zAr.st (k := 2) hA kq212 (by decide) rfl
  generalize (zsR Sa221 22 q212 (upd (zR Sa221 22 q212) (2 : Int32).toNatClampNeg 1)) = Sa225 at hw hA
  obtain ⟨hG, hK9, hN9, hA⟩ := hA
  have hj0 : zR Sa225 22 q212 0 = 4 := (hA 0 4 rfl).trans rfl
  have hj1 : zR Sa225 22 q212 1 = 0 := (hA 1 0 rfl).trans rfl
  have hj2 : zR Sa225 22 q212 2 = 1 := (hA 2 1 rfl).trans rfl
  have hNw := zNew.gw hG hNw
  refine zcSW_i (As := [.ref (a 0), .int 103, .ref q212]) (rest := []) (n9 := 3) C hw (c_L_ask_g_glitch_r l hst D y base Sa225 a 4 0 1 q212 hNw.1 hNw.2.1 (by decide +kernel) hK9 hN9 hj0 hj1 hj2) gL_law_L_ask rfl (by decide +kernel) ⟨⟨rfl, rfl⟩, Nat.le_of_ble_eq_true rfl, Nat.le_of_ble_eq_true rfl⟩ rfl hl.1 rfl (Nat.le_of_ble_eq_true rfl) ⟨Nat.le_of_ble_eq_true rfl, Nat.le_of_ble_eq_true rfl⟩ dL_law_226 (fun r226 S226 H locs hp226 hw => ?_)
  have h9 : r226 = (-2000000001) ∧ S226 = Sa225 := by
    rcases hp226 with h | h
    · exact h.2
    · exact absurd h.1 (by decide +kernel)
  obtain ⟨rfl, hS9⟩ := h9
  have hS9 := hS9.symm
  subst hS9
  refine lv_ldc (own := RL) (v := (-2000000001)) hx hb hown (hts (.constant RL 68 (-2000000001)) (by decide +kernel)) dL_law_229 ?_
  refine lv_icmp_ne (tgt := 1945) hx hb dL_law_231 (by decide) (fun c231 => absurd c231 (by decide)) (fun _ => ?_)
  refine lv_aload_n hx hb dL_law_234 rfl (lv_at hl 0 rfl) ?_
  refine lv_bipush (v := 103) hx hb dL_law_235 (by decide) ?_
  refine lv_iconst (v := 3) hx hb dL_law_237 (by decide) ?_
  refine znewI (N := 3) C hw (by decide +kernel) (by decide) (by decide) (Nat.le_of_ble_eq_true rfl) (Nat.le_of_ble_eq_true rfl) (Nat.le_of_ble_eq_true rfl) dL_law_238 (fun q238 H kq238 hw => ?_)
  have hA : zAr Sa225 (znR Sa225 q238 22 3 (fun _ => 0)) q238 3 [] := zAr.new kq238
  generalize (znR Sa225 q238 22 3 (fun _ => 0)) = Sa238 at hw hA
  refine lv_dup hx hb dL_law_240 rfl ?_
  refine lv_iconst (v := 0) hx hb dL_law_241 (by decide) ?_
  refine lv_iconst (v := 0) hx hb dL_law_242 (by decide) ?_
  refine zast_I (a := q238) C hw hA.2.1 hA.2.2.1 (zin_of (N := 3) (by decide) (by grind) (by grind)) dL_law_243 (fun H locs hw => ?_)
  have hA : zAr Sa225 (zsR Sa238 22 q238 (upd (zR Sa238 22 q238) (0 : Int32).toNatClampNeg 0)) q238 3 [0] := zAr.st (k := 0) hA kq238 (by decide) rfl
  generalize (zsR Sa238 22 q238 (upd (zR Sa238 22 q238) (0 : Int32).toNatClampNeg 0)) = Sa243 at hw hA
  refine lv_dup hx hb dL_law_244 rfl ?_
  refine lv_iconst (v := 1) hx hb dL_law_245 (by decide) ?_
  refine lv_iconst (v := 0) hx hb dL_law_246 (by decide) ?_
  refine zast_I (a := q238) C hw hA.2.1 hA.2.2.1 (zin_of (N := 3) (by decide) (by grind) (by grind)) dL_law_247 (fun H locs hw => ?_)
  have hA : zAr Sa225 (zsR Sa243 22 q238 (upd (zR Sa243 22 q238) (1 : Int32).toNatClampNeg 0)) q238 3 [0, 0] := zAr.st (k := 1) hA kq238 (by decide) rfl
  generalize (zsR Sa243 22 q238 (upd (zR Sa243 22 q238) (1 : Int32).toNatClampNeg 0)) = Sa247 at hw hA
  refine lv_dup hx hb dL_law_248 rfl ?_
  refine lv_iconst (v := 2) hx hb dL_law_249 (by decide) ?_
  refine lv_iconst (v := 0) hx hb dL_law_250 (by decide) ?_
  refine zast_I (a := q238) C hw hA.2.1 hA.2.2.1 (zin_of (N := 3) (by decide) (by grind) (by grind)) dL_law_251 (fun H locs hw => ?_)
  have hA : zAr Sa225 (zsR Sa247 22 q238 (upd (zR Sa247 22 q238) (2 : Int32).toNatClampNeg 0)) q238 3 [0, 0, 0] := zAr.st (k := 2) hA kq238 (by decide) rfl
  generalize (zsR Sa247 22 q238 (upd (zR Sa247 22 q238) (2 : Int32).toNatClampNeg 0)) = Sa251 at hw hA
  obtain ⟨hG, hK9, hN9, hA⟩ := hA
  have hj0 : zR Sa251 22 q238 0 = 0 := (hA 0 0 rfl).trans rfl
  have hj1 : zR Sa251 22 q238 1 = 0 := (hA 1 0 rfl).trans rfl
  have hj2 : zR Sa251 22 q238 2 = 0 := (hA 2 0 rfl).trans rfl
  have hNw := zNew.gw hG hNw
  refine zcSW_i (As := [.ref (a 0), .int 103, .ref q238]) (rest := []) (n9 := 3) C hw (c_L_ask_g_glitch_r l hst D y base Sa251 a 0 0 0 q238 hNw.1 hNw.2.1 (by decide +kernel) hK9 hN9 hj0 hj1 hj2) gL_law_L_ask rfl (by decide +kernel) ⟨⟨rfl, rfl⟩, Nat.le_of_ble_eq_true rfl, Nat.le_of_ble_eq_true rfl⟩ rfl hl.1 rfl (Nat.le_of_ble_eq_true rfl) ⟨Nat.le_of_ble_eq_true rfl, Nat.le_of_ble_eq_true rfl⟩ dL_law_252 (fun r252 S252 H locs hp252 hw => ?_)
  have h9 : r252 = (-2000000002) ∧ S252 = Sa251 := by
    rcases hp252 with h | h
    · exact absurd h.1 (by decide +kernel)
    · exact h.2
  obtain ⟨rfl, hS9⟩ := h9
  have hS9 := hS9.symm
  subst hS9
  refine lv_ldc (own := RL) (v := (-2000000002)) hx hb hown (hts (.constant RL 71 (-2000000002)) (by decide +kernel)) dL_law_255 ?_
  refine lv_icmp_ne (tgt := 1945) hx hb dL_law_257 (by decide) (fun c257 => absurd c257 (by decide)) (fun _ => ?_)
  refine lv_aload_n hx hb dL_law_260 rfl (lv_at hl 0 rfl) ?_
  refine lv_bipush (v := 103) hx hb dL_law_261 (by decide) ?_
  refine lv_iconst (v := 3) hx hb dL_law_263 (by decide) ?_
  refine znewI (N := 3) C hw (by decide +kernel) (by decide) (by decide) (Nat.le_of_ble_eq_true rfl) (Nat.le_of_ble_eq_true rfl) (Nat.le_of_ble_eq_true rfl) dL_law_264 (fun q264 H kq264 hw => ?_)
  have hA : zAr Sa251 (znR Sa251 q264 22 3 (fun _ => 0)) q264 3 [] := zAr.new kq264
  generalize (znR Sa251 q264 22 3 (fun _ => 0)) = Sa264 at hw hA
  refine lv_dup hx hb dL_law_266 rfl ?_
  refine lv_iconst (v := 0) hx hb dL_law_267 (by decide) ?_
  refine lv_iconst (v := 0) hx hb dL_law_268 (by decide) ?_
  refine zast_I (a := q264) C hw hA.2.1 hA.2.2.1 (zin_of (N := 3) (by decide) (by grind) (by grind)) dL_law_269 (fun H locs hw => ?_)
  have hA : zAr Sa251 (zsR Sa264 22 q264 (upd (zR Sa264 22 q264) (0 : Int32).toNatClampNeg 0)) q264 3 [0] := zAr.st (k := 0) hA kq264 (by decide) rfl
  generalize (zsR Sa264 22 q264 (upd (zR Sa264 22 q264) (0 : Int32).toNatClampNeg 0)) = Sa269 at hw hA
  refine lv_dup hx hb dL_law_270 rfl ?_
  refine lv_iconst (v := 1) hx hb dL_law_271 (by decide) ?_
  refine lv_iconst (v := 0) hx hb dL_law_272 (by decide) ?_
  refine zast_I (a := q264) C hw hA.2.1 hA.2.2.1 (zin_of (N := 3) (by decide) (by grind) (by grind)) dL_law_273 (fun H locs hw => ?_)
  have hA : zAr Sa251 (zsR Sa269 22 q264 (upd (zR Sa269 22 q264) (1 : Int32).toNatClampNeg 0)) q264 3 [0, 0] := zAr.st (k := 1) hA kq264 (by decide) rfl
  generalize (zsR Sa269 22 q264 (upd (zR Sa269 22 q264) (1 : Int32).toNatClampNeg 0)) = Sa273 at hw hA
  refine lv_dup hx hb dL_law_274 rfl ?_
  refine lv_iconst (v := 2) hx hb dL_law_275 (by decide) ?_
  refine lv_bipush (v := 100) hx hb dL_law_276 (by decide) ?_
  refine zast_I (a := q264) C hw hA.2.1 hA.2.2.1 (zin_of (N := 3) (by decide) (by grind) (by grind)) dL_law_278 (fun H locs hw => ?_)
  have hA : zAr Sa251 (zsR Sa273 22 q264 (upd (zR Sa273 22 q264) (2 : Int32).toNatClampNeg 100)) q264 3 [0, 0, 100] := zAr.st (k := 2) hA kq264 (by decide) rfl
  generalize (zsR Sa273 22 q264 (upd (zR Sa273 22 q264) (2 : Int32).toNatClampNeg 100)) = Sa278 at hw hA
  obtain ⟨hG, hK9, hN9, hA⟩ := hA
  have hj0 : zR Sa278 22 q264 0 = 0 := (hA 0 0 rfl).trans rfl
  have hj1 : zR Sa278 22 q264 1 = 0 := (hA 1 0 rfl).trans rfl
  have hj2 : zR Sa278 22 q264 2 = 100 := (hA 2 100 rfl).trans rfl
  have hNw := zNew.gw hG hNw
  refine zcSW_i (As := [.ref (a 0), .int 103, .ref q264]) (rest := []) (n9 := 3) C hw (c_L_ask_g_glitch_r l hst D y base Sa278 a 0 0 100 q264 hNw.1 hNw.2.1 (by decide +kernel) hK9 hN9 hj0 hj1 hj2) gL_law_L_ask rfl (by decide +kernel) ⟨⟨rfl, rfl⟩, Nat.le_of_ble_eq_true rfl, Nat.le_of_ble_eq_true rfl⟩ rfl hl.1 rfl (Nat.le_of_ble_eq_true rfl) ⟨Nat.le_of_ble_eq_true rfl, Nat.le_of_ble_eq_true rfl⟩ dL_law_279 (fun r279 S279 H locs hp279 hw => ?_)
  have h9 : r279 = (-2000000002) ∧ S279 = Sa278 := by
    rcases hp279 with h | h
    · exact absurd h.1 (by decide +kernel)
    · exact h.2
  obtain ⟨rfl, hS9⟩ := h9
  have hS9 := hS9.symm
  subst hS9
  refine lv_ldc (own := RL) (v := (-2000000002)) hx hb hown (hts (.constant RL 71 (-2000000002)) (by decide +kernel)) dL_law_282 ?_
  refine lv_icmp_ne (tgt := 1945) hx hb dL_law_284 (by decide) (fun c284 => absurd c284 (by decide)) (fun _ => ?_)
  exact law_part_1 hst C hr hlocks hy31 hNw hDs hbase hw hl

