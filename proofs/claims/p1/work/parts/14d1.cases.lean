set_option maxHeartbeats 4000000 in
set_option maxRecDepth 100000 in
theorem law_case_8 {p : Program} {l : Launch} {e : Env} {s : State} {m : MethodId} {below : List Frame} {meth : Method} {c : Code} {H : Heap} {locs : List Loc} {ls : Array Slot} {D : va_G} {y : Nat → ClassId} {base : Nat} {S : zS} {a b : Nat → Nat} {o od bs : Nat} {xs : Nat → Int32} (hst : l.stackTraces = false) (C : CallFix p m c code 9 s #[Value.ref bs] wsL_law RL) (hend : zEnd p l e s m bs below meth c base)
    (hXs : va_X bs 9 xs s s.heap) (hbl : bs < s.heap.size) (hbs : base = s.heap.size) (hy : y 94 = 0) (hX : zX S a) (h0 : zX0 S a) (hM : zMd S b) (hM0 : zMd0 S b) (hF : zQ S 49 (b 4) = some (y 92) ∧ zQ S 49 (b 5) = some (y 92)) (hreg : ∀ i j, i < 128 → zR S 22 (b (100 + i)) j = 0) (hko : zK S o = 24) (hno : zN S o = 1)
    (hw : zW D y base S s H locs) (hl : lv_has ls 9 [(5, .int 0), (0, .ref bs), (1, .ref (a 0)), (2, .ref (b 0)), (3, .ref o), (4, .ref od)]) : W p l e room_1 s m #[Value.ref bs] below meth c H locs 1000 60000 (lw_Z below #[Value.ref bs] s) (F0 m 923 ls []) := by
  have hx := C.1
  have hb := C.2.1
  have hown := C.2.2.2.1
  have hts := C.2.2.2.2
  refine lv_aload_n hx hb dL_law_923 rfl (lv_at hl 2 rfl) ?_
  refine lv_aload_n hx hb dL_law_924 rfl (lv_at hl 1 rfl) ?_
  refine lv_iload hx hb dL_law_925 (lv_at hl 0 rfl) ?_
  refine lv_iconst (v := 1) hx hb dL_law_927 (by decide) ?_
  refine lv_iadd hx hb dL_law_928 ?_
  refine zrd (x := 1) (by decide) ?_
  refine zsld (v := xs 1) C hw hXs hbl hbs (zin_of (N := 9) (by decide) (by decide) (by decide)) rfl dL_law_929 ?_
  refine lv_aload_n hx hb dL_law_930 rfl (lv_at hl 1 rfl) ?_
  refine lv_iload hx hb dL_law_931 (lv_at hl 0 rfl) ?_
  refine lv_iconst (v := 2) hx hb dL_law_933 (by decide) ?_
  refine lv_iadd hx hb dL_law_934 ?_
  refine zrd (x := 2) (by decide) ?_
  refine zsld (v := xs 2) C hw hXs hbl hbs (zin_of (N := 9) (by decide) (by decide) (by decide)) rfl dL_law_935 ?_
  refine lv_aload_n hx hb dL_law_936 rfl (lv_at hl 1 rfl) ?_
  refine lv_iload hx hb dL_law_937 (lv_at hl 0 rfl) ?_
  refine lv_iconst (v := 3) hx hb dL_law_939 (by decide) ?_
  refine lv_iadd hx hb dL_law_940 ?_
  refine zrd (x := 3) (by decide) ?_
  refine zsld (v := xs 3) C hw hXs hbl hbs (zin_of (N := 9) (by decide) (by decide) (by decide)) rfl dL_law_941 ?_
  refine lv_aload_n hx hb dL_law_942 rfl (lv_at hl 1 rfl) ?_
  refine lv_iload hx hb dL_law_943 (lv_at hl 0 rfl) ?_
  refine lv_iconst (v := 4) hx hb dL_law_945 (by decide) ?_
  refine lv_iadd hx hb dL_law_946 ?_
  refine zrd (x := 4) (by decide) ?_
  refine zsld (v := xs 4) C hw hXs hbl hbs (zin_of (N := 9) (by decide) (by decide) (by decide)) rfl dL_law_947 ?_
  refine lv_aload_n hx hb dL_law_948 rfl (lv_at hl 1 rfl) ?_
  refine lv_iload hx hb dL_law_949 (lv_at hl 0 rfl) ?_
  refine lv_iconst (v := 5) hx hb dL_law_951 (by decide) ?_
  refine lv_iadd hx hb dL_law_952 ?_
  refine zrd (x := 5) (by decide) ?_
  refine zsld (v := xs 5) C hw hXs hbl hbs (zin_of (N := 9) (by decide) (by decide) (by decide)) rfl dL_law_953 ?_
  refine lv_aload_n hx hb dL_law_954 rfl (lv_at hl 1 rfl) ?_
  refine lv_iload hx hb dL_law_955 (lv_at hl 0 rfl) ?_
  refine lv_bipush (v := 6) hx hb dL_law_957 (by decide) ?_
  refine lv_iadd hx hb dL_law_959 ?_
  refine zrd (x := 6) (by decide) ?_
  refine zsld (v := xs 6) C hw hXs hbl hbs (zin_of (N := 9) (by decide) (by decide) (by decide)) rfl dL_law_960 ?_
  refine lv_aload_n hx hb dL_law_961 rfl (lv_at hl 1 rfl) ?_
  refine lv_iload hx hb dL_law_962 (lv_at hl 0 rfl) ?_
  refine lv_bipush (v := 7) hx hb dL_law_964 (by decide) ?_
  refine lv_iadd hx hb dL_law_966 ?_
  refine zrd (x := 7) (by decide) ?_
  refine zsld (v := xs 7) C hw hXs hbl hbs (zin_of (N := 9) (by decide) (by decide) (by decide)) rfl dL_law_967 ?_
  refine lv_aload_n hx hb dL_law_968 rfl (lv_at hl 4 rfl) ?_
  refine zcSW_i (As := [.ref (a 0), .int (xs 1), .int (xs 2), .int (xs 3), .int (xs 4), .int (xs 5), .int (xs 6), .int (xs 7), .ref o]) (rest := []) (n9 := 9) C hw (c_L_fourWires l hst D y base S a (xs 1) (xs 2) (xs 3) (xs 4) (xs 5) (xs 6) (xs 7) o hX (by first | assumption | exact zbo_01 _) hko (by first | assumption | exact zbo_01 _)) gL_law_L_fourWires rfl (by decide +kernel) ⟨⟨rfl, rfl⟩, Nat.le_of_ble_eq_true rfl, Nat.le_of_ble_eq_true rfl⟩ rfl hl.1 rfl (Nat.le_of_ble_eq_true rfl) ⟨Nat.le_of_ble_eq_true rfl, Nat.le_of_ble_eq_true rfl⟩ dL_law_969 (fun r969 S969 H locs hp969 hw => ?_)
  obtain ⟨hk9, hv9, hco⟩ := hp969
  obtain ⟨hM9, hM09, hF9, hF95⟩ := hco.ref hM hM0 hF
  obtain ⟨hko9, hno9⟩ := hco.o hko hno
  obtain ⟨y, y92, y94, y95, y96, hw⟩ := zW_out hw hy hko9 hno9
  have hMd : zMd (zdl S969 o) b := hM9.dl hko9
  have hM0d : zMd0 (zdl S969 o) b := hM09
  have hFd : zQ (zdl S969 o) 49 (b 4) = some (y 92) := by rw [y92]; exact hF9
  have hEd : zMdE (zdl S969 o) b := ⟨⟨_, hF9⟩, _, hF95⟩
  refine lv_istore (lv' := [(6, .int r969), (5, .int 0), (0, .ref bs), (1, .ref (a 0)), (2, .ref (b 0)), (3, .ref o), (4, .ref od)]) hx hb dL_law_972 hl (by decide) rfl (fun ls hl => ?_)
  refine lv_aload_n hx hb dL_law_974 rfl (lv_at hl 4 rfl) ?_
  refine lv_aload_n hx hb dL_law_975 rfl (lv_at hl 2 rfl) ?_
  refine lv_iload hx hb dL_law_976 (lv_at hl 1 rfl) ?_
  refine lv_iconst (v := 1) hx hb dL_law_978 (by decide) ?_
  refine lv_iadd hx hb dL_law_979 ?_
  refine zrd (x := 1) (by decide) ?_
  refine zsld (v := xs 1) C hw hXs hbl hbs (zin_of (N := 9) (by decide) (by decide) (by decide)) rfl dL_law_980 ?_
  refine lv_aload_n hx hb dL_law_981 rfl (lv_at hl 2 rfl) ?_
  refine lv_iload hx hb dL_law_982 (lv_at hl 1 rfl) ?_
  refine lv_iconst (v := 2) hx hb dL_law_984 (by decide) ?_
  refine lv_iadd hx hb dL_law_985 ?_
  refine zrd (x := 2) (by decide) ?_
  refine zsld (v := xs 2) C hw hXs hbl hbs (zin_of (N := 9) (by decide) (by decide) (by decide)) rfl dL_law_986 ?_
  refine lv_aload_n hx hb dL_law_987 rfl (lv_at hl 2 rfl) ?_
  refine lv_iload hx hb dL_law_988 (lv_at hl 1 rfl) ?_
  refine lv_iconst (v := 3) hx hb dL_law_990 (by decide) ?_
  refine lv_iadd hx hb dL_law_991 ?_
  refine zrd (x := 3) (by decide) ?_
  refine zsld (v := xs 3) C hw hXs hbl hbs (zin_of (N := 9) (by decide) (by decide) (by decide)) rfl dL_law_992 ?_
  refine lv_aload_n hx hb dL_law_993 rfl (lv_at hl 2 rfl) ?_
  refine lv_iload hx hb dL_law_994 (lv_at hl 1 rfl) ?_
  refine lv_iconst (v := 4) hx hb dL_law_996 (by decide) ?_
  refine lv_iadd hx hb dL_law_997 ?_
  refine zrd (x := 4) (by decide) ?_
  refine zsld (v := xs 4) C hw hXs hbl hbs (zin_of (N := 9) (by decide) (by decide) (by decide)) rfl dL_law_998 ?_
  refine lv_aload_n hx hb dL_law_999 rfl (lv_at hl 2 rfl) ?_
  refine lv_iload hx hb dL_law_1000 (lv_at hl 1 rfl) ?_
  refine lv_iconst (v := 5) hx hb dL_law_1002 (by decide) ?_
  refine lv_iadd hx hb dL_law_1003 ?_
  refine zrd (x := 5) (by decide) ?_
  refine zsld (v := xs 5) C hw hXs hbl hbs (zin_of (N := 9) (by decide) (by decide) (by decide)) rfl dL_law_1004 ?_
  refine lv_aload_n hx hb dL_law_1005 rfl (lv_at hl 2 rfl) ?_
  refine lv_iload hx hb dL_law_1006 (lv_at hl 1 rfl) ?_
  refine lv_bipush (v := 6) hx hb dL_law_1008 (by decide) ?_
  refine lv_iadd hx hb dL_law_1010 ?_
  refine zrd (x := 6) (by decide) ?_
  refine zsld (v := xs 6) C hw hXs hbl hbs (zin_of (N := 9) (by decide) (by decide) (by decide)) rfl dL_law_1011 ?_
  refine lv_aload_n hx hb dL_law_1012 rfl (lv_at hl 2 rfl) ?_
  refine lv_iload hx hb dL_law_1013 (lv_at hl 1 rfl) ?_
  refine lv_bipush (v := 7) hx hb dL_law_1015 (by decide) ?_
  refine lv_iadd hx hb dL_law_1017 ?_
  refine zrd (x := 7) (by decide) ?_
  refine zsld (v := xs 7) C hw hXs hbl hbs (zin_of (N := 9) (by decide) (by decide) (by decide)) rfl dL_law_1018 ?_
  refine zcV_i (As := [.int (xs 1), .int (xs 2), .int (xs 3), .int (xs 4), .int (xs 5), .int (xs 6), .int (xs 7)]) (rest := []) (n9 := 7) (b := (b 0)) C hw (c_X11_fourWires l D y base (zdl S969 o) b (xs 1) (xs 2) (xs 3) (xs 4) (xs 5) (xs 6) (xs 7) hMd (by first | assumption | exact zbo_01 _)) gL_law_X11_fourWires rfl (by decide +kernel) ⟨⟨rfl, rfl⟩, Nat.le_of_ble_eq_true rfl, Nat.le_of_ble_eq_true rfl⟩ hMd.1 ⟨by decide, by decide⟩ rfl rfl hl.1 rfl (Nat.le_of_ble_eq_true rfl) ⟨Nat.le_of_ble_eq_true rfl, Nat.le_of_ble_eq_true rfl⟩ dL_law_1019 (fun r1019 S1019 H locs hp1019 hw => ?_)
  obtain ⟨r1, r2, r3⟩ := hp1019
  refine lv_istore (lv' := [(7, .int r1019), (6, .int r969), (5, .int 0), (0, .ref bs), (1, .ref (a 0)), (2, .ref (b 0)), (3, .ref o), (4, .ref od)]) hx hb dL_law_1022 hl (by decide) rfl (fun ls hl => ?_)
  refine lv_aload_n hx hb dL_law_1024 rfl (lv_at hl 5 rfl) ?_
  refine zcV_i (As := []) (rest := []) (n9 := 0) (b := (b 0)) C hw (c_X11_thrown l D y base S1019 (b 0) (kd_four (xs 1) (xs 2) (xs 3) (xs 4) (xs 5) (xs 6) (xs 7)) r1 r2) gL_law_X11_thrown rfl (by decide +kernel) ⟨⟨rfl, rfl⟩, Nat.le_of_ble_eq_true rfl, Nat.le_of_ble_eq_true rfl⟩ r1 ⟨by decide, by decide⟩ rfl rfl hl.1 rfl (Nat.le_of_ble_eq_true rfl) ⟨Nat.le_of_ble_eq_true rfl, Nat.le_of_ble_eq_true rfl⟩ dL_law_1025 (fun r1025 S1025 H locs hp1025 hw => ?_)
  obtain ⟨rfl, hS9⟩ := hp1025
  have hS9 := hS9.symm
  subst hS9
  refine lv_iload hx hb dL_law_1028 (lv_at hl 1 rfl) ?_
  refine lv_icmp_eq (tgt := 1035) hx hb dL_law_1030 (by decide) (fun c1030 => ?_) (fun c1030 => (show False from (c1030 hk9.symm)).elim)
  refine lv_iload hx hb dL_law_1035 (lv_at hl 1 rfl) ?_
  refine lv_if_ne (tgt := 1052) hx hb dL_law_1037 (by decide) (fun c1037 => ?_) (fun c1037 => ?_)
  · refine lv_goto (tgt := 2892) hx hb dL_law_1052 (by decide) ?_
    exact hend _ _ _ _ _ (Nat.le_of_ble_eq_true rfl) (Nat.le_of_ble_eq_true rfl) hw.2.2.1 (lv_sub hl [2, 3] rfl)
  · have hz9 : kd_four (xs 1) (xs 2) (xs 3) (xs 4) (xs 5) (xs 6) (xs 7) = 0 := hk9.symm.trans c1037
    have hb9 := r3 hz9
    subst hb9
    refine lv_aload_n hx hb dL_law_1040 rfl (lv_at hl 6 rfl) ?_
    refine lv_iconst (v := 0) hx hb dL_law_1041 (by decide) ?_
    refine zaldX C hw y94 y95 dL_law_1042 ?_
    refine zrdl (x := (((xs 5) + 17 * (xs 6)).toInt64)) (y96.trans (hv9 hz9)) ?_
    refine lv_iload hx hb dL_law_1043 (lv_at hl 0 rfl) ?_
    refine lv_i2l (v := ((xs 5) + 17 * (xs 6)).toInt64) hx hb dL_law_1045 rfl ?_
    refine W.lcmp hx hb dL_law_1046 ?_
    refine zrd (x := 0) ((lg_cmp_eq _ _).mpr rfl) ?_
    refine lv_if_eq (tgt := 1052) hx hb dL_law_1047 (by decide) (fun _ => ?_) (fun c1047 => absurd c1047 (by decide))
    refine lv_goto (tgt := 2892) hx hb dL_law_1052 (by decide) ?_
    exact hend _ _ _ _ _ (Nat.le_of_ble_eq_true rfl) (Nat.le_of_ble_eq_true rfl) hw.2.2.1 (lv_sub hl [2, 3] rfl)

set_option maxHeartbeats 4000000 in
set_option maxRecDepth 100000 in
theorem law_case_9 {p : Program} {l : Launch} {e : Env} {s : State} {m : MethodId} {below : List Frame} {meth : Method} {c : Code} {H : Heap} {locs : List Loc} {ls : Array Slot} {D : va_G} {y : Nat → ClassId} {base : Nat} {S : zS} {a b : Nat → Nat} {o od bs : Nat} {xs : Nat → Int32} (hst : l.stackTraces = false) (C : CallFix p m c code 9 s #[Value.ref bs] wsL_law RL) (hend : zEnd p l e s m bs below meth c base)
    (hXs : va_X bs 9 xs s s.heap) (hbl : bs < s.heap.size) (hbs : base = s.heap.size) (hy : y 94 = 0) (hX : zX S a) (h0 : zX0 S a) (hM : zMd S b) (hM0 : zMd0 S b) (hF : zQ S 49 (b 4) = some (y 92) ∧ zQ S 49 (b 5) = some (y 92)) (hreg : ∀ i j, i < 128 → zR S 22 (b (100 + i)) j = 0) (hko : zK S o = 24) (hno : zN S o = 1)
    (hw : zW D y base S s H locs) (hl : lv_has ls 9 [(5, .int 0), (0, .ref bs), (1, .ref (a 0)), (2, .ref (b 0)), (3, .ref o), (4, .ref od)]) : W p l e room_1 s m #[Value.ref bs] below meth c H locs 1000 60000 (lw_Z below #[Value.ref bs] s) (F0 m 1055 ls []) := by
  have hx := C.1
  have hb := C.2.1
  have hown := C.2.2.2.1
  have hts := C.2.2.2.2
  refine lv_aload_n hx hb dL_law_1055 rfl (lv_at hl 2 rfl) ?_
  refine lv_aload_n hx hb dL_law_1056 rfl (lv_at hl 1 rfl) ?_
  refine lv_iload hx hb dL_law_1057 (lv_at hl 0 rfl) ?_
  refine lv_iconst (v := 1) hx hb dL_law_1059 (by decide) ?_
  refine lv_iadd hx hb dL_law_1060 ?_
  refine zrd (x := 1) (by decide) ?_
  refine zsld (v := xs 1) C hw hXs hbl hbs (zin_of (N := 9) (by decide) (by decide) (by decide)) rfl dL_law_1061 ?_
  refine lv_aload_n hx hb dL_law_1062 rfl (lv_at hl 1 rfl) ?_
  refine lv_iload hx hb dL_law_1063 (lv_at hl 0 rfl) ?_
  refine lv_iconst (v := 2) hx hb dL_law_1065 (by decide) ?_
  refine lv_iadd hx hb dL_law_1066 ?_
  refine zrd (x := 2) (by decide) ?_
  refine zsld (v := xs 2) C hw hXs hbl hbs (zin_of (N := 9) (by decide) (by decide) (by decide)) rfl dL_law_1067 ?_
  refine lv_aload_n hx hb dL_law_1068 rfl (lv_at hl 1 rfl) ?_
  refine lv_iload hx hb dL_law_1069 (lv_at hl 0 rfl) ?_
  refine lv_iconst (v := 3) hx hb dL_law_1071 (by decide) ?_
  refine lv_iadd hx hb dL_law_1072 ?_
  refine zrd (x := 3) (by decide) ?_
  refine zsld (v := xs 3) C hw hXs hbl hbs (zin_of (N := 9) (by decide) (by decide) (by decide)) rfl dL_law_1073 ?_
  refine lv_aload_n hx hb dL_law_1074 rfl (lv_at hl 1 rfl) ?_
  refine lv_iload hx hb dL_law_1075 (lv_at hl 0 rfl) ?_
  refine lv_iconst (v := 4) hx hb dL_law_1077 (by decide) ?_
  refine lv_iadd hx hb dL_law_1078 ?_
  refine zrd (x := 4) (by decide) ?_
  refine zsld (v := xs 4) C hw hXs hbl hbs (zin_of (N := 9) (by decide) (by decide) (by decide)) rfl dL_law_1079 ?_
  refine lv_aload_n hx hb dL_law_1080 rfl (lv_at hl 4 rfl) ?_
  refine zcSW_i (As := [.ref (a 0), .int (xs 1), .int (xs 2), .int (xs 3), .int (xs 4), .ref o]) (rest := []) (n9 := 6) C hw (c_L_capture l hst D y base S a (xs 1) (xs 2) (xs 3) (xs 4) o hX (by first | assumption | exact zbo_01 _) hko (by first | assumption | exact zbo_01 _)) gL_law_L_capture rfl (by decide +kernel) ⟨⟨rfl, rfl⟩, Nat.le_of_ble_eq_true rfl, Nat.le_of_ble_eq_true rfl⟩ rfl hl.1 rfl (Nat.le_of_ble_eq_true rfl) ⟨Nat.le_of_ble_eq_true rfl, Nat.le_of_ble_eq_true rfl⟩ dL_law_1081 (fun r1081 S1081 H locs hp1081 hw => ?_)
  obtain ⟨hk9, hv9, hco⟩ := hp1081
  obtain ⟨hM9, hM09, hF9, hF95⟩ := hco.ref hM hM0 hF
  obtain ⟨hko9, hno9⟩ := hco.o hko hno
  obtain ⟨y, y92, y94, y95, y96, hw⟩ := zW_out hw hy hko9 hno9
  have hMd : zMd (zdl S1081 o) b := hM9.dl hko9
  have hM0d : zMd0 (zdl S1081 o) b := hM09
  have hFd : zQ (zdl S1081 o) 49 (b 4) = some (y 92) := by rw [y92]; exact hF9
  have hEd : zMdE (zdl S1081 o) b := ⟨⟨_, hF9⟩, _, hF95⟩
  refine lv_istore (lv' := [(6, .int r1081), (5, .int 0), (0, .ref bs), (1, .ref (a 0)), (2, .ref (b 0)), (3, .ref o), (4, .ref od)]) hx hb dL_law_1084 hl (by decide) rfl (fun ls hl => ?_)
  refine lv_aload_n hx hb dL_law_1086 rfl (lv_at hl 4 rfl) ?_
  refine lv_aload_n hx hb dL_law_1087 rfl (lv_at hl 2 rfl) ?_
  refine lv_iload hx hb dL_law_1088 (lv_at hl 1 rfl) ?_
  refine lv_iconst (v := 1) hx hb dL_law_1090 (by decide) ?_
  refine lv_iadd hx hb dL_law_1091 ?_
  refine zrd (x := 1) (by decide) ?_
  refine zsld (v := xs 1) C hw hXs hbl hbs (zin_of (N := 9) (by decide) (by decide) (by decide)) rfl dL_law_1092 ?_
  refine lv_aload_n hx hb dL_law_1093 rfl (lv_at hl 2 rfl) ?_
  refine lv_iload hx hb dL_law_1094 (lv_at hl 1 rfl) ?_
  refine lv_iconst (v := 2) hx hb dL_law_1096 (by decide) ?_
  refine lv_iadd hx hb dL_law_1097 ?_
  refine zrd (x := 2) (by decide) ?_
  refine zsld (v := xs 2) C hw hXs hbl hbs (zin_of (N := 9) (by decide) (by decide) (by decide)) rfl dL_law_1098 ?_
  refine lv_aload_n hx hb dL_law_1099 rfl (lv_at hl 2 rfl) ?_
  refine lv_iload hx hb dL_law_1100 (lv_at hl 1 rfl) ?_
  refine lv_iconst (v := 3) hx hb dL_law_1102 (by decide) ?_
  refine lv_iadd hx hb dL_law_1103 ?_
  refine zrd (x := 3) (by decide) ?_
  refine zsld (v := xs 3) C hw hXs hbl hbs (zin_of (N := 9) (by decide) (by decide) (by decide)) rfl dL_law_1104 ?_
  refine lv_aload_n hx hb dL_law_1105 rfl (lv_at hl 2 rfl) ?_
  refine lv_iload hx hb dL_law_1106 (lv_at hl 1 rfl) ?_
  refine lv_iconst (v := 4) hx hb dL_law_1108 (by decide) ?_
  refine lv_iadd hx hb dL_law_1109 ?_
  refine zrd (x := 4) (by decide) ?_
  refine zsld (v := xs 4) C hw hXs hbl hbs (zin_of (N := 9) (by decide) (by decide) (by decide)) rfl dL_law_1110 ?_
  refine zcV_i (As := [.int (xs 1), .int (xs 2), .int (xs 3), .int (xs 4)]) (rest := []) (n9 := 4) (b := (b 0)) C hw (c_X11_capture l D y base (zdl S1081 o) b (xs 1) (xs 2) (xs 3) (xs 4) hMd (by first | assumption | exact zbo_01 _)) gL_law_X11_capture rfl (by decide +kernel) ⟨⟨rfl, rfl⟩, Nat.le_of_ble_eq_true rfl, Nat.le_of_ble_eq_true rfl⟩ hMd.1 ⟨by decide, by decide⟩ rfl rfl hl.1 rfl (Nat.le_of_ble_eq_true rfl) ⟨Nat.le_of_ble_eq_true rfl, Nat.le_of_ble_eq_true rfl⟩ dL_law_1111 (fun r1111 S1111 H locs hp1111 hw => ?_)
  obtain ⟨r1, r2, r3⟩ := hp1111
  refine lv_istore (lv' := [(7, .int r1111), (6, .int r1081), (5, .int 0), (0, .ref bs), (1, .ref (a 0)), (2, .ref (b 0)), (3, .ref o), (4, .ref od)]) hx hb dL_law_1114 hl (by decide) rfl (fun ls hl => ?_)
  refine lv_aload_n hx hb dL_law_1116 rfl (lv_at hl 5 rfl) ?_
  refine zcV_i (As := []) (rest := []) (n9 := 0) (b := (b 0)) C hw (c_X11_thrown l D y base S1111 (b 0) (kd_capture (xs 1) (xs 2) (xs 3) (xs 4)) r1 r2) gL_law_X11_thrown rfl (by decide +kernel) ⟨⟨rfl, rfl⟩, Nat.le_of_ble_eq_true rfl, Nat.le_of_ble_eq_true rfl⟩ r1 ⟨by decide, by decide⟩ rfl rfl hl.1 rfl (Nat.le_of_ble_eq_true rfl) ⟨Nat.le_of_ble_eq_true rfl, Nat.le_of_ble_eq_true rfl⟩ dL_law_1117 (fun r1117 S1117 H locs hp1117 hw => ?_)
  obtain ⟨rfl, hS9⟩ := hp1117
  have hS9 := hS9.symm
  subst hS9
  refine lv_iload hx hb dL_law_1120 (lv_at hl 1 rfl) ?_
  refine lv_icmp_eq (tgt := 1127) hx hb dL_law_1122 (by decide) (fun c1122 => ?_) (fun c1122 => (show False from (c1122 hk9.symm)).elim)
  refine lv_iload hx hb dL_law_1127 (lv_at hl 1 rfl) ?_
  refine lv_if_ne (tgt := 1144) hx hb dL_law_1129 (by decide) (fun c1129 => ?_) (fun c1129 => ?_)
  · refine lv_goto (tgt := 2892) hx hb dL_law_1144 (by decide) ?_
    exact hend _ _ _ _ _ (Nat.le_of_ble_eq_true rfl) (Nat.le_of_ble_eq_true rfl) hw.2.2.1 (lv_sub hl [2, 3] rfl)
  · have hz9 : kd_capture (xs 1) (xs 2) (xs 3) (xs 4) = 0 := hk9.symm.trans c1129
    have hb9 := r3 hz9
    subst hb9
    refine lv_aload_n hx hb dL_law_1132 rfl (lv_at hl 6 rfl) ?_
    refine lv_iconst (v := 0) hx hb dL_law_1133 (by decide) ?_
    refine zaldX C hw y94 y95 dL_law_1134 ?_
    refine zrdl (x := ((0 : Int32).toInt64)) (y96.trans (hv9 hz9)) ?_
    refine lv_iload hx hb dL_law_1135 (lv_at hl 0 rfl) ?_
    refine lv_i2l (v := (0 : Int32).toInt64) hx hb dL_law_1137 rfl ?_
    refine W.lcmp hx hb dL_law_1138 ?_
    refine zrd (x := 0) ((lg_cmp_eq _ _).mpr rfl) ?_
    refine lv_if_eq (tgt := 1144) hx hb dL_law_1139 (by decide) (fun _ => ?_) (fun c1139 => absurd c1139 (by decide))
    refine lv_goto (tgt := 2892) hx hb dL_law_1144 (by decide) ?_
    exact hend _ _ _ _ _ (Nat.le_of_ble_eq_true rfl) (Nat.le_of_ble_eq_true rfl) hw.2.2.1 (lv_sub hl [2, 3] rfl)

set_option maxHeartbeats 4000000 in
set_option maxRecDepth 100000 in
theorem law_case_10 {p : Program} {l : Launch} {e : Env} {s : State} {m : MethodId} {below : List Frame} {meth : Method} {c : Code} {H : Heap} {locs : List Loc} {ls : Array Slot} {D : va_G} {y : Nat → ClassId} {base : Nat} {S : zS} {a b : Nat → Nat} {o od bs : Nat} {xs : Nat → Int32} (hst : l.stackTraces = false) (C : CallFix p m c code 9 s #[Value.ref bs] wsL_law RL) (hend : zEnd p l e s m bs below meth c base)
    (hXs : va_X bs 9 xs s s.heap) (hbl : bs < s.heap.size) (hbs : base = s.heap.size) (hy : y 94 = 0) (hX : zX S a) (h0 : zX0 S a) (hM : zMd S b) (hM0 : zMd0 S b) (hF : zQ S 49 (b 4) = some (y 92) ∧ zQ S 49 (b 5) = some (y 92)) (hreg : ∀ i j, i < 128 → zR S 22 (b (100 + i)) j = 0) (hko : zK S o = 24) (hno : zN S o = 1)
    (hw : zW D y base S s H locs) (hl : lv_has ls 9 [(5, .int 0), (0, .ref bs), (1, .ref (a 0)), (2, .ref (b 0)), (3, .ref o), (4, .ref od)]) : W p l e room_1 s m #[Value.ref bs] below meth c H locs 1000 60000 (lw_Z below #[Value.ref bs] s) (F0 m 1147 ls []) := by
  have hx := C.1
  have hb := C.2.1
  have hown := C.2.2.2.1
  have hts := C.2.2.2.2
  refine lv_aload_n hx hb dL_law_1147 rfl (lv_at hl 2 rfl) ?_
  refine lv_aload_n hx hb dL_law_1148 rfl (lv_at hl 1 rfl) ?_
  refine lv_iload hx hb dL_law_1149 (lv_at hl 0 rfl) ?_
  refine lv_iconst (v := 1) hx hb dL_law_1151 (by decide) ?_
  refine lv_iadd hx hb dL_law_1152 ?_
  refine zrd (x := 1) (by decide) ?_
  refine zsld (v := xs 1) C hw hXs hbl hbs (zin_of (N := 9) (by decide) (by decide) (by decide)) rfl dL_law_1153 ?_
  refine lv_aload_n hx hb dL_law_1154 rfl (lv_at hl 4 rfl) ?_
  refine zcSW_i (As := [.ref (a 0), .int (xs 1), .ref o]) (rest := []) (n9 := 3) C hw (c_L_samples l hst D y base S a (xs 1) o hX (by first | assumption | exact zbo_01 _) hko (by first | assumption | exact zbo_01 _)) gL_law_L_samples rfl (by decide +kernel) ⟨⟨rfl, rfl⟩, Nat.le_of_ble_eq_true rfl, Nat.le_of_ble_eq_true rfl⟩ rfl hl.1 rfl (Nat.le_of_ble_eq_true rfl) ⟨Nat.le_of_ble_eq_true rfl, Nat.le_of_ble_eq_true rfl⟩ dL_law_1155 (fun r1155 S1155 H locs hp1155 hw => ?_)
  obtain ⟨hk9, hv9, hco⟩ := hp1155
  obtain ⟨hM9, hM09, hF9, hF95⟩ := hco.ref hM hM0 hF
  obtain ⟨hko9, hno9⟩ := hco.o hko hno
  obtain ⟨y, y92, y94, y95, y96, hw⟩ := zW_out hw hy hko9 hno9
  have hMd : zMd (zdl S1155 o) b := hM9.dl hko9
  have hM0d : zMd0 (zdl S1155 o) b := hM09
  have hFd : zQ (zdl S1155 o) 49 (b 4) = some (y 92) := by rw [y92]; exact hF9
  have hEd : zMdE (zdl S1155 o) b := ⟨⟨_, hF9⟩, _, hF95⟩
  refine lv_istore (lv' := [(6, .int r1155), (5, .int 0), (0, .ref bs), (1, .ref (a 0)), (2, .ref (b 0)), (3, .ref o), (4, .ref od)]) hx hb dL_law_1158 hl (by decide) rfl (fun ls hl => ?_)
  refine lv_aload_n hx hb dL_law_1160 rfl (lv_at hl 4 rfl) ?_
  refine lv_aload_n hx hb dL_law_1161 rfl (lv_at hl 2 rfl) ?_
  refine lv_iload hx hb dL_law_1162 (lv_at hl 1 rfl) ?_
  refine lv_iconst (v := 1) hx hb dL_law_1164 (by decide) ?_
  refine lv_iadd hx hb dL_law_1165 ?_
  refine zrd (x := 1) (by decide) ?_
  refine zsld (v := xs 1) C hw hXs hbl hbs (zin_of (N := 9) (by decide) (by decide) (by decide)) rfl dL_law_1166 ?_
  refine zcV_i (As := [.int (xs 1)]) (rest := []) (n9 := 1) (b := (b 0)) C hw (c_X11_samples l D y base (zdl S1155 o) b (xs 1) hMd (by first | assumption | exact zbo_01 _)) gL_law_X11_samples rfl (by decide +kernel) ⟨⟨rfl, rfl⟩, Nat.le_of_ble_eq_true rfl, Nat.le_of_ble_eq_true rfl⟩ hMd.1 ⟨by decide, by decide⟩ rfl rfl hl.1 rfl (Nat.le_of_ble_eq_true rfl) ⟨Nat.le_of_ble_eq_true rfl, Nat.le_of_ble_eq_true rfl⟩ dL_law_1167 (fun r1167 S1167 H locs hp1167 hw => ?_)
  obtain ⟨r1, r2, r3⟩ := hp1167
  refine lv_istore (lv' := [(7, .int r1167), (6, .int r1155), (5, .int 0), (0, .ref bs), (1, .ref (a 0)), (2, .ref (b 0)), (3, .ref o), (4, .ref od)]) hx hb dL_law_1170 hl (by decide) rfl (fun ls hl => ?_)
  refine lv_aload_n hx hb dL_law_1172 rfl (lv_at hl 5 rfl) ?_
  refine zcV_i (As := []) (rest := []) (n9 := 0) (b := (b 0)) C hw (c_X11_thrown l D y base S1167 (b 0) (kd_samples (xs 1)) r1 r2) gL_law_X11_thrown rfl (by decide +kernel) ⟨⟨rfl, rfl⟩, Nat.le_of_ble_eq_true rfl, Nat.le_of_ble_eq_true rfl⟩ r1 ⟨by decide, by decide⟩ rfl rfl hl.1 rfl (Nat.le_of_ble_eq_true rfl) ⟨Nat.le_of_ble_eq_true rfl, Nat.le_of_ble_eq_true rfl⟩ dL_law_1173 (fun r1173 S1173 H locs hp1173 hw => ?_)
  obtain ⟨rfl, hS9⟩ := hp1173
  have hS9 := hS9.symm
  subst hS9
  refine lv_iload hx hb dL_law_1176 (lv_at hl 1 rfl) ?_
  refine lv_icmp_eq (tgt := 1183) hx hb dL_law_1178 (by decide) (fun c1178 => ?_) (fun c1178 => (show False from (c1178 hk9.symm)).elim)
  refine lv_iload hx hb dL_law_1183 (lv_at hl 1 rfl) ?_
  refine lv_if_ne (tgt := 1200) hx hb dL_law_1185 (by decide) (fun c1185 => ?_) (fun c1185 => ?_)
  · refine lv_goto (tgt := 2892) hx hb dL_law_1200 (by decide) ?_
    exact hend _ _ _ _ _ (Nat.le_of_ble_eq_true rfl) (Nat.le_of_ble_eq_true rfl) hw.2.2.1 (lv_sub hl [2, 3] rfl)
  · have hz9 : kd_samples (xs 1) = 0 := hk9.symm.trans c1185
    have hb9 := r3 hz9
    subst hb9
    refine lv_aload_n hx hb dL_law_1188 rfl (lv_at hl 6 rfl) ?_
    refine lv_iconst (v := 0) hx hb dL_law_1189 (by decide) ?_
    refine zaldX C hw y94 y95 dL_law_1190 ?_
    refine zrdl (x := ((0 : Int32).toInt64)) (y96.trans (hv9 hz9)) ?_
    refine lv_iload hx hb dL_law_1191 (lv_at hl 0 rfl) ?_
    refine lv_i2l (v := (0 : Int32).toInt64) hx hb dL_law_1193 rfl ?_
    refine W.lcmp hx hb dL_law_1194 ?_
    refine zrd (x := 0) ((lg_cmp_eq _ _).mpr rfl) ?_
    refine lv_if_eq (tgt := 1200) hx hb dL_law_1195 (by decide) (fun _ => ?_) (fun c1195 => absurd c1195 (by decide))
    refine lv_goto (tgt := 2892) hx hb dL_law_1200 (by decide) ?_
    exact hend _ _ _ _ _ (Nat.le_of_ble_eq_true rfl) (Nat.le_of_ble_eq_true rfl) hw.2.2.1 (lv_sub hl [2, 3] rfl)

set_option maxHeartbeats 4000000 in
set_option maxRecDepth 100000 in
theorem law_case_11 {p : Program} {l : Launch} {e : Env} {s : State} {m : MethodId} {below : List Frame} {meth : Method} {c : Code} {H : Heap} {locs : List Loc} {ls : Array Slot} {D : va_G} {y : Nat → ClassId} {base : Nat} {S : zS} {a b : Nat → Nat} {o od bs : Nat} {xs : Nat → Int32} (hst : l.stackTraces = false) (C : CallFix p m c code 9 s #[Value.ref bs] wsL_law RL) (hend : zEnd p l e s m bs below meth c base)
    (hXs : va_X bs 9 xs s s.heap) (hbl : bs < s.heap.size) (hbs : base = s.heap.size) (hy : y 94 = 0) (hX : zX S a) (h0 : zX0 S a) (hM : zMd S b) (hM0 : zMd0 S b) (hF : zQ S 49 (b 4) = some (y 92) ∧ zQ S 49 (b 5) = some (y 92)) (hreg : ∀ i j, i < 128 → zR S 22 (b (100 + i)) j = 0) (hko : zK S o = 24) (hno : zN S o = 1)
    (hw : zW D y base S s H locs) (hl : lv_has ls 9 [(5, .int 0), (0, .ref bs), (1, .ref (a 0)), (2, .ref (b 0)), (3, .ref o), (4, .ref od)]) : W p l e room_1 s m #[Value.ref bs] below meth c H locs 1000 60000 (lw_Z below #[Value.ref bs] s) (F0 m 1203 ls []) := by
  have hx := C.1
  have hb := C.2.1
  have hown := C.2.2.2.1
  have hts := C.2.2.2.2
  refine lv_aload_n hx hb dL_law_1203 rfl (lv_at hl 2 rfl) ?_
  refine lv_aload_n hx hb dL_law_1204 rfl (lv_at hl 1 rfl) ?_
  refine lv_iload hx hb dL_law_1205 (lv_at hl 0 rfl) ?_
  refine lv_iconst (v := 1) hx hb dL_law_1207 (by decide) ?_
  refine lv_iadd hx hb dL_law_1208 ?_
  refine zrd (x := 1) (by decide) ?_
  refine zsld (v := xs 1) C hw hXs hbl hbs (zin_of (N := 9) (by decide) (by decide) (by decide)) rfl dL_law_1209 ?_
  refine lv_aload_n hx hb dL_law_1210 rfl (lv_at hl 1 rfl) ?_
  refine lv_iload hx hb dL_law_1211 (lv_at hl 0 rfl) ?_
  refine lv_iconst (v := 2) hx hb dL_law_1213 (by decide) ?_
  refine lv_iadd hx hb dL_law_1214 ?_
  refine zrd (x := 2) (by decide) ?_
  refine zsld (v := xs 2) C hw hXs hbl hbs (zin_of (N := 9) (by decide) (by decide) (by decide)) rfl dL_law_1215 ?_
  refine lv_aload_n hx hb dL_law_1216 rfl (lv_at hl 4 rfl) ?_
  refine zcSW_i (As := [.ref (a 0), .int (xs 1), .int (xs 2), .ref o]) (rest := []) (n9 := 4) C hw (c_L_sample l hst D y base S a (xs 1) (xs 2) o hX (by first | assumption | exact zbo_01 _) hko (by first | assumption | exact zbo_01 _)) gL_law_L_sample rfl (by decide +kernel) ⟨⟨rfl, rfl⟩, Nat.le_of_ble_eq_true rfl, Nat.le_of_ble_eq_true rfl⟩ rfl hl.1 rfl (Nat.le_of_ble_eq_true rfl) ⟨Nat.le_of_ble_eq_true rfl, Nat.le_of_ble_eq_true rfl⟩ dL_law_1217 (fun r1217 S1217 H locs hp1217 hw => ?_)
  obtain ⟨hk9, hv9, hco⟩ := hp1217
  obtain ⟨hM9, hM09, hF9, hF95⟩ := hco.ref hM hM0 hF
  obtain ⟨hko9, hno9⟩ := hco.o hko hno
  obtain ⟨y, y92, y94, y95, y96, hw⟩ := zW_out hw hy hko9 hno9
  have hMd : zMd (zdl S1217 o) b := hM9.dl hko9
  have hM0d : zMd0 (zdl S1217 o) b := hM09
  have hFd : zQ (zdl S1217 o) 49 (b 4) = some (y 92) := by rw [y92]; exact hF9
  have hEd : zMdE (zdl S1217 o) b := ⟨⟨_, hF9⟩, _, hF95⟩
  refine lv_istore (lv' := [(6, .int r1217), (5, .int 0), (0, .ref bs), (1, .ref (a 0)), (2, .ref (b 0)), (3, .ref o), (4, .ref od)]) hx hb dL_law_1220 hl (by decide) rfl (fun ls hl => ?_)
  refine lv_aload_n hx hb dL_law_1222 rfl (lv_at hl 4 rfl) ?_
  refine lv_aload_n hx hb dL_law_1223 rfl (lv_at hl 2 rfl) ?_
  refine lv_iload hx hb dL_law_1224 (lv_at hl 1 rfl) ?_
  refine lv_iconst (v := 1) hx hb dL_law_1226 (by decide) ?_
  refine lv_iadd hx hb dL_law_1227 ?_
  refine zrd (x := 1) (by decide) ?_
  refine zsld (v := xs 1) C hw hXs hbl hbs (zin_of (N := 9) (by decide) (by decide) (by decide)) rfl dL_law_1228 ?_
  refine lv_aload_n hx hb dL_law_1229 rfl (lv_at hl 2 rfl) ?_
  refine lv_iload hx hb dL_law_1230 (lv_at hl 1 rfl) ?_
  refine lv_iconst (v := 2) hx hb dL_law_1232 (by decide) ?_
  refine lv_iadd hx hb dL_law_1233 ?_
  refine zrd (x := 2) (by decide) ?_
  refine zsld (v := xs 2) C hw hXs hbl hbs (zin_of (N := 9) (by decide) (by decide) (by decide)) rfl dL_law_1234 ?_
  refine zcV_i (As := [.int (xs 1), .int (xs 2)]) (rest := []) (n9 := 2) (b := (b 0)) C hw (c_X11_sample l D y base (zdl S1217 o) b (xs 1) (xs 2) hMd (by first | assumption | exact zbo_01 _)) gL_law_X11_sample rfl (by decide +kernel) ⟨⟨rfl, rfl⟩, Nat.le_of_ble_eq_true rfl, Nat.le_of_ble_eq_true rfl⟩ hMd.1 ⟨by decide, by decide⟩ rfl rfl hl.1 rfl (Nat.le_of_ble_eq_true rfl) ⟨Nat.le_of_ble_eq_true rfl, Nat.le_of_ble_eq_true rfl⟩ dL_law_1235 (fun r1235 S1235 H locs hp1235 hw => ?_)
  obtain ⟨r1, r2, r3⟩ := hp1235
  refine lv_istore (lv' := [(7, .int r1235), (6, .int r1217), (5, .int 0), (0, .ref bs), (1, .ref (a 0)), (2, .ref (b 0)), (3, .ref o), (4, .ref od)]) hx hb dL_law_1238 hl (by decide) rfl (fun ls hl => ?_)
  refine lv_aload_n hx hb dL_law_1240 rfl (lv_at hl 5 rfl) ?_
  refine zcV_i (As := []) (rest := []) (n9 := 0) (b := (b 0)) C hw (c_X11_thrown l D y base S1235 (b 0) (kd_sample (xs 1)) r1 r2) gL_law_X11_thrown rfl (by decide +kernel) ⟨⟨rfl, rfl⟩, Nat.le_of_ble_eq_true rfl, Nat.le_of_ble_eq_true rfl⟩ r1 ⟨by decide, by decide⟩ rfl rfl hl.1 rfl (Nat.le_of_ble_eq_true rfl) ⟨Nat.le_of_ble_eq_true rfl, Nat.le_of_ble_eq_true rfl⟩ dL_law_1241 (fun r1241 S1241 H locs hp1241 hw => ?_)
  obtain ⟨rfl, hS9⟩ := hp1241
  have hS9 := hS9.symm
  subst hS9
  refine lv_iload hx hb dL_law_1244 (lv_at hl 1 rfl) ?_
  refine lv_icmp_eq (tgt := 1251) hx hb dL_law_1246 (by decide) (fun c1246 => ?_) (fun c1246 => (show False from (c1246 hk9.symm)).elim)
  refine lv_iload hx hb dL_law_1251 (lv_at hl 1 rfl) ?_
  refine lv_if_ne (tgt := 1268) hx hb dL_law_1253 (by decide) (fun c1253 => ?_) (fun c1253 => ?_)
  · refine lv_goto (tgt := 2892) hx hb dL_law_1268 (by decide) ?_
    exact hend _ _ _ _ _ (Nat.le_of_ble_eq_true rfl) (Nat.le_of_ble_eq_true rfl) hw.2.2.1 (lv_sub hl [2, 3] rfl)
  · have hz9 : kd_sample (xs 1) = 0 := hk9.symm.trans c1253
    have hb9 := r3 hz9
    subst hb9
    refine lv_aload_n hx hb dL_law_1256 rfl (lv_at hl 6 rfl) ?_
    refine lv_iconst (v := 0) hx hb dL_law_1257 (by decide) ?_
    refine zaldX C hw y94 y95 dL_law_1258 ?_
    refine zrdl (x := ((0 : Int32).toInt64)) (y96.trans (hv9 hz9)) ?_
    refine lv_iload hx hb dL_law_1259 (lv_at hl 0 rfl) ?_
    refine lv_i2l (v := (0 : Int32).toInt64) hx hb dL_law_1261 rfl ?_
    refine W.lcmp hx hb dL_law_1262 ?_
    refine zrd (x := 0) ((lg_cmp_eq _ _).mpr rfl) ?_
    refine lv_if_eq (tgt := 1268) hx hb dL_law_1263 (by decide) (fun _ => ?_) (fun c1263 => absurd c1263 (by decide))
    refine lv_goto (tgt := 2892) hx hb dL_law_1268 (by decide) ?_
    exact hend _ _ _ _ _ (Nat.le_of_ble_eq_true rfl) (Nat.le_of_ble_eq_true rfl) hw.2.2.1 (lv_sub hl [2, 3] rfl)

set_option maxHeartbeats 4000000 in
set_option maxRecDepth 100000 in
theorem law_case_12 {p : Program} {l : Launch} {e : Env} {s : State} {m : MethodId} {below : List Frame} {meth : Method} {c : Code} {H : Heap} {locs : List Loc} {ls : Array Slot} {D : va_G} {y : Nat → ClassId} {base : Nat} {S : zS} {a b : Nat → Nat} {o od bs : Nat} {xs : Nat → Int32} (hst : l.stackTraces = false) (C : CallFix p m c code 9 s #[Value.ref bs] wsL_law RL) (hend : zEnd p l e s m bs below meth c base)
    (hXs : va_X bs 9 xs s s.heap) (hbl : bs < s.heap.size) (hbs : base = s.heap.size) (hy : y 94 = 0) (hX : zX S a) (h0 : zX0 S a) (hM : zMd S b) (hM0 : zMd0 S b) (hF : zQ S 49 (b 4) = some (y 92) ∧ zQ S 49 (b 5) = some (y 92)) (hreg : ∀ i j, i < 128 → zR S 22 (b (100 + i)) j = 0) (hko : zK S o = 24) (hno : zN S o = 1)
    (hw : zW D y base S s H locs) (hl : lv_has ls 9 [(5, .int 0), (0, .ref bs), (1, .ref (a 0)), (2, .ref (b 0)), (3, .ref o), (4, .ref od)]) : W p l e room_1 s m #[Value.ref bs] below meth c H locs 1000 60000 (lw_Z below #[Value.ref bs] s) (F0 m 1271 ls []) := by
  have hx := C.1
  have hb := C.2.1
  have hown := C.2.2.2.1
  have hts := C.2.2.2.2
  refine lv_aload_n hx hb dL_law_1271 rfl (lv_at hl 2 rfl) ?_
  refine lv_aload_n hx hb dL_law_1272 rfl (lv_at hl 1 rfl) ?_
  refine lv_iload hx hb dL_law_1273 (lv_at hl 0 rfl) ?_
  refine lv_iconst (v := 1) hx hb dL_law_1275 (by decide) ?_
  refine lv_iadd hx hb dL_law_1276 ?_
  refine zrd (x := 1) (by decide) ?_
  refine zsld (v := xs 1) C hw hXs hbl hbs (zin_of (N := 9) (by decide) (by decide) (by decide)) rfl dL_law_1277 ?_
  refine lv_aload_n hx hb dL_law_1278 rfl (lv_at hl 1 rfl) ?_
  refine lv_iload hx hb dL_law_1279 (lv_at hl 0 rfl) ?_
  refine lv_iconst (v := 2) hx hb dL_law_1281 (by decide) ?_
  refine lv_iadd hx hb dL_law_1282 ?_
  refine zrd (x := 2) (by decide) ?_
  refine zsld (v := xs 2) C hw hXs hbl hbs (zin_of (N := 9) (by decide) (by decide) (by decide)) rfl dL_law_1283 ?_
  refine lv_aload_n hx hb dL_law_1284 rfl (lv_at hl 4 rfl) ?_
  refine zcSW_i (As := [.ref (a 0), .int (xs 1), .int (xs 2), .ref o]) (rest := []) (n9 := 4) C hw (c_L_runs l hst D y base S a (xs 1) (xs 2) o hX (by first | assumption | exact zbo_01 _) hko (by first | assumption | exact zbo_01 _)) gL_law_L_runs rfl (by decide +kernel) ⟨⟨rfl, rfl⟩, Nat.le_of_ble_eq_true rfl, Nat.le_of_ble_eq_true rfl⟩ rfl hl.1 rfl (Nat.le_of_ble_eq_true rfl) ⟨Nat.le_of_ble_eq_true rfl, Nat.le_of_ble_eq_true rfl⟩ dL_law_1285 (fun r1285 S1285 H locs hp1285 hw => ?_)
  obtain ⟨hk9, hv9, hco⟩ := hp1285
  obtain ⟨hM9, hM09, hF9, hF95⟩ := hco.ref hM hM0 hF
  obtain ⟨hko9, hno9⟩ := hco.o hko hno
  obtain ⟨y, y92, y94, y95, y96, hw⟩ := zW_out hw hy hko9 hno9
  have hMd : zMd (zdl S1285 o) b := hM9.dl hko9
  have hM0d : zMd0 (zdl S1285 o) b := hM09
  have hFd : zQ (zdl S1285 o) 49 (b 4) = some (y 92) := by rw [y92]; exact hF9
  have hEd : zMdE (zdl S1285 o) b := ⟨⟨_, hF9⟩, _, hF95⟩
  refine lv_istore (lv' := [(6, .int r1285), (5, .int 0), (0, .ref bs), (1, .ref (a 0)), (2, .ref (b 0)), (3, .ref o), (4, .ref od)]) hx hb dL_law_1288 hl (by decide) rfl (fun ls hl => ?_)
  refine lv_aload_n hx hb dL_law_1290 rfl (lv_at hl 4 rfl) ?_
  refine lv_aload_n hx hb dL_law_1291 rfl (lv_at hl 2 rfl) ?_
  refine lv_iload hx hb dL_law_1292 (lv_at hl 1 rfl) ?_
  refine lv_iconst (v := 1) hx hb dL_law_1294 (by decide) ?_
  refine lv_iadd hx hb dL_law_1295 ?_
  refine zrd (x := 1) (by decide) ?_
  refine zsld (v := xs 1) C hw hXs hbl hbs (zin_of (N := 9) (by decide) (by decide) (by decide)) rfl dL_law_1296 ?_
  refine lv_aload_n hx hb dL_law_1297 rfl (lv_at hl 2 rfl) ?_
  refine lv_iload hx hb dL_law_1298 (lv_at hl 1 rfl) ?_
  refine lv_iconst (v := 2) hx hb dL_law_1300 (by decide) ?_
  refine lv_iadd hx hb dL_law_1301 ?_
  refine zrd (x := 2) (by decide) ?_
  refine zsld (v := xs 2) C hw hXs hbl hbs (zin_of (N := 9) (by decide) (by decide) (by decide)) rfl dL_law_1302 ?_
  refine zcV_i (As := [.int (xs 1), .int (xs 2)]) (rest := []) (n9 := 2) (b := (b 0)) C hw (c_X11_runs l D y base (zdl S1285 o) b (xs 1) (xs 2) hMd (by first | assumption | exact zbo_01 _)) gL_law_X11_runs rfl (by decide +kernel) ⟨⟨rfl, rfl⟩, Nat.le_of_ble_eq_true rfl, Nat.le_of_ble_eq_true rfl⟩ hMd.1 ⟨by decide, by decide⟩ rfl rfl hl.1 rfl (Nat.le_of_ble_eq_true rfl) ⟨Nat.le_of_ble_eq_true rfl, Nat.le_of_ble_eq_true rfl⟩ dL_law_1303 (fun r1303 S1303 H locs hp1303 hw => ?_)
  obtain ⟨r1, r2, r3⟩ := hp1303
  refine lv_istore (lv' := [(7, .int r1303), (6, .int r1285), (5, .int 0), (0, .ref bs), (1, .ref (a 0)), (2, .ref (b 0)), (3, .ref o), (4, .ref od)]) hx hb dL_law_1306 hl (by decide) rfl (fun ls hl => ?_)
  refine lv_aload_n hx hb dL_law_1308 rfl (lv_at hl 5 rfl) ?_
  refine zcV_i (As := []) (rest := []) (n9 := 0) (b := (b 0)) C hw (c_X11_thrown l D y base S1303 (b 0) (kd_runs (xs 1) (xs 2)) r1 r2) gL_law_X11_thrown rfl (by decide +kernel) ⟨⟨rfl, rfl⟩, Nat.le_of_ble_eq_true rfl, Nat.le_of_ble_eq_true rfl⟩ r1 ⟨by decide, by decide⟩ rfl rfl hl.1 rfl (Nat.le_of_ble_eq_true rfl) ⟨Nat.le_of_ble_eq_true rfl, Nat.le_of_ble_eq_true rfl⟩ dL_law_1309 (fun r1309 S1309 H locs hp1309 hw => ?_)
  obtain ⟨rfl, hS9⟩ := hp1309
  have hS9 := hS9.symm
  subst hS9
  refine lv_iload hx hb dL_law_1312 (lv_at hl 1 rfl) ?_
  refine lv_icmp_eq (tgt := 1319) hx hb dL_law_1314 (by decide) (fun c1314 => ?_) (fun c1314 => (show False from (c1314 hk9.symm)).elim)
  refine lv_iload hx hb dL_law_1319 (lv_at hl 1 rfl) ?_
  refine lv_if_ne (tgt := 1336) hx hb dL_law_1321 (by decide) (fun c1321 => ?_) (fun c1321 => ?_)
  · refine lv_goto (tgt := 2892) hx hb dL_law_1336 (by decide) ?_
    exact hend _ _ _ _ _ (Nat.le_of_ble_eq_true rfl) (Nat.le_of_ble_eq_true rfl) hw.2.2.1 (lv_sub hl [2, 3] rfl)
  · have hz9 : kd_runs (xs 1) (xs 2) = 0 := hk9.symm.trans c1321
    have hb9 := r3 hz9
    subst hb9
    refine lv_aload_n hx hb dL_law_1324 rfl (lv_at hl 6 rfl) ?_
    refine lv_iconst (v := 0) hx hb dL_law_1325 (by decide) ?_
    refine zaldX C hw y94 y95 dL_law_1326 ?_
    refine zrdl (x := ((0 : Int32).toInt64)) (y96.trans (hv9 hz9)) ?_
    refine lv_iload hx hb dL_law_1327 (lv_at hl 0 rfl) ?_
    refine lv_i2l (v := (0 : Int32).toInt64) hx hb dL_law_1329 rfl ?_
    refine W.lcmp hx hb dL_law_1330 ?_
    refine zrd (x := 0) ((lg_cmp_eq _ _).mpr rfl) ?_
    refine lv_if_eq (tgt := 1336) hx hb dL_law_1331 (by decide) (fun _ => ?_) (fun c1331 => absurd c1331 (by decide))
    refine lv_goto (tgt := 2892) hx hb dL_law_1336 (by decide) ?_
    exact hend _ _ _ _ _ (Nat.le_of_ble_eq_true rfl) (Nat.le_of_ble_eq_true rfl) hw.2.2.1 (lv_sub hl [2, 3] rfl)

set_option maxHeartbeats 4000000 in
set_option maxRecDepth 100000 in
theorem law_case_13 {p : Program} {l : Launch} {e : Env} {s : State} {m : MethodId} {below : List Frame} {meth : Method} {c : Code} {H : Heap} {locs : List Loc} {ls : Array Slot} {D : va_G} {y : Nat → ClassId} {base : Nat} {S : zS} {a b : Nat → Nat} {o od bs : Nat} {xs : Nat → Int32} (hst : l.stackTraces = false) (C : CallFix p m c code 9 s #[Value.ref bs] wsL_law RL) (hend : zEnd p l e s m bs below meth c base)
    (hXs : va_X bs 9 xs s s.heap) (hbl : bs < s.heap.size) (hbs : base = s.heap.size) (hy : y 94 = 0) (hX : zX S a) (h0 : zX0 S a) (hM : zMd S b) (hM0 : zMd0 S b) (hF : zQ S 49 (b 4) = some (y 92) ∧ zQ S 49 (b 5) = some (y 92)) (hreg : ∀ i j, i < 128 → zR S 22 (b (100 + i)) j = 0) (hko : zK S o = 24) (hno : zN S o = 1)
    (hw : zW D y base S s H locs) (hl : lv_has ls 9 [(5, .int 0), (0, .ref bs), (1, .ref (a 0)), (2, .ref (b 0)), (3, .ref o), (4, .ref od)]) : W p l e room_1 s m #[Value.ref bs] below meth c H locs 1000 60000 (lw_Z below #[Value.ref bs] s) (F0 m 1339 ls []) := by
  have hx := C.1
  have hb := C.2.1
  have hown := C.2.2.2.1
  have hts := C.2.2.2.2
  refine lv_aload_n hx hb dL_law_1339 rfl (lv_at hl 2 rfl) ?_
  refine lv_aload_n hx hb dL_law_1340 rfl (lv_at hl 1 rfl) ?_
  refine lv_iload hx hb dL_law_1341 (lv_at hl 0 rfl) ?_
  refine lv_iconst (v := 1) hx hb dL_law_1343 (by decide) ?_
  refine lv_iadd hx hb dL_law_1344 ?_
  refine zrd (x := 1) (by decide) ?_
  refine zsld (v := xs 1) C hw hXs hbl hbs (zin_of (N := 9) (by decide) (by decide) (by decide)) rfl dL_law_1345 ?_
  refine lv_aload_n hx hb dL_law_1346 rfl (lv_at hl 1 rfl) ?_
  refine lv_iload hx hb dL_law_1347 (lv_at hl 0 rfl) ?_
  refine lv_iconst (v := 2) hx hb dL_law_1349 (by decide) ?_
  refine lv_iadd hx hb dL_law_1350 ?_
  refine zrd (x := 2) (by decide) ?_
  refine zsld (v := xs 2) C hw hXs hbl hbs (zin_of (N := 9) (by decide) (by decide) (by decide)) rfl dL_law_1351 ?_
  refine lv_aload_n hx hb dL_law_1352 rfl (lv_at hl 1 rfl) ?_
  refine lv_iload hx hb dL_law_1353 (lv_at hl 0 rfl) ?_
  refine lv_iconst (v := 3) hx hb dL_law_1355 (by decide) ?_
  refine lv_iadd hx hb dL_law_1356 ?_
  refine zrd (x := 3) (by decide) ?_
  refine zsld (v := xs 3) C hw hXs hbl hbs (zin_of (N := 9) (by decide) (by decide) (by decide)) rfl dL_law_1357 ?_
  refine lv_aload_n hx hb dL_law_1358 rfl (lv_at hl 4 rfl) ?_
  refine zcSW_i (As := [.ref (a 0), .int (xs 1), .int (xs 2), .int (xs 3), .ref o]) (rest := []) (n9 := 5) C hw (c_L_run l hst D y base S a (xs 1) (xs 2) (xs 3) o hX (by first | assumption | exact zbo_01 _) hko (by first | assumption | exact zbo_01 _)) gL_law_L_run rfl (by decide +kernel) ⟨⟨rfl, rfl⟩, Nat.le_of_ble_eq_true rfl, Nat.le_of_ble_eq_true rfl⟩ rfl hl.1 rfl (Nat.le_of_ble_eq_true rfl) ⟨Nat.le_of_ble_eq_true rfl, Nat.le_of_ble_eq_true rfl⟩ dL_law_1359 (fun r1359 S1359 H locs hp1359 hw => ?_)
  obtain ⟨hk9, hv9, hco⟩ := hp1359
  obtain ⟨hM9, hM09, hF9, hF95⟩ := hco.ref hM hM0 hF
  obtain ⟨hko9, hno9⟩ := hco.o hko hno
  obtain ⟨y, y92, y94, y95, y96, hw⟩ := zW_out hw hy hko9 hno9
  have hMd : zMd (zdl S1359 o) b := hM9.dl hko9
  have hM0d : zMd0 (zdl S1359 o) b := hM09
  have hFd : zQ (zdl S1359 o) 49 (b 4) = some (y 92) := by rw [y92]; exact hF9
  have hEd : zMdE (zdl S1359 o) b := ⟨⟨_, hF9⟩, _, hF95⟩
  refine lv_istore (lv' := [(6, .int r1359), (5, .int 0), (0, .ref bs), (1, .ref (a 0)), (2, .ref (b 0)), (3, .ref o), (4, .ref od)]) hx hb dL_law_1362 hl (by decide) rfl (fun ls hl => ?_)
  refine lv_aload_n hx hb dL_law_1364 rfl (lv_at hl 4 rfl) ?_
  refine lv_aload_n hx hb dL_law_1365 rfl (lv_at hl 2 rfl) ?_
  refine lv_iload hx hb dL_law_1366 (lv_at hl 1 rfl) ?_
  refine lv_iconst (v := 1) hx hb dL_law_1368 (by decide) ?_
  refine lv_iadd hx hb dL_law_1369 ?_
  refine zrd (x := 1) (by decide) ?_
  refine zsld (v := xs 1) C hw hXs hbl hbs (zin_of (N := 9) (by decide) (by decide) (by decide)) rfl dL_law_1370 ?_
  refine lv_aload_n hx hb dL_law_1371 rfl (lv_at hl 2 rfl) ?_
  refine lv_iload hx hb dL_law_1372 (lv_at hl 1 rfl) ?_
  refine lv_iconst (v := 2) hx hb dL_law_1374 (by decide) ?_
  refine lv_iadd hx hb dL_law_1375 ?_
  refine zrd (x := 2) (by decide) ?_
  refine zsld (v := xs 2) C hw hXs hbl hbs (zin_of (N := 9) (by decide) (by decide) (by decide)) rfl dL_law_1376 ?_
  refine lv_aload_n hx hb dL_law_1377 rfl (lv_at hl 2 rfl) ?_
  refine lv_iload hx hb dL_law_1378 (lv_at hl 1 rfl) ?_
  refine lv_iconst (v := 3) hx hb dL_law_1380 (by decide) ?_
  refine lv_iadd hx hb dL_law_1381 ?_
  refine zrd (x := 3) (by decide) ?_
  refine zsld (v := xs 3) C hw hXs hbl hbs (zin_of (N := 9) (by decide) (by decide) (by decide)) rfl dL_law_1382 ?_
  refine zcV_i (As := [.int (xs 1), .int (xs 2), .int (xs 3)]) (rest := []) (n9 := 3) (b := (b 0)) C hw (c_X11_run l D y base (zdl S1359 o) b (xs 1) (xs 2) (xs 3) hMd (by first | assumption | exact zbo_01 _)) gL_law_X11_run rfl (by decide +kernel) ⟨⟨rfl, rfl⟩, Nat.le_of_ble_eq_true rfl, Nat.le_of_ble_eq_true rfl⟩ hMd.1 ⟨by decide, by decide⟩ rfl rfl hl.1 rfl (Nat.le_of_ble_eq_true rfl) ⟨Nat.le_of_ble_eq_true rfl, Nat.le_of_ble_eq_true rfl⟩ dL_law_1383 (fun r1383 S1383 H locs hp1383 hw => ?_)
  obtain ⟨r1, r2, r3⟩ := hp1383
  refine lv_istore (lv' := [(7, .int r1383), (6, .int r1359), (5, .int 0), (0, .ref bs), (1, .ref (a 0)), (2, .ref (b 0)), (3, .ref o), (4, .ref od)]) hx hb dL_law_1386 hl (by decide) rfl (fun ls hl => ?_)
  refine lv_aload_n hx hb dL_law_1388 rfl (lv_at hl 5 rfl) ?_
  refine zcV_i (As := []) (rest := []) (n9 := 0) (b := (b 0)) C hw (c_X11_thrown l D y base S1383 (b 0) (kd_run (xs 1) (xs 2)) r1 r2) gL_law_X11_thrown rfl (by decide +kernel) ⟨⟨rfl, rfl⟩, Nat.le_of_ble_eq_true rfl, Nat.le_of_ble_eq_true rfl⟩ r1 ⟨by decide, by decide⟩ rfl rfl hl.1 rfl (Nat.le_of_ble_eq_true rfl) ⟨Nat.le_of_ble_eq_true rfl, Nat.le_of_ble_eq_true rfl⟩ dL_law_1389 (fun r1389 S1389 H locs hp1389 hw => ?_)
  obtain ⟨rfl, hS9⟩ := hp1389
  have hS9 := hS9.symm
  subst hS9
  refine lv_iload hx hb dL_law_1392 (lv_at hl 1 rfl) ?_
  refine lv_icmp_eq (tgt := 1399) hx hb dL_law_1394 (by decide) (fun c1394 => ?_) (fun c1394 => (show False from (c1394 hk9.symm)).elim)
  refine lv_iload hx hb dL_law_1399 (lv_at hl 1 rfl) ?_
  refine lv_if_ne (tgt := 1416) hx hb dL_law_1401 (by decide) (fun c1401 => ?_) (fun c1401 => ?_)
  · refine lv_goto (tgt := 2892) hx hb dL_law_1416 (by decide) ?_
    exact hend _ _ _ _ _ (Nat.le_of_ble_eq_true rfl) (Nat.le_of_ble_eq_true rfl) hw.2.2.1 (lv_sub hl [2, 3] rfl)
  · have hz9 : kd_run (xs 1) (xs 2) = 0 := hk9.symm.trans c1401
    have hb9 := r3 hz9
    subst hb9
    refine lv_aload_n hx hb dL_law_1404 rfl (lv_at hl 6 rfl) ?_
    refine lv_iconst (v := 0) hx hb dL_law_1405 (by decide) ?_
    refine zaldX C hw y94 y95 dL_law_1406 ?_
    refine zrdl (x := ((0 : Int32).toInt64)) (y96.trans (hv9 hz9)) ?_
    refine lv_iload hx hb dL_law_1407 (lv_at hl 0 rfl) ?_
    refine lv_i2l (v := (0 : Int32).toInt64) hx hb dL_law_1409 rfl ?_
    refine W.lcmp hx hb dL_law_1410 ?_
    refine zrd (x := 0) ((lg_cmp_eq _ _).mpr rfl) ?_
    refine lv_if_eq (tgt := 1416) hx hb dL_law_1411 (by decide) (fun _ => ?_) (fun c1411 => absurd c1411 (by decide))
    refine lv_goto (tgt := 2892) hx hb dL_law_1416 (by decide) ?_
    exact hend _ _ _ _ _ (Nat.le_of_ble_eq_true rfl) (Nat.le_of_ble_eq_true rfl) hw.2.2.1 (lv_sub hl [2, 3] rfl)

set_option maxHeartbeats 4000000 in
set_option maxRecDepth 100000 in
theorem law_case_14 {p : Program} {l : Launch} {e : Env} {s : State} {m : MethodId} {below : List Frame} {meth : Method} {c : Code} {H : Heap} {locs : List Loc} {ls : Array Slot} {D : va_G} {y : Nat → ClassId} {base : Nat} {S : zS} {a b : Nat → Nat} {o od bs : Nat} {xs : Nat → Int32} (hst : l.stackTraces = false) (C : CallFix p m c code 9 s #[Value.ref bs] wsL_law RL) (hend : zEnd p l e s m bs below meth c base)
    (hXs : va_X bs 9 xs s s.heap) (hbl : bs < s.heap.size) (hbs : base = s.heap.size) (hy : y 94 = 0) (hX : zX S a) (h0 : zX0 S a) (hM : zMd S b) (hM0 : zMd0 S b) (hF : zQ S 49 (b 4) = some (y 92) ∧ zQ S 49 (b 5) = some (y 92)) (hreg : ∀ i j, i < 128 → zR S 22 (b (100 + i)) j = 0) (hko : zK S o = 24) (hno : zN S o = 1)
    (hw : zW D y base S s H locs) (hl : lv_has ls 9 [(5, .int 0), (0, .ref bs), (1, .ref (a 0)), (2, .ref (b 0)), (3, .ref o), (4, .ref od)]) : W p l e room_1 s m #[Value.ref bs] below meth c H locs 1000 60000 (lw_Z below #[Value.ref bs] s) (F0 m 1419 ls []) := by
  have hx := C.1
  have hb := C.2.1
  have hown := C.2.2.2.1
  have hts := C.2.2.2.2
  refine lv_aload_n hx hb dL_law_1419 rfl (lv_at hl 2 rfl) ?_
  refine lv_aload_n hx hb dL_law_1420 rfl (lv_at hl 1 rfl) ?_
  refine lv_iload hx hb dL_law_1421 (lv_at hl 0 rfl) ?_
  refine lv_iconst (v := 1) hx hb dL_law_1423 (by decide) ?_
  refine lv_iadd hx hb dL_law_1424 ?_
  refine zrd (x := 1) (by decide) ?_
  refine zsld (v := xs 1) C hw hXs hbl hbs (zin_of (N := 9) (by decide) (by decide) (by decide)) rfl dL_law_1425 ?_
  refine lv_aload_n hx hb dL_law_1426 rfl (lv_at hl 1 rfl) ?_
  refine lv_iload hx hb dL_law_1427 (lv_at hl 0 rfl) ?_
  refine lv_iconst (v := 2) hx hb dL_law_1429 (by decide) ?_
  refine lv_iadd hx hb dL_law_1430 ?_
  refine zrd (x := 2) (by decide) ?_
  refine zsld (v := xs 2) C hw hXs hbl hbs (zin_of (N := 9) (by decide) (by decide) (by decide)) rfl dL_law_1431 ?_
  refine lv_aload_n hx hb dL_law_1432 rfl (lv_at hl 4 rfl) ?_
  refine zcSW_i (As := [.ref (a 0), .int (xs 1), .int (xs 2), .ref o]) (rest := []) (n9 := 4) C hw (c_L_shortest l hst D y base S a (xs 1) (xs 2) o hX (by first | assumption | exact zbo_01 _) hko (by first | assumption | exact zbo_01 _)) gL_law_L_shortest rfl (by decide +kernel) ⟨⟨rfl, rfl⟩, Nat.le_of_ble_eq_true rfl, Nat.le_of_ble_eq_true rfl⟩ rfl hl.1 rfl (Nat.le_of_ble_eq_true rfl) ⟨Nat.le_of_ble_eq_true rfl, Nat.le_of_ble_eq_true rfl⟩ dL_law_1433 (fun r1433 S1433 H locs hp1433 hw => ?_)
  obtain ⟨hk9, hv9, hco⟩ := hp1433
  obtain ⟨hM9, hM09, hF9, hF95⟩ := hco.ref hM hM0 hF
  obtain ⟨hko9, hno9⟩ := hco.o hko hno
  obtain ⟨y, y92, y94, y95, y96, hw⟩ := zW_out hw hy hko9 hno9
  have hMd : zMd (zdl S1433 o) b := hM9.dl hko9
  have hM0d : zMd0 (zdl S1433 o) b := hM09
  have hFd : zQ (zdl S1433 o) 49 (b 4) = some (y 92) := by rw [y92]; exact hF9
  have hEd : zMdE (zdl S1433 o) b := ⟨⟨_, hF9⟩, _, hF95⟩
  refine lv_istore (lv' := [(6, .int r1433), (5, .int 0), (0, .ref bs), (1, .ref (a 0)), (2, .ref (b 0)), (3, .ref o), (4, .ref od)]) hx hb dL_law_1436 hl (by decide) rfl (fun ls hl => ?_)
  refine lv_aload_n hx hb dL_law_1438 rfl (lv_at hl 4 rfl) ?_
  refine lv_aload_n hx hb dL_law_1439 rfl (lv_at hl 2 rfl) ?_
  refine lv_iload hx hb dL_law_1440 (lv_at hl 1 rfl) ?_
  refine lv_iconst (v := 1) hx hb dL_law_1442 (by decide) ?_
  refine lv_iadd hx hb dL_law_1443 ?_
  refine zrd (x := 1) (by decide) ?_
  refine zsld (v := xs 1) C hw hXs hbl hbs (zin_of (N := 9) (by decide) (by decide) (by decide)) rfl dL_law_1444 ?_
  refine lv_aload_n hx hb dL_law_1445 rfl (lv_at hl 2 rfl) ?_
  refine lv_iload hx hb dL_law_1446 (lv_at hl 1 rfl) ?_
  refine lv_iconst (v := 2) hx hb dL_law_1448 (by decide) ?_
  refine lv_iadd hx hb dL_law_1449 ?_
  refine zrd (x := 2) (by decide) ?_
  refine zsld (v := xs 2) C hw hXs hbl hbs (zin_of (N := 9) (by decide) (by decide) (by decide)) rfl dL_law_1450 ?_
  refine zcV_i (As := [.int (xs 1), .int (xs 2)]) (rest := []) (n9 := 2) (b := (b 0)) C hw (c_X11_shortest l D y base (zdl S1433 o) b (xs 1) (xs 2) hMd (by first | assumption | exact zbo_01 _)) gL_law_X11_shortest rfl (by decide +kernel) ⟨⟨rfl, rfl⟩, Nat.le_of_ble_eq_true rfl, Nat.le_of_ble_eq_true rfl⟩ hMd.1 ⟨by decide, by decide⟩ rfl rfl hl.1 rfl (Nat.le_of_ble_eq_true rfl) ⟨Nat.le_of_ble_eq_true rfl, Nat.le_of_ble_eq_true rfl⟩ dL_law_1451 (fun r1451 S1451 H locs hp1451 hw => ?_)
  obtain ⟨r1, r2, r3⟩ := hp1451
  refine lv_istore (lv' := [(7, .int r1451), (6, .int r1433), (5, .int 0), (0, .ref bs), (1, .ref (a 0)), (2, .ref (b 0)), (3, .ref o), (4, .ref od)]) hx hb dL_law_1454 hl (by decide) rfl (fun ls hl => ?_)
  refine lv_aload_n hx hb dL_law_1456 rfl (lv_at hl 5 rfl) ?_
  refine zcV_i (As := []) (rest := []) (n9 := 0) (b := (b 0)) C hw (c_X11_thrown l D y base S1451 (b 0) (kd_run (xs 1) (xs 2)) r1 r2) gL_law_X11_thrown rfl (by decide +kernel) ⟨⟨rfl, rfl⟩, Nat.le_of_ble_eq_true rfl, Nat.le_of_ble_eq_true rfl⟩ r1 ⟨by decide, by decide⟩ rfl rfl hl.1 rfl (Nat.le_of_ble_eq_true rfl) ⟨Nat.le_of_ble_eq_true rfl, Nat.le_of_ble_eq_true rfl⟩ dL_law_1457 (fun r1457 S1457 H locs hp1457 hw => ?_)
  obtain ⟨rfl, hS9⟩ := hp1457
  have hS9 := hS9.symm
  subst hS9
  refine lv_iload hx hb dL_law_1460 (lv_at hl 1 rfl) ?_
  refine lv_icmp_eq (tgt := 1467) hx hb dL_law_1462 (by decide) (fun c1462 => ?_) (fun c1462 => (show False from (c1462 hk9.symm)).elim)
  refine lv_iload hx hb dL_law_1467 (lv_at hl 1 rfl) ?_
  refine lv_if_ne (tgt := 1484) hx hb dL_law_1469 (by decide) (fun c1469 => ?_) (fun c1469 => ?_)
  · refine lv_goto (tgt := 2892) hx hb dL_law_1484 (by decide) ?_
    exact hend _ _ _ _ _ (Nat.le_of_ble_eq_true rfl) (Nat.le_of_ble_eq_true rfl) hw.2.2.1 (lv_sub hl [2, 3] rfl)
  · have hz9 : kd_run (xs 1) (xs 2) = 0 := hk9.symm.trans c1469
    have hb9 := r3 hz9
    subst hb9
    refine lv_aload_n hx hb dL_law_1472 rfl (lv_at hl 6 rfl) ?_
    refine lv_iconst (v := 0) hx hb dL_law_1473 (by decide) ?_
    refine zaldX C hw y94 y95 dL_law_1474 ?_
    refine zrdl (x := ((0 : Int32).toInt64)) (y96.trans (hv9 hz9)) ?_
    refine lv_iload hx hb dL_law_1475 (lv_at hl 0 rfl) ?_
    refine lv_i2l (v := (0 : Int32).toInt64) hx hb dL_law_1477 rfl ?_
    refine W.lcmp hx hb dL_law_1478 ?_
    refine zrd (x := 0) ((lg_cmp_eq _ _).mpr rfl) ?_
    refine lv_if_eq (tgt := 1484) hx hb dL_law_1479 (by decide) (fun _ => ?_) (fun c1479 => absurd c1479 (by decide))
    refine lv_goto (tgt := 2892) hx hb dL_law_1484 (by decide) ?_
    exact hend _ _ _ _ _ (Nat.le_of_ble_eq_true rfl) (Nat.le_of_ble_eq_true rfl) hw.2.2.1 (lv_sub hl [2, 3] rfl)

set_option maxHeartbeats 4000000 in
set_option maxRecDepth 100000 in
theorem law_case_15 {p : Program} {l : Launch} {e : Env} {s : State} {m : MethodId} {below : List Frame} {meth : Method} {c : Code} {H : Heap} {locs : List Loc} {ls : Array Slot} {D : va_G} {y : Nat → ClassId} {base : Nat} {S : zS} {a b : Nat → Nat} {o od bs : Nat} {xs : Nat → Int32} (hst : l.stackTraces = false) (C : CallFix p m c code 9 s #[Value.ref bs] wsL_law RL) (hend : zEnd p l e s m bs below meth c base)
    (hXs : va_X bs 9 xs s s.heap) (hbl : bs < s.heap.size) (hbs : base = s.heap.size) (hy : y 94 = 0) (hX : zX S a) (h0 : zX0 S a) (hM : zMd S b) (hM0 : zMd0 S b) (hF : zQ S 49 (b 4) = some (y 92) ∧ zQ S 49 (b 5) = some (y 92)) (hreg : ∀ i j, i < 128 → zR S 22 (b (100 + i)) j = 0) (hko : zK S o = 24) (hno : zN S o = 1)
    (hw : zW D y base S s H locs) (hl : lv_has ls 9 [(5, .int 0), (0, .ref bs), (1, .ref (a 0)), (2, .ref (b 0)), (3, .ref o), (4, .ref od)]) : W p l e room_1 s m #[Value.ref bs] below meth c H locs 1000 60000 (lw_Z below #[Value.ref bs] s) (F0 m 1487 ls []) := by
  have hx := C.1
  have hb := C.2.1
  have hown := C.2.2.2.1
  have hts := C.2.2.2.2
  refine lv_aload_n hx hb dL_law_1487 rfl (lv_at hl 2 rfl) ?_
  refine lv_aload_n hx hb dL_law_1488 rfl (lv_at hl 1 rfl) ?_
  refine lv_iload hx hb dL_law_1489 (lv_at hl 0 rfl) ?_
  refine lv_iconst (v := 1) hx hb dL_law_1491 (by decide) ?_
  refine lv_iadd hx hb dL_law_1492 ?_
  refine zrd (x := 1) (by decide) ?_
  refine zsld (v := xs 1) C hw hXs hbl hbs (zin_of (N := 9) (by decide) (by decide) (by decide)) rfl dL_law_1493 ?_
  refine lv_aload_n hx hb dL_law_1494 rfl (lv_at hl 1 rfl) ?_
  refine lv_iload hx hb dL_law_1495 (lv_at hl 0 rfl) ?_
  refine lv_iconst (v := 2) hx hb dL_law_1497 (by decide) ?_
  refine lv_iadd hx hb dL_law_1498 ?_
  refine zrd (x := 2) (by decide) ?_
  refine zsld (v := xs 2) C hw hXs hbl hbs (zin_of (N := 9) (by decide) (by decide) (by decide)) rfl dL_law_1499 ?_
  refine lv_aload_n hx hb dL_law_1500 rfl (lv_at hl 1 rfl) ?_
  refine lv_iload hx hb dL_law_1501 (lv_at hl 0 rfl) ?_
  refine lv_iconst (v := 3) hx hb dL_law_1503 (by decide) ?_
  refine lv_iadd hx hb dL_law_1504 ?_
  refine zrd (x := 3) (by decide) ?_
  refine zsld (v := xs 3) C hw hXs hbl hbs (zin_of (N := 9) (by decide) (by decide) (by decide)) rfl dL_law_1505 ?_
  refine lv_aload_n hx hb dL_law_1506 rfl (lv_at hl 1 rfl) ?_
  refine lv_iload hx hb dL_law_1507 (lv_at hl 0 rfl) ?_
  refine lv_iconst (v := 4) hx hb dL_law_1509 (by decide) ?_
  refine lv_iadd hx hb dL_law_1510 ?_
  refine zrd (x := 4) (by decide) ?_
  refine zsld (v := xs 4) C hw hXs hbl hbs (zin_of (N := 9) (by decide) (by decide) (by decide)) rfl dL_law_1511 ?_
  refine lv_aload_n hx hb dL_law_1512 rfl (lv_at hl 4 rfl) ?_
  refine zcSW_i (As := [.ref (a 0), .int (xs 1), .int (xs 2), .int (xs 3), .int (xs 4), .ref o]) (rest := []) (n9 := 6) C hw (c_L_block l hst D y base S a (xs 1) (xs 2) (xs 3) (xs 4) o hX (by first | assumption | exact zbo_01 _) hko (by first | assumption | exact zbo_01 _)) gL_law_L_block rfl (by decide +kernel) ⟨⟨rfl, rfl⟩, Nat.le_of_ble_eq_true rfl, Nat.le_of_ble_eq_true rfl⟩ rfl hl.1 rfl (Nat.le_of_ble_eq_true rfl) ⟨Nat.le_of_ble_eq_true rfl, Nat.le_of_ble_eq_true rfl⟩ dL_law_1513 (fun r1513 S1513 H locs hp1513 hw => ?_)
  obtain ⟨hk9, hv9, hco⟩ := hp1513
  obtain ⟨hM9, hM09, hF9, hF95⟩ := hco.ref hM hM0 hF
  obtain ⟨hko9, hno9⟩ := hco.o hko hno
  obtain ⟨y, y92, y94, y95, y96, hw⟩ := zW_out hw hy hko9 hno9
  have hMd : zMd (zdl S1513 o) b := hM9.dl hko9
  have hM0d : zMd0 (zdl S1513 o) b := hM09
  have hFd : zQ (zdl S1513 o) 49 (b 4) = some (y 92) := by rw [y92]; exact hF9
  have hEd : zMdE (zdl S1513 o) b := ⟨⟨_, hF9⟩, _, hF95⟩
  refine lv_istore (lv' := [(6, .int r1513), (5, .int 0), (0, .ref bs), (1, .ref (a 0)), (2, .ref (b 0)), (3, .ref o), (4, .ref od)]) hx hb dL_law_1516 hl (by decide) rfl (fun ls hl => ?_)
  refine lv_aload_n hx hb dL_law_1518 rfl (lv_at hl 4 rfl) ?_
  refine lv_aload_n hx hb dL_law_1519 rfl (lv_at hl 2 rfl) ?_
  refine lv_iload hx hb dL_law_1520 (lv_at hl 1 rfl) ?_
  refine lv_iconst (v := 1) hx hb dL_law_1522 (by decide) ?_
  refine lv_iadd hx hb dL_law_1523 ?_
  refine zrd (x := 1) (by decide) ?_
  refine zsld (v := xs 1) C hw hXs hbl hbs (zin_of (N := 9) (by decide) (by decide) (by decide)) rfl dL_law_1524 ?_
  refine lv_aload_n hx hb dL_law_1525 rfl (lv_at hl 2 rfl) ?_
  refine lv_iload hx hb dL_law_1526 (lv_at hl 1 rfl) ?_
  refine lv_iconst (v := 2) hx hb dL_law_1528 (by decide) ?_
  refine lv_iadd hx hb dL_law_1529 ?_
  refine zrd (x := 2) (by decide) ?_
  refine zsld (v := xs 2) C hw hXs hbl hbs (zin_of (N := 9) (by decide) (by decide) (by decide)) rfl dL_law_1530 ?_
  refine lv_aload_n hx hb dL_law_1531 rfl (lv_at hl 2 rfl) ?_
  refine lv_iload hx hb dL_law_1532 (lv_at hl 1 rfl) ?_
  refine lv_iconst (v := 3) hx hb dL_law_1534 (by decide) ?_
  refine lv_iadd hx hb dL_law_1535 ?_
  refine zrd (x := 3) (by decide) ?_
  refine zsld (v := xs 3) C hw hXs hbl hbs (zin_of (N := 9) (by decide) (by decide) (by decide)) rfl dL_law_1536 ?_
  refine lv_aload_n hx hb dL_law_1537 rfl (lv_at hl 2 rfl) ?_
  refine lv_iload hx hb dL_law_1538 (lv_at hl 1 rfl) ?_
  refine lv_iconst (v := 4) hx hb dL_law_1540 (by decide) ?_
  refine lv_iadd hx hb dL_law_1541 ?_
  refine zrd (x := 4) (by decide) ?_
  refine zsld (v := xs 4) C hw hXs hbl hbs (zin_of (N := 9) (by decide) (by decide) (by decide)) rfl dL_law_1542 ?_
  refine zcV_i (As := [.int (xs 1), .int (xs 2), .int (xs 3), .int (xs 4)]) (rest := []) (n9 := 4) (b := (b 0)) C hw (c_X11_block l D y base (zdl S1513 o) b (xs 1) (xs 2) (xs 3) (xs 4) hMd (by first | assumption | exact zbo_01 _)) gL_law_X11_block rfl (by decide +kernel) ⟨⟨rfl, rfl⟩, Nat.le_of_ble_eq_true rfl, Nat.le_of_ble_eq_true rfl⟩ hMd.1 ⟨by decide, by decide⟩ rfl rfl hl.1 rfl (Nat.le_of_ble_eq_true rfl) ⟨Nat.le_of_ble_eq_true rfl, Nat.le_of_ble_eq_true rfl⟩ dL_law_1543 (fun r1543 S1543 H locs hp1543 hw => ?_)
  obtain ⟨r1, r2, r3⟩ := hp1543
  refine lv_istore (lv' := [(7, .int r1543), (6, .int r1513), (5, .int 0), (0, .ref bs), (1, .ref (a 0)), (2, .ref (b 0)), (3, .ref o), (4, .ref od)]) hx hb dL_law_1546 hl (by decide) rfl (fun ls hl => ?_)
  refine lv_aload_n hx hb dL_law_1548 rfl (lv_at hl 5 rfl) ?_
  refine zcV_i (As := []) (rest := []) (n9 := 0) (b := (b 0)) C hw (c_X11_thrown l D y base S1543 (b 0) (kd_block (xs 1) (xs 2) (xs 3)) r1 r2) gL_law_X11_thrown rfl (by decide +kernel) ⟨⟨rfl, rfl⟩, Nat.le_of_ble_eq_true rfl, Nat.le_of_ble_eq_true rfl⟩ r1 ⟨by decide, by decide⟩ rfl rfl hl.1 rfl (Nat.le_of_ble_eq_true rfl) ⟨Nat.le_of_ble_eq_true rfl, Nat.le_of_ble_eq_true rfl⟩ dL_law_1549 (fun r1549 S1549 H locs hp1549 hw => ?_)
  obtain ⟨rfl, hS9⟩ := hp1549
  have hS9 := hS9.symm
  subst hS9
  refine lv_iload hx hb dL_law_1552 (lv_at hl 1 rfl) ?_
  refine lv_icmp_eq (tgt := 1559) hx hb dL_law_1554 (by decide) (fun c1554 => ?_) (fun c1554 => (show False from (c1554 hk9.symm)).elim)
  refine lv_iload hx hb dL_law_1559 (lv_at hl 1 rfl) ?_
  refine lv_if_ne (tgt := 1576) hx hb dL_law_1561 (by decide) (fun c1561 => ?_) (fun c1561 => ?_)
  · refine lv_goto (tgt := 2892) hx hb dL_law_1576 (by decide) ?_
    exact hend _ _ _ _ _ (Nat.le_of_ble_eq_true rfl) (Nat.le_of_ble_eq_true rfl) hw.2.2.1 (lv_sub hl [2, 3] rfl)
  · have hz9 : kd_block (xs 1) (xs 2) (xs 3) = 0 := hk9.symm.trans c1561
    have hb9 := r3 hz9
    subst hb9
    refine lv_aload_n hx hb dL_law_1564 rfl (lv_at hl 6 rfl) ?_
    refine lv_iconst (v := 0) hx hb dL_law_1565 (by decide) ?_
    refine zaldX C hw y94 y95 dL_law_1566 ?_
    refine zrdl (x := ((0 : Int32).toInt64)) (y96.trans (hv9 hz9)) ?_
    refine lv_iload hx hb dL_law_1567 (lv_at hl 0 rfl) ?_
    refine lv_i2l (v := (0 : Int32).toInt64) hx hb dL_law_1569 rfl ?_
    refine W.lcmp hx hb dL_law_1570 ?_
    refine zrd (x := 0) ((lg_cmp_eq _ _).mpr rfl) ?_
    refine lv_if_eq (tgt := 1576) hx hb dL_law_1571 (by decide) (fun _ => ?_) (fun c1571 => absurd c1571 (by decide))
    refine lv_goto (tgt := 2892) hx hb dL_law_1576 (by decide) ?_
    exact hend _ _ _ _ _ (Nat.le_of_ble_eq_true rfl) (Nat.le_of_ble_eq_true rfl) hw.2.2.1 (lv_sub hl [2, 3] rfl)

