set_option maxHeartbeats 4000000 in
set_option maxRecDepth 100000 in
theorem law_part_1 {p : Program} {l : Launch} {e : Env} {s : State} {m : MethodId} {below : List Frame} {meth : Method} {c : Code} {H : Heap} {locs : List Loc} {ls : Array Slot} {D : va_G} {y : Nat → ClassId} {base : Nat} {S : zS} {a : Nat → Nat} {bs : Nat} (hst : l.stackTraces = false) (C : CallFix p m c code 2 s #[Value.ref bs] wsL_law RL) (hr : meth.sig.returnType = ret) (hlocks : meth.locks = false) (hy31 : y 99 < 2 ^ 31) (hNw : zNew S a) (hDs : zDs a) (hbase : base = s.heap.size) (hw : zW D y base S s H locs) (hl : lv_has ls 2 [(1, .ref (a 0)), (0, .ref (y 98))]) : W p l e room_1 s m #[Value.ref bs] below meth c H locs 45 5703 (lw_Z below #[Value.ref bs] s) (F0 m 140 ls []) := by
  have hx := C.1
  have hb := C.2.1
  have hown := C.2.2.2.1
  have hts := C.2.2.2.2
  refine lv_aload_n hx hb dL_law_140 rfl (lv_at hl 0 rfl) ?_
  refine lv_bipush (v := 70) hx hb dL_law_141 (by decide) ?_
  refine lv_iconst (v := 2) hx hb dL_law_143 (by decide) ?_
  refine znewI (N := 2) C hw (by decide +kernel) (by decide) (by decide) (Nat.le_of_ble_eq_true rfl) (Nat.le_of_ble_eq_true rfl) (Nat.le_of_ble_eq_true rfl) dL_law_144 (fun q144 H kq144 hw => ?_)
  have hA : zAr S (znR S q144 22 2 (fun _ => 0)) q144 2 [] := zAr.new kq144
  generalize (znR S q144 22 2 (fun _ => 0)) = Sa144 at hw hA
  refine lv_dup hx hb dL_law_146 rfl ?_
  refine lv_iconst (v := 0) hx hb dL_law_147 (by decide) ?_
  refine lv_iconst (v := 0) hx hb dL_law_148 (by decide) ?_
  refine zast_I (a := q144) C hw hA.2.1 hA.2.2.1 (zin_of (N := 2) (by decide) (by grind) (by grind)) dL_law_149 (fun H locs hw => ?_)
  have hA : zAr S (zsR Sa144 22 q144 (upd (zR Sa144 22 q144) (0 : Int32).toNatClampNeg 0)) q144 2 [0] := zAr.st (k := 0) hA kq144 (by decide) rfl
  generalize (zsR Sa144 22 q144 (upd (zR Sa144 22 q144) (0 : Int32).toNatClampNeg 0)) = Sa149 at hw hA
  refine lv_dup hx hb dL_law_150 rfl ?_
  refine lv_iconst (v := 1) hx hb dL_law_151 (by decide) ?_
  refine lv_iconst (v := (-1)) hx hb dL_law_152 (by decide) ?_
  refine zast_I (a := q144) C hw hA.2.1 hA.2.2.1 (zin_of (N := 2) (by decide) (by grind) (by grind)) dL_law_153 (fun H locs hw => ?_)
  have hA : zAr S (zsR Sa149 22 q144 (upd (zR Sa149 22 q144) (1 : Int32).toNatClampNeg (-1))) q144 2 [0, (-1)] := zAr.st (k := 1) hA kq144 (by decide) rfl
  generalize (zsR Sa149 22 q144 (upd (zR Sa149 22 q144) (1 : Int32).toNatClampNeg (-1))) = Sa153 at hw hA
  obtain ⟨hG, hK9, hN9, hA⟩ := hA
  have hj0 : zR Sa153 22 q144 0 = 0 := (hA 0 0 rfl).trans rfl
  have hj1 : zR Sa153 22 q144 1 = (-1) := (hA 1 (-1) rfl).trans rfl
  have hNw := zNew.gw hG hNw
  refine zcSW_i (As := [.ref (a 0), .int 70, .ref q144]) (rest := []) (n9 := 3) C hw (c_L_ask_F_flip_r l hst D y base Sa153 a 0 (-1) q144 hNw.1 hNw.2.1 (by decide +kernel) hK9 hN9 hj0 hj1) gL_law_L_ask rfl (by decide +kernel) ⟨⟨rfl, rfl⟩, Nat.le_of_ble_eq_true rfl, Nat.le_of_ble_eq_true rfl⟩ rfl hl.1 rfl (Nat.le_of_ble_eq_true rfl) ⟨Nat.le_of_ble_eq_true rfl, Nat.le_of_ble_eq_true rfl⟩ dL_law_154 (fun r154 S154 H locs hp154 hw => ?_)
  have h9 : r154 = (-2000000002) ∧ S154 = Sa153 := by
    rcases hp154 with h | h
    · exact absurd h.1 (by decide +kernel)
    · exact h.2
  obtain ⟨rfl, hS9⟩ := h9
  have hS9 := hS9.symm
  subst hS9
  refine lv_ldc (own := RL) (v := (-2000000002)) hx hb hown (hts (.constant RL 71 (-2000000002)) (by decide +kernel)) dL_law_157 ?_
  refine lv_icmp_ne (tgt := 1945) hx hb dL_law_159 (by decide) (fun c159 => absurd c159 (by decide)) (fun _ => ?_)
  refine lv_aload_n hx hb dL_law_162 rfl (lv_at hl 0 rfl) ?_
  refine lv_bipush (v := 76) hx hb dL_law_163 (by decide) ?_
  refine lv_iconst (v := 2) hx hb dL_law_165 (by decide) ?_
  refine znewI (N := 2) C hw (by decide +kernel) (by decide) (by decide) (Nat.le_of_ble_eq_true rfl) (Nat.le_of_ble_eq_true rfl) (Nat.le_of_ble_eq_true rfl) dL_law_166 (fun q166 H kq166 hw => ?_)
  have hA : zAr Sa153 (znR Sa153 q166 22 2 (fun _ => 0)) q166 2 [] := zAr.new kq166
  generalize (znR Sa153 q166 22 2 (fun _ => 0)) = Sa166 at hw hA
  refine lv_dup hx hb dL_law_168 rfl ?_
  refine lv_iconst (v := 0) hx hb dL_law_169 (by decide) ?_
  refine lv_iconst (v := 4) hx hb dL_law_170 (by decide) ?_
  refine zast_I (a := q166) C hw hA.2.1 hA.2.2.1 (zin_of (N := 2) (by decide) (by grind) (by grind)) dL_law_171 (fun H locs hw => ?_)
  have hA : zAr Sa153 (zsR Sa166 22 q166 (upd (zR Sa166 22 q166) (0 : Int32).toNatClampNeg 4)) q166 2 [4] := zAr.st (k := 0) hA kq166 (by decide) rfl
  generalize (zsR Sa166 22 q166 (upd (zR Sa166 22 q166) (0 : Int32).toNatClampNeg 4)) = Sa171 at hw hA
  refine lv_dup hx hb dL_law_172 rfl ?_
  refine lv_iconst (v := 1) hx hb dL_law_173 (by decide) ?_
  refine lv_iconst (v := 0) hx hb dL_law_174 (by decide) ?_
  refine zast_I (a := q166) C hw hA.2.1 hA.2.2.1 (zin_of (N := 2) (by decide) (by grind) (by grind)) dL_law_175 (fun H locs hw => ?_)
  have hA : zAr Sa153 (zsR Sa171 22 q166 (upd (zR Sa171 22 q166) (1 : Int32).toNatClampNeg 0)) q166 2 [4, 0] := zAr.st (k := 1) hA kq166 (by decide) rfl
  generalize (zsR Sa171 22 q166 (upd (zR Sa171 22 q166) (1 : Int32).toNatClampNeg 0)) = Sa175 at hw hA
  obtain ⟨hG, hK9, hN9, hA⟩ := hA
  have hj0 : zR Sa175 22 q166 0 = 4 := (hA 0 4 rfl).trans rfl
  have hj1 : zR Sa175 22 q166 1 = 0 := (hA 1 0 rfl).trans rfl
  have hNw := zNew.gw hG hNw
  refine zcSW_i (As := [.ref (a 0), .int 76, .ref q166]) (rest := []) (n9 := 3) C hw (c_L_ask_L_level_r l hst D y base Sa175 a 4 0 q166 hNw.1 hNw.2.1 (by decide +kernel) hK9 hN9 hj0 hj1) gL_law_L_ask rfl (by decide +kernel) ⟨⟨rfl, rfl⟩, Nat.le_of_ble_eq_true rfl, Nat.le_of_ble_eq_true rfl⟩ rfl hl.1 rfl (Nat.le_of_ble_eq_true rfl) ⟨Nat.le_of_ble_eq_true rfl, Nat.le_of_ble_eq_true rfl⟩ dL_law_176 (fun r176 S176 H locs hp176 hw => ?_)
  have h9 : r176 = (-2000000001) ∧ S176 = Sa175 := by
    rcases hp176 with h | h
    · exact h.2
    · exact absurd h.1 (by decide +kernel)
  obtain ⟨rfl, hS9⟩ := h9
  have hS9 := hS9.symm
  subst hS9
  refine lv_ldc (own := RL) (v := (-2000000001)) hx hb hown (hts (.constant RL 68 (-2000000001)) (by decide +kernel)) dL_law_179 ?_
  refine lv_icmp_ne (tgt := 1945) hx hb dL_law_181 (by decide) (fun c181 => absurd c181 (by decide)) (fun _ => ?_)
  refine lv_aload_n hx hb dL_law_184 rfl (lv_at hl 0 rfl) ?_
  refine lv_bipush (v := 76) hx hb dL_law_185 (by decide) ?_
  refine lv_iconst (v := 2) hx hb dL_law_187 (by decide) ?_
  refine znewI (N := 2) C hw (by decide +kernel) (by decide) (by decide) (Nat.le_of_ble_eq_true rfl) (Nat.le_of_ble_eq_true rfl) (Nat.le_of_ble_eq_true rfl) dL_law_188 (fun q188 H kq188 hw => ?_)
  have hA : zAr Sa175 (znR Sa175 q188 22 2 (fun _ => 0)) q188 2 [] := zAr.new kq188
  generalize (znR Sa175 q188 22 2 (fun _ => 0)) = Sa188 at hw hA
  refine lv_dup hx hb dL_law_190 rfl ?_
  refine lv_iconst (v := 0) hx hb dL_law_191 (by decide) ?_
  refine lv_iconst (v := 0) hx hb dL_law_192 (by decide) ?_
  refine zast_I (a := q188) C hw hA.2.1 hA.2.2.1 (zin_of (N := 2) (by decide) (by grind) (by grind)) dL_law_193 (fun H locs hw => ?_)
  have hA : zAr Sa175 (zsR Sa188 22 q188 (upd (zR Sa188 22 q188) (0 : Int32).toNatClampNeg 0)) q188 2 [0] := zAr.st (k := 0) hA kq188 (by decide) rfl
  generalize (zsR Sa188 22 q188 (upd (zR Sa188 22 q188) (0 : Int32).toNatClampNeg 0)) = Sa193 at hw hA
  refine lv_dup hx hb dL_law_194 rfl ?_
  refine lv_iconst (v := 1) hx hb dL_law_195 (by decide) ?_
  refine lv_sipush (v := 10000) hx hb dL_law_196 (by decide) ?_
  refine zast_I (a := q188) C hw hA.2.1 hA.2.2.1 (zin_of (N := 2) (by decide) (by grind) (by grind)) dL_law_199 (fun H locs hw => ?_)
  have hA : zAr Sa175 (zsR Sa193 22 q188 (upd (zR Sa193 22 q188) (1 : Int32).toNatClampNeg 10000)) q188 2 [0, 10000] := zAr.st (k := 1) hA kq188 (by decide) rfl
  generalize (zsR Sa193 22 q188 (upd (zR Sa193 22 q188) (1 : Int32).toNatClampNeg 10000)) = Sa199 at hw hA
  obtain ⟨hG, hK9, hN9, hA⟩ := hA
  have hj0 : zR Sa199 22 q188 0 = 0 := (hA 0 0 rfl).trans rfl
  have hj1 : zR Sa199 22 q188 1 = 10000 := (hA 1 10000 rfl).trans rfl
  have hNw := zNew.gw hG hNw
  refine zcSW_i (As := [.ref (a 0), .int 76, .ref q188]) (rest := []) (n9 := 3) C hw (c_L_ask_L_level_r l hst D y base Sa199 a 0 10000 q188 hNw.1 hNw.2.1 (by decide +kernel) hK9 hN9 hj0 hj1) gL_law_L_ask rfl (by decide +kernel) ⟨⟨rfl, rfl⟩, Nat.le_of_ble_eq_true rfl, Nat.le_of_ble_eq_true rfl⟩ rfl hl.1 rfl (Nat.le_of_ble_eq_true rfl) ⟨Nat.le_of_ble_eq_true rfl, Nat.le_of_ble_eq_true rfl⟩ dL_law_200 (fun r200 S200 H locs hp200 hw => ?_)
  have h9 : r200 = (-2000000002) ∧ S200 = Sa199 := by
    rcases hp200 with h | h
    · exact absurd h.1 (by decide +kernel)
    · exact h.2
  obtain ⟨rfl, hS9⟩ := h9
  have hS9 := hS9.symm
  subst hS9
  refine lv_ldc (own := RL) (v := (-2000000002)) hx hb hown (hts (.constant RL 71 (-2000000002)) (by decide +kernel)) dL_law_203 ?_
  refine lv_icmp_ne (tgt := 1945) hx hb dL_law_205 (by decide) (fun c205 => absurd c205 (by decide)) (fun _ => ?_)
  exact law_part_2 hst C hr hlocks hy31 hNw hDs hbase hw hl

set_option maxHeartbeats 4000000 in
set_option maxRecDepth 100000 in
theorem law_part_0 {p : Program} {l : Launch} {e : Env} {s : State} {m : MethodId} {below : List Frame} {meth : Method} {c : Code} {H : Heap} {locs : List Loc} {ls : Array Slot} {D : va_G} {y : Nat → ClassId} {base : Nat} {S : zS} {a : Nat → Nat} {bs : Nat} (hst : l.stackTraces = false) (C : CallFix p m c code 2 s #[Value.ref bs] wsL_law RL) (hr : meth.sig.returnType = ret) (hlocks : meth.locks = false) (hy31 : y 99 < 2 ^ 31) (hNw : zNew S a) (hDs : zDs a) (hbase : base = s.heap.size) (hw : zW D y base S s H locs) (hl : lv_has ls 2 [(1, .ref (a 0)), (0, .ref (y 98))]) : W p l e room_1 s m #[Value.ref bs] below meth c H locs 37 5667 (lw_Z below #[Value.ref bs] s) (F0 m 72 ls []) := by
  have hx := C.1
  have hb := C.2.1
  have hown := C.2.2.2.1
  have hts := C.2.2.2.2
  refine lv_aload_n hx hb dL_law_72 rfl (lv_at hl 0 rfl) ?_
  refine lv_bipush (v := 73) hx hb dL_law_73 (by decide) ?_
  refine lv_iconst (v := 2) hx hb dL_law_75 (by decide) ?_
  refine znewI (N := 2) C hw (by decide +kernel) (by decide) (by decide) (Nat.le_of_ble_eq_true rfl) (Nat.le_of_ble_eq_true rfl) (Nat.le_of_ble_eq_true rfl) dL_law_76 (fun q76 H kq76 hw => ?_)
  have hA : zAr S (znR S q76 22 2 (fun _ => 0)) q76 2 [] := zAr.new kq76
  generalize (znR S q76 22 2 (fun _ => 0)) = Sa76 at hw hA
  refine lv_dup hx hb dL_law_78 rfl ?_
  refine lv_iconst (v := 0) hx hb dL_law_79 (by decide) ?_
  refine lv_iconst (v := 4) hx hb dL_law_80 (by decide) ?_
  refine zast_I (a := q76) C hw hA.2.1 hA.2.2.1 (zin_of (N := 2) (by decide) (by grind) (by grind)) dL_law_81 (fun H locs hw => ?_)
  have hA : zAr S (zsR Sa76 22 q76 (upd (zR Sa76 22 q76) (0 : Int32).toNatClampNeg 4)) q76 2 [4] := zAr.st (k := 0) hA kq76 (by decide) rfl
  generalize (zsR Sa76 22 q76 (upd (zR Sa76 22 q76) (0 : Int32).toNatClampNeg 4)) = Sa81 at hw hA
  refine lv_dup hx hb dL_law_82 rfl ?_
  refine lv_iconst (v := 1) hx hb dL_law_83 (by decide) ?_
  refine lv_iconst (v := 0) hx hb dL_law_84 (by decide) ?_
  refine zast_I (a := q76) C hw hA.2.1 hA.2.2.1 (zin_of (N := 2) (by decide) (by grind) (by grind)) dL_law_85 (fun H locs hw => ?_)
  have hA : zAr S (zsR Sa81 22 q76 (upd (zR Sa81 22 q76) (1 : Int32).toNatClampNeg 0)) q76 2 [4, 0] := zAr.st (k := 1) hA kq76 (by decide) rfl
  generalize (zsR Sa81 22 q76 (upd (zR Sa81 22 q76) (1 : Int32).toNatClampNeg 0)) = Sa85 at hw hA
  obtain ⟨hG, hK9, hN9, hA⟩ := hA
  have hj0 : zR Sa85 22 q76 0 = 4 := (hA 0 4 rfl).trans rfl
  have hj1 : zR Sa85 22 q76 1 = 0 := (hA 1 0 rfl).trans rfl
  have hNw := zNew.gw hG hNw
  refine zcSW_i (As := [.ref (a 0), .int 73, .ref q76]) (rest := []) (n9 := 3) C hw (c_L_ask_I_idle_r l hst D y base Sa85 a 4 0 q76 hNw.1 hNw.2.1 (by decide +kernel) hK9 hN9 hj0 hj1 (by decide +kernel)) gL_law_L_ask rfl (by decide +kernel) ⟨⟨rfl, rfl⟩, Nat.le_of_ble_eq_true rfl, Nat.le_of_ble_eq_true rfl⟩ rfl hl.1 rfl (Nat.le_of_ble_eq_true rfl) ⟨Nat.le_of_ble_eq_true rfl, Nat.le_of_ble_eq_true rfl⟩ dL_law_86 (fun r86 S86 H locs hp86 hw => ?_)
  have h9 : r86 = (-2000000001) ∧ S86 = Sa85 := hp86.2
  obtain ⟨rfl, hS9⟩ := h9
  have hS9 := hS9.symm
  subst hS9
  refine lv_ldc (own := RL) (v := (-2000000001)) hx hb hown (hts (.constant RL 68 (-2000000001)) (by decide +kernel)) dL_law_89 ?_
  refine lv_icmp_ne (tgt := 1945) hx hb dL_law_91 (by decide) (fun c91 => absurd c91 (by decide)) (fun _ => ?_)
  refine lv_aload_n hx hb dL_law_94 rfl (lv_at hl 0 rfl) ?_
  refine lv_bipush (v := 70) hx hb dL_law_95 (by decide) ?_
  refine lv_iconst (v := 2) hx hb dL_law_97 (by decide) ?_
  refine znewI (N := 2) C hw (by decide +kernel) (by decide) (by decide) (Nat.le_of_ble_eq_true rfl) (Nat.le_of_ble_eq_true rfl) (Nat.le_of_ble_eq_true rfl) dL_law_98 (fun q98 H kq98 hw => ?_)
  have hA : zAr Sa85 (znR Sa85 q98 22 2 (fun _ => 0)) q98 2 [] := zAr.new kq98
  generalize (znR Sa85 q98 22 2 (fun _ => 0)) = Sa98 at hw hA
  refine lv_dup hx hb dL_law_100 rfl ?_
  refine lv_iconst (v := 0) hx hb dL_law_101 (by decide) ?_
  refine lv_iconst (v := (-1)) hx hb dL_law_102 (by decide) ?_
  refine zast_I (a := q98) C hw hA.2.1 hA.2.2.1 (zin_of (N := 2) (by decide) (by grind) (by grind)) dL_law_103 (fun H locs hw => ?_)
  have hA : zAr Sa85 (zsR Sa98 22 q98 (upd (zR Sa98 22 q98) (0 : Int32).toNatClampNeg (-1))) q98 2 [(-1)] := zAr.st (k := 0) hA kq98 (by decide) rfl
  generalize (zsR Sa98 22 q98 (upd (zR Sa98 22 q98) (0 : Int32).toNatClampNeg (-1))) = Sa103 at hw hA
  refine lv_dup hx hb dL_law_104 rfl ?_
  refine lv_iconst (v := 1) hx hb dL_law_105 (by decide) ?_
  refine lv_iconst (v := 0) hx hb dL_law_106 (by decide) ?_
  refine zast_I (a := q98) C hw hA.2.1 hA.2.2.1 (zin_of (N := 2) (by decide) (by grind) (by grind)) dL_law_107 (fun H locs hw => ?_)
  have hA : zAr Sa85 (zsR Sa103 22 q98 (upd (zR Sa103 22 q98) (1 : Int32).toNatClampNeg 0)) q98 2 [(-1), 0] := zAr.st (k := 1) hA kq98 (by decide) rfl
  generalize (zsR Sa103 22 q98 (upd (zR Sa103 22 q98) (1 : Int32).toNatClampNeg 0)) = Sa107 at hw hA
  obtain ⟨hG, hK9, hN9, hA⟩ := hA
  have hj0 : zR Sa107 22 q98 0 = (-1) := (hA 0 (-1) rfl).trans rfl
  have hj1 : zR Sa107 22 q98 1 = 0 := (hA 1 0 rfl).trans rfl
  have hNw := zNew.gw hG hNw
  refine zcSW_i (As := [.ref (a 0), .int 70, .ref q98]) (rest := []) (n9 := 3) C hw (c_L_ask_F_flip_r l hst D y base Sa107 a (-1) 0 q98 hNw.1 hNw.2.1 (by decide +kernel) hK9 hN9 hj0 hj1) gL_law_L_ask rfl (by decide +kernel) ⟨⟨rfl, rfl⟩, Nat.le_of_ble_eq_true rfl, Nat.le_of_ble_eq_true rfl⟩ rfl hl.1 rfl (Nat.le_of_ble_eq_true rfl) ⟨Nat.le_of_ble_eq_true rfl, Nat.le_of_ble_eq_true rfl⟩ dL_law_108 (fun r108 S108 H locs hp108 hw => ?_)
  have h9 : r108 = (-2000000001) ∧ S108 = Sa107 := by
    rcases hp108 with h | h
    · exact h.2
    · exact absurd h.1 (by decide +kernel)
  obtain ⟨rfl, hS9⟩ := h9
  have hS9 := hS9.symm
  subst hS9
  refine lv_ldc (own := RL) (v := (-2000000001)) hx hb hown (hts (.constant RL 68 (-2000000001)) (by decide +kernel)) dL_law_111 ?_
  refine lv_icmp_ne (tgt := 1945) hx hb dL_law_113 (by decide) (fun c113 => absurd c113 (by decide)) (fun _ => ?_)
  refine lv_aload_n hx hb dL_law_116 rfl (lv_at hl 0 rfl) ?_
  refine lv_bipush (v := 70) hx hb dL_law_117 (by decide) ?_
  refine lv_iconst (v := 2) hx hb dL_law_119 (by decide) ?_
  refine znewI (N := 2) C hw (by decide +kernel) (by decide) (by decide) (Nat.le_of_ble_eq_true rfl) (Nat.le_of_ble_eq_true rfl) (Nat.le_of_ble_eq_true rfl) dL_law_120 (fun q120 H kq120 hw => ?_)
  have hA : zAr Sa107 (znR Sa107 q120 22 2 (fun _ => 0)) q120 2 [] := zAr.new kq120
  generalize (znR Sa107 q120 22 2 (fun _ => 0)) = Sa120 at hw hA
  refine lv_dup hx hb dL_law_122 rfl ?_
  refine lv_iconst (v := 0) hx hb dL_law_123 (by decide) ?_
  refine lv_iconst (v := 0) hx hb dL_law_124 (by decide) ?_
  refine zast_I (a := q120) C hw hA.2.1 hA.2.2.1 (zin_of (N := 2) (by decide) (by grind) (by grind)) dL_law_125 (fun H locs hw => ?_)
  have hA : zAr Sa107 (zsR Sa120 22 q120 (upd (zR Sa120 22 q120) (0 : Int32).toNatClampNeg 0)) q120 2 [0] := zAr.st (k := 0) hA kq120 (by decide) rfl
  generalize (zsR Sa120 22 q120 (upd (zR Sa120 22 q120) (0 : Int32).toNatClampNeg 0)) = Sa125 at hw hA
  refine lv_dup hx hb dL_law_126 rfl ?_
  refine lv_iconst (v := 1) hx hb dL_law_127 (by decide) ?_
  refine lv_sipush (v := 10000) hx hb dL_law_128 (by decide) ?_
  refine zast_I (a := q120) C hw hA.2.1 hA.2.2.1 (zin_of (N := 2) (by decide) (by grind) (by grind)) dL_law_131 (fun H locs hw => ?_)
  have hA : zAr Sa107 (zsR Sa125 22 q120 (upd (zR Sa125 22 q120) (1 : Int32).toNatClampNeg 10000)) q120 2 [0, 10000] := zAr.st (k := 1) hA kq120 (by decide) rfl
  generalize (zsR Sa125 22 q120 (upd (zR Sa125 22 q120) (1 : Int32).toNatClampNeg 10000)) = Sa131 at hw hA
  obtain ⟨hG, hK9, hN9, hA⟩ := hA
  have hj0 : zR Sa131 22 q120 0 = 0 := (hA 0 0 rfl).trans rfl
  have hj1 : zR Sa131 22 q120 1 = 10000 := (hA 1 10000 rfl).trans rfl
  have hNw := zNew.gw hG hNw
  refine zcSW_i (As := [.ref (a 0), .int 70, .ref q120]) (rest := []) (n9 := 3) C hw (c_L_ask_F_flip_r l hst D y base Sa131 a 0 10000 q120 hNw.1 hNw.2.1 (by decide +kernel) hK9 hN9 hj0 hj1) gL_law_L_ask rfl (by decide +kernel) ⟨⟨rfl, rfl⟩, Nat.le_of_ble_eq_true rfl, Nat.le_of_ble_eq_true rfl⟩ rfl hl.1 rfl (Nat.le_of_ble_eq_true rfl) ⟨Nat.le_of_ble_eq_true rfl, Nat.le_of_ble_eq_true rfl⟩ dL_law_132 (fun r132 S132 H locs hp132 hw => ?_)
  have h9 : r132 = (-2000000002) ∧ S132 = Sa131 := by
    rcases hp132 with h | h
    · exact absurd h.1 (by decide +kernel)
    · exact h.2
  obtain ⟨rfl, hS9⟩ := h9
  have hS9 := hS9.symm
  subst hS9
  refine lv_ldc (own := RL) (v := (-2000000002)) hx hb hown (hts (.constant RL 71 (-2000000002)) (by decide +kernel)) dL_law_135 ?_
  refine lv_icmp_ne (tgt := 1945) hx hb dL_law_137 (by decide) (fun c137 => absurd c137 (by decide)) (fun _ => ?_)
  exact law_part_1 hst C hr hlocks hy31 hNw hDs hbase hw hl
