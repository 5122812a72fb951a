/-! THE LAW's own methods: a table of what they catch; the script's row -/
theorem zMetH_of {l : Launch} {y0 : MethodName} {own : String} {ws ws' : List Cond} {rm : Room} {av : List Value} {D : va_G} {y : Nat → ClassId} {base : Nat} {S : zS} {cc : ByteArray} {maxL : Nat} {ret : Option FieldType} {hh : List (Nat × Nat × Nat × Nat)} {Qc : Array Value → State → Outcome → State → Prop} {mc ms : Nat}
    (hy : plainName y0.cls = true) (hw : ws = Cond.codeWith y0 cc maxL ret hh :: ws') (ho : y0.cls = own) (hlen : (lg_sl av).length ≤ maxL)
    (body : ∀ (p : Program) (e : Env) (s : State) (m : MethodId) (args : Array Value) (below : List Frame) (meth : Method) (c : Code) (ls : Array Slot), CallFix p m c cc maxL s args ws own → meth.sig.returnType = ret → meth.locks = false → c.exceptionTable.toList = tableOf hh → zW D y base S s s.heap [] → lv_has ls maxL (lv_args 0 av) →
      W p l e (headSpec ws rm).room s m args below meth c s.heap [] 0 0 (MQ below Qc args s mc ms (zA base)) (F0 m 0 ls [])) : Met l y0 ws rm (va_Pc av (zPre D y base S)) Qc mc ms (zA base) := by
  refine MetFree.of_bodyS (code := cc) (maxLocals := maxL) (ret := ret) hy ?_ ?_
  · intro args s m h hn
    obtain ⟨m9, meth, c, hn9, h1, h2, h3, h4, -, h5, h6, -⟩ := Cond.codeWith_spec (atoms_spec (ws := ws) h _ (by rw [hw]; exact List.mem_cons_self))
    cases hn.symm.trans hn9
    exact ⟨meth, c, h1, h2, h3, h4, h5, h6⟩
  · intro p e s m args below meth c s₁ B hml hP _
    have hh0 : s₁.heap = s.heap := by rw [B.state]; rfl
    obtain ⟨rfl, hV, hH, hbase⟩ := hP
    have hts := atoms_spec (ws := ws) B.pre
    have hown : s.vm.findClass own = some m.cls := by rw [← ho]; exact findClass_of_methodNamed B.named
    have ht : c.exceptionTable.toList = tableOf hh := vx_table (x := y0) B (hts _ (by rw [hw]; exact List.mem_cons_self))
    have hl := lv_entry av (n := maxL) hlen
    have K : W p l e (headSpec ws rm).room s m av.toArray below meth c s.heap [] 0 0 (MQ below Qc av.toArray s mc ms (zA base)) (entryFrame m av.toArray maxL) := by
      rw [lg_entry_eq]
      generalize (lg_sl av ++ List.replicate (maxL - (lg_sl av).length) Slot.unset).toArray = ls at hl ⊢
      exact body p e s m av.toArray below meth c ls ⟨B.exec, B.bytes, hml, hown, hts⟩ B.returns B.notSynchronized ht ⟨hV, hH, va_S.rf, hbase⟩ hl
    obtain ⟨t, a1, o, b1, b2, b3⟩ := K s₁ hh0 (Stand.of_body B)
    exact ⟨t, o, a1, b1, b2, ⟨b3.1, b3.2⟩⟩
section ZLW
variable {p : Program} {l : Launch} {e : Env} {R : Room} {s : State} {m : MethodId} {args : Array Value} {below : List Frame} {meth : Method} {c : Code} {H : Heap} {locs : List Loc} {cells slots : Nat} {Q : State → Prop}
variable {cc : ByteArray} {pc nL : Nat} {ls : Array Slot} {rest st0 : List Value} {D : va_G} {y : Nat → ClassId} {base a : Nat} {S : zS} {Ts : List Cond} {own : String}
theorem zcV_xf (C : CallFix p m c cc nL s args Ts own) (hw : zW D y base S s H locs) {y0 : MethodName} {Cn : String} {T : u_T} {N : Nat} {bytes : ByteArray} {maxL index mc ms b k : Nat} {ret : Option FieldType} {ws ws' : List Cond} {rm : Room} {post : UInt32 → zS → Prop} {xp : String → zS → Prop} {As : List Value} {n9 : Nat}
    (hM : zXf l y0 ws rm (.ref b :: As) D y base S post xp mc ms) (hG : GoodIn Ts (wsV own index Cn y0 ws)) (hws : ws = Cond.code y0 bytes maxL ret :: ws') (hd : y0.cls = Cn ∧ y0.cls ≠ "java/lang/invoke/MethodHandle" ∧ y0.cls ≠ "java/lang/invoke/VarHandle" ∧ (parseMethodDescriptor y0.desc).map (fun d => d.parameters.length) = some n9) (hR : (rm.cells = mc ∧ rm.slots = ms) ∧ rm.frames + 1 ≤ R.frames ∧ 8 + (maxL + 11) + rm.locals ≤ R.locals)
    (hk : zK S b = k) (h0 : 0 < k ∧ k < 21) (hc : vwCl[k - 4]? = some (Cn, T, N)) (hn9 : As.length = n9) (hls : ls.size = nL) (hst : st0 = As.reverse ++ .ref b :: rest) (hcat : (rest.map fun v => v.category).sum ≤ 8) (hf : cells + mc ≤ R.cells ∧ slots + ms ≤ R.slots) (hdg : decode cc pc = .ok (.invokevirtual index, 3))
    (kx : ∀ (E : String) (ce : Cell) (q9 : Addr) (S' : zS) (H1 : Heap) (locs1 : List Loc), xp E S' → zW D y base S' s H1 locs1 → H1[q9]? = some ce → ce.vm = .none → s.vm.findClass E = some ce.cls → vx_W p l e R s m args below meth c H1 locs1 (cells + mc) (slots + ms) Q (F0 m pc ls rest) q9)
    (kk : ∀ (r : UInt32) (S' : zS) (H1 : Heap) (locs1 : List Loc), post r S' → zW D y base S' s H1 locs1 → W p l e R s m args below meth c H1 locs1 (cells + mc) (slots + ms) Q (F0 m (pc + 3) ls (.float r :: rest))) : W p l e R s m args below meth c H locs cells slots Q (F0 m pc ls st0) :=
  vx_callf (vx_runV (As := As) (rest := rest) C hM (cwV n9 C.2.2.2.2 hG hws hR.1.1 hR.1.2 hd hR.2) (zpV hw hk h0.1 h0.2 hc As) rfl hn9 hls hst (lv_room hcat) hdg hf) hw.2.2.1 (fun _ _ h => h) (fun _ h => h) (fun _ _ h => h)
    (fun E ce q9 u t H1 locs1 ht _ _ hB _ _ hS h1 h2 h3 => kx E ce q9 u H1 locs1 hB.1 (zOut hw ht hB.2 hS) h1 h2 h3) (fun r u t H1 locs1 ht _ hp hB _ _ hS => kk r u H1 locs1 hp (zOut hw ht hB hS))
theorem zcV_xd (C : CallFix p m c cc nL s args Ts own) (hw : zW D y base S s H locs) {y0 : MethodName} {Cn : String} {T : u_T} {N : Nat} {bytes : ByteArray} {maxL index mc ms b k : Nat} {ret : Option FieldType} {ws ws' : List Cond} {rm : Room} {post : UInt64 → zS → Prop} {xp : String → zS → Prop} {As : List Value} {n9 : Nat}
    (hM : zXd l y0 ws rm (.ref b :: As) D y base S post xp mc ms) (hG : GoodIn Ts (wsV own index Cn y0 ws)) (hws : ws = Cond.code y0 bytes maxL ret :: ws') (hd : y0.cls = Cn ∧ y0.cls ≠ "java/lang/invoke/MethodHandle" ∧ y0.cls ≠ "java/lang/invoke/VarHandle" ∧ (parseMethodDescriptor y0.desc).map (fun d => d.parameters.length) = some n9) (hR : (rm.cells = mc ∧ rm.slots = ms) ∧ rm.frames + 1 ≤ R.frames ∧ 8 + (maxL + 11) + rm.locals ≤ R.locals)
    (hk : zK S b = k) (h0 : 0 < k ∧ k < 21) (hc : vwCl[k - 4]? = some (Cn, T, N)) (hn9 : As.length = n9) (hls : ls.size = nL) (hst : st0 = As.reverse ++ .ref b :: rest) (hcat : (rest.map fun v => v.category).sum ≤ 8) (hf : cells + mc ≤ R.cells ∧ slots + ms ≤ R.slots) (hdg : decode cc pc = .ok (.invokevirtual index, 3))
    (kx : ∀ (E : String) (ce : Cell) (q9 : Addr) (S' : zS) (H1 : Heap) (locs1 : List Loc), xp E S' → zW D y base S' s H1 locs1 → H1[q9]? = some ce → ce.vm = .none → s.vm.findClass E = some ce.cls → vx_W p l e R s m args below meth c H1 locs1 (cells + mc) (slots + ms) Q (F0 m pc ls rest) q9)
    (kk : ∀ (r : UInt64) (S' : zS) (H1 : Heap) (locs1 : List Loc), post r S' → zW D y base S' s H1 locs1 → W p l e R s m args below meth c H1 locs1 (cells + mc) (slots + ms) Q (F0 m (pc + 3) ls (.double r :: rest))) : W p l e R s m args below meth c H locs cells slots Q (F0 m pc ls st0) :=
  vx_calld (vx_runV (As := As) (rest := rest) C hM (cwV n9 C.2.2.2.2 hG hws hR.1.1 hR.1.2 hd hR.2) (zpV hw hk h0.1 h0.2 hc As) rfl hn9 hls hst (lv_room hcat) hdg hf) hw.2.2.1 (fun _ _ h => h) (fun _ h => h) (fun _ _ h => h)
    (fun E ce q9 u t H1 locs1 ht _ _ hB _ _ hS h1 h2 h3 => kx E ce q9 u H1 locs1 hB.1 (zOut hw ht hB.2 hS) h1 h2 h3) (fun r u t H1 locs1 ht _ hp hB _ _ hS => kk r u H1 locs1 hp (zOut hw ht hB hS))
/-- a throw is caught by the row (pb, pe, ph, ct), whose class is the throw's own; the rows ahead don't cover the place, or name others -/
theorem zcatch2 (C : CallFix p m c cc nL s args Ts own) (hw : zW D y base S s H locs) {E : String} {ce : Cell} {q : Addr} {hh pre suf : List (Nat × Nat × Nat × Nat)} {pb pe ph ct : Nat} (hx0 : c.exceptionTable.toList = tableOf hh) (hs : hh = pre ++ (pb, pe, ph, ct) :: suf) (hpb : pb ≤ pc) (hpe : pc < pe) (h0 : ct ≠ 0)
    (hpre : ∀ z ∈ pre, (pc < z.1 ∨ z.2.1 ≤ pc) ∨ (z.2.2.2 ≠ 0 ∧ ∃ nm : String, Cond.classLink own z.2.2.2 nm ∈ Ts ∧ nm ∈ zEx ∧ E ≠ nm)) (hE : E ∈ zEx) (hlink : Cond.classLink own ct E ∈ Ts) (hcast : Cond.castable E E ∈ zNw) (h1 : H[q]? = some ce) (h2 : ce.vm = .none) (h3 : s.vm.findClass E = some ce.cls)
    (kk : W p l e R s m args below meth c H locs cells slots Q (F0 m ph ls [.ref q])) : vx_W p l e R s m args below meth c H locs cells slots Q (F0 m pc ls rest) q := by
  refine vx_catch (own := own) (name := E) C.2.2.2.1 (tableOf pre) ⟨pb, pe, ph, ct⟩ (tableOf suf) (by rw [hx0, hs]; unfold tableOf; rw [List.map_append, List.map_cons]) (fun z hz => ?_) ?_ h0 (C.2.2.2.2 _ hlink) (va_Nw.use rfl (hw.1.2.2.2.1 _ hcast)) h1 h2 h3 kk
  · obtain ⟨z0, hz0, rfl⟩ := List.mem_map.mp hz
    rcases hpre z0 hz0 with g | ⟨g1, nm, g2, g3, g4⟩
    · left
      show (decide (z0.1 ≤ pc) && decide (pc < z0.2.1)) = false
      rw [Bool.and_eq_false_iff, decide_eq_false_iff_not, decide_eq_false_iff_not]
      omega
    · exact Or.inr ⟨g1, nm, C.2.2.2.2 _ g2, hw.1.2.2.2.2.2.1 E hE nm g3 g4⟩
  · show (decide (pb ≤ pc) && decide (pc < pe)) = true
    rw [Bool.and_eq_true, decide_eq_true_eq, decide_eq_true_eq]
    exact ⟨hpb, hpe⟩
theorem zcSW_i (C : CallFix p m c cc nL s args Ts own) (hw : zW D y base S s H locs) {y0 : MethodName} {bytes : ByteArray} {maxL index mc ms : Nat} {ret : Option FieldType} {hh : List (Nat × Nat × Nat × Nat)} {ws ws' : List Cond} {rm : Room} {post : Int32 → zS → Prop} {As : List Value} {n9 : Nat}
    (hM : zMi l y0 ws rm As D y base S post mc ms) (hG : GoodIn Ts (va_wsS own index y0 ws)) (hws : ws = Cond.codeWith y0 bytes maxL ret hh :: ws') (hd : y0.cls ≠ "java/lang/invoke/MethodHandle" ∧ y0.cls ≠ "java/lang/invoke/VarHandle" ∧ (parseMethodDescriptor y0.desc).map (fun d => d.parameters.length) = some n9) (hR : (rm.cells = mc ∧ rm.slots = ms) ∧ rm.frames + 1 ≤ R.frames ∧ 8 + (maxL + 11) + rm.locals ≤ R.locals)
    (hn9 : As.length = n9) (hls : ls.size = nL) (hst : st0 = As.reverse ++ rest) (hcat : (rest.map fun v => v.category).sum ≤ 8) (hf : cells + mc ≤ R.cells ∧ slots + ms ≤ R.slots) (hdg : decode cc pc = .ok (.invokestatic index, 3))
    (kk : ∀ (r : Int32) (S' : zS) (H1 : Heap) (locs1 : List Loc), post r S' → zW D y base S' s H1 locs1 → W p l e R s m args below meth c H1 locs1 (cells + mc) (slots + ms) Q (F0 m (pc + 3) ls (.int r :: rest))) : W p l e R s m args below meth c H locs cells slots Q (F0 m pc ls st0) :=
  va_calli (vx_runSW (hh := hh) (bytes := bytes) (maxL := maxL) (ret := ret) (As := As) (rest := rest) C hM (vx_cwSW n9 C.2.2.2.2 hG hws hR.1.1 hR.1.2 hd hR.2) (zpS hw As) rfl hn9 hls hst (lv_room hcat) hdg hf) hw.2.2.1 (fun _ _ h => h) (fun _ h => h) (fun r u t H1 locs1 ht _ hp hB _ _ hS => kk r u H1 locs1 hp (zOut hw ht hB hS))
/-- String's kind is read -/
theorem zgetC (C : CallFix p m c cc nL s args Ts own) (hw : zW D y base S s H locs) {index : Nat} (hlink : Cond.fieldLink own index "java/lang/String" "COMPACT_STRINGS" "Z" ∈ Ts) (hdg : decode cc pc = .ok (.getstatic index, 3))
    (kk : W p l e R s m args below meth c H locs cells slots Q (F0 m (pc + 3) ls (.int 1 :: rest))) : W p l e R s m args below meth c H locs cells slots Q (F0 m pc ls rest) := by
  obtain ⟨hx, hb, hml, hown, hts⟩ := C
  obtain ⟨hZ, -⟩ := hw.1.2.2.2.2.2.2.2.2
  exact va_gets hx hb hZ hw.2.2.1 hown (hts _ hlink) (fun _ h => h) hdg kk
theorem zstr (hw : zW D y base S s H locs) : vk_R "ProbehallLaw" 196 "neo" (y 90) s ∧ vk_S 1 [3] [[110, 101, 111]] (fun _ => y 90) (fun _ => y 91) (zA base) s s.heap := hw.1.2.2.2.2.2.2.2.2.2.1
theorem zldcS (C : CallFix p m c cc nL s args Ts own) (hw : zW D y base S s H locs) (ho : own = "ProbehallLaw") (hdg : decode cc pc = .ok (.ldc 196, 2))
    (kk : W p l e R s m args below meth c H locs cells slots Q (F0 m (pc + 2) ls (.ref (y 90) :: rest))) : W p l e R s m args below meth c H locs cells slots Q (F0 m pc ls rest) := by
  subst ho
  exact va_ldcS C.1 C.2.1 C.2.2.2.1 (zstr hw).1 hdg kk
theorem zgetSv (C : CallFix p m c cc nL s args Ts own) (hw : zW D y base S s H locs) {index : Nat} (hlink : Cond.fieldLink own index "java/lang/String" "value" "[B" ∈ Ts) (hdg : decode cc pc = .ok (.getfield index, 3))
    (kk : W p l e R s m args below meth c H locs cells slots Q (F0 m (pc + 3) ls (.ref (y 91) :: rest))) : W p l e R s m args below meth c H locs cells slots Q (F0 m pc ls (.ref (y 90) :: rest)) :=
  vk_getf C.1 C.2.1 ((zstr hw).2.1 0 (by decide)).2.2.1 hw.2.2.1 C.2.2.2.1 (C.2.2.2.2 _ hlink) (fun _ h => h) hdg kk
theorem zgetSc (C : CallFix p m c cc nL s args Ts own) (hw : zW D y base S s H locs) {index : Nat} (hlink : Cond.fieldLink own index "java/lang/String" "coder" "B" ∈ Ts) (hdg : decode cc pc = .ok (.getfield index, 3))
    (kk : W p l e R s m args below meth c H locs cells slots Q (F0 m (pc + 3) ls (.int 0 :: rest))) : W p l e R s m args below meth c H locs cells slots Q (F0 m pc ls (.ref (y 90) :: rest)) :=
  vk_getf C.1 C.2.1 ((zstr hw).2.1 0 (by decide)).2.1 hw.2.2.1 C.2.2.2.1 (C.2.2.2.2 _ hlink) (fun _ h => h) hdg kk
theorem zSlen (C : CallFix p m c cc nL s args Ts own) (hw : zW D y base S s H locs) (hdg : decode cc pc = .ok (.arraylength, 1))
    (kk : W p l e R s m args below meth c H locs cells slots Q (F0 m (pc + 1) ls (.int 3 :: rest))) : W p l e R s m args below meth c H locs cells slots Q (F0 m pc ls (.ref (y 91) :: rest)) :=
  va_tlen C.1 C.2.1 ((zstr hw).2.1 0 (by decide)).2.2.2 hw.2.2.1 (v := 3) (by decide) hdg kk
theorem zSald (C : CallFix p m c cc nL s args Ts own) (hw : zW D y base S s H locs) {i v : Int32} (hin : vp_in i 3) (hv : ([110, 101, 111] : List Int32).getD i.toNatClampNeg 0 = v) (hdg : decode cc pc = .ok (.baload, 1))
    (kk : W p l e R s m args below meth c H locs cells slots Q (F0 m (pc + 1) ls (.int v :: rest))) : W p l e R s m args below meth c H locs cells slots Q (F0 m pc ls (.int i :: .ref (y 91) :: rest)) :=
  va_tb C.1 C.2.1 ((zstr hw).2.1 0 (by decide)).2.2.2 hw.2.2.1 hin (v := .int v) (by rw [← hv]; rfl) hdg kk
theorem zpVS (hw : zW D y base S s H locs) (As : List Value) : PreV s H "java/lang/String" (y 90) (va_Pc (.ref (y 90) :: As) (zPre D y base S)) As :=
  ⟨zBlind, vk_recv (i := 0) (zstr hw).2 (by decide) hw.2.2.1, fun U hU hW => ⟨rfl, zIn hw hU hW⟩⟩
theorem zcVS_i (C : CallFix p m c cc nL s args Ts own) (hw : zW D y base S s H locs) {y0 : MethodName} {bytes : ByteArray} {maxL index mc ms : Nat} {ret : Option FieldType} {ws ws' : List Cond} {rm : Room} {post : Int32 → zS → Prop} {As : List Value} {n9 : Nat}
    (hM : zMi l y0 ws rm (.ref (y 90) :: As) D y base S post mc ms) (hG : GoodIn Ts (wsV own index "java/lang/String" y0 ws)) (hws : ws = Cond.code y0 bytes maxL ret :: ws') (hd : y0.cls = "java/lang/String" ∧ y0.cls ≠ "java/lang/invoke/MethodHandle" ∧ y0.cls ≠ "java/lang/invoke/VarHandle" ∧ (parseMethodDescriptor y0.desc).map (fun d => d.parameters.length) = some n9) (hR : (rm.cells = mc ∧ rm.slots = ms) ∧ rm.frames + 1 ≤ R.frames ∧ 8 + (maxL + 11) + rm.locals ≤ R.locals)
    (hn9 : As.length = n9) (hls : ls.size = nL) (hst : st0 = As.reverse ++ .ref (y 90) :: rest) (hcat : (rest.map fun v => v.category).sum ≤ 8) (hf : cells + mc ≤ R.cells ∧ slots + ms ≤ R.slots) (hdg : decode cc pc = .ok (.invokevirtual index, 3))
    (kk : ∀ (r : Int32) (S' : zS) (H1 : Heap) (locs1 : List Loc), post r S' → zW D y base S' s H1 locs1 → W p l e R s m args below meth c H1 locs1 (cells + mc) (slots + ms) Q (F0 m (pc + 3) ls (.int r :: rest))) : W p l e R s m args below meth c H locs cells slots Q (F0 m pc ls st0) :=
  va_calli (va_runV (As := As) (rest := rest) C hM (cwV n9 C.2.2.2.2 hG hws hR.1.1 hR.1.2 hd hR.2) (zpVS hw As) rfl hn9 hls hst (lv_room hcat) hdg hf) hw.2.2.1 (fun _ _ h => h) (fun _ h => h) (fun r u t H1 locs1 ht _ hp hB _ _ hS => kk r u H1 locs1 hp (zOut hw ht hB hS))
/-- a formatter is read, which nobody looks at: none, or some thing -/
theorem zgetF (C : CallFix p m c cc nL s args Ts own) (hw : zW D y base S s H locs) {index : Nat} (hlink : Cond.fieldLink own index "jdk/internal/util/Preconditions" "SIOOBE_FORMATTER" "Ljava/util/function/BiFunction;" ∈ Ts) (hdg : decode cc pc = .ok (.getstatic index, 3))
    (kn : W p l e R s m args below meth c H locs cells slots Q (F0 m (pc + 3) ls (.null :: rest))) (kr : ∀ t : Nat, W p l e R s m args below meth c H locs cells slots Q (F0 m (pc + 3) ls (.ref t :: rest))) : W p l e R s m args below meth c H locs cells slots Q (F0 m pc ls rest) := by
  obtain ⟨hx, hb, hml, hown, hts⟩ := C
  obtain ⟨-, -, hZ, -⟩ := hw.1.2.2.2.2.2.2.2.2
  rcases hZ with hZ | ⟨t, hZ⟩
  · exact va_gets hx hb hZ hw.2.2.1 hown (hts _ hlink) (fun _ h => h) hdg kn
  · exact va_gets hx hb hZ hw.2.2.1 hown (hts _ hlink) (fun _ h => h) hdg (kr t)
/-- the script is read -/
theorem zsld (C : CallFix p m c cc nL s args Ts own) (hw : zW D y base S s H locs) {i v : Int32} (hin : vp_in i (y 99)) (hv : zxs y i.toNatClampNeg = v) (hdg : decode cc pc = .ok (.iaload, 1))
    (kk : W p l e R s m args below meth c H locs cells slots Q (F0 m (pc + 1) ls (.int v :: rest))) : W p l e R s m args below meth c H locs cells slots Q (F0 m pc ls (.int i :: .ref (y 98) :: rest)) := by
  subst hv
  obtain ⟨-, -, -, hX, hb⟩ := hw.1.2.2.2.2.2.2.2.2
  exact va_sld C.1 C.2.1 hX (Nat.lt_of_lt_of_le hb hw.2.2.2) (Nat.not_le.mpr hb) hw.2.2.1 hin hdg kk
theorem zslen (C : CallFix p m c cc nL s args Ts own) (hw : zW D y base S s H locs) (hdg : decode cc pc = .ok (.arraylength, 1))
    (kk : W p l e R s m args below meth c H locs cells slots Q (F0 m (pc + 1) ls (.int (Int32.ofNat (y 99)) :: rest))) : W p l e R s m args below meth c H locs cells slots Q (F0 m pc ls (.ref (y 98) :: rest)) := by
  obtain ⟨-, -, -, hX, hb⟩ := hw.1.2.2.2.2.2.2.2.2
  exact va_slen C.1 C.2.1 hX (Nat.lt_of_lt_of_le hb hw.2.2.2) (Nat.not_le.mpr hb) hw.2.2.1 hdg kk
end ZLW
/-- a place of the literal "neo" -/
def zneo (k : Nat) : Int32 := if k = 0 then 110 else if k = 1 then 101 else 111
theorem zneo_at : ∀ k, k < 3 → ([110, 101, 111] : List Int32).getD (nI k).toNatClampNeg 0 = zneo k := by decide +kernel
theorem zneo_c : ∀ k, k < 3 → (((zneo k &&& 255) : Int32).toUInt32 % 65536).toInt32 = zneo k := by decide +kernel
theorem zneo_n : ∀ k, k < 3 → narrow .char (.int (zneo k)) = .int (zneo k) := by decide +kernel
/-- a remainder that is not negative -/
def zsome (v : Int32) (n : Nat) : Nat := (v.toInt.emod (n : Int)).toNat
/-! the law's numbers -/
theorem zsome_lt {v : Int32} {n : Nat} (h : 0 < n) : zsome v n < n := by
  unfold zsome
  have h1 := Int.emod_nonneg v.toInt (show (n : Int) ≠ 0 by omega)
  have h2 := Int.emod_lt_of_pos v.toInt (show (0 : Int) < n by omega)
  show (v.toInt % (n : Int)).toNat < n
  omega
theorem zrem_toInt {v : Int32} {n : Nat} (h0 : 0 < n) (h : n < 2 ^ 30) : (v - v / nI n * nI n).toInt = v.toInt.tmod n := by
  have hn : (nI n).toInt = (n : Int) := nI_toInt (by omega)
  have h1 := fb_rng0 v
  have hd : (v / nI n).toInt = v.toInt.tdiv n := by
    rw [Int32.toInt_div, hn]
    have a1 : v.toInt.tdiv n ≤ 2147483647 := by
      rcases Int.le_total 0 v.toInt with g | g
      · have := Int.tdiv_le_self (n : Int) g
        omega
      · have q : v.toInt.tdiv n ≤ 0 := by
          rw [show v.toInt = -(-v.toInt) by omega, Int.neg_tdiv]
          have := Int.tdiv_nonneg (a := -v.toInt) (b := (n : Int)) (by omega) (by omega)
          omega
        omega
    have a2 : -2147483648 ≤ v.toInt.tdiv n := by
      rcases Int.le_total 0 v.toInt with g | g
      · have := Int.tdiv_nonneg (a := v.toInt) (b := (n : Int)) g (by omega)
        omega
      · rw [show v.toInt = -(-v.toInt) by omega, Int.neg_tdiv]
        have := Int.tdiv_le_self (n : Int) (show 0 ≤ -v.toInt by omega)
        omega
    exact Int.bmod_eq_of_le (by omega) (by omega)
  have he := Int.tmod_add_mul_tdiv v.toInt n
  have hm1 : -(n : Int) < v.toInt.tmod n ∧ v.toInt.tmod n < n ∧ (0 ≤ v.toInt → 0 ≤ v.toInt.tmod n) ∧ (v.toInt ≤ 0 → v.toInt.tmod n ≤ 0) := by
    rcases Int.le_total 0 v.toInt with g | g
    · have q1 := Int.tmod_nonneg (n : Int) g
      have q2 := Int.tmod_lt_of_pos v.toInt (show (0 : Int) < n by omega)
      refine ⟨by omega, q2, fun _ => q1, fun g2 => ?_⟩
      have e0 : v.toInt = 0 := by omega
      rw [e0, Int.zero_tmod]
      exact Int.le_refl 0
    · have q1 := Int.tmod_nonneg (n : Int) (show 0 ≤ -v.toInt by omega)
      have q2 := Int.tmod_lt_of_pos (-v.toInt) (show (0 : Int) < n by omega)
      rw [Int.neg_tmod] at q1 q2
      refine ⟨by omega, by omega, fun g2 => ?_, fun _ => by omega⟩
      have e0 : v.toInt = 0 := by omega
      rw [e0, Int.zero_tmod]
      exact Int.le_refl 0
  obtain ⟨hm1, hm2, hm3, hm4⟩ := hm1
  have hmul : (v / nI n * nI n).toInt = v.toInt.tdiv n * n := by
    rw [Int32.toInt_mul, hd, hn]
    have q := Int.mul_comm (v.toInt.tdiv n) (n : Int)
    exact Int.bmod_eq_of_le (by omega) (by omega)
  rw [Int32.toInt_sub, hmul]
  have q := Int.mul_comm (v.toInt.tdiv n) (n : Int)
  rw [Int.bmod_eq_of_le (by omega) (by omega)]
  omega
theorem zsome_pos {v : Int32} {n : Nat} (h0 : 0 < n) (h : n < 2 ^ 30) (hc : 0 ≤ v - v / nI n * nI n) : v - v / nI n * nI n = nI (zsome v n) := by
  have e := zrem_toInt (v := v) h0 h
  rw [Int32.le_iff_toInt_le, e] at hc
  have h0' : (0 : Int32).toInt = 0 := rfl
  rw [h0'] at hc
  apply Int32.toInt_inj.mp
  have hl := zsome_lt (v := v) h0
  rw [e, nI_toInt (by omega)]
  unfold zsome
  show v.toInt.tmod n = ((v.toInt % (n : Int)).toNat : Int)
  rw [Int.toNat_of_nonneg (Int.emod_nonneg _ (by omega))]
  rw [Int.tmod_eq_emod]
  split
  · omega
  · rename_i g
    have q1 := Int.tmod_eq_emod (a := v.toInt) (b := (n : Int))
    rw [if_neg g] at q1
    have q2 := Int.emod_lt_of_pos v.toInt (show (0 : Int) < n by omega)
    omega
theorem zsome_neg {v : Int32} {n : Nat} (h0 : 0 < n) (h : n < 2 ^ 30) (hc : ¬ 0 ≤ v - v / nI n * nI n) : v - v / nI n * nI n + nI n = nI (zsome v n) := by
  have e := zrem_toInt (v := v) h0 h
  rw [Int32.le_iff_toInt_le, e] at hc
  have h0' : (0 : Int32).toInt = 0 := rfl
  rw [h0'] at hc
  apply Int32.toInt_inj.mp
  have hl := zsome_lt (v := v) h0
  have q2 := Int.emod_nonneg v.toInt (show (n : Int) ≠ 0 by omega)
  have q1 := Int.tmod_eq_emod (a := v.toInt) (b := (n : Int))
  have e3 : v.toInt.tmod n + n = v.toInt % (n : Int) := by
    split at q1
    · omega
    · omega
  rw [Int32.toInt_add, e, nI_toInt (by omega), nI_toInt (by omega)]
  unfold zsome
  show (v.toInt.tmod n + n).bmod (2 ^ 32) = ((v.toInt % (n : Int)).toNat : Int)
  rw [Int.toNat_of_nonneg q2, e3]
  have q3 := Int.emod_lt_of_pos v.toInt (show (0 : Int) < n by omega)
  exact Int.bmod_eq_of_le (by omega) (by omega)
section ZLW3
variable {p : Program} {l : Launch} {e : Env} {R : Room} {s : State} {m : MethodId} {args : Array Value} {below : List Frame} {meth : Method} {c : Code} {H : Heap} {locs : List Loc} {cells slots : Nat} {Q : State → Prop}
variable {cc : ByteArray} {pc nL : Nat} {ls : Array Slot} {rest st0 : List Value} {D : va_G} {y : Nat → ClassId} {base a : Nat} {S : zS} {Ts : List Cond} {own : String}
theorem zcS_xi2 (C : CallFix p m c cc nL s args Ts own) (hw : zW D y base S s H locs) {y0 : MethodName} {bytes : ByteArray} {maxL index mc ms : Nat} {ret : Option FieldType} {ws ws' : List Cond} {rm : Room} {post : Int32 → zS → Prop} {xp : String → zS → Prop} {As : List Value} {n9 : Nat}
    (hM : zXi l y0 ws rm As D y base S post xp mc ms) (hG : GoodIn Ts (va_wsS own index y0 ws)) (hws : ws = Cond.code y0 bytes maxL ret :: ws') (hd : y0.cls ≠ "java/lang/invoke/MethodHandle" ∧ y0.cls ≠ "java/lang/invoke/VarHandle" ∧ (parseMethodDescriptor y0.desc).map (fun d => d.parameters.length) = some n9) (hR : (rm.cells = mc ∧ rm.slots = ms) ∧ rm.frames + 1 ≤ R.frames ∧ 8 + (maxL + 11) + rm.locals ≤ R.locals)
    (hn9 : As.length = n9) (hls : ls.size = nL) (hst : st0 = As.reverse ++ rest) (hcat : (rest.map fun v => v.category).sum ≤ 8) (hf : cells + mc ≤ R.cells ∧ slots + ms ≤ R.slots) (hdg : decode cc pc = .ok (.invokestatic index, 3))
    (kx : ∀ (E : String) (ce : Cell) (q9 : Addr) (S' : zS) (H1 : Heap) (locs1 : List Loc), xp E S' → zW D y base S' s H1 locs1 → H1[q9]? = some ce → ce.vm = .none → s.vm.findClass E = some ce.cls → vx_W p l e R s m args below meth c H1 locs1 (cells + mc) (slots + ms) Q (F0 m pc ls rest) q9)
    (kk : ∀ (r : Int32) (S' : zS) (H1 : Heap) (locs1 : List Loc), post r S' → zW D y base S' s H1 locs1 → W p l e R s m args below meth c H1 locs1 (cells + mc) (slots + ms) Q (F0 m (pc + 3) ls (.int r :: rest))) : W p l e R s m args below meth c H locs cells slots Q (F0 m pc ls st0) :=
  vx_calli (vx_runS (As := As) (rest := rest) C hM (va_cwS n9 C.2.2.2.2 hG hws hR.1.1 hR.1.2 hd hR.2) (zpS hw As) rfl hn9 hls hst (lv_room hcat) hdg hf) hw.2.2.1 (fun _ _ h => h) (fun _ h => h) (fun _ _ h => h)
    (fun E ce q9 u t H1 locs1 ht _ _ hB _ _ hS h1 h2 h3 => kx E ce q9 u H1 locs1 hB.1 (zOut hw ht hB.2 hS) h1 h2 h3) (fun r u t H1 locs1 ht _ hp hB _ _ hS => kk r u H1 locs1 hp (zOut hw ht hB hS))
/-- the law's own names of what is caught -/
def zcn (n : Nat) : String := if n = 66 then "java/lang/IndexOutOfBoundsException" else if n = 69 then "java/lang/IllegalArgumentException" else if n = 72 then "java/lang/IllegalStateException" else if n = 75 then "java/lang/UnsupportedOperationException" else "java/util/NoSuchElementException"
theorem zcatch3 (C : CallFix p m c cc nL s args Ts own) (hw : zW D y base S s H locs) {E : String} {ce : Cell} {q : Addr} {hh pre suf : List (Nat × Nat × Nat × Nat)} {pb pe ph ct : Nat} (hx0 : c.exceptionTable.toList = tableOf hh) (hs : hh = pre ++ (pb, pe, ph, ct) :: suf) (hpb : pb ≤ pc) (hpe : pc < pe) (h0 : ct ≠ 0)
    (hl : ∀ n, n ∈ [66, 69, 72, 75, 78] → Cond.classLink own n (zcn n) ∈ Ts) (hz : ∀ n, n ∈ [66, 69, 72, 75, 78] → zcn n ∈ zEx) (hpre : pre.all (fun z => (decide (pc < z.1) || decide (z.2.1 ≤ pc)) || ([66, 69, 72, 75, 78].contains z.2.2.2 && decide (E ≠ zcn z.2.2.2))) = true) (hct : ct ∈ [66, 69, 72, 75, 78]) (hE : E = zcn ct) (hcast : Cond.castable E E ∈ zNw) (h1 : H[q]? = some ce) (h2 : ce.vm = .none) (h3 : s.vm.findClass E = some ce.cls)
    (kk : W p l e R s m args below meth c H locs cells slots Q (F0 m ph ls [.ref q])) : vx_W p l e R s m args below meth c H locs cells slots Q (F0 m pc ls rest) q := by
  refine zcatch2 C hw hx0 hs hpb hpe h0 (fun z hz9 => ?_) (hE ▸ hz ct hct) (hE ▸ hl ct hct) hcast h1 h2 h3 kk
  have h := List.all_eq_true.mp hpre z hz9
  rw [Bool.or_eq_true, Bool.or_eq_true, decide_eq_true_eq, decide_eq_true_eq, Bool.and_eq_true, decide_eq_true_eq] at h
  rcases h with h | ⟨h4, h5⟩
  · exact Or.inl h
  · have h6 : z.2.2.2 ∈ [66, 69, 72, 75, 78] := List.contains_iff_mem.mp h4
    refine Or.inr ⟨?_, zcn z.2.2.2, hl _ h6, hz _ h6, h5⟩
    intro e9
    rw [e9] at h6
    exact absurd h6 (by decide)
end ZLW3
theorem zcn_ex : ∀ n, n ∈ [66, 69, 72, 75, 78] → zcn n ∈ zEx := by decide +kernel
