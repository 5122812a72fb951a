/-! THE LAW's own methods: a table of what they catch; the row of one long -/
theorem zMetH_of {l : Launch} {y0 : MethodName} {own : String} {ws ws' : List Cond} {rm : Room} {av : List Value} {D : va_G} {y : Nat → ClassId} {base : Nat} {S : zS} {cc : ByteArray} {maxL : Nat} {ret : Option FieldType} {hh : List (Nat × Nat × Nat × Nat)} {Qc : Array Value → State → Outcome → State → Prop} {mc ms : Nat}
    (hy : plainName y0.cls = true) (hw : ws = Cond.codeWith y0 cc maxL ret hh :: ws') (ho : y0.cls = own) (hlen : (lg_sl av).length ≤ maxL)
    (body : ∀ (p : Program) (e : Env) (s : State) (m : MethodId) (args : Array Value) (below : List Frame) (meth : Method) (c : Code) (ls : Array Slot), CallFix p m c cc maxL s args ws own → meth.sig.returnType = ret → meth.locks = false → c.exceptionTable.toList = tableOf hh → zW D y base S s s.heap [] → lv_has ls maxL (lv_args 0 av) →
      W p l e (headSpec ws rm).room s m args below meth c s.heap [] 0 0 (MQ below Qc args s mc ms (zA base)) (F0 m 0 ls [])) : Met l y0 ws rm (va_Pc av (zPre D y base S)) Qc mc ms (zA base) := by
  refine MetFree.of_bodyS (code := cc) (maxLocals := maxL) (ret := ret) hy ?_ ?_
  · intro args s m h hn
    obtain ⟨m9, meth, c, hn9, h1, h2, h3, h4, -, h5, h6, -⟩ := Cond.codeWith_spec (atoms_spec (ws := ws) h _ (by rw [hw]; exact List.mem_cons_self))
    cases hn.symm.trans hn9
    exact ⟨meth, c, h1, h2, h3, h4, h5, h6⟩
  · intro p e s m args below meth c s₁ B hml hP _
    have hh0 : s₁.heap = s.heap := by rw [B.state]; rfl
    obtain ⟨rfl, hV, hH, hbase⟩ := hP
    have hts := atoms_spec (ws := ws) B.pre
    have hown : s.vm.findClass own = some m.cls := by rw [← ho]; exact findClass_of_methodNamed B.named
    have ht : c.exceptionTable.toList = tableOf hh := vx_table (x := y0) B (hts _ (by rw [hw]; exact List.mem_cons_self))
    have hl := lv_entry av (n := maxL) hlen
    have K : W p l e (headSpec ws rm).room s m av.toArray below meth c s.heap [] 0 0 (MQ below Qc av.toArray s mc ms (zA base)) (entryFrame m av.toArray maxL) := by
      rw [lg_entry_eq]
      generalize (lg_sl av ++ List.replicate (maxL - (lg_sl av).length) Slot.unset).toArray = ls at hl ⊢
      exact body p e s m av.toArray below meth c ls ⟨B.exec, B.bytes, hml, hown, hts⟩ B.returns B.notSynchronized ht ⟨hV, hH, va_S.rf, hbase⟩ hl
    obtain ⟨t, a1, o, b1, b2, b3⟩ := K s₁ hh0 (Stand.of_body B)
    exact ⟨t, o, a1, b1, b2, ⟨b3.1, b3.2⟩⟩
section ZLW
variable {p : Program} {l : Launch} {e : Env} {R : Room} {s : State} {m : MethodId} {args : Array Value} {below : List Frame} {meth : Method} {c : Code} {H : Heap} {locs : List Loc} {cells slots : Nat} {Q : State → Prop}
variable {cc : ByteArray} {pc nL : Nat} {ls : Array Slot} {rest st0 : List Value} {D : va_G} {y : Nat → ClassId} {base a : Nat} {S : zS} {Ts : List Cond} {own : String}
theorem zcV_xf (C : CallFix p m c cc nL s args Ts own) (hw : zW D y base S s H locs) {y0 : MethodName} {Cn : String} {T : u_T} {N : Nat} {bytes : ByteArray} {maxL index mc ms b k : Nat} {ret : Option FieldType} {ws ws' : List Cond} {rm : Room} {post : UInt32 → zS → Prop} {xp : String → zS → Prop} {As : List Value} {n9 : Nat}
    (hM : zXf l y0 ws rm (.ref b :: As) D y base S post xp mc ms) (hG : GoodIn Ts (wsV own index Cn y0 ws)) (hws : ws = Cond.code y0 bytes maxL ret :: ws') (hd : y0.cls = Cn ∧ y0.cls ≠ "java/lang/invoke/MethodHandle" ∧ y0.cls ≠ "java/lang/invoke/VarHandle" ∧ (parseMethodDescriptor y0.desc).map (fun d => d.parameters.length) = some n9) (hR : (rm.cells = mc ∧ rm.slots = ms) ∧ rm.frames + 1 ≤ R.frames ∧ 8 + (maxL + 11) + rm.locals ≤ R.locals)
    (hk : zK S b = k) (h0 : 0 < k ∧ k < 21) (hc : vwCl[k - 1]? = some (Cn, T, N)) (hn9 : As.length = n9) (hls : ls.size = nL) (hst : st0 = As.reverse ++ .ref b :: rest) (hcat : (rest.map fun v => v.category).sum ≤ 8) (hf : cells + mc ≤ R.cells ∧ slots + ms ≤ R.slots) (hdg : decode cc pc = .ok (.invokevirtual index, 3))
    (kx : ∀ (E : String) (ce : Cell) (q9 : Addr) (S' : zS) (H1 : Heap) (locs1 : List Loc), xp E S' → zW D y base S' s H1 locs1 → H1[q9]? = some ce → ce.vm = .none → s.vm.findClass E = some ce.cls → vx_W p l e R s m args below meth c H1 locs1 (cells + mc) (slots + ms) Q (F0 m pc ls rest) q9)
    (kk : ∀ (r : UInt32) (S' : zS) (H1 : Heap) (locs1 : List Loc), post r S' → zW D y base S' s H1 locs1 → W p l e R s m args below meth c H1 locs1 (cells + mc) (slots + ms) Q (F0 m (pc + 3) ls (.float r :: rest))) : W p l e R s m args below meth c H locs cells slots Q (F0 m pc ls st0) :=
  vx_callf (vx_runV (As := As) (rest := rest) C hM (cwV n9 C.2.2.2.2 hG hws hR.1.1 hR.1.2 hd hR.2) (zpV hw hk h0.1 h0.2 hc As) rfl hn9 hls hst (lv_room hcat) hdg hf) hw.2.2.1 (fun _ _ h => h) (fun _ h => h) (fun _ _ h => h)
    (fun E ce q9 u t H1 locs1 ht _ _ hB _ _ hS h1 h2 h3 => kx E ce q9 u H1 locs1 hB.1 (zOut hw ht hB.2 hS) h1 h2 h3) (fun r u t H1 locs1 ht _ hp hB _ _ hS => kk r u H1 locs1 hp (zOut hw ht hB hS))
theorem zcV_xd (C : CallFix p m c cc nL s args Ts own) (hw : zW D y base S s H locs) {y0 : MethodName} {Cn : String} {T : u_T} {N : Nat} {bytes : ByteArray} {maxL index mc ms b k : Nat} {ret : Option FieldType} {ws ws' : List Cond} {rm : Room} {post : UInt64 → zS → Prop} {xp : String → zS → Prop} {As : List Value} {n9 : Nat}
    (hM : zXd l y0 ws rm (.ref b :: As) D y base S post xp mc ms) (hG : GoodIn Ts (wsV own index Cn y0 ws)) (hws : ws = Cond.code y0 bytes maxL ret :: ws') (hd : y0.cls = Cn ∧ y0.cls ≠ "java/lang/invoke/MethodHandle" ∧ y0.cls ≠ "java/lang/invoke/VarHandle" ∧ (parseMethodDescriptor y0.desc).map (fun d => d.parameters.length) = some n9) (hR : (rm.cells = mc ∧ rm.slots = ms) ∧ rm.frames + 1 ≤ R.frames ∧ 8 + (maxL + 11) + rm.locals ≤ R.locals)
    (hk : zK S b = k) (h0 : 0 < k ∧ k < 21) (hc : vwCl[k - 1]? = some (Cn, T, N)) (hn9 : As.length = n9) (hls : ls.size = nL) (hst : st0 = As.reverse ++ .ref b :: rest) (hcat : (rest.map fun v => v.category).sum ≤ 8) (hf : cells + mc ≤ R.cells ∧ slots + ms ≤ R.slots) (hdg : decode cc pc = .ok (.invokevirtual index, 3))
    (kx : ∀ (E : String) (ce : Cell) (q9 : Addr) (S' : zS) (H1 : Heap) (locs1 : List Loc), xp E S' → zW D y base S' s H1 locs1 → H1[q9]? = some ce → ce.vm = .none → s.vm.findClass E = some ce.cls → vx_W p l e R s m args below meth c H1 locs1 (cells + mc) (slots + ms) Q (F0 m pc ls rest) q9)
    (kk : ∀ (r : UInt64) (S' : zS) (H1 : Heap) (locs1 : List Loc), post r S' → zW D y base S' s H1 locs1 → W p l e R s m args below meth c H1 locs1 (cells + mc) (slots + ms) Q (F0 m (pc + 3) ls (.double r :: rest))) : W p l e R s m args below meth c H locs cells slots Q (F0 m pc ls st0) :=
  vx_calld (vx_runV (As := As) (rest := rest) C hM (cwV n9 C.2.2.2.2 hG hws hR.1.1 hR.1.2 hd hR.2) (zpV hw hk h0.1 h0.2 hc As) rfl hn9 hls hst (lv_room hcat) hdg hf) hw.2.2.1 (fun _ _ h => h) (fun _ h => h) (fun _ _ h => h)
    (fun E ce q9 u t H1 locs1 ht _ _ hB _ _ hS h1 h2 h3 => kx E ce q9 u H1 locs1 hB.1 (zOut hw ht hB.2 hS) h1 h2 h3) (fun r u t H1 locs1 ht _ hp hB _ _ hS => kk r u H1 locs1 hp (zOut hw ht hB hS))
/-- a throw is caught by the row (0, pe, ph, ct), whose class is the throw's own; the rows ahead name others -/
theorem zcatch (C : CallFix p m c cc nL s args Ts own) (hw : zW D y base S s H locs) {E : String} {ce : Cell} {q : Addr} {hh pre suf : List (Nat × Nat × Nat × Nat)} {pe ph ct : Nat} (hx0 : c.exceptionTable.toList = tableOf hh) (hs : hh = pre ++ (0, pe, ph, ct) :: suf) (hpe : pc < pe) (h0 : ct ≠ 0)
    (hpre : ∀ z ∈ pre, z.2.2.2 ≠ 0 ∧ ∃ nm : String, Cond.classLink own z.2.2.2 nm ∈ Ts ∧ nm ∈ zEx ∧ E ≠ nm) (hE : E ∈ zEx) (hlink : Cond.classLink own ct E ∈ Ts) (hcast : Cond.castable E E ∈ zNw) (h1 : H[q]? = some ce) (h2 : ce.vm = .none) (h3 : s.vm.findClass E = some ce.cls)
    (kk : W p l e R s m args below meth c H locs cells slots Q (F0 m ph ls [.ref q])) : vx_W p l e R s m args below meth c H locs cells slots Q (F0 m pc ls rest) q := by
  refine vx_catch (own := own) (name := E) C.2.2.2.1 (tableOf pre) ⟨0, pe, ph, ct⟩ (tableOf suf) (by rw [hx0, hs]; unfold tableOf; rw [List.map_append, List.map_cons]) (fun z hz => ?_) ?_ h0 (C.2.2.2.2 _ hlink) (va_Nw.use rfl (hw.1.2.2.2.1 _ hcast)) h1 h2 h3 kk
  · obtain ⟨z0, hz0, rfl⟩ := List.mem_map.mp hz
    obtain ⟨g1, nm, g2, g3, g4⟩ := hpre z0 hz0
    exact Or.inr ⟨g1, nm, C.2.2.2.2 _ g2, hw.1.2.2.2.2.2.1 E hE nm g3 g4⟩
  · show (decide (0 ≤ pc) && decide (pc < pe)) = true
    rw [Bool.and_eq_true, decide_eq_true_eq, decide_eq_true_eq]
    exact ⟨Nat.zero_le _, hpe⟩
end ZLW
/-- what a call of the class leaves, whose answer is put into the row o -/
def zCo (S S1 : zS) (o : Nat) : Prop := ∃ S2, zCls S S2 ∧ (S1 = S2 ∨ ∃ f, S1 = zsJ S2 o f)
theorem zCo.a {S S1 : zS} {o : Nat} (h : zCls S S1) : zCo S S1 o := ⟨S1, h, Or.inl rfl⟩
theorem zCo.b {S S2 : zS} {o : Nat} {f : Nat → Int64} (h : zCls S S2) : zCo S (zsJ S2 o f) o := ⟨S2, h, Or.inr ⟨f, rfl⟩⟩
theorem zJ_s {S : zS} {o : Nat} {f : Nat → Int64} : zJ (zsJ S o f) o = f := va_up_self _ _ _
theorem zCls.o {S S1 : zS} {o n : Nat} (h : zCls S S1) (hk : zK S o = 24) (hn : zN S o = n) : zK S1 o = 24 ∧ zN S1 o = n := by
  have g := h o (by rw [hk]; decide)
  exact ⟨g.1.trans hk, g.2.1.trans hn⟩
