/-! THE WORLD of a method: what the tables say, the pool in the heap, what may have changed (all from base on) -/
def zEx : List String := ["java/lang/IndexOutOfBoundsException", "java/lang/IllegalArgumentException", "java/lang/IllegalStateException", "java/util/NoSuchElementException", "java/lang/UnsupportedOperationException"]
def zStr : List (String × Nat × String) := [("Probehall", 286, "no such wire"), ("Probehall", 291, "no such capture"), ("Probehall", 293, "no such note"), ("Probehall", 297, "a number is out of range"), ("Probehall", 300, "no such parity"), ("Probehall", 302, "two wires are the same"), ("Probehall", 304, "no such kind"), ("Probehall", 308, "the trigger has all its steps"), ("Probehall", 311, "a flip is behind the last tick, or there are too many"), ("Probehall", 315, "there is none"), ("Probehall", 320, "there is nothing to look at")]
/-- words of their own that a warm machine keeps -/
def zNw : List Cond := [.castable "java/lang/IndexOutOfBoundsException" "java/lang/IndexOutOfBoundsException", .castable "java/lang/IllegalArgumentException" "java/lang/IllegalArgumentException", .castable "java/lang/IllegalStateException" "java/lang/IllegalStateException", .castable "java/util/NoSuchElementException" "java/util/NoSuchElementException", .castable "java/lang/UnsupportedOperationException" "java/lang/UnsupportedOperationException",
  .declares ⟨"java/lang/RuntimeException", "<init>", "(Ljava/lang/String;)V"⟩, .declares ⟨"java/lang/Exception", "<init>", "(Ljava/lang/String;)V"⟩, .declares ⟨"java/lang/Throwable", "<init>", "(Ljava/lang/String;)V"⟩]
def zNwK : Cond → Bool
  | .castable .. | .declares _ | .fieldLinkNest .. | .methodLinkNest .. => true
  | _ => false
theorem zNw_ok : ∀ w ∈ zNw, (zNwK w && w.onTables) = true := by decide +kernel
theorem zNw_warm {w : Cond} (h : zNwK w = true) {s U : State} (hW : s.WarmedH U.vm) (hZ : va_Nw w s) : va_Nw w U := by
  cases w <;> first | (simp [zNwK] at h; done) | exact va_Nw.warmC hW hZ | exact va_Nw.warmD hW hZ | exact va_Nw.warmF hW hZ | exact va_Nw.warmM hW hZ
/-- arrays of these kinds are known -/
def zAo : List String := ["Probehall$Wire", "Probehall$Capture"]
/-- the tables know the arrays of arrays of ty -/
def zArr (_ : Nat → ClassId) (_ : State) : Prop := True
theorem zArr.moved {y : Nat → ClassId} {u U : State} (_ : u.vm.Alike U.vm) (h : zArr y u) : zArr y U := h
def zA (base : Nat) : Nat → Prop := fun q => base ≤ q
/-- what the law wants of the JDK and of its script: y 90 the literal "neo", y 91 its bytes; y 98 the script, y 99 its length, y (200 + j) its places -/
def zxs (y : Nat → ClassId) : Nat → Int32 := fun j => Int32.ofNat (y (200 + j))
def zJdk (y : Nat → ClassId) (base : Nat) (s : State) (H : Heap) : Prop :=
  va_Z "java/lang/String" "COMPACT_STRINGS" "Z" (.int 1) (zA base) s H ∧
  (vk_R "ProbehallLaw" 196 "neo" (y 90) s ∧ vk_S 1 [3] [[110, 101, 111]] (fun _ => y 90) (fun _ => y 91) (zA base) s H) ∧
  va_Zq "jdk/internal/util/Preconditions" "SIOOBE_FORMATTER" "Ljava/util/function/BiFunction;" (zA base) s H ∧
  (va_X (y 98) (y 99) (zxs y) s H ∧ y 98 < base)
theorem zJdk.warm {y : Nat → ClassId} {base : Nat} {s U : State} {H : Heap} (hW : s.WarmedH U.vm) (h : zJdk y base s H) : zJdk y base U H := by
  obtain ⟨h3, ⟨h4, h5⟩, h6, h7, h8⟩ := h
  exact ⟨va_Z.moved hW.alike h3, ⟨vk_R.warm hW h4, vk_S.moved hW.alike h5⟩, va_Zq.moved hW.alike h6, va_X.moved hW.alike h7, h8⟩
theorem zJdk.kept {y : Nat → ClassId} {base : Nat} {s : State} {H H1 : Heap} (h : zJdk y base s H) (hq : ∀ a : Nat, a < H.size → ¬ zA base a → H1[a]? = H[a]?) : zJdk y base s H1 := by
  obtain ⟨h3, ⟨h4, h5⟩, h6, h7, h8⟩ := h
  have hlt : y 98 < H.size := by
    obtain ⟨scr, g1, -⟩ := h7
    rcases Nat.lt_or_ge (y 98) H.size with g | g
    · exact g
    · rw [Array.getElem?_eq_none g] at g1
      cases g1
  exact ⟨va_Z.kept h3 hq, ⟨h4, vk_S.kept h5 hq⟩, va_Zq.kept h6 hq, va_X.kept h7 (hq _ hlt (Nat.not_le.mpr h8)), h8⟩
def zV (D : va_G) (y : Nat → ClassId) (base : Nat) (s : State) (H : Heap) : Prop :=
  va_K D vwCl (zT y) s ∧ vx_Zq Bundle.tN "UNASSIGNED_STACK" Bundle.steD (zA base) s H ∧ vx_Zq Bundle.tN "SUPPRESSED_SENTINEL" Bundle.listD (zA base) s H ∧ (∀ w ∈ zNw, va_Nw w s) ∧ (∀ q ∈ zStr, ∃ a : Nat, vk_R q.1 q.2.1 q.2.2 a s) ∧ (∀ E ∈ zEx, ∀ E' ∈ zEx, E ≠ E' → va_Nc E E' s) ∧ (∀ Cn ∈ zAo, va_AO Cn s) ∧ zArr y s ∧ zJdk y base s H
theorem zV.warm {D : va_G} {y : Nat → ClassId} {base : Nat} {s U : State} {H : Heap} (hW : s.WarmedH U.vm) (h : zV D y base s H) : zV D y base U H :=
  ⟨va_K.moved hW.alike h.1, vx_Zq.moved hW.alike h.2.1, vx_Zq.moved hW.alike h.2.2.1, fun w hw => zNw_warm (by have := zNw_ok w hw; simp only [Bool.and_eq_true] at this; exact this.1) hW (h.2.2.2.1 w hw), fun q hq => (h.2.2.2.2.1 q hq).imp (fun _ ha => vk_R.warm hW ha), fun E hE E' hE' hn => va_Nc.moved hW.alike (h.2.2.2.2.2.1 E hE E' hE' hn), fun Cn hC => va_AO.moved hW.alike (h.2.2.2.2.2.2.1 Cn hC), zArr.moved hW.alike h.2.2.2.2.2.2.2.1, zJdk.warm hW h.2.2.2.2.2.2.2.2⟩
theorem zV.kept {D : va_G} {y : Nat → ClassId} {base : Nat} {s : State} {H H1 : Heap} (h : zV D y base s H) (hq : ∀ a : Nat, a < H.size → ¬ zA base a → H1[a]? = H[a]?) : zV D y base s H1 :=
  ⟨h.1, vx_Zq.kept h.2.1 hq, vx_Zq.kept h.2.2.1 hq, h.2.2.2.1, h.2.2.2.2.1, h.2.2.2.2.2.1, h.2.2.2.2.2.2.1, h.2.2.2.2.2.2.2.1, zJdk.kept h.2.2.2.2.2.2.2.2 hq⟩
def zPre (D : va_G) (y : Nat → ClassId) (base : Nat) (S : zS) : State → Prop := fun U => zV D y base U U.heap ∧ zH D y base S U.heap ∧ base ≤ U.heap.size
def zPost (D : va_G) (y : Nat → ClassId) (base : Nat) : zS → State → Prop := fun S' t => zH D y base S' t.heap
def zXC (xp : String → zS → Prop) (D : va_G) (y : Nat → ClassId) (base : Nat) : String → State → State → Prop := vx_X (fun _ : zS => True) (fun E S' t => xp E S' ∧ zH D y base S' t.heap) (zA base)
def zW (D : va_G) (y : Nat → ClassId) (base : Nat) (S : zS) (s : State) (H : Heap) (locs : List Loc) : Prop := zV D y base s s.heap ∧ zH D y base S H ∧ va_S (zA base) s.heap H locs ∧ base ≤ s.heap.size
theorem zBlind {D : va_G} {y : Nat → ClassId} {base : Nat} {S : zS} {av : List Value} : FrameBlind (va_Pc av (zPre D y base S)) := fun a U g mk q =>
  ⟨q.1, zV.warm (s := U) (U := U.calling g mk a) (State.WarmedH.refl U) q.2.1, q.2.2.1, q.2.2.2⟩
theorem zIn {D : va_G} {y : Nat → ClassId} {base : Nat} {S : zS} {s U : State} {H : Heap} {locs : List Loc} (hw : zW D y base S s H locs) (hU : U.heap = H) (hW : s.WarmedH U.vm) : zPre D y base S U := by
  subst hU
  exact ⟨zV.warm hW (hw.1.kept hw.2.2.1.2.1), hw.2.1, Nat.le_trans hw.2.2.2 hw.2.2.1.1⟩
theorem zOut {D : va_G} {y : Nat → ClassId} {base : Nat} {S S' : zS} {s t : State} {H H1 : Heap} {locs locs1 : List Loc} (hw : zW D y base S s H locs) (ht : t.heap = H1) (hp : zPost D y base S' t) (hS : va_S (zA base) s.heap H1 locs1) : zW D y base S' s H1 locs1 := by
  subst ht
  exact ⟨hw.1, hp, hS, hw.2.2.2⟩
theorem zA_all {base : Nat} {s : State} (h : base ≤ s.heap.size) : ∀ q : Nat, s.heap.size ≤ q → zA base q := fun q hq => Nat.le_trans h hq
theorem zRecv {D : va_G} {y : Nat → ClassId} {base : Nat} {S : zS} {s : State} {H : Heap} {locs : List Loc} (hw : zW D y base S s H locs) {b k : Nat} (hk : zK S b = k) (h0 : 0 < k) (h1 : k < 21) {q : vw_C} (hc : vwCl[k - 4]? = some q) : ∃ cell : Cell, H[b]? = some cell ∧ cell.vm.isStatics = false ∧ s.vm.findClass q.1 = some cell.cls := by
  obtain ⟨L, hL, hP, hD⟩ := hw.2.1
  obtain ⟨k9, hk9⟩ := va_pl_get (X := zXo y) (f := zE y S) (hL b (by omega))
  rw [zE_o hk h1] at hk9
  exact va_recv hw.1.1 hP hc hk9
abbrev zMi (l : Launch) (y0 : MethodName) (ws : List Cond) (rm : Room) (av : List Value) (D : va_G) (y : Nat → ClassId) (base : Nat) (S : zS) (post : Int32 → zS → Prop) (mc ms : Nat) : Prop := Met l y0 ws rm (va_Pc av (zPre D y base S)) (va_Qi post (zPost D y base) (zA base)) mc ms (zA base)
abbrev zMl (l : Launch) (y0 : MethodName) (ws : List Cond) (rm : Room) (av : List Value) (D : va_G) (y : Nat → ClassId) (base : Nat) (S : zS) (post : Int64 → zS → Prop) (mc ms : Nat) : Prop := Met l y0 ws rm (va_Pc av (zPre D y base S)) (va_Ql post (zPost D y base) (zA base)) mc ms (zA base)
abbrev zMv (l : Launch) (y0 : MethodName) (ws : List Cond) (rm : Room) (av : List Value) (D : va_G) (y : Nat → ClassId) (base : Nat) (S : zS) (post : zS → Prop) (mc ms : Nat) : Prop := Met l y0 ws rm (va_Pc av (zPre D y base S)) (va_Qv post (zPost D y base) (zA base)) mc ms (zA base)
abbrev zMr (l : Launch) (y0 : MethodName) (ws : List Cond) (rm : Room) (av : List Value) (D : va_G) (y : Nat → ClassId) (base : Nat) (S : zS) (post : Nat → zS → Prop) (mc ms : Nat) : Prop := Met l y0 ws rm (va_Pc av (zPre D y base S)) (va_Qr (fun _ : zS => True) (fun S' r t => post r S' ∧ zPost D y base S' t) (zA base)) mc ms (zA base)
abbrev zXi (l : Launch) (y0 : MethodName) (ws : List Cond) (rm : Room) (av : List Value) (D : va_G) (y : Nat → ClassId) (base : Nat) (S : zS) (post : Int32 → zS → Prop) (xp : String → zS → Prop) (mc ms : Nat) : Prop := vx_Met l y0 ws rm (va_Pc av (zPre D y base S)) (va_Qi post (zPost D y base) (zA base)) (zXC xp D y base) mc ms (zA base)
abbrev zXv (l : Launch) (y0 : MethodName) (ws : List Cond) (rm : Room) (av : List Value) (D : va_G) (y : Nat → ClassId) (base : Nat) (S : zS) (post : zS → Prop) (xp : String → zS → Prop) (mc ms : Nat) : Prop := vx_Met l y0 ws rm (va_Pc av (zPre D y base S)) (va_Qv post (zPost D y base) (zA base)) (zXC xp D y base) mc ms (zA base)
theorem zMet_of {l : Launch} {y0 : MethodName} {own : String} {ws ws' : List Cond} {rm : Room} {av : List Value} {D : va_G} {y : Nat → ClassId} {base : Nat} {S : zS} {cc : ByteArray} {maxL : Nat} {ret : Option FieldType} {Qc : Array Value → State → Outcome → State → Prop} {mc ms : Nat}
    (hy : plainName y0.cls = true) (hw : ws = Cond.code y0 cc maxL ret :: ws') (ho : y0.cls = own) (hlen : (lg_sl av).length ≤ maxL)
    (body : ∀ (p : Program) (e : Env) (s : State) (m : MethodId) (args : Array Value) (below : List Frame) (meth : Method) (c : Code) (ls : Array Slot), CallFix p m c cc maxL s args ws own → meth.sig.returnType = ret → meth.locks = false → meth.name = y0.name → zW D y base S s s.heap [] → lv_has ls maxL (lv_args 0 av) →
      W p l e (headSpec ws rm).room s m args below meth c s.heap [] 0 0 (MQ below Qc args s mc ms (zA base)) (F0 m 0 ls [])) : Met l y0 ws rm (va_Pc av (zPre D y base S)) Qc mc ms (zA base) := by
  refine Met.ofW (cc := cc) (maxL := maxL) (ret := ret) hy hw ?_
  intro p e s m args below meth c s₁ B hml hv
  obtain ⟨rfl, hV, hH, hbase⟩ := hv
  have hts := atoms_spec (ws := ws) B.pre
  have hown : s.vm.findClass own = some m.cls := by rw [← ho]; exact findClass_of_methodNamed B.named
  have hl := lv_entry av (n := maxL) hlen
  rw [lg_entry_eq]
  generalize (lg_sl av ++ List.replicate (maxL - (lg_sl av).length) Slot.unset).toArray = ls at hl ⊢
  exact body p e s m av.toArray below meth c ls ⟨B.exec, B.bytes, hml, hown, hts⟩ B.returns B.notSynchronized (name_of_methodNamed B.named B.method).1 ⟨hV, hH, va_S.rf, hbase⟩ hl
theorem zXet_of {l : Launch} {y0 : MethodName} {own : String} {ws ws' : List Cond} {rm : Room} {av : List Value} {D : va_G} {y : Nat → ClassId} {base : Nat} {S : zS} {cc : ByteArray} {maxL : Nat} {ret : Option FieldType} {Qc : Array Value → State → Outcome → State → Prop} {XC : String → State → State → Prop} {mc ms : Nat}
    (hy : plainName y0.cls = true) (hw : ws = Cond.code y0 cc maxL ret :: ws') (ho : y0.cls = own) (hlen : (lg_sl av).length ≤ maxL)
    (body : ∀ (p : Program) (e : Env) (s : State) (m : MethodId) (args : Array Value) (below : List Frame) (meth : Method) (c : Code) (ls : Array Slot), CallFix p m c cc maxL s args ws own → meth.sig.returnType = ret → meth.locks = false → (∀ x ∈ c.exceptionTable.toList, False) → zW D y base S s s.heap [] → lv_has ls maxL (lv_args 0 av) →
      W p l e (headSpec ws rm).room s m args below meth c s.heap [] 0 0 (vx_MQ below Qc XC args s mc ms (zA base)) (F0 m 0 ls [])) : vx_Met l y0 ws rm (va_Pc av (zPre D y base S)) Qc XC mc ms (zA base) := by
  refine vx_ofW (cc := cc) (maxL := maxL) (ret := ret) hy hw ?_
  intro p e s m args below meth c s₁ B hml hx hv
  obtain ⟨rfl, hV, hH, hbase⟩ := hv
  have hts := atoms_spec (ws := ws) B.pre
  have hown : s.vm.findClass own = some m.cls := by rw [← ho]; exact findClass_of_methodNamed B.named
  have hl := lv_entry av (n := maxL) hlen
  rw [lg_entry_eq]
  generalize (lg_sl av ++ List.replicate (maxL - (lg_sl av).length) Slot.unset).toArray = ls at hl ⊢
  exact body p e s m av.toArray below meth c ls ⟨B.exec, B.bytes, hml, hown, hts⟩ B.returns B.notSynchronized hx ⟨hV, hH, va_S.rf, hbase⟩ hl
section ZROWS
variable {p : Program} {l : Launch} {e : Env} {R : Room} {s : State} {m : MethodId} {args : Array Value} {below : List Frame} {meth : Method} {c : Code} {H : Heap} {locs : List Loc} {cells slots : Nat} {Q : State → Prop}
variable {cc : ByteArray} {pc nL : Nat} {ls : Array Slot} {rest : List Value} {D : va_G} {y : Nat → ClassId} {base a : Nat} {S : zS} {Ts : List Cond} {own : String}
/-- a field is read -/
theorem zget (C : CallFix p m c cc nL s args Ts own) (hw : zW D y base S s H locs) {k j : Nat} (hk : zK S a = k) (h0 : 0 < k) (h1 : k < 21) {Cn : String} {T : u_T} {N : Nat} (hc : vwCl[k - 4]? = some (Cn, T, N)) (hin : ∀ w ∈ u_ws Cn T N, w ∈ Ts) {b : Bool} (hj : (zlay k)[j]? = some b) (hN : j < N) {index : Nat} {ref : String} (hlink : (Cond.fieldLink own index ref (T j).2.1 (T j).2.2.1) ∈ Ts) (hsame : ∀ x, s.fieldFound? (T j).1 (T j).2.1 (T j).2.2.1 = some x → s.fieldFound? ref (T j).2.1 (T j).2.2.1 = some x) {v : Value} (hv : (if b = true then va_rf (zQ S (16 * k + j) a) else .int (zI S (16 * k + j) a)) = v) (hdg : decode cc pc = .ok (.getfield index, 3))
    (kk : W p l e R s m args below meth c H locs cells slots Q (F0 m (pc + 3) ls (v :: rest))) : W p l e R s m args below meth c H locs cells slots Q (F0 m pc ls (.ref a :: rest)) := by
  obtain ⟨L, hL, hP, hD⟩ := hw.2.1
  obtain ⟨hx, hb, hml, hown, hts⟩ := C
  obtain ⟨k9, hk9⟩ := va_pl_get (X := zXo y) (f := zE y S) (hL a (by omega))
  rw [zE_o hk h1] at hk9
  exact va_get (D := D) (ci := k - 4) (v := v) (C := Cn) (T := T) (N := N) hx hb hts hin hown hw.1.1 hP k9 hk9 hc j hN (hts _ hlink) hsame (by rw [zfl_at, hj, ← hv]; rfl) hdg kk
/-- an int field is set (the class's names of fields hnm, types hty) -/
theorem zputI (C : CallFix p m c cc nL s args Ts own) (hw : zW D y base S s H locs) {k j : Nat} (hk : zK S a = k) (h0 : 0 < k) (h1 : k < 21) {Cn : String} {T : u_T} {N : Nat} (hc : vwCl[k - 4]? = some (Cn, T, N)) (hin : ∀ w ∈ u_ws Cn T N, w ∈ Ts) (ty0 : Nat → FieldType) (hty : ∀ k, k < N → parseFieldDescriptor (T k).2.2.1 = some (ty0 k)) (hnm : ∀ a, a < N → ∀ b, b < N → a ≠ b → (T a).2.1 ≠ (T b).2.1) (hj : (zlay k)[j]? = some false) (hN : j < N) {index : Nat} {ref : String} (hlink : (Cond.fieldLink own index ref (T j).2.1 (T j).2.2.1) ∈ Ts) (hsame : ∀ x, s.fieldFound? (T j).1 (T j).2.1 (T j).2.2.1 = some x → s.fieldFound? ref (T j).2.1 (T j).2.2.1 = some x) (hfin : (T j).2.2.2 = false ∨ (meth.name = "<init>" ∧ (T j).1 = own)) {ty : FieldType} {v : Int32} (hd : parseFieldDescriptor (T j).2.2.1 = some ty) (hn : narrow ty (.int v) = .int v) (hfit : fits ty (.int v) = true) (hdg : decode cc pc = .ok (.putfield index, 3))
    (kk : ∀ (H1 : Heap) (locs1 : List Loc), zW D y base (zsI S (16 * k + j) a v) s H1 locs1 → W p l e R s m args below meth c H1 locs1 cells slots Q (F0 m (pc + 3) ls rest)) : W p l e R s m args below meth c H locs cells slots Q (F0 m pc ls (.int v :: .ref a :: rest)) := by
  obtain ⟨L, hL, hP, hD⟩ := hw.2.1
  obtain ⟨hx, hb, hml, hown, hts⟩ := C
  have haL := hL a (by omega)
  obtain ⟨k9, hk9⟩ := va_pl_get (X := zXo y) (f := zE y S) haL
  have hk8 := hk9
  rw [zE_o hk h1] at hk8
  have hlen : j < (zfl S a (zlay k) (16 * k)).length := by rw [zfl_len]; exact (List.getElem?_eq_some_iff.mp hj).1
  by_cases hf : (T j).2.2.2 = false
  · refine va_put (D := D) (ci := k - 4) (v := .int v) (ty := ty) (C := Cn) (T := T) (N := N) hx hb hts hin ty0 hty hnm hown hw.1.1 hP hD hw.2.2.1 k9 hk8 hc j hN (hts _ hlink) hsame hf hd hn hfit hlen hdg (fun H1 locs1 hP1 hD1 hS1 => kk H1 locs1 ⟨hw.1, ?_, hS1, hw.2.2.2⟩)
    exact zH.set hL haL rfl hP1 hD hk9 (zE_sI v hk h1 hj)
  · refine va_putF (D := D) (ci := k - 4) (v := .int v) (ty := ty) (C := Cn) (T := T) (N := N) hx hb hts hin ty0 hty hnm hown hw.1.1 hP hD hw.2.2.1 k9 hk8 hc j hN (hts _ hlink) hsame (by cases h : (T j).2.2.2 with | true => rfl | false => exact absurd h hf) (by rcases hfin with h | h; exact absurd h hf; exact h.1) (by rcases hfin with h | h; exact absurd h hf; exact h.2) hd hn hfit hlen hdg (fun H1 locs1 hP1 hD1 hS1 => kk H1 locs1 ⟨hw.1, ?_, hS1, hw.2.2.2⟩)
    exact zH.set hL haL rfl hP1 hD hk9 (zE_sI v hk h1 hj)
theorem zputQ (C : CallFix p m c cc nL s args Ts own) (hw : zW D y base S s H locs) {k j : Nat} (hk : zK S a = k) (h0 : 0 < k) (h1 : k < 21) {Cn : String} {T : u_T} {N : Nat} (hc : vwCl[k - 4]? = some (Cn, T, N)) (hin : ∀ w ∈ u_ws Cn T N, w ∈ Ts) (ty0 : Nat → FieldType) (hty : ∀ k, k < N → parseFieldDescriptor (T k).2.2.1 = some (ty0 k)) (hnm : ∀ a, a < N → ∀ b, b < N → a ≠ b → (T a).2.1 ≠ (T b).2.1) (hj : (zlay k)[j]? = some true) (hN : j < N) {index : Nat} {ref : String} (hlink : (Cond.fieldLink own index ref (T j).2.1 (T j).2.2.1) ∈ Ts) (hsame : ∀ x, s.fieldFound? (T j).1 (T j).2.1 (T j).2.2.1 = some x → s.fieldFound? ref (T j).2.1 (T j).2.2.1 = some x) (hfin : (T j).2.2.2 = false ∨ (meth.name = "<init>" ∧ (T j).1 = own)) {ty : FieldType} {v : Nat} (hd : parseFieldDescriptor (T j).2.2.1 = some ty) (hn : narrow ty (.ref v) = .ref v) (hfit : fits ty (.ref v) = true) (hdg : decode cc pc = .ok (.putfield index, 3))
    (kk : ∀ (H1 : Heap) (locs1 : List Loc), zW D y base (zsQ S (16 * k + j) a (some v)) s H1 locs1 → W p l e R s m args below meth c H1 locs1 cells slots Q (F0 m (pc + 3) ls rest)) : W p l e R s m args below meth c H locs cells slots Q (F0 m pc ls (.ref v :: .ref a :: rest)) := by
  obtain ⟨L, hL, hP, hD⟩ := hw.2.1
  obtain ⟨hx, hb, hml, hown, hts⟩ := C
  have haL := hL a (by omega)
  obtain ⟨k9, hk9⟩ := va_pl_get (X := zXo y) (f := zE y S) haL
  have hk8 := hk9
  rw [zE_o hk h1] at hk8
  have hlen : j < (zfl S a (zlay k) (16 * k)).length := by rw [zfl_len]; exact (List.getElem?_eq_some_iff.mp hj).1
  by_cases hf : (T j).2.2.2 = false
  · refine va_put (D := D) (ci := k - 4) (v := .ref v) (ty := ty) (C := Cn) (T := T) (N := N) hx hb hts hin ty0 hty hnm hown hw.1.1 hP hD hw.2.2.1 k9 hk8 hc j hN (hts _ hlink) hsame hf hd hn hfit hlen hdg (fun H1 locs1 hP1 hD1 hS1 => kk H1 locs1 ⟨hw.1, ?_, hS1, hw.2.2.2⟩)
    exact zH.set hL haL rfl hP1 hD hk9 (zE_sQ (some v) hk h1 hj)
  · refine va_putF (D := D) (ci := k - 4) (v := .ref v) (ty := ty) (C := Cn) (T := T) (N := N) hx hb hts hin ty0 hty hnm hown hw.1.1 hP hD hw.2.2.1 k9 hk8 hc j hN (hts _ hlink) hsame (by cases h : (T j).2.2.2 with | true => rfl | false => exact absurd h hf) (by rcases hfin with h | h; exact absurd h hf; exact h.1) (by rcases hfin with h | h; exact absurd h hf; exact h.2) hd hn hfit hlen hdg (fun H1 locs1 hP1 hD1 hS1 => kk H1 locs1 ⟨hw.1, ?_, hS1, hw.2.2.2⟩)
    exact zH.set hL haL rfl hP1 hD hk9 (zE_sQ (some v) hk h1 hj)
/-- places of rows -/
theorem zald_I (C : CallFix p m c cc nL s args Ts own) (hw : zW D y base S s H locs) (hk : zK S a = 22) {i : Int32} {n : Nat} (hn : zN S a = n) (hin : vp_in i n) (hdg : decode cc pc = .ok (.iaload, 1)) (kk : W p l e R s m args below meth c H locs cells slots Q (F0 m (pc + 1) ls (.int (zR S 22 a i.toNatClampNeg) :: rest))) : W p l e R s m args below meth c H locs cells slots Q (F0 m pc ls (.int i :: .ref a :: rest)) := by
  subst hn
  obtain ⟨L, hL, hP, hD⟩ := hw.2.1
  obtain ⟨k9, hk9⟩ := va_pl_get (X := zXo y) (f := zE y S) (hL a (by omega))
  rw [zE_r hk (by omega) (by omega)] at hk9
  exact va_iald C.1 C.2.1 hw.1.1 hP k9 1 hk9 rfl hin hdg kk
theorem zald_C (C : CallFix p m c cc nL s args Ts own) (hw : zW D y base S s H locs) (hk : zK S a = 21) {i : Int32} {n : Nat} (hn : zN S a = n) (hin : vp_in i n) (hdg : decode cc pc = .ok (.caload, 1)) (kk : W p l e R s m args below meth c H locs cells slots Q (F0 m (pc + 1) ls (.int (zR S 21 a i.toNatClampNeg) :: rest))) : W p l e R s m args below meth c H locs cells slots Q (F0 m pc ls (.int i :: .ref a :: rest)) := by
  subst hn
  obtain ⟨L, hL, hP, hD⟩ := hw.2.1
  obtain ⟨k9, hk9⟩ := va_pl_get (X := zXo y) (f := zE y S) (hL a (by omega))
  rw [zE_r hk (by omega) (by omega)] at hk9
  exact va_cald C.1 C.2.1 hw.1.1 hP k9 0 hk9 rfl hin hdg kk
theorem zast_I (C : CallFix p m c cc nL s args Ts own) (hw : zW D y base S s H locs) (hk : zK S a = 22) {i x : Int32} {n : Nat} (hn : zN S a = n) (hin : vp_in i n) (hdg : decode cc pc = .ok (.iastore, 1)) (kk : ∀ (H1 : Heap) (locs1 : List Loc), zW D y base (zsR S 22 a (upd (zR S 22 a) i.toNatClampNeg x)) s H1 locs1 → W p l e R s m args below meth c H1 locs1 cells slots Q (F0 m (pc + 1) ls rest)) : W p l e R s m args below meth c H locs cells slots Q (F0 m pc ls (.int x :: .int i :: .ref a :: rest)) := by
  subst hn
  obtain ⟨L, hL, hP, hD⟩ := hw.2.1
  have haL := hL a (by omega)
  obtain ⟨k9, hk9⟩ := va_pl_get (X := zXo y) (f := zE y S) haL
  have hk8 := hk9
  rw [zE_r hk (by omega) (by omega)] at hk8
  exact va_iast C.1 C.2.1 hw.1.1 hP hD hw.2.2.1 k9 1 hk8 rfl hin hdg (fun H1 locs1 hP1 hD1 hS1 => kk H1 locs1 ⟨hw.1, zH.set hL haL rfl hP1 hD hk9 (zE_sR _ hk (by omega) (by omega)), hS1, hw.2.2.2⟩)
/-- lengths -/
theorem zalen (C : CallFix p m c cc nL s args Ts own) (hw : zW D y base S s H locs) {k : Nat} (hk : zK S a = k) (h1 : 21 ≤ k) {t0 : Nat} {ty : FieldType} (ht : (zT y)[t0]? = some (y k, ty)) {v : Int32} (hv : Int32.ofNat (zN S a) = v) (hdg : decode cc pc = .ok (.arraylength, 1)) (kk : W p l e R s m args below meth c H locs cells slots Q (F0 m (pc + 1) ls (.int v :: rest))) : W p l e R s m args below meth c H locs cells slots Q (F0 m pc ls (.ref a :: rest)) := by
  obtain ⟨L, hL, hP, hD⟩ := hw.2.1
  obtain ⟨k9, hk9⟩ := va_pl_get (X := zXo y) (f := zE y S) (hL a (by omega))
  have hx := C.1
  have hb := C.2.1
  unfold zE at hk9
  rw [if_neg (by omega), hk] at hk9
  by_cases h24 : k = 24
  · subst h24
    rw [if_pos rfl] at hk9
    exact va_alen hx hb hw.1.1 hP k9 t0 hk9 ht hv hdg kk
  · rw [if_neg h24] at hk9
    by_cases h31 : k < 31
    · rw [if_pos h31] at hk9
      exact va_alen hx hb hw.1.1 hP k9 t0 hk9 ht hv hdg kk
    · rw [if_neg h31] at hk9
      exact va_alen hx hb hw.1.1 hP k9 t0 hk9 ht hv hdg kk
/-- a place of a row of references -/
theorem zald_P (C : CallFix p m c cc nL s args Ts own) (hw : zW D y base S s H locs) {k : Nat} (hk : zK S a = k) (h1 : 31 ≤ k) {t0 : Nat} {ty : FieldType} (ht : (zT y)[t0]? = some (y k, ty)) (hty : ty.isReference = true) {i : Int32} {n v : Nat} (hn : zN S a = n) (hin : vp_in i n) (hv : zP S a i.toNatClampNeg = some v) (hdg : decode cc pc = .ok (.aaload, 1)) (kk : W p l e R s m args below meth c H locs cells slots Q (F0 m (pc + 1) ls (.ref v :: rest))) : W p l e R s m args below meth c H locs cells slots Q (F0 m pc ls (.int i :: .ref a :: rest)) := by
  subst hn
  obtain ⟨L, hL, hP, hD⟩ := hw.2.1
  obtain ⟨k9, hk9⟩ := va_pl_get (X := zXo y) (f := zE y S) (hL a (by omega))
  rw [zE_p hk h1] at hk9
  have hlt : i.toNatClampNeg < zN S a := Nat.not_le.mp fun q => hin (Or.inr q)
  exact W.aald (v := .ref v) (ty := ty) C.1 C.2.1 (hP k9 _ hk9) ((hw.1.1.2 t0 _ ht).1 (zN S a) (fun j => va_rf (zP S a j))) hty (fun q => by cases q) (by show ¬ (i < 0 ∨ (arrV _ _ _).slots.size ≤ _); rw [arrV_size]; exact hin) (by show (arrV _ _ _).slots[_]? = _; rw [arrV_read _ _ hlt, hv]; rfl) rfl rfl hdg kk
end ZROWS
