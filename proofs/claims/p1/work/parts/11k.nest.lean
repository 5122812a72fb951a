/-! fields over nest links, calls over an interface, calls over nest links -/
section ZNEST
variable {p : Program} {l : Launch} {e : Env} {R : Room} {s : State} {m : MethodId} {args : Array Value} {below : List Frame} {meth : Method} {c : Code} {H : Heap} {locs : List Loc} {cells slots : Nat} {Q : State → Prop}
variable {cc : ByteArray} {pc nL : Nat} {ls : Array Slot} {rest st0 : List Value} {D : va_G} {y : Nat → ClassId} {base a : Nat} {S : zS} {Ts : List Cond} {own : String}
theorem zgetN (C : CallFix p m c cc nL s args Ts own) (hw : zW D y base S s H locs) {k j : Nat} (hk : zK S a = k) (h0 : 0 < k) (h1 : k < 21) {Cn : String} {T : u_T} {N : Nat} (hc : vwCl[k - 1]? = some (Cn, T, N)) (hin : ∀ w ∈ u_ws Cn T N, w ∈ Ts) {b : Bool} (hj : (zlay k)[j]? = some b) (hN : j < N) {index : Nat} {ref host : String} (hnw : Cond.fieldLinkNest own index ref (T j).2.1 (T j).2.2.1 host ∈ zNw) (hsame : ∀ x, s.fieldFound? (T j).1 (T j).2.1 (T j).2.2.1 = some x → s.fieldFound? ref (T j).2.1 (T j).2.2.1 = some x) {v : Value} (hv : (if b = true then va_rf (zQ S (16 * k + j) a) else .int (zI S (16 * k + j) a)) = v) (hdg : decode cc pc = .ok (.getfield index, 3))
    (kk : W p l e R s m args below meth c H locs cells slots Q (F0 m (pc + 3) ls (v :: rest))) : W p l e R s m args below meth c H locs cells slots Q (F0 m pc ls (.ref a :: rest)) := by
  obtain ⟨L, hL, hP, hD⟩ := hw.2.1
  obtain ⟨hx, hb, hml, hown, hts⟩ := C
  obtain ⟨k9, hk9⟩ := va_pl_get (X := zXo y) (f := zE y S) (hL a (by omega))
  rw [zE_o hk h1] at hk9
  exact va_getN (D := D) (ci := k - 1) (v := v) (C := Cn) (T := T) (N := N) hx hb hts hin hown hw.1.1 hP k9 hk9 hc j hN (va_Nw.use rfl (hw.1.2.2.2.1 _ hnw)) hsame (by rw [zfl_at, hj, ← hv]; rfl) hdg kk
theorem zputNI (C : CallFix p m c cc nL s args Ts own) (hw : zW D y base S s H locs) {k j : Nat} (hk : zK S a = k) (h0 : 0 < k) (h1 : k < 21) {Cn : String} {T : u_T} {N : Nat} (hc : vwCl[k - 1]? = some (Cn, T, N)) (hin : ∀ w ∈ u_ws Cn T N, w ∈ Ts) (ty0 : Nat → FieldType) (hty : ∀ k, k < N → parseFieldDescriptor (T k).2.2.1 = some (ty0 k)) (hnm : ∀ a, a < N → ∀ b, b < N → a ≠ b → (T a).2.1 ≠ (T b).2.1) (hj : (zlay k)[j]? = some false) (hN : j < N) {index : Nat} {ref host : String} (hnw : Cond.fieldLinkNest own index ref (T j).2.1 (T j).2.2.1 host ∈ zNw) (hsame : ∀ x, s.fieldFound? (T j).1 (T j).2.1 (T j).2.2.1 = some x → s.fieldFound? ref (T j).2.1 (T j).2.2.1 = some x) (hf : (T j).2.2.2 = false) {ty : FieldType} {v : Int32} (hd : parseFieldDescriptor (T j).2.2.1 = some ty) (hn : narrow ty (.int v) = .int v) (hfit : fits ty (.int v) = true) (hdg : decode cc pc = .ok (.putfield index, 3))
    (kk : ∀ (H1 : Heap) (locs1 : List Loc), zW D y base (zsI S (16 * k + j) a v) s H1 locs1 → W p l e R s m args below meth c H1 locs1 cells slots Q (F0 m (pc + 3) ls rest)) : W p l e R s m args below meth c H locs cells slots Q (F0 m pc ls (.int v :: .ref a :: rest)) := by
  obtain ⟨L, hL, hP, hD⟩ := hw.2.1
  obtain ⟨hx, hb, hml, hown, hts⟩ := C
  have haL := hL a (by omega)
  obtain ⟨k9, hk9⟩ := va_pl_get (X := zXo y) (f := zE y S) haL
  have hk8 := hk9
  rw [zE_o hk h1] at hk8
  have hlen : j < (zfl S a (zlay k) (16 * k)).length := by rw [zfl_len]; exact (List.getElem?_eq_some_iff.mp hj).1
  refine va_putN (D := D) (ci := k - 1) (v := .int v) (ty := ty) (C := Cn) (T := T) (N := N) hx hb hts hin ty0 hty hnm hown hw.1.1 hP hD hw.2.2.1 k9 hk8 hc j hN (va_Nw.use rfl (hw.1.2.2.2.1 _ hnw)) hsame hf hd hn hfit hlen hdg (fun H1 locs1 hP1 hD1 hS1 => kk H1 locs1 ⟨hw.1, ?_, hS1, hw.2.2.2⟩)
  exact zH.set hL haL rfl hP1 hD hk9 (zE_sI v hk h1 hj)
theorem zputNQ (C : CallFix p m c cc nL s args Ts own) (hw : zW D y base S s H locs) {k j : Nat} (hk : zK S a = k) (h0 : 0 < k) (h1 : k < 21) {Cn : String} {T : u_T} {N : Nat} (hc : vwCl[k - 1]? = some (Cn, T, N)) (hin : ∀ w ∈ u_ws Cn T N, w ∈ Ts) (ty0 : Nat → FieldType) (hty : ∀ k, k < N → parseFieldDescriptor (T k).2.2.1 = some (ty0 k)) (hnm : ∀ a, a < N → ∀ b, b < N → a ≠ b → (T a).2.1 ≠ (T b).2.1) (hj : (zlay k)[j]? = some true) (hN : j < N) {index : Nat} {ref host : String} (hnw : Cond.fieldLinkNest own index ref (T j).2.1 (T j).2.2.1 host ∈ zNw) (hsame : ∀ x, s.fieldFound? (T j).1 (T j).2.1 (T j).2.2.1 = some x → s.fieldFound? ref (T j).2.1 (T j).2.2.1 = some x) (hf : (T j).2.2.2 = false) {ty : FieldType} {v : Nat} (hd : parseFieldDescriptor (T j).2.2.1 = some ty) (hn : narrow ty (.ref v) = .ref v) (hfit : fits ty (.ref v) = true) (hdg : decode cc pc = .ok (.putfield index, 3))
    (kk : ∀ (H1 : Heap) (locs1 : List Loc), zW D y base (zsQ S (16 * k + j) a (some v)) s H1 locs1 → W p l e R s m args below meth c H1 locs1 cells slots Q (F0 m (pc + 3) ls rest)) : W p l e R s m args below meth c H locs cells slots Q (F0 m pc ls (.ref v :: .ref a :: rest)) := by
  obtain ⟨L, hL, hP, hD⟩ := hw.2.1
  obtain ⟨hx, hb, hml, hown, hts⟩ := C
  have haL := hL a (by omega)
  obtain ⟨k9, hk9⟩ := va_pl_get (X := zXo y) (f := zE y S) haL
  have hk8 := hk9
  rw [zE_o hk h1] at hk8
  have hlen : j < (zfl S a (zlay k) (16 * k)).length := by rw [zfl_len]; exact (List.getElem?_eq_some_iff.mp hj).1
  refine va_putN (D := D) (ci := k - 1) (v := .ref v) (ty := ty) (C := Cn) (T := T) (N := N) hx hb hts hin ty0 hty hnm hown hw.1.1 hP hD hw.2.2.1 k9 hk8 hc j hN (va_Nw.use rfl (hw.1.2.2.2.1 _ hnw)) hsame hf hd hn hfit hlen hdg (fun H1 locs1 hP1 hD1 hS1 => kk H1 locs1 ⟨hw.1, ?_, hS1, hw.2.2.2⟩)
  exact zH.set hL haL rfl hP1 hD hk9 (zE_sQ (some v) hk h1 hj)
/-- hasNext of an iterator of a list, over the interface -/
theorem zcF_i (C : CallFix p m c cc nL s args Ts own) (hw : zW D y base S s H locs) {x y0 : MethodName} {Cn : String} {T : u_T} {N : Nat} {bytes : ByteArray} {maxL index count mc ms b k : Nat} {ret : Option FieldType} {ws ws' : List Cond} {rm : Room} {post : Int32 → zS → Prop} {As : List Value} {n9 : Nat}
    (hM : zMi l y0 ws rm (.ref b :: As) D y base S post mc ms) (hG : GoodIn Ts (va_wsF own index Cn x y0 ws)) (hws : ws = Cond.code y0 bytes maxL ret :: ws') (hF : va_Fw Cn x y0 s) (hd : x.cls ≠ "java/lang/invoke/MethodHandle" ∧ x.cls ≠ "java/lang/invoke/VarHandle" ∧ (parseMethodDescriptor x.desc).map (fun d => d.parameters.length) = some n9) (hR : (rm.cells = mc ∧ rm.slots = ms) ∧ rm.frames + 1 ≤ R.frames ∧ 8 + (maxL + 11) + rm.locals ≤ R.locals)
    (hk : zK S b = k) (h0 : 0 < k ∧ k < 21) (hc : vwCl[k - 1]? = some (Cn, T, N)) (hn9 : As.length = n9) (hls : ls.size = nL) (hst : st0 = As.reverse ++ .ref b :: rest) (hcat : (rest.map fun v => v.category).sum ≤ 8) (hf : cells + mc ≤ R.cells ∧ slots + ms ≤ R.slots) (hdg : decode cc pc = .ok (.invokeinterface index count, 5))
    (kk : ∀ (r : Int32) (S' : zS) (H1 : Heap) (locs1 : List Loc), post r S' → zW D y base S' s H1 locs1 → W p l e R s m args below meth c H1 locs1 (cells + mc) (slots + ms) Q (F0 m (pc + 5) ls (.int r :: rest))) : W p l e R s m args below meth c H locs cells slots Q (F0 m pc ls st0) :=
  va_callFi (va_runF (As := As) (rest := rest) (hw.1.1.1 (k - 1) _ hc).2 C hM (va_cwF n9 C.2.2.2.2 hG hws hR.1.1 hR.1.2 hF hd hR.2) (zpV hw hk h0.1 h0.2 hc As) rfl hn9 hls hst (lv_room hcat) hdg hf) hw.2.2.1 (fun _ _ h => h) (fun _ h => h) (fun r u t H1 locs1 ht _ hp hB _ _ hS => kk r u H1 locs1 hp (zOut hw ht hB hS))
theorem zFw (hw : zW D y base S s H locs) : va_Fw "java/util/ArrayList$Itr" ⟨"java/util/Iterator", "hasNext", "()Z"⟩ ⟨"java/util/ArrayList$Itr", "hasNext", "()Z"⟩ s := hw.1.2.2.2.2.2.2.2.2.2.2.2
end ZNEST
