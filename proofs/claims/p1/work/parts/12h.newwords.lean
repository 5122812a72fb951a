/-! new arrays of arrays, String's own, Object's rows, results that are floats -/
def znM (S : zS) (q k N kr K : Nat) (r : Nat → Nat) : zS := (fun a => if a = q then k else if a ∈ (List.range N).map r then kr else zK S a, S.2.1, S.2.2.1, fun a => if a = q then N else if a ∈ (List.range N).map r then K else zN S a, va_up S.2.2.2.2.1 kr (fun a => if a ∈ (List.range N).map r then (fun _ => 0) else zR S kr a), va_up S.2.2.2.2.2.1 q (fun i => if i < N then some (r i) else none), S.2.2.2.2.2.2)
/-- the new places were not in use -/
def zFq (S : zS) (q N : Nat) (r : Nat → Nat) : Prop := zK S q = 0 ∧ (∀ i, i < N → zK S (r i) = 0 ∧ r i ≠ q) ∧ ∀ i j, i < N → j < N → r i = r j → i = j
theorem zFq.off {S : zS} {q N : Nat} {r : Nat → Nat} (h : zFq S q N r) {a : Nat} (ha : zK S a ≠ 0) : a ≠ q ∧ a ∉ (List.range N).map r := by
  refine ⟨fun e => ha (by rw [e]; exact h.1), fun e => ?_⟩
  obtain ⟨i, hi, rfl⟩ := List.mem_map.mp e
  exact ha (h.2.1 i (List.mem_range.mp hi)).1
theorem zFq.row {S : zS} {q N : Nat} {r : Nat → Nat} (h : zFq S q N r) {i : Nat} (hi : i < N) : r i ≠ q ∧ r i ∈ (List.range N).map r := ⟨(h.2.1 i hi).2, List.mem_map.mpr ⟨i, List.mem_range.mpr hi, rfl⟩⟩
theorem zGv.nM {S : zS} {q k N kr K v : Nat} {r : Nat → Nat} (h : zFq S q N r) : zGv S (znM S q k N kr K r) v := fun b hb _ => by
  obtain ⟨h1, h2⟩ := h.off hb
  refine ⟨?_, fun _ => ⟨rfl, rfl⟩, ?_, fun t => ?_, ?_, rfl⟩
  · show (if b = q then k else if b ∈ (List.range N).map r then kr else zK S b) = _
    rw [if_neg h1, if_neg h2]
  · show (if b = q then N else if b ∈ (List.range N).map r then K else zN S b) = _
    rw [if_neg h1, if_neg h2]
  · show va_up S.2.2.2.2.1 kr (fun a => if a ∈ (List.range N).map r then (fun _ => 0) else zR S kr a) t b = S.2.2.2.2.1 t b
    by_cases e : t = kr
    · subst e
      rw [va_up_self, if_neg h2]
      rfl
    · rw [va_up_ne _ _ e]
  · show va_up S.2.2.2.2.2.1 q _ b = _
    rw [va_up_ne _ _ h1]
    rfl
theorem znM_q {S : zS} {q k N kr K : Nat} {r : Nat → Nat} : zK (znM S q k N kr K r) q = k ∧ zN (znM S q k N kr K r) q = N ∧ ∀ i, i < N → zP (znM S q k N kr K r) q i = some (r i) := by
  refine ⟨if_pos rfl, if_pos rfl, fun i hi => ?_⟩
  show va_up S.2.2.2.2.2.1 q (fun i => if i < N then some (r i) else none) q i = _
  rw [va_up_self, if_pos hi]
theorem znM_r {S : zS} {q k N kr K : Nat} {r : Nat → Nat} (h : zFq S q N r) {i : Nat} (hi : i < N) : zK (znM S q k N kr K r) (r i) = kr ∧ zN (znM S q k N kr K r) (r i) = K ∧ ∀ j, zR (znM S q k N kr K r) kr (r i) j = 0 := by
  obtain ⟨h1, h2⟩ := h.row hi
  refine ⟨(if_neg h1).trans (if_pos h2), (if_neg h1).trans (if_pos h2), fun j => ?_⟩
  show va_up S.2.2.2.2.1 kr (fun a => if a ∈ (List.range N).map r then (fun _ => 0) else zR S kr a) kr (r i) j = 0
  rw [va_up_self, if_pos h2]
theorem zK_nM {S : zS} {q k N kr K a v : Nat} {r : Nat → Nat} (h : zFq S q N r) (ha : zK S a = v) (h0 : v ≠ 0) : zK (znM S q k N kr K r) a = v := ((zGv.nM h (v := q)) a (by rw [ha]; exact h0) (h.off (by rw [ha]; exact h0)).1).1.trans ha
theorem zN_nM {S : zS} {q k N kr K a v n : Nat} {r : Nat → Nat} (h : zFq S q N r) (ha : zK S a = v) (h0 : v ≠ 0) (hn : zN S a = n) : zN (znM S q k N kr K r) a = n := ((zGv.nM h (v := q)) a (by rw [ha]; exact h0) (h.off (by rw [ha]; exact h0)).1).2.2.1.trans hn
theorem zE_nM {y : Nat → ClassId} {S : zS} {q k N kr K : Nat} {r : Nat → Nat} (h1 : 31 ≤ k) (h2 : 21 ≤ kr) (h3 : kr < 24) (hq : q ∉ (List.range N).map r) (b : Nat) : va_up (vr_up (zE y S) ((List.range N).map r) (.inl (y kr, K, .inl (fun _ => 0)))) q (.inl (y k, N, .inr (.inr (.inr (.inr (fun i => if i < N then some (r i) else none)))))) b = zE y (znM S q k N kr K r) b := by
  by_cases hb : b = q
  · subst hb
    rw [va_up_self, zE_p (znM_q (S := S) (q := b) (k := k) (N := N) (kr := kr) (K := K) (r := r)).1 h1, (znM_q (S := S) (q := b) (k := k) (N := N) (kr := kr) (K := K) (r := r)).2.1]
    simp [zP, znM, va_up]
  · rw [va_up_ne _ _ hb]
    by_cases hr : b ∈ (List.range N).map r
    · rw [vr_up_in hr]
      have e1 : zK (znM S q k N kr K r) b = kr := (if_neg hb).trans (if_pos hr)
      have e2 : zN (znM S q k N kr K r) b = K := (if_neg hb).trans (if_pos hr)
      have e3 : zR (znM S q k N kr K r) kr b = fun _ => 0 := by
        show va_up S.2.2.2.2.1 kr (fun a => if a ∈ (List.range N).map r then (fun _ => 0) else zR S kr a) kr b = _
        rw [va_up_self, if_pos hr]
      rw [zE_r e1 h2 h3, e2, e3]
    · rw [vr_up_ne hr]
      refine Eq.symm (zE_eq ?_ (fun t => rfl) (fun t => rfl) ?_ (fun t => ?_) ?_ rfl)
      · exact (if_neg hb).trans (if_neg hr)
      · exact (if_neg hb).trans (if_neg hr)
      · show va_up S.2.2.2.2.1 kr (fun a => if a ∈ (List.range N).map r then (fun _ => 0) else zR S kr a) t b = S.2.2.2.2.1 t b
        by_cases e : t = kr
        · subst e
          rw [va_up_self, if_neg hr]
          rfl
        · rw [va_up_ne _ _ e]
      · exact va_up_ne _ _ hb
section ZMN
variable {p : Program} {l : Launch} {e : Env} {R : Room} {s : State} {m : MethodId} {args : Array Value} {below : List Frame} {meth : Method} {c : Code} {H : Heap} {locs : List Loc} {cells slots : Nat} {Q : State → Prop}
variable {cc : ByteArray} {pc nL : Nat} {ls : Array Slot} {rest st0 : List Value} {D : va_G} {y : Nat → ClassId} {base a : Nat} {S : zS} {Ts : List Cond} {own : String}
theorem zmna (C : CallFix p m c cc nL s args Ts own) (hw : zW D y base S s H locs) {k kr t0 : Nat} {ty : FieldType} (h1 : 31 ≤ k) (h2 : 21 ≤ kr) (h3 : kr < 24) (ht : (zT y)[t0]? = some (y k, .array ty)) (hcy : s.vm.findClass (FieldType.array ty).toString = some (y kr)) (hdv : defaultValue ty = .int 0) (hdf : fits ty (defaultValue ty) = true) {index : Nat} (hcl : Cond.classLink own index ("[" ++ (FieldType.array ty).toString) ∈ Ts) (hov : va_AOA ty s) (harr : Cond.arrayClass ty ∈ Ts) {n k0 : Int32} {N K : Nat} (hn : ¬ n < 0) (hk : ¬ k0 < 0) (hN : n.toNatClampNeg = N) (hK : k0.toNatClampNeg = K)
    (hb1 : N * 4 ≤ 536870912) (hb2 : K * componentBytes ty ≤ 536870912) (hb3 : K ≤ 536870912) (hcells : cells + (1 + N) ≤ R.cells) (hslots : slots + (N + N * K) ≤ R.slots) (hdg : decode cc pc = .ok (.multianewarray index 2, 4))
    (kk : ∀ (q : Nat) (r : Nat → Nat) (H1 : Heap), zFq S q N r → zW D y base (znM S q k N kr K r) s H1 locs → W p l e R s m args below meth c H1 locs (cells + 1 + N) (slots + N + N * K) Q (F0 m (pc + 4) ls (.ref q :: rest))) : W p l e R s m args below meth c H locs cells slots Q (F0 m pc ls (.int k0 :: .int n :: rest)) := by
  obtain ⟨L, hL, hP, hD⟩ := hw.2.1
  obtain ⟨hx, hb, hml, hown, hts⟩ := C
  refine va_mna (D := D) (X := zXo y) (L := L) (f := zE y S) (z := (K, .inl (fun _ => 0))) hx hb hown (hts _ hcl) hov (hts _ harr) hcy hw.1.1 hP hD hw.2.2.1 (zA_all hw.2.2.2) hn hk hN hK hb1 hb2 hb3 hdf (by rw [hdv]; rfl) hcells hslots (fun c9 => by rw [hdv]; exact arrV_new _ _ _) hdg (fun q r cA H1 hinj hr hK1 hP1 hD1 hS1 => ?_)
  have hcA : cA = y k := zK_last hK1 (t0 := t0) ht
  subst hcA
  have hP2 := va_P.swap hP1
  have hD2 := va_D.swap hD1
  have hq : q ∉ L ++ (List.range N).map r := va_pl_fresh2 hD2
  have hqr : q ∉ (List.range N).map r := fun h => hq (List.mem_append_right _ h)
  rw [List.append_assoc, va_pl_push hq, va_pl_congr (zE_nM h1 h2 h3 hqr)] at hP2 hD2
  have hF : zFq S q N r := ⟨Decidable.byContradiction fun h => hq (List.mem_append_left _ (hL q h)), fun i hi => ⟨Decidable.byContradiction fun h => hr i hi (hL _ h), fun e => hqr (by rw [← e]; exact List.mem_map.mpr ⟨i, List.mem_range.mpr hi, rfl⟩)⟩, hinj⟩
  refine kk q r H1 hF ⟨hw.1, ⟨(L ++ (List.range N).map r) ++ [q], fun b hb => ?_, hP2, hD2⟩, hS1, hw.2.2.2⟩
  by_cases e1 : b = q
  · rw [e1]
    exact List.mem_append_right _ List.mem_cons_self
  · by_cases e2 : b ∈ (List.range N).map r
    · exact List.mem_append_left _ (List.mem_append_right _ e2)
    · refine List.mem_append_left _ (List.mem_append_left _ (hL b ?_))
      have e3 : zK (znM S q k N kr K r) b = zK S b := (if_neg e1).trans (if_neg e2)
      rwa [e3] at hb
/-- String's own -/
theorem zstr (hw : zW D y base S s H locs) : vk_R "ProbehallModel" 181 "rfhlt" (y 90) s ∧ vk_S 1 [5] [[114, 102, 104, 108, 116]] (fun _ => y 90) (fun _ => y 91) (zA base) s s.heap := hw.1.2.2.2.2.2.2.2.2.2.2.1
theorem zldcS (C : CallFix p m c cc nL s args Ts own) (hw : zW D y base S s H locs) (ho : own = "ProbehallModel") (hdg : decode cc pc = .ok (.ldc 181, 2))
    (kk : W p l e R s m args below meth c H locs cells slots Q (F0 m (pc + 2) ls (.ref (y 90) :: rest))) : W p l e R s m args below meth c H locs cells slots Q (F0 m pc ls rest) := by
  subst ho
  exact va_ldcS C.1 C.2.1 C.2.2.2.1 (zstr hw).1 hdg kk
theorem zgetSv (C : CallFix p m c cc nL s args Ts own) (hw : zW D y base S s H locs) {index : Nat} (hlink : Cond.fieldLink own index "java/lang/String" "value" "[B" ∈ Ts) (hdg : decode cc pc = .ok (.getfield index, 3))
    (kk : W p l e R s m args below meth c H locs cells slots Q (F0 m (pc + 3) ls (.ref (y 91) :: rest))) : W p l e R s m args below meth c H locs cells slots Q (F0 m pc ls (.ref (y 90) :: rest)) :=
  vk_getf C.1 C.2.1 ((zstr hw).2.1 0 (by decide)).2.2.1 hw.2.2.1 C.2.2.2.1 (C.2.2.2.2 _ hlink) (fun _ h => h) hdg kk
theorem zgetSc (C : CallFix p m c cc nL s args Ts own) (hw : zW D y base S s H locs) {index : Nat} (hlink : Cond.fieldLink own index "java/lang/String" "coder" "B" ∈ Ts) (hdg : decode cc pc = .ok (.getfield index, 3))
    (kk : W p l e R s m args below meth c H locs cells slots Q (F0 m (pc + 3) ls (.int 0 :: rest))) : W p l e R s m args below meth c H locs cells slots Q (F0 m pc ls (.ref (y 90) :: rest)) :=
  vk_getf C.1 C.2.1 ((zstr hw).2.1 0 (by decide)).2.1 hw.2.2.1 C.2.2.2.1 (C.2.2.2.2 _ hlink) (fun _ h => h) hdg kk
theorem zSlen (C : CallFix p m c cc nL s args Ts own) (hw : zW D y base S s H locs) (hdg : decode cc pc = .ok (.arraylength, 1))
    (kk : W p l e R s m args below meth c H locs cells slots Q (F0 m (pc + 1) ls (.int 5 :: rest))) : W p l e R s m args below meth c H locs cells slots Q (F0 m pc ls (.ref (y 91) :: rest)) :=
  va_tlen C.1 C.2.1 ((zstr hw).2.1 0 (by decide)).2.2.2 hw.2.2.1 (v := 5) (by decide) hdg kk
theorem zSald (C : CallFix p m c cc nL s args Ts own) (hw : zW D y base S s H locs) {i v : Int32} (hin : vp_in i 5) (hv : ([114, 102, 104, 108, 116] : List Int32).getD i.toNatClampNeg 0 = v) (hdg : decode cc pc = .ok (.baload, 1))
    (kk : W p l e R s m args below meth c H locs cells slots Q (F0 m (pc + 1) ls (.int v :: rest))) : W p l e R s m args below meth c H locs cells slots Q (F0 m pc ls (.int i :: .ref (y 91) :: rest)) :=
  va_tb C.1 C.2.1 ((zstr hw).2.1 0 (by decide)).2.2.2 hw.2.2.1 hin (v := .int v) (by rw [← hv]; rfl) hdg kk
theorem zpVS (hw : zW D y base S s H locs) (As : List Value) : PreV s H "java/lang/String" (y 90) (va_Pc (.ref (y 90) :: As) (zPre D y base S)) As :=
  ⟨zBlind, vk_recv (i := 0) (zstr hw).2 (by decide) hw.2.2.1, fun U hU hW => ⟨rfl, zIn hw hU hW⟩⟩
theorem zcVS_i (C : CallFix p m c cc nL s args Ts own) (hw : zW D y base S s H locs) {y0 : MethodName} {bytes : ByteArray} {maxL index mc ms : Nat} {ret : Option FieldType} {ws ws' : List Cond} {rm : Room} {post : Int32 → zS → Prop} {As : List Value} {n9 : Nat}
    (hM : zMi l y0 ws rm (.ref (y 90) :: As) D y base S post mc ms) (hG : GoodIn Ts (wsV own index "java/lang/String" y0 ws)) (hws : ws = Cond.code y0 bytes maxL ret :: ws') (hd : y0.cls = "java/lang/String" ∧ y0.cls ≠ "java/lang/invoke/MethodHandle" ∧ y0.cls ≠ "java/lang/invoke/VarHandle" ∧ (parseMethodDescriptor y0.desc).map (fun d => d.parameters.length) = some n9) (hR : (rm.cells = mc ∧ rm.slots = ms) ∧ rm.frames + 1 ≤ R.frames ∧ 8 + (maxL + 11) + rm.locals ≤ R.locals)
    (hn9 : As.length = n9) (hls : ls.size = nL) (hst : st0 = As.reverse ++ .ref (y 90) :: rest) (hcat : (rest.map fun v => v.category).sum ≤ 8) (hf : cells + mc ≤ R.cells ∧ slots + ms ≤ R.slots) (hdg : decode cc pc = .ok (.invokevirtual index, 3))
    (kk : ∀ (r : Int32) (S' : zS) (H1 : Heap) (locs1 : List Loc), post r S' → zW D y base S' s H1 locs1 → W p l e R s m args below meth c H1 locs1 (cells + mc) (slots + ms) Q (F0 m (pc + 3) ls (.int r :: rest))) : W p l e R s m args below meth c H locs cells slots Q (F0 m pc ls st0) :=
  va_calli (va_runV (As := As) (rest := rest) C hM (cwV n9 C.2.2.2.2 hG hws hR.1.1 hR.1.2 hd hR.2) (zpVS hw As) rfl hn9 hls hst (lv_room hcat) hdg hf) hw.2.2.1 (fun _ _ h => h) (fun _ h => h) (fun r u t H1 locs1 ht _ hp hB _ _ hS => kk r u H1 locs1 hp (zOut hw ht hB hS))
/-- ArrayList's empty array -/
theorem zElen (C : CallFix p m c cc nL s args Ts own) (hw : zW D y base S s H locs) (hdg : decode cc pc = .ok (.arraylength, 1))
    (kk : W p l e R s m args below meth c H locs cells slots Q (F0 m (pc + 1) ls (.int 0 :: rest))) : W p l e R s m args below meth c H locs cells slots Q (F0 m pc ls (.ref (y 92) :: rest)) :=
  va_tlen C.1 C.2.1 hw.1.2.2.2.2.2.2.2.2.1.2 hw.2.2.1 (v := 0) (by decide) hdg kk
theorem zacmp (C : CallFix p m c cc nL s args Ts own) {off : Int} {tgt r : Nat} (hdg : decode cc pc = .ok (.if_acmp .eq off, 3)) (ht : (pc : Int) + off = (tgt : Int))
    (kk : W p l e R s m args below meth c H locs cells slots Q (F0 m tgt ls rest)) : W p l e R s m args below meth c H locs cells slots Q (F0 m pc ls (.ref r :: .ref r :: rest)) :=
  lv_acmp_eq (rx := some r) (ry := some r) C.1 C.2.1 hdg ht (fun _ => kk) (fun h => absurd rfl h)
theorem zastO (C : CallFix p m c cc nL s args Ts own) (hw : zW D y base S s H locs) {v n : Nat} (hk : zK S a = 33) (hv : zK S v = 14) (hn : zN S a = n) {i : Int32} (hin : vp_in i n) (hdg : decode cc pc = .ok (.aastore, 1))
    (kk : ∀ (H1 : Heap) (locs1 : List Loc), zW D y base (zsP S a (va_up (zP S a) i.toNatClampNeg (some v))) s H1 locs1 → W p l e R s m args below meth c H1 locs1 cells slots Q (F0 m (pc + 1) ls rest)) : W p l e R s m args below meth c H locs cells slots Q (F0 m pc ls (.ref v :: .int i :: .ref a :: rest)) := by
  subst hn
  obtain ⟨L, hL, hP, hD⟩ := hw.2.1
  have haL := hL a (by omega)
  obtain ⟨k9, hk9⟩ := va_pl_get (X := zXo y) (f := zE y S) haL
  obtain ⟨k8, hk8⟩ := va_pl_get (X := zXo y) (f := zE y S) (hL v (by omega))
  have hk7 := hk9
  rw [zE_p hk (by omega)] at hk7
  rw [zE_o hv (by omega)] at hk8
  exact va_astqO C.1 C.2.1 hw.1.1 hP hD hw.2.2.1 k9 6 k8 13 (r := (RX10, TX10, 3)) hk7 rfl (hw.1.2.2.2.1 _ (by decide +kernel)) hk8 rfl hin hdg (fun H1 locs1 hP1 hD1 hS1 => kk H1 locs1 ⟨hw.1, zH.set hL haL rfl hP1 hD hk9 (zE_sP _ hk (by omega)), hS1, hw.2.2.2⟩)
theorem zrfl (C : CallFix p m c cc nL s args Ts own) (hw : zW D y base S s H locs) (hr : meth.sig.returnType = some .float) (hlocks : meth.locks = false) {v : UInt32} {post : UInt32 → zS → Prop} {mc ms : Nat} (hp : post v S) (hc : cells ≤ mc ∧ slots ≤ ms) (hdg : decode cc pc = .ok (.freturn, 1)) : W p l e R s m args below meth c H locs cells slots (MQ below (va_Qf post (zPost D y base) (zA base)) args s mc ms (zA base)) (F0 m pc ls [.float v]) :=
  W.widen hc.1 hc.2 (W.fret C.1 C.2.1 hr (fun t ht _ => ⟨⟨v, S, rfl, hp, by show zH D y base S t.heap; rw [ht]; exact hw.2.1⟩, hw.2.2.1.F ht⟩) hw.2.2.1.2.2 hdg hlocks)
theorem zrdb (C : CallFix p m c cc nL s args Ts own) (hw : zW D y base S s H locs) (hr : meth.sig.returnType = some .double) (hlocks : meth.locks = false) {v : UInt64} {post : UInt64 → zS → Prop} {mc ms : Nat} (hp : post v S) (hc : cells ≤ mc ∧ slots ≤ ms) (hdg : decode cc pc = .ok (.dreturn, 1)) : W p l e R s m args below meth c H locs cells slots (MQ below (va_Qd post (zPost D y base) (zA base)) args s mc ms (zA base)) (F0 m pc ls [.double v]) :=
  W.widen hc.1 hc.2 (W.dret C.1 C.2.1 hr (fun t ht _ => ⟨⟨v, S, rfl, hp, by show zH D y base S t.heap; rw [ht]; exact hw.2.1⟩, hw.2.2.1.F ht⟩) hw.2.2.1.2.2 hdg hlocks)
end ZMN
abbrev zMfl (l : Launch) (y0 : MethodName) (ws : List Cond) (rm : Room) (av : List Value) (D : va_G) (y : Nat → ClassId) (base : Nat) (S : zS) (post : UInt32 → zS → Prop) (mc ms : Nat) : Prop := Met l y0 ws rm (va_Pc av (zPre D y base S)) (va_Qf post (zPost D y base) (zA base)) mc ms (zA base)
abbrev zMdb (l : Launch) (y0 : MethodName) (ws : List Cond) (rm : Room) (av : List Value) (D : va_G) (y : Nat → ClassId) (base : Nat) (S : zS) (post : UInt64 → zS → Prop) (mc ms : Nat) : Prop := Met l y0 ws rm (va_Pc av (zPre D y base S)) (va_Qd post (zPost D y base) (zA base)) mc ms (zA base)
theorem zGv.nL {S : zS} {q v e0 : Nat} (h : zK S q = 0) : zGv S (zsQ (zsI (znO S q 3) 48 q 0) 49 q (some e0)) v := zGv.tn (zGv.nO h) (zGv.I.tr zGv.Q) h
