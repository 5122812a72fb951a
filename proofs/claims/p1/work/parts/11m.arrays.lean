/-! rows of truth values: copied, put into an array of arrays -/
section ZAR
variable {p : Program} {l : Launch} {e : Env} {R : Room} {s : State} {m : MethodId} {args : Array Value} {below : List Frame} {meth : Method} {c : Code} {H : Heap} {locs : List Loc} {cells slots : Nat} {Q : State → Prop}
variable {cc : ByteArray} {pc nL : Nat} {ls : Array Slot} {rest : List Value} {D : va_G} {y : Nat → ClassId} {base a : Nat} {S : zS} {Ts : List Cond} {own : String}
theorem zclone (C : CallFix p m c cc nL s args Ts own) (hw : zW D y base S s H locs) (hk : zK S a = 23) {n : Nat} (hn : zN S a = n) (hz : ∀ j, zR S 23 a j = 0) (hls : ls.size = nL) {index : Nat} (h1 : Cond.methodLink own index ⟨"[Z", "clone", "()Ljava/lang/Object;"⟩ ∈ Ts) (h2 : Cond.sameMethod "[Z" "java/lang/Object" "clone" "()Ljava/lang/Object;" ∈ Ts) (h3 : Cond.native ⟨"java/lang/Object", "clone", "()Ljava/lang/Object;"⟩ ∈ Ts) (h4 : Cond.instanceMethod ⟨"java/lang/Object", "clone", "()Ljava/lang/Object;"⟩ ∈ Ts) (h5 : Cond.selects "[Z" ⟨"[Z", "clone", "()Ljava/lang/Object;"⟩ ⟨"java/lang/Object", "clone", "()Ljava/lang/Object;"⟩ ∈ Ts)
    (hframes : 1 ≤ R.frames) (hlocals : (rest.map fun v => v.category).sum + 14 ≤ R.locals) (hcells : cells + 1 ≤ R.cells) (hslots : slots + n ≤ R.slots) (hdg : decode cc pc = .ok (.invokevirtual index, 3))
    (kk : ∀ (q : Nat) (H1 : Heap), zK S q = 0 → zW D y base (znR S q 23 n (zR S 23 a)) s H1 locs → W p l e R s m args below meth c H1 locs (cells + 1) (slots + n) Q (F0 m (pc + 3) ls (.ref q :: rest))) : W p l e R s m args below meth c H locs cells slots Q (F0 m pc ls (.ref a :: rest)) := by
  subst hn
  obtain ⟨L, hL, hP, hD⟩ := hw.2.1
  obtain ⟨hx, hb, hml, hown, hts⟩ := C
  obtain ⟨k9, hk9⟩ := va_pl_get (X := zXo y) (f := zE y S) (hL a (by omega))
  rw [zE_r hk (by omega) (by omega)] at hk9
  refine va_clone (D := D) (ad := "[Z") (ty := .boolean) (x := (zN S a, .inl (zR S 23 a))) hx hb (hml.trans hls.symm) hown (hts _ h1) (hts _ h2) (hts _ h3) (hts _ h4) (hts _ h5) (hw.1.2.2.2.1 _ (by decide +kernel)) hw.1.1 hP hD hw.2.2.1 (zA_all hw.2.2.2) k9 2 hk9 rfl (hw.1.1.2 2 _ rfl).2 (fun i v hv => ?_) hframes hlocals hcells hslots hdg (fun q H1 hK1 hP1 hD1 hS1 => ?_)
  · have hlt : i < zN S a := by
      have := (Array.getElem?_eq_some_iff.mp hv).1
      rwa [show (vp_cell (y 23) (zN S a, .inl (zR S 23 a))).slots.size = zN S a from arrV_size _ _ _] at this
    rw [show (vp_cell (y 23) (zN S a, .inl (zR S 23 a))).slots[i]? = some (.int (zR S 23 a i)) from arrV_read _ _ hlt] at hv
    cases hv
    rw [hz]
    rfl
  · obtain ⟨hq, hH⟩ := zH.push (S' := znR S q 23 (zN S a) (zR S 23 a)) (k := 23) hL rfl hP1 hD1 (zE_nR (by omega) (by omega))
    exact kk q H1 hq ⟨hw.1, hH, hS1, hw.2.2.2⟩
theorem zcastA (C : CallFix p m c cc nL s args Ts own) (hw : zW D y base S s H locs) (hk : zK S a = 23) {index : Nat} (hlink : Cond.classLink own index "[Z" ∈ Ts) (hdg : decode cc pc = .ok (.checkcast index, 3))
    (kk : W p l e R s m args below meth c H locs cells slots Q (F0 m (pc + 3) ls (.ref a :: rest))) : W p l e R s m args below meth c H locs cells slots Q (F0 m pc ls (.ref a :: rest)) := by
  obtain ⟨L, hL, hP, hD⟩ := hw.2.1
  obtain ⟨hx, hb, hml, hown, hts⟩ := C
  obtain ⟨k9, hk9⟩ := va_pl_get (X := zXo y) (f := zE y S) (hL a (by omega))
  rw [zE_r hk (by omega) (by omega)] at hk9
  exact va_castA hx hb hown (hts _ hlink) hP k9 hk9 (hw.1.1.2 2 _ rfl).2 hdg kk
theorem zanewA (C : CallFix p m c cc nL s args Ts own) (hw : zW D y base S s H locs) {index : Nat} (hcl : Cond.classLink own index "[Z" ∈ Ts) {n : Int32} {N : Nat} (hn : ¬ n < 0) (hN : n.toNatClampNeg = N) (hbytes : N * 4 ≤ 536870912) (hcells : cells + 1 ≤ R.cells) (hslots : slots + N ≤ R.slots) (hdg : decode cc pc = .ok (.anewarray index, 3))
    (kk : ∀ (q : Nat) (H1 : Heap), zK S q = 0 → zW D y base (znP S q 35 N (fun _ => none)) s H1 locs → W p l e R s m args below meth c H1 locs (cells + 1) (slots + N) Q (F0 m (pc + 3) ls (.ref q :: rest))) : W p l e R s m args below meth c H locs cells slots Q (F0 m pc ls (.int n :: rest)) := by
  subst hN
  obtain ⟨L, hL, hP, hD⟩ := hw.2.1
  obtain ⟨hx, hb, hml, hown, hts⟩ := C
  have hS := hw.2.2.1
  refine W.anewA (t := .boolean) hx hb hown (hts _ hcl) (va_AOA.use hw.1.2.2.2.2.2.2.2.1.2.1) rfl hdg rfl hn hbytes hcells hslots fun cA kA comp f1 f2 f3 f4 => ?_
  have hcA : cA = y 35 := Option.some.inj (f1.symm.trans (hw.1.1.2 8 _ rfl).2)
  subst hcA
  generalize hH1 : H.push ({ cls := y 35, slots := Array.replicate n.toNatClampNeg .null, vm := .none } : Cell) = H1
  have z1 : H1.size = H.size + 1 := by rw [← hH1, Array.size_push]
  have e1 : H1[H.size]? = some (arrV (y 35) n.toNatClampNeg (fun _ => .null)) := by rw [← hH1, Array.getElem?_push_size, ← arrV_new]
  have o1 : ∀ q : Nat, q < H.size → H1[q]? = H[q]? := fun q hq => by rw [← hH1, Array.getElem?_push, if_neg (Nat.ne_of_lt hq)]
  have hk : ∀ (k : Nat) (x : Nat × va_E), (zXo y ++ va_pl L (zE y S))[k]? = some x → H1[x.1]? = H[x.1]? := fun k x hx => o1 x.1 ((hP k x hx).lt)
  have hP1 : va_P D vwCl ((zXo y ++ va_pl L (zE y S)) ++ [(H.size, .inl (y 35, n.toNatClampNeg, .inr (.inr (.inr (.inr (fun _ => none))))))]) H1 := (hP.kept hk).app (fun k x hx => by
    have hz : k < 1 := (List.getElem?_eq_some_iff.mp hx).1
    rw [show k = 0 by omega] at hx
    cases hx
    show H1[H.size]? = some (vp_cell _ _)
    rw [vp_cell_q]
    exact e1)
  have hD1 := hD.push hP (e := .inl (y 35, n.toNatClampNeg, .inr (.inr (.inr (.inr (fun _ => none)))))) rfl (zA_all hw.2.2.2 _ hS.1)
  obtain ⟨hq, hH⟩ := zH.push (S' := znP S H.size 35 n.toNatClampNeg (fun _ => none)) (k := 35) hL rfl hP1 hD1 (zE_nP (by omega))
  exact kk H.size H1 hq ⟨hw.1, hH, ⟨Nat.le_trans hS.1 (by omega), fun x h1 h2 => (o1 x (Nat.lt_of_lt_of_le h1 hS.1)).trans (hS.2.1 x h1 h2), hS.2.2⟩, hw.2.2.2⟩
theorem zastA (C : CallFix p m c cc nL s args Ts own) (hw : zW D y base S s H locs) {v n : Nat} (hk : zK S a = 35) (hv : zK S v = 23) (hn : zN S a = n) {i : Int32} (hin : vp_in i n) (hdg : decode cc pc = .ok (.aastore, 1))
    (kk : ∀ (H1 : Heap) (locs1 : List Loc), zW D y base (zsP S a (va_up (zP S a) i.toNatClampNeg (some v))) s H1 locs1 → W p l e R s m args below meth c H1 locs1 cells slots Q (F0 m (pc + 1) ls rest)) : W p l e R s m args below meth c H locs cells slots Q (F0 m pc ls (.ref v :: .int i :: .ref a :: rest)) := by
  subst hn
  obtain ⟨L, hL, hP, hD⟩ := hw.2.1
  have haL := hL a (by omega)
  obtain ⟨k9, hk9⟩ := va_pl_get (X := zXo y) (f := zE y S) haL
  obtain ⟨k8, hk8⟩ := va_pl_get (X := zXo y) (f := zE y S) (hL v (by omega))
  have hk7 := hk9
  rw [zE_p hk (by omega)] at hk7
  rw [zE_r hv (by omega) (by omega)] at hk8
  have hlt : i.toNatClampNeg < zN S a := Nat.not_le.mp fun q => hin (Or.inr q)
  have h0 : ¬ i < 0 := fun q => hin (Or.inl q)
  obtain ⟨⟨⟨kA, k1, k2⟩, -⟩, -⟩ := hw.1.2.2.2.2.2.2.2.1
  obtain ⟨kC, hkC, -⟩ := Vm.findClass_spec (hw.1.1.2 2 _ rfl).2
  refine W.aast C.1 C.2.1 (hP k9 _ hk7) (fun q h => by cases h) (fun h => by cases h) k1 k2 rfl hkC ⟨h0, by show _ < (arrV _ _ _).slots.size; rw [arrV_size]; exact hlt⟩ (hP k8 _ hk8) (fun q h => by cases h) hkC (va_asg _ _) rfl rfl hdg fun H1 e z oq => ?_
  refine kk H1 _ ⟨hw.1, zH.set hL haL rfl (hP.set hD hk7 (e := .inl (y 35, zN S a, .inr (.inr (.inr (.inr (va_up (zP S a) i.toNatClampNeg (some v))))))) ?_ oq) hD hk9 (zE_sP _ hk (by omega)), hw.2.2.1.put z oq (hD.2 k9 _ hk7), hw.2.2.2⟩
  show H1[a]? = some (vp_cell _ _)
  rw [e]
  rw [vp_cell_q, vp_cell_q, arrV_store]
  congr 2
  funext q
  by_cases hq : q = i.toNatClampNeg
  · subst hq
    simp [updV, va_up, va_rf]
  · simp [updV, va_up, hq]
end ZAR
