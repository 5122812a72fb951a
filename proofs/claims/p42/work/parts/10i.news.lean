/-! new rows of references, and what constructors leave as it was -/
section ZNP
variable {p : Program} {l : Launch} {e : Env} {R : Room} {s : State} {m : MethodId} {args : Array Value} {below : List Frame} {meth : Method} {c : Code} {H : Heap} {locs : List Loc} {cells slots : Nat} {Q : State → Prop}
variable {cc : ByteArray} {pc nL : Nat} {ls : Array Slot} {rest : List Value} {D : va_G} {y : Nat → ClassId} {base a : Nat} {S : zS} {Ts : List Cond} {own : String}
theorem znewP (C : CallFix p m c cc nL s args Ts own) (hw : zW D y base S s H locs) {k t0 : Nat} {Cn : String} (h1 : 31 ≤ k) (ht : (zT y)[t0]? = some (y k, .object Cn)) {index : Nat} (hcl : Cond.classLink own index Cn ∈ Ts) (hao : Cn ∈ zAo) {n : Int32} {N : Nat} (hn : ¬ n < 0) (hN : n.toNatClampNeg = N) (hbytes : N * 4 ≤ 536870912) (hcells : cells + 1 ≤ R.cells) (hslots : slots + N ≤ R.slots) (hdg : decode cc pc = .ok (.anewarray index, 3))
    (kk : ∀ (q : Nat) (H1 : Heap), zK S q = 0 → zW D y base (znP S q k N (fun _ => none)) s H1 locs → W p l e R s m args below meth c H1 locs (cells + 1) (slots + N) Q (F0 m (pc + 3) ls (.ref q :: rest))) : W p l e R s m args below meth c H locs cells slots Q (F0 m pc ls (.int n :: rest)) := by
  obtain ⟨L, hL, hP, hD⟩ := hw.2.1
  obtain ⟨hx, hb, hml, hown, hts⟩ := C
  refine va_newq (D := D) (C := Cn) hx hb hown (hts _ hcl) (hw.1.2.2.2.2.2.2.1 Cn hao) hw.1.1 hP hD hw.2.2.1 (zA_all hw.2.2.2) hn hN hbytes hcells hslots hdg (fun q cA H1 hK1 hP1 hD1 hS1 => ?_)
  have hcA : cA = y k := zK_last hK1 (t0 := t0) ht
  subst hcA
  obtain ⟨hq, hH⟩ := zH.push (S' := znP S q k N (fun _ => none)) (k := k) hL rfl hP1 hD1 (zE_nP h1)
  exact kk q H1 hq ⟨hw.1, hH, hS1, hw.2.2.2⟩
theorem zast_P (C : CallFix p m c cc nL s args Ts own) (hw : zW D y base S s H locs) {k kv t0 v n : Nat} {r : vw_C} (hk : zK S a = k) (h1 : 31 ≤ k) (ht : (zT y)[t0]? = some (y k, .object r.1)) (hv : zK S v = kv) (hv1 : 0 < kv ∧ kv < 21) (hc : vwCl[kv - 4]? = some r) (hn : zN S a = n) {i : Int32} (hin : vp_in i n) (hdg : decode cc pc = .ok (.aastore, 1))
    (kk : ∀ (H1 : Heap) (locs1 : List Loc), zW D y base (zsP S a (va_up (zP S a) i.toNatClampNeg (some v))) s H1 locs1 → W p l e R s m args below meth c H1 locs1 cells slots Q (F0 m (pc + 1) ls rest)) : W p l e R s m args below meth c H locs cells slots Q (F0 m pc ls (.ref v :: .int i :: .ref a :: rest)) := by
  subst hn
  obtain ⟨L, hL, hP, hD⟩ := hw.2.1
  have haL := hL a (by omega)
  obtain ⟨k9, hk9⟩ := va_pl_get (X := zXo y) (f := zE y S) haL
  obtain ⟨k8, hk8⟩ := va_pl_get (X := zXo y) (f := zE y S) (hL v (by omega))
  have hk7 := hk9
  rw [zE_p hk h1] at hk7
  rw [zE_o hv hv1.2] at hk8
  exact va_astq C.1 C.2.1 hw.1.1 hP hD hw.2.2.1 k9 t0 k8 (kv - 4) hk7 ht hk8 hc hin hdg (fun H1 locs1 hP1 hD1 hS1 => kk H1 locs1 ⟨hw.1, zH.set hL haL rfl hP1 hD hk9 (zE_sP _ hk h1), hS1, hw.2.2.2⟩)
end ZNP
/-- all that stood at addresses in use, v aside, stands as it did -/
def zGv (S S' : zS) (v : Nat) : Prop := ∀ b, zK S b ≠ 0 → b ≠ v → zK S' b = zK S b ∧ (∀ t, zI S' t b = zI S t b ∧ zQ S' t b = zQ S t b) ∧ zN S' b = zN S b ∧ (∀ k, zR S' k b = zR S k b) ∧ zP S' b = zP S b ∧ zJ S' b = zJ S b
theorem zGv.rf {S : zS} {v : Nat} : zGv S S v := fun _ _ _ => ⟨rfl, fun _ => ⟨rfl, rfl⟩, rfl, fun _ => rfl, rfl, rfl⟩
theorem zGv.tr {S S1 S2 : zS} {v : Nat} (h : zGv S S1 v) (h2 : zGv S1 S2 v) : zGv S S2 v := fun b hb hv => by
  obtain ⟨a1, a2, a3, a4, a5, a6⟩ := h b hb hv
  obtain ⟨b1, b2, b3, b4, b5, b6⟩ := h2 b (by rw [a1]; exact hb) hv
  exact ⟨b1.trans a1, fun t => ⟨(b2 t).1.trans (a2 t).1, (b2 t).2.trans (a2 t).2⟩, b3.trans a3, fun k => (b4 k).trans (a4 k), b5.trans a5, b6.trans a6⟩
/-- .. and a thing that was not there yet may change as it likes -/
theorem zGv.tn {S S1 S2 : zS} {v w : Nat} (h : zGv S S1 v) (h2 : zGv S1 S2 w) (hw : zK S w = 0) : zGv S S2 v := fun b hb hv => by
  obtain ⟨a1, a2, a3, a4, a5, a6⟩ := h b hb hv
  obtain ⟨b1, b2, b3, b4, b5, b6⟩ := h2 b (by rw [a1]; exact hb) (zne hw hb)
  exact ⟨b1.trans a1, fun t => ⟨(b2 t).1.trans (a2 t).1, (b2 t).2.trans (a2 t).2⟩, b3.trans a3, fun k => (b4 k).trans (a4 k), b5.trans a5, b6.trans a6⟩
theorem zGv.I {S : zS} {t v : Nat} {x : Int32} : zGv S (zsI S t v x) v := fun _ _ hv => ⟨rfl, fun _ => ⟨zI_a hv rfl, rfl⟩, rfl, fun _ => rfl, rfl, rfl⟩
theorem zGv.Q {S : zS} {t v : Nat} {x : Option Nat} : zGv S (zsQ S t v x) v := fun _ _ hv => ⟨rfl, fun _ => ⟨rfl, zQ_a hv rfl⟩, rfl, fun _ => rfl, rfl, rfl⟩
theorem zGv.P {S : zS} {v : Nat} {f : Nat → Option Nat} : zGv S (zsP S v f) v := fun _ _ hv => ⟨rfl, fun _ => ⟨rfl, rfl⟩, rfl, fun _ => rfl, zP_a hv rfl, rfl⟩
theorem zGv.nO {S : zS} {q k v : Nat} (h : zK S q = 0) : zGv S (znO S q k) v := fun _ hb _ => ⟨zK_nO (zne h hb) rfl, fun _ => ⟨zI_nO (zne h hb) rfl, zQ_nO (zne h hb) rfl⟩, rfl, fun _ => rfl, rfl, rfl⟩
theorem zGv.nR {S : zS} {q k n v : Nat} {f : Nat → Int32} (h : zK S q = 0) : zGv S (znR S q k n f) v := fun _ hb _ => ⟨zK_nR (zne h hb) rfl, fun _ => ⟨rfl, rfl⟩, zN_nR (zne h hb) rfl, fun _ => zR_nR (zne h hb) rfl, rfl, rfl⟩
theorem zGv.nP {S : zS} {q k n v : Nat} {f : Nat → Option Nat} (h : zK S q = 0) : zGv S (znP S q k n f) v := fun _ hb _ => ⟨zK_nP (zne h hb) rfl, fun _ => ⟨rfl, rfl⟩, zN_nP (zne h hb) rfl, fun _ => rfl, zP_nP (zne h hb) rfl, rfl⟩
/-- a thing that is of another kind than v stands as it did -/
theorem zGv.at {S S' : zS} {v b k : Nat} (h : zGv S S' v) (hb : zK S b = k) (hk : k ≠ 0) (hv : zK S v ≠ k) : zK S' b = k ∧ (∀ t, zI S' t b = zI S t b ∧ zQ S' t b = zQ S t b) ∧ zN S' b = zN S b ∧ (∀ k, zR S' k b = zR S k b) ∧ zP S' b = zP S b ∧ zJ S' b = zJ S b := by
  have q := h b (by rw [hb]; exact hk) (fun e => hv (by rw [← e]; exact hb))
  exact ⟨q.1.trans hb, q.2⟩
theorem zWire.grow {S S' : zS} {w tk sn v : Nat} (h : zGv S S' v) (hv : zK S v ≠ 10 ∧ zK S v ≠ 22) (hW : zWire S w tk sn) : zWire S' w tk sn := by
  obtain ⟨h1, h2, h3, h4, h5, h6, h7, h8⟩ := hW
  have q1 := h.at h1 (by decide) hv.1
  have q2 := h.at h4 (by decide) hv.2
  have q3 := h.at h6 (by decide) hv.2
  exact ⟨q1.1, (q1.2.1 162).2.trans h2, (q1.2.1 165).2.trans h3, q2.1, q2.2.2.1.trans h5, q3.1, q3.2.2.1.trans h7, h8⟩
theorem zCap.grow {S S' : zS} {w lv v : Nat} (h : zGv S S' v) (hv : zK S v ≠ 4 ∧ zK S v ≠ 22) (hW : zCap S w lv) : zCap S' w lv := by
  obtain ⟨h1, h2, h4, h5⟩ := hW
  have q1 := h.at h1 (by decide) hv.1
  have q2 := h.at h4 (by decide) hv.2
  exact ⟨q1.1, (q1.2.1 65).2.trans h2, q2.1, q2.2.2.1.trans h5⟩
theorem zTrg.grow {S S' : zS} {t k n m v : Nat} (h : zGv S S' v) (hv : zK S v ≠ 8 ∧ zK S v ≠ 21 ∧ zK S v ≠ 22) (hW : zTrg S t k n m) : zTrg S' t k n m := by
  obtain ⟨h1, h2, h3, h4, h5, h6, h7, h8, h9, h10⟩ := hW
  have q1 := h.at h1 (by decide) hv.1
  have q2 := h.at h5 (by decide) hv.2.1
  have q3 := h.at h7 (by decide) hv.2.2
  have q4 := h.at h9 (by decide) hv.2.2
  exact ⟨q1.1, (q1.2.1 129).2.trans h2, (q1.2.1 130).2.trans h3, (q1.2.1 131).2.trans h4, q2.1, q2.2.2.1.trans h6, q3.1, q3.2.2.1.trans h8, q4.1, q4.2.2.1.trans h10⟩
theorem zK_nR0 {S : zS} {q k n b : Nat} {f : Nat → Int32} (hk : k ≠ 0) (h : zK (znR S q k n f) b = 0) : zK S b = 0 := by
  by_cases e : b = q
  · subst e
    exact absurd ((zK_nRs S b k n f).symm.trans h) hk
  · exact (zK_nR e rfl).symm.trans h
theorem zGv.k0 {S S2 : zS} {v b : Nat} (h : zGv S S2 v) (hv : zK S2 v ≠ 0) (hb : zK S2 b = 0) : zK S b = 0 := by
  refine Decidable.byContradiction fun hn => ?_
  have e := (h b hn (fun e => hv (by rw [← e]; exact hb))).1
  exact hn (e.symm.trans hb)
