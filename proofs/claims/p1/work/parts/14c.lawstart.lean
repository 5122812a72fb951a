/-! what new things leave of the class's object and of the reference -/
theorem zX.gv {S S' : zS} {v : Nat} {a : Nat → Nat} (h : zGv S S' v) (hv : zK S v = 0) (hX : zX S a) : zX S' a := by
  have q : ∀ b k, zK S b = k → k ≠ 0 → zK S' b = k ∧ (∀ t, zI S' t b = zI S t b ∧ zQ S' t b = zQ S t b) ∧ zN S' b = zN S b ∧ (∀ t, zR S' t b = zR S t b) ∧ zP S' b = zP S b ∧ zJ S' b = zJ S b := fun b k hb hk => h.at hb hk (by rw [hv]; exact Ne.symm hk)
  obtain ⟨h1, h2, h3, h4, h5, h6, h7, h8, h9, h10, h11, h12, h13, h14, h15, h16⟩ := hX
  have q0 := q _ _ h1 (by decide)
  have q1 := q _ _ h7 (by decide)
  have q2 := q _ _ h9 (by decide)
  have q4 := q _ _ h11 (by decide)
  refine ⟨q0.1, (q0.2.1 _).2.trans h2, (q0.2.1 _).2.trans h3, (q0.2.1 _).2.trans h4, (q0.2.1 _).2.trans h5, (q0.2.1 _).2.trans h6, q1.1, q1.2.2.1.trans h8, q2.1, q2.2.2.1.trans h10, q4.1, h12.grow h ⟨by rw [hv]; decide, by rw [hv]; decide⟩, h13.grow h ⟨by rw [hv]; decide, by rw [hv]; decide, by rw [hv]; decide⟩, fun i hi => ⟨(congrFun q1.2.2.2.2.1 i).trans (h14 i hi).1, (h14 i hi).2.grow h ⟨by rw [hv]; decide, by rw [hv]; decide⟩⟩, h15, fun i hi => ⟨(congrFun q2.2.2.2.2.1 i).trans (h16 i hi).1, (h16 i hi).2.grow h ⟨by rw [hv]; decide, by rw [hv]; decide⟩⟩⟩
theorem zX0.gv {S S' : zS} {v : Nat} {a : Nat → Nat} (h : zGv S S' v) (hv : zK S v = 0) (hX : zX S a) (h0 : zX0 S a) : zX0 S' a := by
  have q : ∀ b k, zK S b = k → k ≠ 0 → zK S' b = k ∧ (∀ t, zI S' t b = zI S t b ∧ zQ S' t b = zQ S t b) ∧ zN S' b = zN S b ∧ (∀ t, zR S' t b = zR S t b) ∧ zP S' b = zP S b ∧ zJ S' b = zJ S b := fun b k hb hk => h.at hb hk (by rw [hv]; exact Ne.symm hk)
  obtain ⟨h1, h2, h3, h4, h5, h6, h7, h8, h9, h10, h11, h12, h13, h14, h15, h16⟩ := hX
  obtain ⟨g1, g2, g3, g4, g5, g6, g7, g8⟩ := h0
  have q0 := q _ _ h1 (by decide)
  have q3 := q _ _ h13.1 (by decide)
  have q4 := q _ _ h11 (by decide)
  have q6 := q _ _ h12.2.2.1 (by decide)
  refine ⟨fun i hi => ?_, fun i hi => ⟨?_, fun j => ?_⟩, (q3.2.1 _).1.trans g3, (q4.2.1 _).1.trans g4, (q0.2.1 _).1.trans g5, (q0.2.1 _).1.trans g6, (q0.2.1 _).1.trans g7, fun j => (congrFun (q6.2.2.2.1 22) j).trans (g8 j)⟩
  · have qw := q _ _ (h14 i hi).2.1 (by decide)
    exact ⟨(qw.2.1 _).1.trans (g1 i hi).1, (qw.2.1 _).1.trans (g1 i hi).2⟩
  · have qc := q _ _ (h16 i hi).2.1 (by decide)
    exact (qc.2.1 _).1.trans (g2 i hi).1
  · have qr := q _ _ (h16 i hi).2.2.2.1 (by decide)
    exact (congrFun (qr.2.2.2.1 22) j).trans ((g2 i hi).2 j)
theorem zGv.nJ {S : zS} {q n v : Nat} (h : zK S q = 0) : zGv S (znJ S q n) v := fun b hb _ => by
  have e : b ≠ q := zne h hb
  refine ⟨?_, fun t => ⟨rfl, rfl⟩, ?_, fun k => rfl, rfl, ?_⟩
  · exact va_up_ne _ _ e
  · exact va_up_ne _ _ e
  · exact va_up_ne _ _ e
theorem znJ_q {S : zS} {q n : Nat} : zK (znJ S q n) q = 24 ∧ zN (znJ S q n) q = n := ⟨va_up_self _ _ _, va_up_self _ _ _⟩
theorem zMd.gv {S S' : zS} {v e0 : Nat} {b : Nat → Nat} (h : zGv S S' v) (hv : zK S v = 0) (hM : zMd S b) (h0 : zMd0 S b) (hF : zQ S 49 (b 4) = some e0 ∧ zQ S 49 (b 5) = some e0) (hr : ∀ i j, i < 128 → zR S 22 (b (100 + i)) j = 0) : (zMd S' b ∧ zMd0 S' b ∧ zQ S' 49 (b 4) = some e0 ∧ zQ S' 49 (b 5) = some e0) ∧ ∀ i j, i < 128 → zR S' 22 (b (100 + i)) j = 0 := by
  refine ⟨zCls.ref (zCls.gv h hv) hM h0 hF, fun i j hi => ?_⟩
  obtain ⟨-, -, -, -, -, -, -, -, -, -, -, -, -, -, -, -, -, -, -, -, a21⟩ := hM
  have q := h.at (a21 i hi).2.1 (by decide) (by rw [hv]; decide)
  exact (congrFun (q.2.2.2.1 22) j).trans (hr i j hi)
section ZNEWD
variable {p : Program} {l : Launch} {e : Env} {R : Room} {s : State} {m : MethodId} {args : Array Value} {below : List Frame} {meth : Method} {c : Code} {H : Heap} {locs : List Loc} {cells slots : Nat} {Q : State → Prop}
variable {cc : ByteArray} {pc nL : Nat} {ls : Array Slot} {rest st0 : List Value} {D : va_G} {y : Nat → ClassId} {base a : Nat} {S : zS} {Ts : List Cond} {own : String}
/-- a row of doubles, which nobody looks at: it is left out of the pool -/
theorem znewD (C : CallFix p m c cc nL s args Ts own) (hw : zW D y base S s H locs) (harr : Cond.arrayClass .double ∈ Ts) {n : Int32} {N : Nat} (hn : ¬ n < 0) (hN : n.toNatClampNeg = N) (hbytes : N * 8 ≤ 536870912) (hcells : cells + 1 ≤ R.cells) (hslots : slots + N ≤ R.slots) (hdg : decode cc pc = .ok (.newarray .double, 2))
    (kk : ∀ (q : Nat) (H1 : Heap), zW D y base S s H1 locs → W p l e R s m args below meth c H1 locs (cells + 1) (slots + N) Q (F0 m (pc + 2) ls (.ref q :: rest))) : W p l e R s m args below meth c H locs cells slots Q (F0 m pc ls (.int n :: rest)) := by
  obtain ⟨L, hL, hP, hD⟩ := hw.2.1
  obtain ⟨hx, hb, hml, hown, hts⟩ := C
  refine va_newa (D := D) (atype := .double) hx hb (hts _ harr) (ty := .double) rfl hw.1.1 hP hD hw.2.2.1 (zA_all hw.2.2.2) (a0 := (N, .inr (.inr (.inr (.inl (fun _ => 0)))))) (fun _ => rfl) hn hN hbytes hcells hslots hdg (fun q cA H1 hK1 hP1 hD1 hS1 => ?_)
  have hlt : ∀ (k : Nat) (x : Nat × va_E), (zXo y ++ va_pl L (zE y S))[k]? = some x → ((zXo y ++ va_pl L (zE y S)) ++ [(q, .inl (cA, N, .inr (.inr (.inr (.inl (fun _ => 0))))))])[k]? = some x := fun k x hk => by
    rw [List.getElem?_append_left (List.getElem?_eq_some_iff.mp hk).1]
    exact hk
  exact kk q H1 ⟨hw.1, ⟨L, hL, fun k x hk => hP1 k x (hlt k x hk), fun i j x z hi hj e => hD1.1 i j x z (hlt i x hi) (hlt j z hj) e, fun k x hk => hD1.2 k x (hlt k x hk)⟩, hS1, hw.2.2.2⟩
end ZNEWD
def zS0 : zS := (fun _ => 0, fun _ _ => 0, fun _ _ => none, fun _ => 0, fun _ _ _ => 0, fun _ _ => none, fun _ _ => 0)
theorem zH0 {D : va_G} {y : Nat → ClassId} {base : Nat} {H : Heap} (hy : y 94 = 0) : zH D y base zS0 H := by
  have hX0 : zXo y = [] := if_pos hy
  refine ⟨[], fun a h => absurd rfl h, ?_, ?_⟩
  · rw [hX0]
    exact fun k q h => by simp [va_pl] at h
  · rw [hX0]
    exact ⟨fun i j p q h => by simp [va_pl] at h, fun k q h => by simp [va_pl] at h⟩
