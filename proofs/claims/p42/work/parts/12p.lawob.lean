theorem zsI_id (S : zS) (t a : Nat) : zsI S t a (zI S t a) = S := by
  have e : va_up S.2.1 t (va_up (S.2.1 t) a (S.2.1 t a)) = S.2.1 := by
    funext t' a'
    by_cases h : t' = t
    · subst h
      rw [va_up_self]
      by_cases h2 : a' = a
      · subst h2
        rw [va_up_self]
      · rw [va_up_ne _ _ h2]
    · rw [va_up_ne _ _ h]
  show (S.1, va_up S.2.1 t (va_up (S.2.1 t) a (S.2.1 t a)), S.2.2) = S
  rw [e]
  rfl
/-! a new object, and what stays of it -/
theorem zLate.nr {a : Nat → Nat} (hD : zDs a) {j : Nat} (hj : j ∈ zRws) (h : ¬ (30 ≤ j ∧ j ≤ 33)) {k : Nat} : ¬ (k = 22 ∧ ∃ i, i < 4 ∧ a j = a (30 + i)) := by
  rintro ⟨-, i, hi, e⟩
  exact hD j hj (30 + i) (zr30 i hi) (fun q => h (by omega)) e
theorem zNew.late {S S1 : zS} {a : Nat → Nat} (hD : zDs a) (h : zNew S a) (g : zLate S S1 a) : zNew S1 a := by
  obtain ⟨hX, h0, hN⟩ := h
  have e : ∀ t b, ¬ (t = 163 ∨ t = 164) → zI S1 t b = zI S t b := fun t b q => g.2.1 t b q
  obtain ⟨g1, g2, g3, g4, g5, g6, g7, g8⟩ := h0
  refine ⟨zX.fix g.1 hX, ⟨fun i hi => ?_, fun i hi => ⟨?_, fun j => ?_⟩, ?_, ?_, ?_, ?_, ?_, fun j => ?_⟩, zNts.fix g.1 hN⟩
  · rw [e 160 _ (by decide), e 161 _ (by decide)]
    exact g1 i hi
  · rw [e 64 _ (by decide)]
    exact (g2 i hi).1
  · rw [g.2.2.1 22 _ (zLate.nr hD (zr50 i hi) (by omega))]
    exact (g2 i hi).2 j
  · rw [e 128 _ (by decide)]
    exact g3
  · rw [e 112 _ (by decide)]
    exact g4
  · rw [e 181 _ (by decide)]
    exact g5
  · rw [e 182 _ (by decide)]
    exact g6
  · rw [e 183 _ (by decide)]
    exact g7
  · rw [g.2.2.1 22 _ (zLate.nr hD (j := 6) (by decide) (by decide))]
    exact g8 j
theorem zX0.gw {S S1 : zS} {a : Nat → Nat} (g : zGw S S1) (hX : zX S a) (h : zX0 S a) : zX0 S1 a := by
  have hk : ∀ b k, zK S b = k → k ≠ 0 → zK S b ≠ 0 := fun b k q q2 e => q2 (q.symm.trans e)
  have hw := fun i hi => (g _ (hk _ _ (zX.wi hX (w := i) hi).2.1 (by decide))).2.2.2.2
  have hc := fun i hi => (g _ (hk _ _ (zX.ci hX (q := i) hi).2.1 (by decide))).2.2.2.2
  have hv := fun i hi => (g _ (hk _ _ (zX.ci hX (q := i) hi).2.2.2.1 (by decide))).2.2.2.1
  obtain ⟨g1, g2, g3, g4, g5, g6, g7, g8⟩ := h
  obtain ⟨x1, -, -, -, -, -, -, -, -, -, x11, x12, x13, -⟩ := hX
  have e0 := (g _ (hk _ _ x1 (by decide))).2.2.2.2
  have e3 := (g _ (hk _ _ x13.1 (by decide))).2.2.2.2
  have e4 := (g _ (hk _ _ x11 (by decide))).2.2.2.2
  have e6 := (g _ (hk _ _ x12.2.2.1 (by decide))).2.2.2.1
  refine ⟨fun i hi => ?_, fun i hi => ⟨?_, fun j => ?_⟩, ?_, ?_, ?_, ?_, ?_, fun j => ?_⟩
  · rw [(hw i hi 160).1, (hw i hi 161).1]
    exact g1 i hi
  · rw [(hc i hi 64).1]
    exact (g2 i hi).1
  · rw [hv i hi 22]
    exact (g2 i hi).2 j
  · rw [(e3 128).1]
    exact g3
  · rw [(e4 112).1]
    exact g4
  · rw [(e0 181).1]
    exact g5
  · rw [(e0 182).1]
    exact g6
  · rw [(e0 183).1]
    exact g7
  · rw [e6 22]
    exact g8 j
theorem zNew.gw {S S1 : zS} {a : Nat → Nat} (g : zGw S S1) (h : zNew S a) : zNew S1 a := ⟨zX.gw g h.1, zX0.gw g h.1 h.2.1, zNts.gw g h.2.2⟩
/-- a number of the object is set to what it is -/
theorem zNew.same {S : zS} {a : Nat → Nat} {t b : Nat} {v : Int32} (h : zNew S a) (hv : zI S t b = v) : zNew (zsI S t b v) a := by
  have e : zsI S t b v = S := by
    subst hv
    exact zsI_id S t b
  rw [e]
  exact h
theorem zWv.new {S : zS} {a : Nat → Nat} (h : zNew S a) : zWv S a (fun _ _ => false) (fun _ => 0) := fun w hw => by
  obtain ⟨e1, e2⟩ := h.2.1.1 w hw
  refine ⟨Or.inl e1, ⟨e2, fun i j _ q => absurd q (Nat.not_lt_zero _), fun j q => absurd q (Nat.not_lt_zero _)⟩, Nat.zero_le 300, fun t => ?_⟩
  show xor (decide (zI S 160 (a (10 + w)) = 1)) (zod (zcu (zR S 22 (a (20 + w))) 0 t)) = false
  rw [e1]
  rfl
theorem zOb.new {S : zS} {a : Nat → Nat} (h : zNew S a) : zOb S a (fun _ _ => false) (fun _ => 0) 1 1 (fun _ => 0) 0 [] := by
  have h0 := h.2.1
  exact ⟨h.1, h.2.2, zWv.new h, h0.2.2.2.2.1, h0.2.2.2.2.2.1, h0.2.2.2.2.2.2.1, funext fun j => h0.2.2.2.2.2.2.2 j, (h0.2.1 1 (by decide)).1, ⟨h0.2.2.1, fun j q => absurd q (Nat.not_lt_zero _)⟩, ⟨h0.2.2.2.1, by decide, fun j x q => absurd q (by intro q; cases q)⟩⟩
theorem zWv.gw {S S1 : zS} {a : Nat → Nat} {F : Nat → Int → Bool} {N : Nat → Nat} (g : zGw S S1) (hX : zX S a) (h : zWv S a F N) : zWv S1 a F N := fun w hw => by
  have hk : ∀ b k, zK S b = k → k ≠ 0 → zK S b ≠ 0 := fun b k q q2 e => q2 (q.symm.trans e)
  have hW := (zX.wi hX (w := w) hw).2
  have e1 := (g _ (hk _ _ hW.1 (by decide))).2.2.2.2
  have e2 := (g _ (hk _ _ hW.2.2.2.1 (by decide))).2.2.2.1 22
  obtain ⟨g1, g2, g3, g4⟩ := h w hw
  refine ⟨by rw [(e1 160).1]; exact g1, g2.eq (e1 161).1 e2, g3, fun t => ?_⟩
  rw [zlv.eq (e1 160).1 e2]
  exact g4 t
theorem zOb.gw {S S1 : zS} {a : Nat → Nat} {F : Nat → Int → Bool} {N : Nat → Nat} {A1 A2 : Int32} {rg : Nat → Int32} {ns : Nat} {L : List zNt} (g : zGw S S1) (h : zOb S a F N A1 A2 rg ns L) : zOb S1 a F N A1 A2 rg ns L := by
  have hk : ∀ b k, zK S b = k → k ≠ 0 → zK S b ≠ 0 := fun b k q q2 e => q2 (q.symm.trans e)
  obtain ⟨hX, h2, h3, h4, h5, h6, h7, h8, h9, h10⟩ := h
  have hc := (g _ (hk _ _ (zX.ci hX (q := 1) (by decide)).2.1 (by decide))).2.2.2.2
  have hX' := hX
  obtain ⟨x1, -, -, -, -, -, -, -, -, -, x11, x12, x13, -⟩ := hX
  have e0 := (g _ (hk _ _ x1 (by decide))).2.2.2.2
  have e3 := (g _ (hk _ _ x13.1 (by decide))).2.2.2.2
  have e6 := (g _ (hk _ _ x12.2.2.1 (by decide))).2.2.2.1
  have e7 := (g _ (hk _ _ x13.2.2.2.2.1 (by decide))).2.2.2.1
  have e9 := (g _ (hk _ _ x13.2.2.2.2.2.2.2.2.1 (by decide))).2.2.2.1
  exact ⟨zX.gw g hX', zNts.gw g h2, zWv.gw g hX' h3, (e0 181).1.trans h4, (e0 182).1.trans h5, (e0 183).1.trans h6, (e6 22).trans h7, (hc 64).1.trans h8, h9.eq (e3 128).1 (e7 21) (e9 22), zNo.gw g h2 h10⟩
theorem zCp.gw {S S1 : zS} {a : Nat → Nat} {q mm : Nat} {M : Nat → Nat → Bool} (g : zGw S S1) (hX : zX S a) (hq : q < 2) (h : zCp S (a (40 + q)) (a (50 + q)) mm M) : zCp S1 (a (40 + q)) (a (50 + q)) mm M := by
  have hk : ∀ b k, zK S b = k → k ≠ 0 → zK S b ≠ 0 := fun b k q q2 e => q2 (q.symm.trans e)
  have hC := (zX.ci hX (q := q) hq).2
  have e1 := (g _ (hk _ _ hC.1 (by decide))).2.2.2.2
  have e2 := (g _ (hk _ _ hC.2.2.1 (by decide))).2.2.2.1
  obtain ⟨g1, g2, g3⟩ := h
  refine ⟨(e1 64).1.trans g1, g2, fun w i hw hi => ?_⟩
  rw [e2 22]
  exact g3 w i hw hi
/-- the level ahead of the first flip -/
theorem zOb.idle {S : zS} {a : Nat → Nat} {F : Nat → Int → Bool} {N : Nat → Nat} {A1 A2 : Int32} {rg : Nat → Int32} {ns w : Nat} {L : List zNt} {b : Bool} (h : zOb S a F N A1 A2 rg ns L) (hw : w < 4) : zOb (zsI S 160 (a (10 + w)) (zb (b = true))) a (zup F w (fun t => xor (F w t) (xor (decide (zI S 160 (a (10 + w)) = 1)) b))) N A1 A2 rg ns L := by
  obtain ⟨hX, h2, h3, h4, h5, h6, h7, h8, h9, h10⟩ := h
  have e : ∀ t c, t ≠ 160 → zI (zsI S 160 (a (10 + w)) (zb (b = true))) t c = zI S t c := fun t c q => zI_t (by exact q) rfl
  refine ⟨zX.fix zFix.I hX, zNts.fix zFix.I h2, fun v hv => ?_, (e _ _ (by decide)).trans h4, (e _ _ (by decide)).trans h5, (e _ _ (by decide)).trans h6, h7, (e _ _ (by decide)).trans h8, h9.eq (e _ _ (by decide)) rfl rfl, ?_⟩
  · obtain ⟨g1, g2, g3, g4⟩ := h3 v hv
    by_cases q : v = w
    · subst q
      rw [zup_s]
      refine ⟨?_, g2.eq (e _ _ (by decide)) rfl, g3, fun t => ?_⟩
      · rw [zI_s]
        exact zb_01 _
      · rw [← g4 t]
        show xor (decide (zI (zsI S 160 (a (10 + v)) (zb (b = true))) 160 (a (10 + v)) = 1)) (zod (zcu (zR S 22 (a (20 + v))) (N v) t)) = xor (xor (decide (zI S 160 (a (10 + v)) = 1)) (zod (zcu (zR S 22 (a (20 + v))) (N v) t))) (xor (decide (zI S 160 (a (10 + v)) = 1)) b)
        rw [zI_s]
        generalize zod (zcu (zR S 22 (a (20 + v))) (N v) t) = z
        cases b
        · rw [show decide (zb (false = true) = 1) = false from rfl]
          cases z <;> cases decide (zI S 160 (a (10 + v)) = 1) <;> rfl
        · rw [show decide (zb (true = true) = 1) = true from rfl]
          cases z <;> cases decide (zI S 160 (a (10 + v)) = 1) <;> rfl
    · rw [zup_n q]
      have e1 : zI (zsI S 160 (a (10 + w)) (zb (b = true))) 160 (a (10 + v)) = zI S 160 (a (10 + v)) := zI_a (hX.wd hv hw q).1 rfl
      refine ⟨by rw [e1]; exact g1, g2.eq (e _ _ (by decide)) rfl, g3, fun t => ?_⟩
      rw [zlv.eq e1 rfl]
      exact g4 t
  · obtain ⟨n1, n2, n3⟩ := h10
    exact ⟨(e _ _ (by decide)).trans n1, n2, n3⟩
