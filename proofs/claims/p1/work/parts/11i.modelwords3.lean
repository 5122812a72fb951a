/-- the lists of a new reference have an array -/
def zMdE (S : zS) (b : Nat → Nat) : Prop := (∃ e, zQ S 49 (b 4) = some e) ∧ ∃ e, zQ S 49 (b 5) = some e
theorem zMdE.cls {S S' : zS} {b : Nat → Nat} (h : zCls S S') (hM : zMd S b) (hE : zMdE S b) : zMdE S' b := by
  obtain ⟨⟨e, he⟩, e5, he5⟩ := hE
  have k4 := h (b 4) (by rw [hM.2.2.2.2.2.2.2.2.2.2.2.2.2.1]; decide)
  have k5 := h (b 5) (by rw [hM.2.2.2.2.2.2.2.2.2.2.2.2.2.2.1]; decide)
  exact ⟨⟨e, (k4.2.2.2.2.2 49 (Or.inl (by decide))).2.trans he⟩, e5, (k5.2.2.2.2.2 49 (Or.inl (by decide))).2.trans he5⟩
