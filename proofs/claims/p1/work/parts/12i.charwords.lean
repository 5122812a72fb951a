def zi8 (p : Int32) : Int32 := p.toInt8.toInt32
theorem zi8_n : ∀ n, n < 256 → ((114 = zi8 (nI n) ↔ nI n = 114) ∧ (102 = zi8 (nI n) ↔ nI n = 102) ∧ (104 = zi8 (nI n) ↔ nI n = 104) ∧ (108 = zi8 (nI n) ↔ nI n = 108) ∧ (116 = zi8 (nI n) ↔ nI n = 116)) := by decide +kernel
theorem zi8_i {p : Int32} (h : 0 ≤ p ∧ p ≤ 255) : (114 = zi8 p ↔ p = 114) ∧ (102 = zi8 p ↔ p = 102) ∧ (104 = zi8 p ↔ p = 104) ∧ (108 = zi8 p ↔ p = 108) ∧ (116 = zi8 p ↔ p = 116) := by
  obtain ⟨A, hA, rfl⟩ := nI_of2 (x := p) (M := 255) (n := 255) rfl (by grind) h.2
  exact zi8_n A (by omega)
theorem zch_n : ∀ n, n < 256 → narrow .char (.int (nI n)) = .int (nI n) ∧ fits .char (.int (nI n)) = true := by decide +kernel
theorem zch_nf {p : Int32} (h : 0 ≤ p ∧ p ≤ 255) : narrow .char (.int p) = .int p ∧ fits .char (.int p) = true := by
  obtain ⟨A, hA, rfl⟩ := nI_of2 (x := p) (M := 255) (n := 255) rfl (by grind) h.2
  exact zch_n A (by omega)
