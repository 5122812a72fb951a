/-! THE REFERENCE, as it is when it is new: b 0 itself, b 1 its idles, b 2 its flips (rows b 10 ..), b 3 its samples (rows b 20 ..), b 4 its steps, b 5 its notes, b 6 its registers (rows b 100 ..) -/
def zMd (S : zS) (b : Nat → Nat) : Prop := zK S (b 0) = 15 ∧ zQ S 241 (b 0) = some (b 1) ∧ zQ S 242 (b 0) = some (b 2) ∧ zQ S 246 (b 0) = some (b 3) ∧ zQ S 247 (b 0) = some (b 4) ∧ zQ S 248 (b 0) = some (b 5) ∧ zQ S 249 (b 0) = some (b 6) ∧ zK S (b 1) = 23 ∧ zN S (b 1) = 4 ∧ zK S (b 2) = 35 ∧ zN S (b 2) = 4 ∧ zK S (b 3) = 34 ∧ zN S (b 3) = 2 ∧ zK S (b 4) = 3 ∧ zK S (b 5) = 3 ∧ zK S (b 6) = 34 ∧ zN S (b 6) = 128 ∧ (∀ i, i < 4 → zP S (b 2) i = some (b (10 + i)) ∧ zK S (b (10 + i)) = 23 ∧ zN S (b (10 + i)) = 10000) ∧ (∀ i j, i < 4 → j < 4 → i ≠ j → b (10 + i) ≠ b (10 + j)) ∧ (∀ i, i < 2 → zP S (b 3) i = some (b (20 + i)) ∧ zK S (b (20 + i)) = 22 ∧ zN S (b (20 + i)) = 0) ∧ (∀ i, i < 128 → zP S (b 6) i = some (b (100 + i)) ∧ zK S (b (100 + i)) = 22 ∧ zN S (b (100 + i)) = 16)
def zMd0 (S : zS) (b : Nat → Nat) : Prop := zI S 243 (b 0) = 0 ∧ zI S 244 (b 0) = 1 ∧ zI S 245 (b 0) = 1 ∧ zI S 50 (b 4) = 0 ∧ zI S 50 (b 5) = 0 ∧ (∀ j, zR S 23 (b 1) j = 0) ∧ (∀ i, i < 4 → ∀ j, zR S 23 (b (10 + i)) j = 0)
theorem zMd.cls {S S' : zS} {b : Nat → Nat} (h : zCls S S') (hM : zMd S b) : zMd S' b := by
  obtain ⟨a1, a2, a3, a4, a5, a6, a7, a8, a9, a10, a11, a12, a13, a14, a15, a16, a17, a18, a19, a20, a21⟩ := hM
  have k0 := h (b 0) (by rw [a1]; decide)
  have k1 := h (b 1) (by rw [a8]; decide)
  have k2 := h (b 2) (by rw [a10]; decide)
  have k3 := h (b 3) (by rw [a12]; decide)
  have k4 := h (b 4) (by rw [a14]; decide)
  have k5 := h (b 5) (by rw [a15]; decide)
  have k6 := h (b 6) (by rw [a16]; decide)
  have q : ∀ t, 192 ≤ t → zQ S' t (b 0) = zQ S t (b 0) := fun t ht => (k0.2.2.2.2.2 t (Or.inr ht)).2
  refine ⟨k0.1.trans a1, (q _ (by decide)).trans a2, (q _ (by decide)).trans a3, (q _ (by decide)).trans a4, (q _ (by decide)).trans a5, (q _ (by decide)).trans a6, (q _ (by decide)).trans a7, k1.1.trans a8, k1.2.1.trans a9, k2.1.trans a10, k2.2.1.trans a11, k3.1.trans a12, k3.2.1.trans a13, k4.1.trans a14, k5.1.trans a15, k6.1.trans a16, k6.2.1.trans a17, fun i hi => ?_, a19, fun i hi => ?_, fun i hi => ?_⟩
  · obtain ⟨c1, c2, c3⟩ := a18 i hi
    have r := h (b (10 + i)) (by rw [c2]; decide)
    exact ⟨(congrFun k2.2.2.1 i).trans c1, r.1.trans c2, r.2.1.trans c3⟩
  · obtain ⟨c1, c2, c3⟩ := a20 i hi
    have r := h (b (20 + i)) (by rw [c2]; decide)
    exact ⟨(congrFun k3.2.2.1 i).trans c1, r.1.trans c2, r.2.1.trans c3⟩
  · obtain ⟨c1, c2, c3⟩ := a21 i hi
    have r := h (b (100 + i)) (by rw [c2]; decide)
    exact ⟨(congrFun k6.2.2.1 i).trans c1, r.1.trans c2, r.2.1.trans c3⟩
theorem zMd0.cls {S S' : zS} {b : Nat → Nat} (h : zCls S S') (hM : zMd S b) (h0 : zMd0 S b) : zMd0 S' b := by
  obtain ⟨a1, a2, a3, a4, a5, a6, a7, a8, a9, a10, a11, a12, a13, a14, a15, a16, a17, a18, a19, a20, a21⟩ := hM
  obtain ⟨z1, z2, z3, z4, z5, z6, z7⟩ := h0
  have k0 := h (b 0) (by rw [a1]; decide)
  have k1 := h (b 1) (by rw [a8]; decide)
  have k4 := h (b 4) (by rw [a14]; decide)
  have k5 := h (b 5) (by rw [a15]; decide)
  refine ⟨(k0.2.2.2.2.2 _ (Or.inr (by decide))).1.trans z1, (k0.2.2.2.2.2 _ (Or.inr (by decide))).1.trans z2, (k0.2.2.2.2.2 _ (Or.inr (by decide))).1.trans z3, (k4.2.2.2.2.2 _ (Or.inl (by decide))).1.trans z4, (k5.2.2.2.2.2 _ (Or.inl (by decide))).1.trans z5, fun j => (congrFun k1.2.2.2.2.1 j).trans (z6 j), fun i hi j => ?_⟩
  have r := h (b (10 + i)) (by rw [(a18 i hi).2.1]; decide)
  exact (congrFun r.2.2.2.2.1 j).trans (z7 i hi j)
theorem zMd_f {S : zS} {b : Nat → Nat} (hM : zMd S b) (h0 : zMd0 S b) {p : Int32} (h : 0 ≤ p ∧ p ≤ 3) : ∃ w : Nat, zP S (b 2) p.toNatClampNeg = some w ∧ zK S w = 23 ∧ zN S w = 10000 ∧ (∀ j, zR S 23 w j = 0) ∧ w = b (10 + p.toNatClampNeg) := by
  obtain ⟨-, -, -, -, -, -, -, -, -, -, -, -, -, -, -, -, -, hw, -, -, -⟩ := hM
  have h4 := z_cl4 h
  exact ⟨_, (hw _ h4).1, (hw _ h4).2.1, (hw _ h4).2.2, h0.2.2.2.2.2.2 _ h4, rfl⟩
theorem zMd_s {S : zS} {b : Nat → Nat} (hM : zMd S b) {p : Int32} (h : 0 ≤ p ∧ p ≤ 1) : ∃ w : Nat, zP S (b 3) p.toNatClampNeg = some w ∧ zK S w = 22 ∧ zN S w = 0 := by
  obtain ⟨-, -, -, -, -, -, -, -, -, -, -, -, -, -, -, -, -, -, -, hw, -⟩ := hM
  have h4 := z_cl2 h
  exact ⟨_, (hw _ h4).1, (hw _ h4).2.1, (hw _ h4).2.2⟩
theorem z_cl128 {p : Int32} (h : 0 ≤ p ∧ p ≤ 127) : p.toNatClampNeg < 128 := by
  have h2 := h.2
  rw [Int32.le_iff_toInt_le] at h2
  show p.toInt.toNat < 128
  have : (127 : Int32).toInt = 127 := rfl
  omega
theorem zMd_r {S : zS} {b : Nat → Nat} (hM : zMd S b) {p : Int32} (h : 0 ≤ p ∧ p ≤ 127) : ∃ w : Nat, zP S (b 6) p.toNatClampNeg = some w ∧ zK S w = 22 ∧ zN S w = 16 ∧ w = b (100 + p.toNatClampNeg) := by
  obtain ⟨-, -, -, -, -, -, -, -, -, -, -, -, -, -, -, -, -, -, -, -, hw⟩ := hM
  have h4 := z_cl128 h
  exact ⟨_, (hw _ h4).1, (hw _ h4).2.1, (hw _ h4).2.2, rfl⟩
theorem zlg_lt {a b : Int32} : lg_cmp a.toInt64 b.toInt64 < 0 ↔ a < b := by
  rw [lg_cmp_lt, Int64.lt_iff_toInt_lt, Int32.toInt_toInt64, Int32.toInt_toInt64, ← Int32.lt_iff_toInt_lt]
theorem zlg_gt {a b : Int32} : 0 < lg_cmp a.toInt64 b.toInt64 ↔ b < a := by
  rw [lg_cmp_gt, Int64.lt_iff_toInt_lt, Int32.toInt_toInt64, Int32.toInt_toInt64, ← Int32.lt_iff_toInt_lt]
