/-! a new reference, put together -/
theorem zGv.mna {S S1 : zS} {q k N kr K v : Nat} {r : Nat → Nat} (h : zGv (znM S q k N kr K r) S1 v) (hF : zFq S q N r) (hv : zK S v ≠ 0) (hk : k ≠ 0) (hkr : kr ≠ 0) : zK S1 q = k ∧ zN S1 q = N ∧ ∀ i, i < N → zP S1 q i = some (r i) ∧ zK S1 (r i) = kr ∧ zN S1 (r i) = K ∧ ∀ j, zR S1 kr (r i) j = 0 := by
  obtain ⟨a1, a2, a3⟩ := znM_q (S := S) (q := q) (k := k) (N := N) (kr := kr) (K := K) (r := r)
  obtain ⟨e1, e2⟩ := hF.off hv
  have g := h q (by rw [a1]; exact hk) (Ne.symm e1)
  refine ⟨g.1.trans a1, g.2.2.1.trans a2, fun i hi => ?_⟩
  obtain ⟨b1, b2, b3⟩ := znM_r (k := k) (kr := kr) (K := K) hF hi
  have g2 := h (r i) (by rw [b1]; exact hkr) (fun e => e2 (by rw [← e]; exact (hF.row hi).2))
  exact ⟨(congrFun g.2.2.2.2.1 i).trans (a3 i hi), g2.1.trans b1, g2.2.2.1.trans b2, fun j => (congrFun (g2.2.2.2.1 kr) j).trans (b3 j)⟩
theorem zGv.nRe {S S1 : zS} {q k n v : Nat} {f : Nat → Int32} (h : zGv (znR S q k n f) S1 v) (hq : zK S q = 0) (hv : zK S v ≠ 0) (hk : k ≠ 0) : zK S1 q = k ∧ zN S1 q = n ∧ zR S1 k q = f := by
  have g := h q (by rw [zK_nRs]; exact hk) (Ne.symm (zne hq hv))
  exact ⟨g.1.trans (zK_nRs _ _ _ _ _), g.2.2.1.trans (zN_nRs _ _ _ _ _), (g.2.2.2.1 k).trans (zR_nRs _ _ _ _ _)⟩
theorem zGv.nLe {S S1 : zS} {q v e0 : Nat} (h : zGv (zsQ (zsI (znO S q 3) 48 q 0) 49 q (some e0)) S1 v) (hq : zK S q = 0) (hv : zK S v ≠ 0) : zK S1 q = 3 ∧ zI S1 50 q = 0 ∧ zQ S1 49 q = some e0 := by
  have k1 : zK (zsQ (zsI (znO S q 3) 48 q 0) 49 q (some e0)) q = 3 := zK_nOs _ _ _
  have g := h q (by rw [k1]; decide) (Ne.symm (zne hq hv))
  exact ⟨g.1.trans k1, (g.2.1 50).1.trans (show zI (zsI (znO S q 3) 48 q 0) 50 q = 0 from zI_t (by decide) (zI_nOs _ _ _ _)), (g.2.1 49).2.trans (zQ_s _ _ _ _)⟩
def zMb (x q1 q2 q3 q4 q5 q6 : Nat) (r2 r3 r6 : Nat → Nat) (i : Nat) : Nat := if i = 0 then x else if i = 1 then q1 else if i = 2 then q2 else if i = 3 then q3 else if i = 4 then q4 else if i = 5 then q5 else if i = 6 then q6 else if i < 14 then r2 (i - 10) else if i < 22 then r3 (i - 20) else r6 (i - 100)
theorem zMb_2 {x q1 q2 q3 q4 q5 q6 : Nat} {r2 r3 r6 : Nat → Nat} {i : Nat} (h : i < 4) : zMb x q1 q2 q3 q4 q5 q6 r2 r3 r6 (10 + i) = r2 i := by
  unfold zMb
  rw [if_neg (by omega), if_neg (by omega), if_neg (by omega), if_neg (by omega), if_neg (by omega), if_neg (by omega), if_neg (by omega), if_pos (by omega), Nat.add_sub_cancel_left]
theorem zMb_3 {x q1 q2 q3 q4 q5 q6 : Nat} {r2 r3 r6 : Nat → Nat} {i : Nat} (h : i < 2) : zMb x q1 q2 q3 q4 q5 q6 r2 r3 r6 (20 + i) = r3 i := by
  unfold zMb
  rw [if_neg (by omega), if_neg (by omega), if_neg (by omega), if_neg (by omega), if_neg (by omega), if_neg (by omega), if_neg (by omega), if_neg (by omega), if_pos (by omega), Nat.add_sub_cancel_left]
theorem zMb_6 {x q1 q2 q3 q4 q5 q6 : Nat} {r2 r3 r6 : Nat → Nat} {i : Nat} : zMb x q1 q2 q3 q4 q5 q6 r2 r3 r6 (100 + i) = r6 i := by
  unfold zMb
  rw [if_neg (by omega), if_neg (by omega), if_neg (by omega), if_neg (by omega), if_neg (by omega), if_neg (by omega), if_neg (by omega), if_neg (by omega), if_neg (by omega), Nat.add_sub_cancel_left]
theorem zMd_of {S : zS} {x q1 q2 q3 q4 q5 q6 e0 : Nat} {r2 r3 r6 : Nat → Nat} (hx : zK S x = 15 ∧ zQ S 241 x = some q1 ∧ zQ S 242 x = some q2 ∧ zQ S 246 x = some q3 ∧ zQ S 247 x = some q4 ∧ zQ S 248 x = some q5 ∧ zQ S 249 x = some q6) (hI : zI S 243 x = 0 ∧ zI S 244 x = 1 ∧ zI S 245 x = 1)
    (h1 : zK S q1 = 23 ∧ zN S q1 = 4 ∧ zR S 23 q1 = fun _ => 0)
    (h2 : zK S q2 = 35 ∧ zN S q2 = 4 ∧ ∀ i, i < 4 → zP S q2 i = some (r2 i) ∧ zK S (r2 i) = 23 ∧ zN S (r2 i) = 10000 ∧ ∀ j, zR S 23 (r2 i) j = 0) (hd : ∀ i j, i < 4 → j < 4 → r2 i = r2 j → i = j)
    (h3 : zK S q3 = 34 ∧ zN S q3 = 2 ∧ ∀ i, i < 2 → zP S q3 i = some (r3 i) ∧ zK S (r3 i) = 22 ∧ zN S (r3 i) = 0 ∧ ∀ j, zR S 22 (r3 i) j = 0)
    (h4 : zK S q4 = 3 ∧ zI S 50 q4 = 0 ∧ zQ S 49 q4 = some e0) (h5 : zK S q5 = 3 ∧ zI S 50 q5 = 0 ∧ zQ S 49 q5 = some e0)
    (h6 : zK S q6 = 34 ∧ zN S q6 = 128 ∧ ∀ i, i < 128 → zP S q6 i = some (r6 i) ∧ zK S (r6 i) = 22 ∧ zN S (r6 i) = 16 ∧ ∀ j, zR S 22 (r6 i) j = 0) :
    ∃ b : Nat → Nat, b 0 = x ∧ zMd S b ∧ zMd0 S b ∧ (zQ S 49 (b 4) = some e0 ∧ zQ S 49 (b 5) = some e0) ∧ (∀ i j, i < 128 → zR S 22 (b (100 + i)) j = 0) := by
  refine ⟨zMb x q1 q2 q3 q4 q5 q6 r2 r3 r6, rfl, ?_, ?_, ⟨h4.2.2, h5.2.2⟩, fun i j hi => ?_⟩
  · refine ⟨hx.1, hx.2.1, hx.2.2.1, hx.2.2.2.1, hx.2.2.2.2.1, hx.2.2.2.2.2.1, hx.2.2.2.2.2.2, h1.1, h1.2.1, h2.1, h2.2.1, h3.1, h3.2.1, h4.1, h5.1, h6.1, h6.2.1, fun i hi => ?_, fun i j hi hj h => ?_, fun i hi => ?_, fun i hi => ?_⟩
    · rw [zMb_2 hi]
      exact ⟨(h2.2.2 i hi).1, (h2.2.2 i hi).2.1, (h2.2.2 i hi).2.2.1⟩
    · rw [zMb_2 hi, zMb_2 hj]
      exact fun e => h (hd i j hi hj e)
    · rw [zMb_3 hi]
      exact ⟨(h3.2.2 i hi).1, (h3.2.2 i hi).2.1, (h3.2.2 i hi).2.2.1⟩
    · rw [zMb_6]
      exact ⟨(h6.2.2 i hi).1, (h6.2.2 i hi).2.1, (h6.2.2 i hi).2.2.1⟩
  · refine ⟨hI.1, hI.2.1, hI.2.2, h4.2.1, h5.2.1, fun j => congrFun h1.2.2 j, fun i hi j => ?_⟩
    rw [zMb_2 hi]
    exact (h2.2.2 i hi).2.2.2 j
  · rw [zMb_6]
    exact (h6.2.2 i hi).2.2.2 j
