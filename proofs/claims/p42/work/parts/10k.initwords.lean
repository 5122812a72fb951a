/-! Probehall's constructor: its wires, its captures -/
def zB1 (S S2 : zS) (x q : Nat) (f : Nat → Nat) (i : Nat) : Prop := zGv S S2 x ∧ (∀ t, zI S2 t x = zI S t x) ∧ zK S2 x = 11 ∧ zQ S2 176 x = some q ∧ zK S2 q = 32 ∧ zN S2 q = 4 ∧ (∀ j, j < i → zP S2 q j = some (f (10 + j)) ∧ zWire S2 (f (10 + j)) (f (20 + j)) (f (30 + j)) ∧ zI S2 160 (f (10 + j)) = 0 ∧ zI S2 161 (f (10 + j)) = 0) ∧ (∀ j j', j < i → j' < i → j ≠ j' → f (10 + j) ≠ f (10 + j') ∧ f (30 + j) ≠ f (30 + j'))
/-- all that stood stands, when something new came -/
theorem zGv.same {S S' : zS} {v b k : Nat} (h : zGv S S' v) (hv : zK S v = 0) (hb : zK S b = k) (hk : k ≠ 0) : zK S' b = k ∧ (∀ t, zI S' t b = zI S t b ∧ zQ S' t b = zQ S t b) ∧ zN S' b = zN S b ∧ (∀ k, zR S' k b = zR S k b) ∧ zP S' b = zP S b ∧ zJ S' b = zJ S b := h.at hb hk (by rw [hv]; exact Ne.symm hk)
theorem zB1.step {S S2 S4 : zS} {x q q8 i : Nat} {f : Nat → Nat} (h : zB1 S S2 x q f i) (hi : i < 4) (hq : zK S q = 0) (h8 : zK S2 q8 = 0) {tk sn : Nat} (hV : zWire S4 q8 tk sn) (h0 : zI S4 160 q8 = zI (znO S2 q8 10) 160 q8) (h1 : zI S4 161 q8 = zI (znO S2 q8 10) 161 q8) (hsn : zK (znO S2 q8 10) sn = 0) (hg : zGv (znO S2 q8 10) S4 q8) :
    zB1 S (zsP S4 q (va_up (zP S4 q) i (some q8))) x q (fun m => if m = 10 + i then q8 else if m = 20 + i then tk else if m = 30 + i then sn else f m) (i + 1) := by
  obtain ⟨a1, a2, a3, a4, a5, a6, a7, a8⟩ := h
  have G : zGv S2 S4 q8 := (zGv.nO (k := 10) h8).tr hg
  have gx := G.same h8 a3 (by decide)
  have gq := G.same h8 a5 (by decide)
  have hS8 : zK S q8 = 0 := a1.k0 (by rw [a3]; decide) h8
  have hs2 : zK S2 sn = 0 := by
    by_cases e : sn = q8
    · rw [e]; exact h8
    · exact (zK_nO e rfl).symm.trans hsn
  refine ⟨(a1.tn G hS8).tn zGv.P hq, fun t => ((gx.2.1 t).1).trans (a2 t), gx.1, (gx.2.1 176).2.trans a4, gq.1, gq.2.2.1.trans a6, fun j hj => ?_, fun j j' hj hj' hne => ?_⟩
  · dsimp only
    by_cases e : j = i
    · subst e
      rw [if_pos rfl, if_neg (by omega), if_pos rfl, if_neg (by omega), if_neg (by omega), if_pos rfl]
      refine ⟨?_, hV, h0.trans (zI_nOs _ _ _ _), h1.trans (zI_nOs _ _ _ _)⟩
      rw [zP_s, va_up_self]
    · rw [if_neg (by omega), if_neg (by omega), if_neg (by omega), if_neg (by omega), if_neg (by omega), if_neg (by omega), if_neg (by omega), if_neg (by omega), if_neg (by omega)]
      obtain ⟨b1, b2, b3, b4⟩ := a7 j (by omega)
      have gw := G.same h8 b2.1 (by decide)
      refine ⟨?_, (show zWire S4 _ _ _ from b2.grow G (by rw [h8]; decide)), ((gw.2.1 160).1).trans b3, ((gw.2.1 161).1).trans b4⟩
      rw [zP_s, va_up_ne _ _ e, gq.2.2.2.2.1]
      exact b1
  · dsimp only
    by_cases e : j = i
    · subst e
      obtain ⟨b1, b2, b3, b4⟩ := a7 j' (by omega)
      rw [if_pos rfl, if_neg (by omega), if_neg (by omega), if_neg (by omega), if_neg (by omega), if_neg (by omega), if_pos rfl, if_neg (by omega), if_neg (by omega), if_neg (by omega)]
      exact ⟨Ne.symm (zne h8 (by rw [b2.1]; decide)), Ne.symm (zne hs2 (by rw [b2.2.2.2.2.2.1]; decide))⟩
    · by_cases e' : j' = i
      · subst e'
        obtain ⟨b1, b2, b3, b4⟩ := a7 j (by omega)
        rw [if_neg (by omega), if_neg (by omega), if_neg (by omega), if_pos rfl, if_neg (by omega), if_neg (by omega), if_neg (by omega), if_neg (by omega), if_neg (by omega), if_pos rfl]
        exact ⟨zne h8 (by rw [b2.1]; decide), zne hs2 (by rw [b2.2.2.2.2.2.1]; decide)⟩
      · rw [if_neg (by omega), if_neg (by omega), if_neg (by omega), if_neg (by omega), if_neg (by omega), if_neg (by omega), if_neg (by omega), if_neg (by omega), if_neg (by omega), if_neg (by omega), if_neg (by omega), if_neg (by omega)]
        exact a8 j j' (by omega) (by omega) hne
/-- .. wires done, the captures' row begun: from Sw on -/
def zB2 (S Sw S3 : zS) (x q : Nat) (f : Nat → Nat) (i : Nat) : Prop := zGv S S3 x ∧ zGv Sw S3 x ∧ (∀ t, zI S3 t x = zI S t x) ∧ zK S3 x = 11 ∧ (zQ S3 176 x = zQ Sw 176 x ∧ zQ S3 177 x = some q) ∧ zK S3 q = 31 ∧ zN S3 q = 2 ∧ (∀ j, j < i → zP S3 q j = some (f (40 + j)) ∧ zCap S3 (f (40 + j)) (f (50 + j)) ∧ zI S3 64 (f (40 + j)) = 0 ∧ ∀ m, zR S3 22 (f (50 + j)) m = 0)
theorem zB2.step {S Sw S2 S4 : zS} {x q q8 i : Nat} {f : Nat → Nat} (h : zB2 S Sw S2 x q f i) (hi : i < 2) (hq : zK S q = 0 ∧ zK Sw q = 0) (h8 : zK S2 q8 = 0) {lv : Nat} (hV : zCap S4 q8 lv) (h0 : zI S4 64 q8 = zI (znO S2 q8 4) 64 q8) (h1 : ∀ m, zR S4 22 lv m = 0) (hg : zGv (znO S2 q8 4) S4 q8) :
    zB2 S Sw (zsP S4 q (va_up (zP S4 q) i (some q8))) x q (fun m => if m = 40 + i then q8 else if m = 50 + i then lv else f m) (i + 1) := by
  obtain ⟨a1, aw, a2, a3, a4, a5, a6, a7⟩ := h
  have G : zGv S2 S4 q8 := (zGv.nO (k := 4) h8).tr hg
  have gx := G.same h8 a3 (by decide)
  have gq := G.same h8 a5 (by decide)
  have hS8 : zK S q8 = 0 := a1.k0 (by rw [a3]; decide) h8
  have hw8 : zK Sw q8 = 0 := aw.k0 (by rw [a3]; decide) h8
  refine ⟨(a1.tn G hS8).tn zGv.P hq.1, (aw.tn G hw8).tn zGv.P hq.2, fun t => ((gx.2.1 t).1).trans (a2 t), gx.1, ⟨(gx.2.1 176).2.trans a4.1, (gx.2.1 177).2.trans a4.2⟩, gq.1, gq.2.2.1.trans a6, fun j hj => ?_⟩
  dsimp only
  by_cases e : j = i
  · subst e
    rw [if_pos rfl, if_neg (by omega), if_pos rfl]
    refine ⟨?_, hV, h0.trans (zI_nOs _ _ _ _), h1⟩
    rw [zP_s, va_up_self]
  · rw [if_neg (by omega), if_neg (by omega), if_neg (by omega), if_neg (by omega)]
    obtain ⟨b1, b2, b3, b4⟩ := a7 j (by omega)
    have gw := G.same h8 b2.1 (by decide)
    have gl := G.same h8 b2.2.2.1 (by decide)
    refine ⟨?_, (show zCap S4 _ _ from b2.grow G (by rw [h8]; decide)), ((gw.2.1 64).1).trans b3, fun m => (congrFun (gl.2.2.2.1 22) m).trans (b4 m)⟩
    rw [zP_s, va_up_ne _ _ e, gq.2.2.2.2.1]
    exact b1
theorem zDev.grow {S S' : zS} {w lv v : Nat} (h : zGv S S' v) (hv : zK S v ≠ 5 ∧ zK S v ≠ 22) (hW : zDev S w lv) : zDev S' w lv := by
  obtain ⟨h1, h2, h4, h5⟩ := hW
  have q1 := h.at h1 (by decide) hv.1
  have q2 := h.at h4 (by decide) hv.2
  exact ⟨q1.1, (q1.2.1 80).2.trans h2, q2.1, q2.2.2.1.trans h5⟩
theorem zXmk {S : zS} {x q6 q44 q81 q92 q103 rg k9 n9 m9 : Nat} {f g : Nat → Nat} (h1 : zK S x = 11) (h2 : zQ S 176 x = some q6) (h3 : zQ S 177 x = some q44) (h4 : zQ S 178 x = some q81) (h5 : zQ S 179 x = some q92) (h6 : zQ S 180 x = some q103)
    (h7 : zK S q6 = 32) (h8 : zN S q6 = 4) (h9 : zK S q44 = 31) (h10 : zN S q44 = 2) (hw : ∀ i, i < 4 → zP S q6 i = some (f (10 + i)) ∧ zWire S (f (10 + i)) (f (20 + i)) (f (30 + i)) ∧ zI S 160 (f (10 + i)) = 0 ∧ zI S 161 (f (10 + i)) = 0)
    (hd : ∀ i j, i < 4 → j < 4 → i ≠ j → f (10 + i) ≠ f (10 + j) ∧ f (30 + i) ≠ f (30 + j)) (hc : ∀ i, i < 2 → zP S q44 i = some (g (40 + i)) ∧ zCap S (g (40 + i)) (g (50 + i)) ∧ zI S 64 (g (40 + i)) = 0 ∧ ∀ m, zR S 22 (g (50 + i)) m = 0)
    (hT : zTrg S q81 k9 n9 m9) (hT0 : zI S 128 q81 = 0) (hN : zK S q92 = 7) (hN0 : zI S 112 q92 = 0) (hD : zDev S q103 rg) (hD0 : ∀ j, zR S 22 rg j = 0) (h181 : zI S 181 x = 0) (h182 : zI S 182 x = 1) (h183 : zI S 183 x = 1) : ∃ a : Nat → Nat, a 0 = x ∧ zX S a ∧ zX0 S a := by
  obtain ⟨a, ha⟩ : ∃ a : Nat → Nat, a = fun m => if m < 10 then (match m with | 0 => x | 1 => q6 | 2 => q44 | 3 => q81 | 4 => q92 | 5 => q103 | 6 => rg | 7 => k9 | 8 => n9 | _ => m9) else if m < 40 then f m else g m := ⟨_, rfl⟩
  have e0 : a 0 = x := by rw [ha]; rfl
  have e1 : a 1 = q6 := by rw [ha]; rfl
  have e2 : a 2 = q44 := by rw [ha]; rfl
  have e3 : a 3 = q81 := by rw [ha]; rfl
  have e4 : a 4 = q92 := by rw [ha]; rfl
  have e5 : a 5 = q103 := by rw [ha]; rfl
  have e6 : a 6 = rg := by rw [ha]; rfl
  have e7 : a 7 = k9 := by rw [ha]; rfl
  have e8 : a 8 = n9 := by rw [ha]; rfl
  have e9 : a 9 = m9 := by rw [ha]; rfl
  have ef : ∀ m, 10 ≤ m → m < 40 → a m = f m := fun m q1 q2 => by rw [ha]; show (if m < 10 then _ else _) = _; rw [if_neg (by omega), if_pos q2]
  have eg : ∀ m, 40 ≤ m → a m = g m := fun m q1 => by rw [ha]; show (if m < 10 then _ else _) = _; rw [if_neg (by omega), if_neg (by omega)]
  refine ⟨a, e0, ?_, ?_⟩
  · unfold zX
    rw [e0, e1, e2, e3, e4, e5, e6, e7, e8, e9]
    refine ⟨h1, h2, h3, h4, h5, h6, h7, h8, h9, h10, hN, hD, hT, fun i hi => ?_, fun i j hi hj hne => ?_, fun i hi => ?_⟩
    · rw [ef _ (by omega) (by omega), ef _ (by omega) (by omega), ef _ (by omega) (by omega)]
      exact ⟨(hw i hi).1, (hw i hi).2.1⟩
    · rw [ef _ (by omega) (by omega), ef _ (by omega) (by omega), ef _ (by omega) (by omega), ef _ (by omega) (by omega)]
      exact hd i j hi hj hne
    · rw [eg _ (by omega), eg _ (by omega)]
      exact ⟨(hc i hi).1, (hc i hi).2.1⟩
  · unfold zX0
    rw [e0, e3, e4, e6]
    refine ⟨fun i hi => ?_, fun i hi => ?_, hT0, hN0, h181, h182, h183, hD0⟩
    · rw [ef _ (by omega) (by omega)]
      exact (hw i hi).2.2
    · rw [eg _ (by omega), eg _ (by omega)]
      exact (hc i hi).2.2
