/-! Probehall's constructor once more: all its rows are different -/
def zT1 (f : Nat → Nat) (i : Nat) : Prop := ∀ j j', j < i → j' < i → j ≠ j' → f (20 + j) ≠ f (20 + j')
theorem zT1.step {S S2 : zS} {x q q8 i tk sn : Nat} {f : Nat → Nat} (h : zT1 f i) (hB : zB1 S S2 x q f i) (htk : zK S2 tk = 0) (hi : i < 4) : zT1 (fun m => if m = 10 + i then q8 else if m = 20 + i then tk else if m = 30 + i then sn else f m) (i + 1) := by
  intro j j' hj hj' hne
  dsimp only
  have hk : ∀ j, j < i → zK S2 (f (20 + j)) = 22 := fun j hj => (hB.2.2.2.2.2.2.1 j hj).2.1.2.2.2.1
  by_cases e : j = i
  · subst e
    rw [if_neg (by omega), if_pos rfl, if_neg (by omega), if_neg (by omega), if_neg (by omega)]
    exact fun q => by
      have := hk j' (by omega)
      rw [← q, htk] at this
      exact absurd this (by decide)
  · by_cases e' : j' = i
    · subst e'
      rw [if_neg (by omega), if_neg (by omega), if_neg (by omega), if_neg (by omega), if_pos rfl]
      exact fun q => by
        have := hk j (by omega)
        rw [q, htk] at this
        exact absurd this (by decide)
    · rw [if_neg (by omega), if_neg (by omega), if_neg (by omega), if_neg (by omega), if_neg (by omega), if_neg (by omega)]
      exact h j j' (by omega) (by omega) hne
def zT2 (f : Nat → Nat) (i : Nat) : Prop := ∀ j j', j < i → j' < i → j ≠ j' → f (50 + j) ≠ f (50 + j')
theorem zT2.step {S Sw S2 : zS} {x q q8 i lv : Nat} {f : Nat → Nat} (h : zT2 f i) (hB : zB2 S Sw S2 x q f i) (hlv : zK S2 lv = 0) (hi : i < 2) : zT2 (fun m => if m = 40 + i then q8 else if m = 50 + i then lv else f m) (i + 1) := by
  intro j j' hj hj' hne
  dsimp only
  have hk : ∀ j, j < i → zK S2 (f (50 + j)) = 22 := fun j hj => (hB.2.2.2.2.2.2.2 j hj).2.1.2.2.1
  by_cases e : j = i
  · subst e
    rw [if_neg (by omega), if_pos rfl, if_neg (by omega), if_neg (by omega)]
    exact fun q => by
      have := hk j' (by omega)
      rw [← q, hlv] at this
      exact absurd this (by decide)
  · by_cases e' : j' = i
    · subst e'
      rw [if_neg (by omega), if_neg (by omega), if_neg (by omega), if_pos rfl]
      exact fun q => by
        have := hk j (by omega)
        rw [q, hlv] at this
        exact absurd this (by decide)
    · rw [if_neg (by omega), if_neg (by omega), if_neg (by omega), if_neg (by omega)]
      exact h j j' (by omega) (by omega) hne
theorem zNts.grow {S S' : zS} {t k b e v f w : Nat} (h : zGv S S' w) (hv : zK S w ≠ 7 ∧ zK S w ≠ 21 ∧ zK S w ≠ 22) (hW : zNts S t k b e v f) : zNts S' t k b e v f := by
  obtain ⟨h1, h2, h3, h4, h5, h6, h7, h8, h9, h10, h11, h12, h13, h14, h15, h16⟩ := hW
  have gt := h.at h1 (by decide) hv.1
  have gk := h.at h7 (by decide) hv.2.1
  have gb := h.at h9 (by decide) hv.2.2
  have ge := h.at h11 (by decide) hv.2.2
  have gv := h.at h13 (by decide) hv.2.2
  have gf := h.at h15 (by decide) hv.2.1
  exact ⟨gt.1, (gt.2.1 113).2.trans h2, (gt.2.1 114).2.trans h3, (gt.2.1 115).2.trans h4, (gt.2.1 116).2.trans h5, (gt.2.1 117).2.trans h6, gk.1, gk.2.2.1.trans h8, gb.1, gb.2.2.1.trans h10, ge.1, ge.2.2.1.trans h12, gv.1, gv.2.2.1.trans h14, gf.1, gf.2.2.1.trans h16⟩
theorem zX.ag {S : zS} {a a' : Nat → Nat} (e : ∀ m, m < 60 → a' m = a m) (h : zX S a) : zX S a' := by
  unfold zX at h ⊢
  rw [e 0 (by omega), e 1 (by omega), e 2 (by omega), e 3 (by omega), e 4 (by omega), e 5 (by omega), e 6 (by omega), e 7 (by omega), e 8 (by omega), e 9 (by omega)]
  obtain ⟨h1, h2, h3, h4, h5, h6, h7, h8, h9, h10, h11, h12, h13, h14, h15, h16⟩ := h
  refine ⟨h1, h2, h3, h4, h5, h6, h7, h8, h9, h10, h11, h12, h13, fun i hi => ?_, fun i j hi hj => ?_, fun i hi => ?_⟩
  · rw [e _ (by omega), e _ (by omega), e _ (by omega)]
    exact h14 i hi
  · rw [e _ (by omega), e _ (by omega), e _ (by omega), e _ (by omega)]
    exact h15 i j hi hj
  · rw [e _ (by omega), e _ (by omega)]
    exact h16 i hi
theorem zX0.ag {S : zS} {a a' : Nat → Nat} (e : ∀ m, m < 60 → a' m = a m) (h : zX0 S a) : zX0 S a' := by
  unfold zX0 at h ⊢
  rw [e 0 (by omega), e 3 (by omega), e 4 (by omega), e 6 (by omega)]
  obtain ⟨h1, h2, h3⟩ := h
  refine ⟨fun i hi => ?_, fun i hi => ?_, h3⟩
  · rw [e _ (by omega)]
    exact h1 i hi
  · rw [e _ (by omega), e _ (by omega)]
    exact h2 i hi
/-- what a row is, by its place: its kind and how many places it has -/
def zkk (i : Nat) : Nat := if i = 7 ∨ i = 60 ∨ i = 64 then 21 else 22
def znn (i : Nat) : Nat := if i < 7 then 2048 else if i < 10 then 6 else if i < 24 then 364 else if i < 34 then 64 else if i < 52 then 400 else 200
theorem zDs.mk {S : zS} {a : Nat → Nat} (hX : zX S a) (hN : zNts S (a 4) (a 60) (a 61) (a 62) (a 63) (a 64)) (ht : ∀ i j, i < 4 → j < 4 → i ≠ j → a (20 + i) ≠ a (20 + j)) (hl : a 50 ≠ a 51) (h89 : a 8 ≠ a 9) (hnd : zNd (a 60) (a 61) (a 62) (a 63) (a 64)) : zDs a := by
  have hwi := fun i hi => (zX.wi hX (w := i) hi).2
  have hci := fun i hi => (zX.ci hX (q := i) hi).2
  have hwd := fun i j hi hj hn => (zX.wd hX (w := i) (v := j) hi hj hn).2
  obtain ⟨-, -, -, -, -, -, -, -, -, -, -, -, -, -, -, -, k60, n60, k61, n61, k62, n62, k63, n63, k64, n64⟩ := And.intro hX.1 (And.intro hX.1 (And.intro hX.1 (And.intro hX.1 (And.intro hX.1 (And.intro hX.1 (And.intro hX.1 (And.intro hX.1 (And.intro hX.1 (And.intro hX.1 hN)))))))))
  have hD := hX.2.2.2.2.2.2.2.2.2.2.2.1
  have hT := hX.2.2.2.2.2.2.2.2.2.2.2.2.1
  have hkn : ∀ i, i ∈ zRws → zK S (a i) = zkk i ∧ zN S (a i) = znn i := by
    intro i hi
    simp only [zRws, List.mem_cons, List.not_mem_nil, or_false] at hi
    rcases hi with rfl | rfl | rfl | rfl | rfl | rfl | rfl | rfl | rfl | rfl | rfl | rfl | rfl | rfl | rfl | rfl | rfl | rfl | rfl
    · exact ⟨hD.2.2.1, hD.2.2.2⟩
    · exact ⟨hT.2.2.2.2.1, hT.2.2.2.2.2.1⟩
    · exact ⟨hT.2.2.2.2.2.2.1, hT.2.2.2.2.2.2.2.1⟩
    · exact ⟨hT.2.2.2.2.2.2.2.2.1, hT.2.2.2.2.2.2.2.2.2⟩
    · exact ⟨(hwi 0 (by decide)).2.2.2.1, (hwi 0 (by decide)).2.2.2.2.1⟩
    · exact ⟨(hwi 1 (by decide)).2.2.2.1, (hwi 1 (by decide)).2.2.2.2.1⟩
    · exact ⟨(hwi 2 (by decide)).2.2.2.1, (hwi 2 (by decide)).2.2.2.2.1⟩
    · exact ⟨(hwi 3 (by decide)).2.2.2.1, (hwi 3 (by decide)).2.2.2.2.1⟩
    · exact ⟨(hwi 0 (by decide)).2.2.2.2.2.1, (hwi 0 (by decide)).2.2.2.2.2.2.1⟩
    · exact ⟨(hwi 1 (by decide)).2.2.2.2.2.1, (hwi 1 (by decide)).2.2.2.2.2.2.1⟩
    · exact ⟨(hwi 2 (by decide)).2.2.2.2.2.1, (hwi 2 (by decide)).2.2.2.2.2.2.1⟩
    · exact ⟨(hwi 3 (by decide)).2.2.2.2.2.1, (hwi 3 (by decide)).2.2.2.2.2.2.1⟩
    · exact ⟨(hci 0 (by decide)).2.2.1, (hci 0 (by decide)).2.2.2⟩
    · exact ⟨(hci 1 (by decide)).2.2.1, (hci 1 (by decide)).2.2.2⟩
    · exact ⟨k60, n60⟩
    · exact ⟨k61, n61⟩
    · exact ⟨k62, n62⟩
    · exact ⟨k63, n63⟩
    · exact ⟨k64, n64⟩
  have hcat : ∀ i, i ∈ zRws → ∀ j, j ∈ zRws → i ≠ j → (zkk i = zkk j ∧ znn i = znn j) → (∃ p q, p < 4 ∧ q < 4 ∧ p ≠ q ∧ i = 20 + p ∧ j = 20 + q) ∨ (∃ p q, p < 4 ∧ q < 4 ∧ p ≠ q ∧ i = 30 + p ∧ j = 30 + q) ∨ (i = 50 ∧ j = 51 ∨ i = 51 ∧ j = 50) ∨ (i = 8 ∧ j = 9 ∨ i = 9 ∧ j = 8) ∨ (i = 60 ∧ j = 64 ∨ i = 64 ∧ j = 60) ∨ (i = 61 ∧ j = 62 ∨ i = 62 ∧ j = 61) ∨ (i = 61 ∧ j = 63 ∨ i = 63 ∧ j = 61) ∨ (i = 62 ∧ j = 63 ∨ i = 63 ∧ j = 62) := by
    intro i hi j hj hne hc
    have hd : ∀ i, i ∈ zRws → ∀ j, j ∈ zRws → i ≠ j → (zkk i = zkk j ∧ znn i = znn j) → ((20 ≤ i ∧ i < 24 ∧ 20 ≤ j ∧ j < 24) ∨ (30 ≤ i ∧ i < 34 ∧ 30 ≤ j ∧ j < 34)) ∨ (i = 50 ∧ j = 51 ∨ i = 51 ∧ j = 50) ∨ (i = 8 ∧ j = 9 ∨ i = 9 ∧ j = 8) ∨ (i = 60 ∧ j = 64 ∨ i = 64 ∧ j = 60) ∨ (i = 61 ∧ j = 62 ∨ i = 62 ∧ j = 61) ∨ (i = 61 ∧ j = 63 ∨ i = 63 ∧ j = 61) ∨ (i = 62 ∧ j = 63 ∨ i = 63 ∧ j = 62) := by decide +kernel
    rcases hd i hi j hj hne hc with (g | g) | g
    · exact Or.inl ⟨i - 20, j - 20, by omega, by omega, by omega, by omega, by omega⟩
    · exact Or.inr (Or.inl ⟨i - 30, j - 30, by omega, by omega, by omega, by omega, by omega⟩)
    · exact Or.inr (Or.inr g)
  intro i hi j hj hne he
  obtain ⟨k1, n1⟩ := hkn i hi
  obtain ⟨k2, n2⟩ := hkn j hj
  rw [he] at k1 n1
  rcases hcat i hi j hj hne ⟨k1.symm.trans k2, n1.symm.trans n2⟩ with ⟨p, q, hp, hq, hpq, rfl, rfl⟩ | ⟨p, q, hp, hq, hpq, rfl, rfl⟩ | (⟨rfl, rfl⟩ | ⟨rfl, rfl⟩) | (⟨rfl, rfl⟩ | ⟨rfl, rfl⟩) | (⟨rfl, rfl⟩ | ⟨rfl, rfl⟩) | (⟨rfl, rfl⟩ | ⟨rfl, rfl⟩) | (⟨rfl, rfl⟩ | ⟨rfl, rfl⟩) | (⟨rfl, rfl⟩ | ⟨rfl, rfl⟩)
  · exact ht p q hp hq hpq he
  · exact hwd p q hp hq hpq he
  · exact hl he
  · exact hl he.symm
  · exact h89 he
  · exact h89 he.symm
  · exact hnd.1 he
  · exact hnd.1 he.symm
  · exact hnd.2.1 he
  · exact hnd.2.1 he.symm
  · exact hnd.2.2.1 he
  · exact hnd.2.2.1 he.symm
  · exact hnd.2.2.2 he
  · exact hnd.2.2.2 he.symm
/-- all of a new object -/
def zNew (S : zS) (a : Nat → Nat) : Prop := zX S a ∧ zX0 S a ∧ zNts S (a 4) (a 60) (a 61) (a 62) (a 63) (a 64)
theorem zXmk2 {S : zS} {x q6 q44 q81 q92 q103 rg k9 n9 m9 nk nb ne nv nf : Nat} {f g : Nat → Nat} (h1 : zK S x = 11) (h2 : zQ S 176 x = some q6) (h3 : zQ S 177 x = some q44) (h4 : zQ S 178 x = some q81) (h5 : zQ S 179 x = some q92) (h6 : zQ S 180 x = some q103)
    (h7 : zK S q6 = 32) (h8 : zN S q6 = 4) (h9 : zK S q44 = 31) (h10 : zN S q44 = 2) (hw : ∀ i, i < 4 → zP S q6 i = some (f (10 + i)) ∧ zWire S (f (10 + i)) (f (20 + i)) (f (30 + i)) ∧ zI S 160 (f (10 + i)) = 0 ∧ zI S 161 (f (10 + i)) = 0)
    (hd : ∀ i j, i < 4 → j < 4 → i ≠ j → f (10 + i) ≠ f (10 + j) ∧ f (30 + i) ≠ f (30 + j)) (hc : ∀ i, i < 2 → zP S q44 i = some (g (40 + i)) ∧ zCap S (g (40 + i)) (g (50 + i)) ∧ zI S 64 (g (40 + i)) = 0 ∧ ∀ m, zR S 22 (g (50 + i)) m = 0)
    (hT : zTrg S q81 k9 n9 m9) (hT0 : zI S 128 q81 = 0) (hN : zNts S q92 nk nb ne nv nf) (hN0 : zI S 112 q92 = 0) (hD : zDev S q103 rg) (hD0 : ∀ j, zR S 22 rg j = 0) (h181 : zI S 181 x = 0) (h182 : zI S 182 x = 1) (h183 : zI S 183 x = 1)
    (ht1 : zT1 f 4) (ht2 : zT2 g 2) (hnm : n9 ≠ m9) (hnd : zNd nk nb ne nv nf) : ∃ a : Nat → Nat, a 0 = x ∧ zNew S a ∧ zDs a := by
  obtain ⟨a0, h0, hX, hX0⟩ := zXmk h1 h2 h3 h4 h5 h6 h7 h8 h9 h10 hw hd hc hT hT0 hN.1 hN0 hD hD0 h181 h182 h183
  obtain ⟨a, ha⟩ : ∃ a : Nat → Nat, a = fun m => if m < 60 then a0 m else (match m with | 60 => nk | 61 => nb | 62 => ne | 63 => nv | _ => nf) := ⟨_, rfl⟩
  have e : ∀ m, m < 60 → a m = a0 m := fun m hm => by rw [ha]; exact if_pos hm
  have e60 : a 60 = nk := by rw [ha]; rfl
  have e61 : a 61 = nb := by rw [ha]; rfl
  have e62 : a 62 = ne := by rw [ha]; rfl
  have e63 : a 63 = nv := by rw [ha]; rfl
  have e64 : a 64 = nf := by rw [ha]; rfl
  have hXa := hX.ag e
  have a00 : a 0 = x := (e 0 (by decide)).trans h0
  have so : ∀ {p q : Nat}, some p = some q → p = q := fun h => Option.some.inj h
  have a1 : a 1 = q6 := so (hXa.2.1.symm.trans (by rw [a00]; exact h2))
  have a2 : a 2 = q44 := so (hXa.2.2.1.symm.trans (by rw [a00]; exact h3))
  have a3 : a 3 = q81 := so (hXa.2.2.2.1.symm.trans (by rw [a00]; exact h4))
  have a4 : a 4 = q92 := so (hXa.2.2.2.2.1.symm.trans (by rw [a00]; exact h5))
  have aw : ∀ i, i < 4 → a (10 + i) = f (10 + i) := fun i hi => by
    have := (zX.wi hXa hi).1
    rw [nI_clamp (by omega), a1] at this
    exact so (this.symm.trans (hw i hi).1)
  have at_ : ∀ i, i < 4 → a (20 + i) = f (20 + i) := fun i hi => by
    have := (zX.wi hXa hi).2.2.1
    rw [aw i hi] at this
    exact so (this.symm.trans (hw i hi).2.1.2.1)
  have ac : ∀ i, i < 2 → a (40 + i) = g (40 + i) := fun i hi => by
    have := (zX.ci hXa hi).1
    rw [nI_clamp (by omega), a2] at this
    exact so (this.symm.trans (hc i hi).1)
  have al : ∀ i, i < 2 → a (50 + i) = g (50 + i) := fun i hi => by
    have := (zX.ci hXa hi).2.2.1
    rw [ac i hi] at this
    exact so (this.symm.trans (hc i hi).2.1.2.1)
  have hTa := hXa.2.2.2.2.2.2.2.2.2.2.2.2.1
  have a8 : a 8 = n9 := so (hTa.2.2.1.symm.trans (by rw [a3]; exact hT.2.2.1))
  have a9 : a 9 = m9 := so (hTa.2.2.2.1.symm.trans (by rw [a3]; exact hT.2.2.2.1))
  have hNa : zNts S (a 4) (a 60) (a 61) (a 62) (a 63) (a 64) := by
    rw [a4, e60, e61, e62, e63, e64]
    exact hN
  refine ⟨a, a00, ⟨hXa, hX0.ag e, hNa⟩, zDs.mk hXa hNa (fun i j hi hj hn => ?_) ?_ ?_ ?_⟩
  · rw [at_ i hi, at_ j hj]
    exact ht1 i j hi hj hn
  · rw [show (50 : Nat) = 50 + 0 from rfl, show (51 : Nat) = 50 + 1 from rfl, al 0 (by decide), al 1 (by decide)]
    exact ht2 0 1 (by decide) (by decide) (by decide)
  · rw [a8, a9]
    exact hnm
  · rw [e60, e61, e62, e63, e64]
    exact hnd
