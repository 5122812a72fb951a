/-! what the pool is, in words: a wire, what a call is about to send over it, a capture .. -/
def zWire (S : zS) (w tk sn : Nat) : Prop := zK S w = 10 ∧ zQ S 162 w = some tk ∧ zQ S 165 w = some sn ∧ zK S tk = 22 ∧ zN S tk = 364 ∧ zK S sn = 22 ∧ zN S sn = 64 ∧ tk ≠ sn
def zCap (S : zS) (c lv : Nat) : Prop := zK S c = 4 ∧ zQ S 65 c = some lv ∧ zK S lv = 22 ∧ zN S lv = 400
def zDev (S : zS) (d rg : Nat) : Prop := zK S d = 5 ∧ zQ S 80 d = some rg ∧ zK S rg = 22 ∧ zN S rg = 2048
def zNts (S : zS) (t k b e v f : Nat) : Prop := zK S t = 7 ∧ zQ S 113 t = some k ∧ zQ S 114 t = some b ∧ zQ S 115 t = some e ∧ zQ S 116 t = some v ∧ zQ S 117 t = some f ∧ zK S k = 21 ∧ zN S k = 200 ∧ zK S b = 22 ∧ zN S b = 200 ∧ zK S e = 22 ∧ zN S e = 200 ∧ zK S v = 22 ∧ zN S v = 200 ∧ zK S f = 21 ∧ zN S f = 200
def zTrg (S : zS) (t k n m : Nat) : Prop := zK S t = 8 ∧ zQ S 129 t = some k ∧ zQ S 130 t = some n ∧ zQ S 131 t = some m ∧ zK S k = 21 ∧ zN S k = 6 ∧ zK S n = 22 ∧ zN S n = 6 ∧ zK S m = 22 ∧ zN S m = 6
/-- nothing was made, no reference set -/
def zFix (S S' : zS) : Prop := zK S' = zK S ∧ zQ S' = zQ S ∧ zN S' = zN S ∧ zP S' = zP S
theorem zFix.rf {S : zS} : zFix S S := ⟨rfl, rfl, rfl, rfl⟩
theorem zFix.tr {S S1 S2 : zS} (h : zFix S S1) (h2 : zFix S1 S2) : zFix S S2 := ⟨h2.1.trans h.1, h2.2.1.trans h.2.1, h2.2.2.1.trans h.2.2.1, h2.2.2.2.trans h.2.2.2⟩
theorem zFix.I {S : zS} {t a : Nat} {v : Int32} : zFix S (zsI S t a v) := ⟨rfl, rfl, rfl, rfl⟩
theorem zFix.R {S : zS} {k a : Nat} {f : Nat → Int32} : zFix S (zsR S k a f) := ⟨rfl, rfl, rfl, rfl⟩
theorem zWire.fix {S S' : zS} {w tk sn : Nat} (f : zFix S S') (h : zWire S w tk sn) : zWire S' w tk sn := by
  unfold zWire at h ⊢
  rw [f.1, f.2.1, f.2.2.1]
  exact h
theorem zCap.fix {S S' : zS} {c lv : Nat} (f : zFix S S') (h : zCap S c lv) : zCap S' c lv := by
  unfold zCap at h ⊢
  rw [f.1, f.2.1, f.2.2.1]
  exact h
/-- only what is being sent over w, in w and its row sn, may be another -/
def zChg (S S' : zS) (w sn : Nat) : Prop := zFix S S' ∧ (∀ t a, (a ≠ w ∨ (t ≠ 163 ∧ t ≠ 164)) → zI S' t a = zI S t a) ∧ (∀ k a, (a ≠ sn ∨ k ≠ 22) → zR S' k a = zR S k a) ∧ zJ S' = zJ S
theorem zChg.rf {S : zS} {w sn : Nat} : zChg S S w sn := ⟨zFix.rf, fun _ _ _ => rfl, fun _ _ _ => rfl, rfl⟩
theorem zChg.tr {S S1 S2 : zS} {w sn : Nat} (h : zChg S S1 w sn) (h2 : zChg S1 S2 w sn) : zChg S S2 w sn := ⟨h.1.tr h2.1, fun t a q => (h2.2.1 t a q).trans (h.2.1 t a q), fun k a q => (h2.2.2.1 k a q).trans (h.2.2.1 k a q), h2.2.2.2.trans h.2.2.2⟩
theorem zChg.I {S : zS} {t w sn : Nat} {v : Int32} (ht : t = 163 ∨ t = 164) : zChg S (zsI S t w v) w sn := by
  refine ⟨zFix.I, fun t' a q => ?_, fun _ _ _ => rfl, rfl⟩
  by_cases ha : a = w
  · subst ha
    exact zI_t (by omega) rfl
  · exact zI_a ha rfl
theorem zChg.R {S : zS} {w sn : Nat} {f : Nat → Int32} : zChg S (zsR S 22 sn f) w sn := by
  refine ⟨zFix.R, fun _ _ _ => rfl, fun k a q => ?_, rfl⟩
  by_cases ha : a = sn
  · exact zR_t (by omega) rfl
  · exact zR_a ha rfl
/-- what is being sent over w: n calls of send went by; the level now; whether all ticks are good; all of them are ahead of nxt -/
def zSnd (S0 S : zS) (w sn : Nat) (cur : Int32) (good : Prop) (nxt : Int) (n : Nat) : Prop := zChg S0 S w sn ∧ zI S 163 w = cur ∧ (cur = 0 ∨ cur = 1) ∧ ∃ k, k ≤ n ∧ zI S 164 w = nI k ∧ ((∀ j, j < k → zR S 22 sn j ≤ 9999) ↔ good) ∧ ∀ j, j < k → (zR S 22 sn j).toInt < nxt
theorem zSnd.begin {S : zS} {w sn : Nat} {b : Int32} (hb : b = 0 ∨ b = 1) (nxt : Int) : zSnd S (zsI (zsI S 163 w b) 164 w 0) w sn b True nxt 0 :=
  ⟨zChg.tr (zChg.I (Or.inl rfl)) (zChg.I (Or.inr rfl)), zI_t (by decide) (zI_s _ _ _ _), hb, 0, Nat.le_refl _, zI_s _ _ _ _, ⟨fun _ => trivial, fun _ j h => absurd h (Nat.not_lt_zero j)⟩, fun j h => absurd h (Nat.not_lt_zero j)⟩
theorem zSnd.weak {S0 S : zS} {w sn n n' : Nat} {cur : Int32} {good good' : Prop} {nxt nxt' : Int} (h : zSnd S0 S w sn cur good nxt n) (hg : good ↔ good') (hn : n ≤ n') (hx : nxt ≤ nxt') : zSnd S0 S w sn cur good' nxt' n' := by
  obtain ⟨h1, h2, h3, k, h4, h5, h6, h7⟩ := h
  exact ⟨h1, h2, h3, k, by omega, h5, h6.trans hg, fun j hj => Int.lt_of_lt_of_le (h7 j hj) hx⟩
theorem zSnd.step {S0 S : zS} {w sn n : Nat} {cur b t : Int32} {good : Prop} {nxt : Int} (h : zSnd S0 S w sn cur good nxt n) (hb : b = 0 ∨ b = 1) (hne : ¬ b = cur) {k : Nat} (hk : zI S 164 w = nI k) (hk64 : k ≤ n) (hn : n < 64) (ht : nxt ≤ t.toInt) : zSnd S0 (zsI (zsR (zsI S 163 w b) 22 sn (upd (zR S 22 sn) k t)) 164 w (nI (k + 1))) w sn b (good ∧ t ≤ 9999) (t.toInt + 1) (n + 1) := by
  obtain ⟨h1, h2, h3, k', h4, h5, h6, h7⟩ := h
  have hkk : k' = k := by
    have e : nI k' = nI k := h5.symm.trans hk
    exact (nI_eq (by omega) (by omega)).mp e
  subst hkk
  have hR : zR (zsI (zsR (zsI S 163 w b) 22 sn (upd (zR S 22 sn) k' t)) 164 w (nI (k' + 1))) 22 sn = upd (zR S 22 sn) k' t := zR_s _ _ _ _
  refine ⟨h1.tr ((zChg.I (Or.inl rfl)).tr (zChg.R.tr (zChg.I (Or.inr rfl)))), zI_t (by decide) (show zI (zsR (zsI S 163 w b) 22 sn (upd (zR S 22 sn) k' t)) 163 w = b from zI_s S 163 w b), hb, k' + 1, by omega, zI_s _ _ _ _, ?_, ?_⟩
  · rw [hR]
    constructor
    · intro q
      refine ⟨h6.mp (fun j hj => ?_), ?_⟩
      · have := q j (by omega)
        rwa [pk_un (by omega)] at this
      · have := q k' (by omega)
        rwa [pk_us] at this
    · rintro ⟨g1, g2⟩ j hj
      by_cases e : j = k'
      · subst e
        rw [pk_us]
        exact g2
      · rw [pk_un e]
        exact h6.mpr g1 j (by omega)
  · rw [hR]
    intro j hj
    by_cases e : j = k'
    · subst e
      rw [pk_us]
      omega
    · rw [pk_un e]
      have := h7 j (by omega)
      omega
theorem z_pred {k : Nat} (hk : k < 2 ^ 31) (h : ¬ (nI k - 1 < 0)) : 0 < k ∧ (nI k - 1).toNatClampNeg = k - 1 := by
  rcases Nat.eq_zero_or_pos k with h0 | h0
  · subst h0
    exact absurd (by decide) h
  · obtain ⟨j, rfl⟩ : ∃ j, k = j + 1 := ⟨k - 1, by omega⟩
    refine ⟨h0, ?_⟩
    rw [nI_pred, nI_clamp (by omega)]
    omega
theorem z_lt {i n : Nat} (h : ¬ nI n ≤ nI i) (hi : i < 2 ^ 31) (hn : n < 2 ^ 31) : i < n := by
  rcases Nat.lt_or_ge i n with q | q
  · exact q
  · exact absurd ((nI_leI hn hi).mpr q) h
theorem z_ge {i n : Nat} (h : nI n ≤ nI i) (hi : i < 2 ^ 31) (hn : n < 2 ^ 31) : n ≤ i := (nI_leI hn hi).mp h
