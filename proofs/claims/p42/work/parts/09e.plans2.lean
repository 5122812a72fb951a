/-! rows that go on from one level sent to the next -/
theorem znx_0 (p h : Int32) : znx p h 0 = p.toInt := by
  unfold znx
  rw [show ((0 : Nat) : Int) = 0 from rfl, Int.zero_mul, Int.add_zero]
theorem znx_le {p h : Int32} {m m' : Nat} (hh : 1 ≤ h) (hm : m ≤ m') : znx p h m ≤ znx p h m' := by
  rcases Nat.eq_or_lt_of_le hm with e | e
  · rw [e]
    exact Int.le_refl _
  · have := znx_s (p := p) hh e
    omega
theorem ztk_1 (p h : Int32) : p + h = ztk p h 1 := by
  show p + h = p + 1 * h
  rw [Int32.one_mul]
theorem ztk_a1 (p h : Int32) (m : Nat) : p + (nI m * h + h) = ztk p h (m + 1) := by
  unfold ztk
  rw [nI_succ, Int32.add_mul, Int32.one_mul]
theorem ztk_a2 (p h : Int32) (m : Nat) : p + (nI m * h + 2 * h) = ztk p h (m + 2) := by
  unfold ztk
  rw [show nI (m + 2) = nI m + 2 from (nI_add m 2).symm, Int32.add_mul]
theorem z2i1 (i : Nat) : 2 * nI i + 1 = nI (2 * i + 1) := by rw [show (2 : Int32) = nI 2 from rfl, pk_mul, nI_1]
theorem z2i2 (i : Nat) : 2 * nI i + 2 = nI (2 * i + 2) := by rw [show (2 : Int32) = nI 2 from rfl, pk_mul, nI_add]
theorem z2i (i : Nat) : 2 * nI i = nI (2 * i) := by rw [show (2 : Int32) = nI 2 from rfl, pk_mul]
theorem zgL {p0 p1 h : Int32} (he : p1 = ztk p0 h 17) : ((True ∧ ((0 : Int32) = 1 ∨ p0 ≤ 9999)) ∧ ((1 : Int32) = 0 ∨ p1 ≤ 9999)) ↔ zgd zlL (fun j => ztk p0 h (zmL j)) 2 := by
  constructor
  · rintro ⟨⟨-, h1⟩, h2⟩
    refine (zgd_s _ _ 1).mp ⟨(zgd_s _ _ 0).mp ⟨rfl, ?_⟩, ?_⟩
    · show (0 : Int32) = 1 ∨ ztk p0 h 0 ≤ 9999
      rw [ztk_0]
      exact h1
    · show (1 : Int32) = 0 ∨ ztk p0 h 17 ≤ 9999
      rw [← he]
      exact h2
  · intro q
    obtain ⟨q1, q2⟩ := (zgd_s _ _ 1).mpr q
    obtain ⟨-, q3⟩ := (zgd_s _ _ 0).mpr q1
    have q4 : (0 : Int32) = 1 ∨ ztk p0 h 0 ≤ 9999 := q3
    have q5 : (1 : Int32) = 0 ∨ ztk p0 h 17 ≤ 9999 := q2
    rw [ztk_0] at q4
    rw [← he] at q5
    exact ⟨⟨trivial, q4⟩, q5⟩
theorem zsel {p0 p1 h : Int32} (hp : 0 ≤ p0 ∧ p0 ≤ 9999) (hh : 1 ≤ h ∧ h ≤ 50) (he : p1 = ztk p0 h 17) : p0.toInt + 1 ≤ p1.toInt := by
  rw [he, ztk_i hp hh (by decide)]
  have h9 := ztk_nx (m := 0) (m' := 17) hp hh (by decide) (by decide)
  rw [ztk_0] at h9
  exact h9
theorem zlF_e (ih : Int32) : ∀ i, zlF ih (2 * i) = ih
  | 0 => rfl
  | i + 1 => by
    show (if (2 * i + 1) % 2 = 0 then zno ih else ih) = ih
    rw [if_neg (by omega)]
theorem zlF_o (ih : Int32) (i : Nat) : zlF ih (2 * i + 1) = zno ih := by
  show (if (2 * i) % 2 = 0 then zno ih else ih) = zno ih
  rw [if_pos (by omega)]
theorem zgF1 (ih p h : Int32) (i : Nat) : (zgd (zlF ih) (fun j => ztk p h (j + 1)) (2 * i) ∧ (zno ih = ih ∨ ztk p h (2 * i + 1) ≤ 9999)) ↔ zgd (zlF ih) (fun j => ztk p h (j + 1)) (2 * i + 1) := by
  have q := zgd_s (zlF ih) (fun j => ztk p h (j + 1)) (2 * i)
  rw [zlF_o, zlF_e] at q
  exact q
theorem zgF2 (ih p h : Int32) (i : Nat) : (zgd (zlF ih) (fun j => ztk p h (j + 1)) (2 * i + 1) ∧ (ih = zno ih ∨ ztk p h (2 * i + 2) ≤ 9999)) ↔ zgd (zlF ih) (fun j => ztk p h (j + 1)) (2 * (i + 1)) := by
  have q := zgd_s (zlF ih) (fun j => ztk p h (j + 1)) (2 * i + 1)
  rw [show 2 * i + 1 + 1 = 2 * (i + 1) by omega, zlF_o, zlF_e] at q
  exact q
theorem zlG_s {v : Int32} {i : Nat} (h : i < 8) : zlG v (i + 1) = zbv v (7 - nI i) := if_pos h
theorem zmG_1 {lt : Int32} {i : Nat} (h : i < 8) (h2 : ¬ lt = 0) : 2 * nI i + 1 = nI (zmG lt i) := by
  unfold zmG
  rw [if_pos h, if_neg h2, z2i1]
theorem zmG_0 {lt : Int32} {i : Nat} (h : i < 8) (h2 : lt = 0) : 2 * nI i = nI (zmG lt i) := by
  unfold zmG
  rw [if_pos h, if_pos h2, z2i]
theorem zmG_b {lt : Int32} {i : Nat} (h : i < 8) : 2 * i ≤ zmG lt i ∧ zmG lt i < 2 * (i + 1) := by
  unfold zmG
  rw [if_pos h]
  split <;> omega
theorem zlC_e (i : Nat) : zlC (2 * i + 2) = 1 := if_pos (by omega)
theorem zlC_o : ∀ i, zlC (2 * i + 1) = 0
  | 0 => rfl
  | i + 1 => by
    show (if (2 * i + 1) % 2 = 0 then (1 : Int32) else 0) = 0
    rw [if_neg (by omega)]
theorem zgC1 (p h : Int32) (i : Nat) : (zgd zlC (fun j => ztk p h (zmC j)) (2 * i + 1) ∧ ((1 : Int32) = 0 ∨ ztk p h (2 * i + 2) ≤ 9999)) ↔ zgd zlC (fun j => ztk p h (zmC j)) (2 * i + 2) := by
  have q := zgd_s zlC (fun j => ztk p h (zmC j)) (2 * i + 1)
  rw [zlC_o, show zlC (2 * i + 1 + 1) = 1 from zlC_e i] at q
  exact q
theorem zgC2 (p h : Int32) (i : Nat) : (zgd zlC (fun j => ztk p h (zmC j)) (2 * i + 2) ∧ ((0 : Int32) = 1 ∨ ztk p h (2 * i + 3) ≤ 9999)) ↔ zgd zlC (fun j => ztk p h (zmC j)) (2 * i + 3) := by
  have q := zgd_s zlC (fun j => ztk p h (zmC j)) (2 * i + 2)
  rw [zlC_e, show zlC (2 * i + 2 + 1) = 0 from zlC_o (i + 1)] at q
  exact q
theorem zlD_s {w : Int32} {i : Nat} (h : i < 27) : zlD w (i + 2) = zbv w (26 - nI i) := if_pos h
theorem zgD {w p h : Int32} {i : Nat} (hi : i < 27) : (zgd (zlD w) (fun j => ztk p h (zmD j)) (i + 1) ∧ (zlD w (i + 2) = zlD w (i + 1) ∨ ztk p h (2 * i + 1) ≤ 9999)) ↔ zgd (zlD w) (fun j => ztk p h (zmD j)) (i + 2) := by
  have e : zmD (i + 1) = 2 * i + 1 := if_pos hi
  have q := zgd_s (zlD w) (fun j => ztk p h (zmD j)) (i + 1)
  rw [← e]
  exact q
theorem zgD28 (w p h : Int32) : (zgd (zlD w) (fun j => ztk p h (zmD j)) 28 ∧ ((0 : Int32) = zlD w 28 ∨ ztk p h 55 ≤ 9999)) ↔ zgd (zlD w) (fun j => ztk p h (zmD j)) 29 := zgd_s (zlD w) (fun j => ztk p h (zmD j)) 28
theorem zgD29 (w p h : Int32) : (zgd (zlD w) (fun j => ztk p h (zmD j)) 29 ∧ ((1 : Int32) = 0 ∨ ztk p h 57 ≤ 9999)) ↔ zgd (zlD w) (fun j => ztk p h (zmD j)) 30 := zgd_s (zlD w) (fun j => ztk p h (zmD j)) 29
theorem zgG8 (v lt p h : Int32) : (zgd (zlG v) (fun j => ztk p h (zmG lt j)) 8 ∧ ((0 : Int32) = zlG v 8 ∨ ztk p h 17 ≤ 9999)) ↔ zgd (zlG v) (fun j => ztk p h (zmG lt j)) 9 := zgd_s (zlG v) (fun j => ztk p h (zmG lt j)) 8
theorem zge2_01 (p : Int32) : zge2 p = 0 ∨ zge2 p = 1 := by
  unfold zge2
  split
  · exact Or.inl rfl
  · exact Or.inr rfl
