/-! counting the flips of a row of the reference -/
abbrev zon (f : Nat → Int32) : Nat → Bool := fun j => decide (¬ f j = 0)
theorem zct_none {p : Nat → Bool} : ∀ {n : Nat}, (∀ j, j < n → ¬ p j = true) → zct p n = 0
  | 0, _ => rfl
  | n + 1, h => by rw [zct_f (h n (by omega)), zct_none (fun j hj => h j (by omega))]
theorem zct_con {p q : Nat → Bool} : ∀ {n : Nat}, (∀ j, j < n → p j = q j) → zct p n = zct q n
  | 0, _ => rfl
  | n + 1, h => by rw [zct_s, zct_s, zct_con (fun j hj => h j (by omega)), h n (by omega)]
theorem zct_up_le (f : Nat → Int32) (k : Nat) (v : Int32) : ∀ n, zct (zon (upd f k v)) n ≤ zct (zon f) n + 1 ∧ (n ≤ k → zct (zon (upd f k v)) n = zct (zon f) n)
  | 0 => ⟨Nat.zero_le _, fun _ => rfl⟩
  | n + 1 => by
    obtain ⟨h1, h2⟩ := zct_up_le f k v n
    by_cases e : n = k
    · subst e
      have h3 := h2 (Nat.le_refl n)
      refine ⟨?_, fun h => absurd h (by omega)⟩
      rw [zct_s, zct_s, h3]
      split <;> split <;> omega
    · have h4 : zon (upd f k v) n = zon f n := by
        show decide (¬ upd f k v n = 0) = decide (¬ f n = 0)
        rw [pk_un e]
      rw [zct_s, zct_s, h4]
      exact ⟨by split <;> omega, fun h => by rw [h2 (by omega)]⟩
theorem zct_up_new {f : Nat → Int32} {k : Nat} {v : Int32} (hv : ¬ v = 0) (hk : f k = 0) : ∀ n, k < n → zct (zon (upd f k v)) n = zct (zon f) n + 1
  | 0, h => absurd h (Nat.not_lt_zero _)
  | n + 1, h => by
    by_cases e : n = k
    · subst e
      rw [zct_t (show zon (upd f n v) n = true from decide_eq_true (by rw [pk_us]; exact hv)), zct_f (show ¬ zon f n = true by rw [decide_eq_true_eq]; exact fun q => q hk), (zct_up_le f n v n).2 (Nat.le_refl n)]
    · have h4 : zon (upd f k v) n = zon f n := by
        show decide (¬ upd f k v n = 0) = decide (¬ f n = 0)
        rw [pk_un e]
      rw [zct_s, zct_s, h4, zct_up_new hv hk n (by omega)]
      omega
theorem z_9999 {p : Int32} (h : 0 ≤ p ∧ p ≤ 9999) : ∃ j, j < 10000 ∧ p = nI j := by
  obtain ⟨A, hA, e⟩ := nI_of2 (x := p) (M := 9999) (n := 9999) rfl (by grind) h.2
  exact ⟨A, by omega, e⟩
