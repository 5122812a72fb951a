/-! words for a wire's flips -/
theorem fb_rng0 (x : Int32) : -2147483648 ≤ x.toInt ∧ x.toInt < 2147483648 := ⟨Int32.le_toInt x, Int32.toInt_lt x⟩
def zct (p : Nat → Bool) : Nat → Nat
  | 0 => 0
  | n + 1 => zct p n + (if p n = true then 1 else 0)
theorem zct_s (p : Nat → Bool) (n : Nat) : zct p (n + 1) = zct p n + (if p n = true then 1 else 0) := rfl
theorem zct_le (p : Nat → Bool) : ∀ n, zct p n ≤ n
  | 0 => Nat.le_refl 0
  | n + 1 => by
    have := zct_le p n
    rw [zct_s]
    split <;> omega
theorem zct_t {p : Nat → Bool} {n : Nat} (h : p n = true) : zct p (n + 1) = zct p n + 1 := by rw [zct_s, if_pos h]
theorem zct_f {p : Nat → Bool} {n : Nat} (h : ¬ p n = true) : zct p (n + 1) = zct p n := by rw [zct_s, if_neg h]; rfl
theorem z_cl_le {c : Int32} {i : Nat} (h : c ≤ nI i) (hi : i < 2 ^ 31) : c.toNatClampNeg ≤ i := by
  rw [Int32.le_iff_toInt_le, nI_toInt hi] at h
  show c.toInt.toNat ≤ i
  omega
theorem z_cl_lt {c : Int32} {i : Nat} (h : ¬ c ≤ nI i) (hi : i < 2 ^ 31) : i < c.toNatClampNeg := by
  rw [Int32.le_iff_toInt_le, nI_toInt hi] at h
  show i < c.toInt.toNat
  omega
theorem z_cl_le' {c : Int32} {i : Nat} (hi : i < 2 ^ 31) (h : c.toNatClampNeg ≤ i) : c ≤ nI i := by
  have h' : c.toInt.toNat ≤ i := h
  rw [Int32.le_iff_toInt_le, nI_toInt hi]
  omega
theorem z_cl31 (c : Int32) : c.toNatClampNeg < 2 ^ 31 := by
  show c.toInt.toNat < 2 ^ 31
  have := (fb_rng0 c).2
  omega
theorem z_nI_lit {n : Nat} {x : Int32} (h : 0 ≤ x) (e : x.toNatClampNeg = n) : x = nI n := by
  obtain ⟨j, hj, rfl⟩ := nI_of (x := x) (by rw [Int32.lt_iff_toInt_lt]; rw [Int32.le_iff_toInt_le] at h; omega)
  rw [nI_clamp hj] at e
  rw [e]
theorem z_01 (x : Int32) (h : 0 ≤ x) : x = nI x.toNatClampNeg := z_nI_lit h rfl
def zwN (S : zS) (w : Nat) : Nat := min (zI S 161 w).toNatClampNeg 364
def zwC (S : zS) (w tk : Nat) (t : Int32) : Nat := zct (fun j => decide (zR S 22 tk j < t)) (zwN S w)
def zwHas (S : zS) (w tk : Nat) (t : Int32) : Bool := decide (zwC S w tk t < zwN S w) && decide (zR S 22 tk (zwC S w tk t) = t)
theorem zwN_le (S : zS) (w : Nat) : zwN S w ≤ 364 := Nat.min_le_right _ _
theorem zwC_le (S : zS) (w tk : Nat) (t : Int32) : zwC S w tk t ≤ zwN S w := zct_le _ _
theorem zwHas_iff (S : zS) (w tk : Nat) (t : Int32) : zwHas S w tk t = true ↔ (zwC S w tk t < zwN S w ∧ zR S 22 tk (zwC S w tk t) = t) := by
  unfold zwHas
  rw [Bool.and_eq_true, decide_eq_true_eq, decide_eq_true_eq]
theorem zwHas_1 {S : zS} {w tk k : Nat} {t : Int32} (hk : k = zwC S w tk t) (h1 : ¬ zI S 161 w ≤ nI k) (h2 : ¬ 364 ≤ nI k) (h3 : zR S 22 tk (nI k).toNatClampNeg = t) : zwHas S w tk t = true := by
  have hN := zwN_le S w
  have hC := zwC_le S w tk t
  subst hk
  rw [nI_clamp (by omega)] at h3
  refine (zwHas_iff _ _ _ _).mpr ⟨?_, h3⟩
  have h4 := z_cl_lt h1 (by omega)
  have h5 := z_lt (n := 364) h2 (by omega) (by omega)
  have : zwN S w = min (zI S 161 w).toNatClampNeg 364 := rfl
  omega
theorem zwHas_0 {S : zS} {w tk k : Nat} {t : Int32} (hk : k = zwC S w tk t) (h : zI S 161 w ≤ nI k ∨ 364 ≤ nI k ∨ ¬ zR S 22 tk (nI k).toNatClampNeg = t) : ¬ zwHas S w tk t = true := by
  have hN := zwN_le S w
  have hC := zwC_le S w tk t
  subst hk
  rw [zwHas_iff]
  rintro ⟨g1, g2⟩
  have : zwN S w = min (zI S 161 w).toNatClampNeg 364 := rfl
  rcases h with h | h | h
  · have := z_cl_le h (by omega)
    omega
  · have := z_ge (n := 364) h (by omega) (by omega)
    omega
  · rw [nI_clamp (by omega)] at h
    exact h g2
/-- a tick put in at place k of n -/
def zins (f : Nat → Int32) (k n : Nat) (t : Int32) : Nat → Int32 := fun j => if j < k then f j else if j = k then t else if j ≤ n then f (j - 1) else f j
/-- the tick at place k of n taken out -/
def zdel (f : Nat → Int32) (k n : Nat) : Nat → Int32 := fun j => if k ≤ j ∧ j + 1 < n then f (j + 1) else f j
theorem zsR_self (S : zS) (k a : Nat) : zsR S k a (zR S k a) = S := by
  obtain ⟨a1, a2, a3, a4, a5, a6, a7⟩ := S
  show (a1, a2, a3, a4, va_up a5 k (va_up (a5 k) a (a5 k a)), a6, a7) = (a1, a2, a3, a4, a5, a6, a7)
  have e : va_up a5 k (va_up (a5 k) a (a5 k a)) = a5 := by
    funext i
    by_cases hi : i = k
    · subst hi
      rw [va_up_self]
      funext j
      by_cases hj : j = a
      · subst hj
        rw [va_up_self]
      · rw [va_up_ne _ _ hj]
    · rw [va_up_ne _ _ hi]
  rw [e]
theorem zsR_zsR (S : zS) (k a : Nat) (f g : Nat → Int32) : zsR (zsR S k a f) k a g = zsR S k a g := by
  obtain ⟨a1, a2, a3, a4, a5, a6, a7⟩ := S
  show (a1, a2, a3, a4, va_up (va_up a5 k (va_up (a5 k) a f)) k (va_up ((va_up a5 k (va_up (a5 k) a f)) k) a g), a6, a7) = (a1, a2, a3, a4, va_up a5 k (va_up (a5 k) a g), a6, a7)
  have e : va_up (va_up a5 k (va_up (a5 k) a f)) k (va_up ((va_up a5 k (va_up (a5 k) a f)) k) a g) = va_up a5 k (va_up (a5 k) a g) := by
    funext i
    by_cases hi : i = k
    · subst hi
      rw [va_up_self, va_up_self, va_up_self]
      funext j
      by_cases hj : j = a
      · subst hj
        rw [va_up_self, va_up_self]
      · rw [va_up_ne _ _ hj, va_up_ne _ _ hj, va_up_ne _ _ hj]
    · rw [va_up_ne _ _ hi, va_up_ne _ _ hi, va_up_ne _ _ hi]
  rw [e]
/-- only w's count and its row of flips may be another -/
def zFlp (S S' : zS) (w tk : Nat) : Prop := zFix S S' ∧ (∀ t a, (a ≠ w ∨ t ≠ 161) → zI S' t a = zI S t a) ∧ (∀ k a, (a ≠ tk ∨ k ≠ 22) → zR S' k a = zR S k a) ∧ zJ S' = zJ S
theorem zFlp.rf {S : zS} {w tk : Nat} : zFlp S S w tk := ⟨zFix.rf, fun _ _ _ => rfl, fun _ _ _ => rfl, rfl⟩
theorem zFlp.tr {S S1 S2 : zS} {w tk : Nat} (h : zFlp S S1 w tk) (h2 : zFlp S1 S2 w tk) : zFlp S S2 w tk := ⟨h.1.tr h2.1, fun t a q => (h2.2.1 t a q).trans (h.2.1 t a q), fun k a q => (h2.2.2.1 k a q).trans (h.2.2.1 k a q), h2.2.2.2.trans h.2.2.2⟩
theorem zFlp.I {S : zS} {w tk : Nat} {v : Int32} : zFlp S (zsI S 161 w v) w tk := by
  refine ⟨zFix.I, fun t' a q => ?_, fun _ _ _ => rfl, rfl⟩
  by_cases ha : a = w
  · subst ha
    exact zI_t (by omega) rfl
  · exact zI_a ha rfl
theorem zFlp.R {S : zS} {w tk : Nat} {f : Nat → Int32} : zFlp S (zsR S 22 tk f) w tk := by
  refine ⟨zFix.R, fun _ _ _ => rfl, fun k a q => ?_, rfl⟩
  by_cases ha : a = tk
  · exact zR_t (by omega) rfl
  · exact zR_a ha rfl
