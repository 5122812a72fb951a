/-! levels: how many of a row's ticks are not behind t, and what putting in, taking out and sending make of it -/
def zcu (f : Nat → Int32) (n : Nat) (t : Int) : Nat := zct (fun j => decide ((f j).toInt ≤ t)) n
def zAsc (f : Nat → Int32) (n : Nat) : Prop := ∀ i j, i < j → j < n → (f i).toInt < (f j).toInt
theorem zcu_le (f : Nat → Int32) (n : Nat) (t : Int) : zcu f n t ≤ n := zct_le _ _
theorem zcu_t {f : Nat → Int32} {n : Nat} {t : Int} (h : (f n).toInt ≤ t) : zcu f (n + 1) t = zcu f n t + 1 := zct_t (p := fun j => decide ((f j).toInt ≤ t)) (decide_eq_true h)
theorem zcu_f {f : Nat → Int32} {n : Nat} {t : Int} (h : ¬ (f n).toInt ≤ t) : zcu f (n + 1) t = zcu f n t := zct_f (p := fun j => decide ((f j).toInt ≤ t)) (by simpa using h)
theorem zct_congr {p q : Nat → Bool} : ∀ {n : Nat}, (∀ j, j < n → p j = q j) → zct p n = zct q n
  | 0, _ => rfl
  | n + 1, h => by rw [zct_s, zct_s, zct_congr (n := n) (fun j hj => h j (by omega)), h n (Nat.lt_succ_self n)]
theorem zcu_congr {f g : Nat → Int32} {n : Nat} {t : Int} (h : ∀ j, j < n → f j = g j) : zcu f n t = zcu g n t := zct_congr fun j hj => by rw [h j hj]
theorem zcu_spec {f : Nat → Int32} {t : Int} : ∀ {n : Nat}, zAsc f n → (∀ j, j < zcu f n t → (f j).toInt ≤ t) ∧ (∀ j, zcu f n t ≤ j → j < n → t < (f j).toInt)
  | 0, _ => ⟨fun j h => absurd h (Nat.not_lt_zero j), fun j _ h => absurd h (Nat.not_lt_zero j)⟩
  | n + 1, h => by
    have ih := zcu_spec (f := f) (t := t) (n := n) (fun i j h1 h2 => h i j h1 (by omega))
    by_cases hn : (f n).toInt ≤ t
    · have e : zcu f n t = n := by
        rcases Nat.lt_or_ge (zcu f n t) n with q | q
        · have h1 := ih.2 _ (Nat.le_refl _) q
          have h2 := h _ _ q (Nat.lt_succ_self n)
          omega
        · exact Nat.le_antisymm (zcu_le _ _ _) q
      have e2 : zcu f (n + 1) t = n + 1 := by rw [zcu_t hn, e]
      rw [e2]
      refine ⟨fun j hj => ?_, fun j h1 h2 => absurd h1 (by omega)⟩
      rcases Nat.lt_or_ge j n with q | q
      · exact ih.1 j (by rw [e]; exact q)
      · have : j = n := by omega
        subst this
        exact hn
    · rw [zcu_f hn]
      refine ⟨ih.1, fun j h1 h2 => ?_⟩
      rcases Nat.lt_or_ge j n with q | q
      · exact ih.2 j h1 q
      · have : j = n := by omega
        subst this
        omega
theorem zcu_eq {f : Nat → Int32} {t : Int} : ∀ {n c : Nat}, c ≤ n → (∀ j, j < c → (f j).toInt ≤ t) → (∀ j, c ≤ j → j < n → t < (f j).toInt) → zcu f n t = c
  | 0, c, h, _, _ => by
    have : c = 0 := by omega
    subst this
    rfl
  | n + 1, c, h, h1, h2 => by
    by_cases hc : c = n + 1
    · subst hc
      rw [zcu_t (h1 n (Nat.lt_succ_self n)), zcu_eq (n := n) (c := n) (Nat.le_refl n) (fun j hj => h1 j (by omega)) (fun j g1 g2 => absurd g1 (by omega))]
    · rw [zcu_f (by have := h2 n (by omega) (Nat.lt_succ_self n); omega)]
      exact zcu_eq (n := n) (c := c) (by omega) h1 (fun j g1 g2 => h2 j g1 (by omega))
theorem zins_lt {f : Nat → Int32} {c n j : Nat} {x : Int32} (h : j < c) : zins f c n x j = f j := if_pos h
theorem zins_at {f : Nat → Int32} {c n : Nat} {x : Int32} : zins f c n x c = x := by
  unfold zins
  rw [if_neg (Nat.lt_irrefl c), if_pos rfl]
theorem zins_gt {f : Nat → Int32} {c n j : Nat} {x : Int32} (h : c < j) (h2 : j ≤ n) : zins f c n x j = f (j - 1) := by
  unfold zins
  rw [if_neg (by omega), if_neg (by omega), if_pos h2]
theorem zins_asc {f : Nat → Int32} {n c : Nat} {x : Int32} (h : zAsc f n) (hc : c ≤ n) (h1 : ∀ j, j < c → (f j).toInt < x.toInt) (h2 : ∀ j, c ≤ j → j < n → x.toInt < (f j).toInt) : zAsc (zins f c n x) (n + 1) := by
  intro i j hij hj
  rcases Nat.lt_trichotomy j c with q | q | q
  · rw [zins_lt q, zins_lt (by omega)]
    exact h i j hij (by omega)
  · subst q
    rw [zins_at, zins_lt hij]
    exact h1 i hij
  · rw [zins_gt q (by omega)]
    rcases Nat.lt_trichotomy i c with p | p | p
    · rw [zins_lt p]
      exact h i (j - 1) (by omega) (by omega)
    · subst p
      rw [zins_at]
      exact h2 (j - 1) (by omega) (by omega)
    · rw [zins_gt p (by omega)]
      exact h (i - 1) (j - 1) (by omega) (by omega)
theorem zins_cu {f : Nat → Int32} {n c : Nat} {x : Int32} (h : zAsc f n) (hc : c ≤ n) (h1 : ∀ j, j < c → (f j).toInt < x.toInt) (h2 : ∀ j, c ≤ j → j < n → x.toInt < (f j).toInt) (t : Int) : zcu (zins f c n x) (n + 1) t = zcu f n t + (if x.toInt ≤ t then 1 else 0) := by
  obtain ⟨d1, d2⟩ := zcu_spec (t := t) h
  have dn := zcu_le f n t
  generalize zcu f n t = d at d1 d2 dn ⊢
  by_cases hx : x.toInt ≤ t
  · rw [if_pos hx]
    have hcd : c ≤ d := by
      rcases Nat.lt_or_ge d c with q | q
      · have := d2 d (Nat.le_refl d) (by omega)
        have := h1 d q
        omega
      · exact q
    refine zcu_eq (by omega) (fun j hj => ?_) (fun j g1 g2 => ?_)
    · rcases Nat.lt_trichotomy j c with q | q | q
      · rw [zins_lt q]
        have := h1 j q
        omega
      · subst q
        rw [zins_at]
        exact hx
      · rw [zins_gt q (by omega)]
        exact d1 (j - 1) (by omega)
    · rw [zins_gt (by omega) (by omega)]
      exact d2 (j - 1) (by omega) (by omega)
  · rw [if_neg hx]
    have hcd : d ≤ c := by
      rcases Nat.lt_or_ge c d with q | q
      · have := d1 c q
        have := h2 c (Nat.le_refl c) (by omega)
        omega
      · exact q
    refine zcu_eq (by omega) (fun j hj => ?_) (fun j g1 g2 => ?_)
    · rw [zins_lt (by omega)]
      exact d1 j hj
    · rcases Nat.lt_trichotomy j c with q | q | q
      · rw [zins_lt q]
        exact d2 j g1 (by omega)
      · subst q
        rw [zins_at]
        omega
      · rw [zins_gt q (by omega)]
        have := h2 (j - 1) (by omega) (by omega)
        omega
theorem zdel_lt {f : Nat → Int32} {c n j : Nat} (h : j < c) : zdel f c n j = f j := by
  unfold zdel
  rw [if_neg (by omega)]
theorem zdel_ge {f : Nat → Int32} {c n j : Nat} (h : c ≤ j) (h2 : j + 1 < n) : zdel f c n j = f (j + 1) := by
  unfold zdel
  rw [if_pos ⟨h, h2⟩]
theorem zdel_asc {f : Nat → Int32} {n c : Nat} (h : zAsc f n) : zAsc (zdel f c n) (n - 1) := by
  intro i j hij hj
  rcases Nat.lt_or_ge j c with q | q
  · rw [zdel_lt q, zdel_lt (by omega)]
    exact h i j hij (by omega)
  · rw [zdel_ge q (by omega)]
    rcases Nat.lt_or_ge i c with p | p
    · rw [zdel_lt p]
      exact h i (j + 1) (by omega) (by omega)
    · rw [zdel_ge p (by omega)]
      exact h (i + 1) (j + 1) (by omega) (by omega)
theorem zdel_cu {f : Nat → Int32} {n c : Nat} (h : zAsc f n) (hc : c < n) (t : Int) : zcu f n t = zcu (zdel f c n) (n - 1) t + (if (f c).toInt ≤ t then 1 else 0) := by
  obtain ⟨d1, d2⟩ := zcu_spec (t := t) h
  have dn := zcu_le f n t
  generalize zcu f n t = d at d1 d2 dn ⊢
  by_cases hx : (f c).toInt ≤ t
  · rw [if_pos hx]
    have hcd : c < d := by
      rcases Nat.lt_or_ge c d with q | q
      · exact q
      · have := d2 c q hc
        omega
    have e : zcu (zdel f c n) (n - 1) t = d - 1 := by
      refine zcu_eq (by omega) (fun j hj => ?_) (fun j g1 g2 => ?_)
      · rcases Nat.lt_or_ge j c with q | q
        · rw [zdel_lt q]
          exact d1 j (by omega)
        · rw [zdel_ge q (by omega)]
          exact d1 (j + 1) (by omega)
      · rw [zdel_ge (by omega) (by omega)]
        exact d2 (j + 1) (by omega) (by omega)
    omega
  · rw [if_neg hx]
    have hcd : d ≤ c := by
      rcases Nat.lt_or_ge c d with q | q
      · exact absurd (d1 c q) hx
      · exact q
    have e : zcu (zdel f c n) (n - 1) t = d := by
      refine zcu_eq (by omega) (fun j hj => ?_) (fun j g1 g2 => ?_)
      · rw [zdel_lt (by omega)]
        exact d1 j hj
      · rcases Nat.lt_or_ge j c with q | q
        · rw [zdel_lt q]
          exact d2 j g1 (by omega)
        · rw [zdel_ge q (by omega)]
          exact d2 (j + 1) (by omega) (by omega)
    omega
/-- one tick more behind all -/
theorem zcu_snoc {f : Nat → Int32} {k : Nat} {x : Int32} (t : Int) : zcu (upd f k x) (k + 1) t = zcu f k t + (if x.toInt ≤ t then 1 else 0) := by
  have e : zcu (upd f k x) k t = zcu f k t := zcu_congr fun j hj => pk_un (by omega)
  by_cases hx : x.toInt ≤ t
  · rw [if_pos hx, zcu_t (by rw [pk_us]; exact hx), e]
  · rw [if_neg hx, zcu_f (by rw [pk_us]; exact hx), e]
    rfl
theorem zAsc.snoc {f : Nat → Int32} {k : Nat} {x : Int32} (h : zAsc f k) (hx : ∀ j, j < k → (f j).toInt < x.toInt) : zAsc (upd f k x) (k + 1) := by
  intro i j hij hj
  rcases Nat.lt_or_ge j k with q | q
  · rw [pk_un (by omega), pk_un (by omega)]
    exact h i j hij q
  · have : j = k := by omega
    subst this
    rw [pk_us, pk_un (by omega)]
    exact hx i hij
/-- odd in number -/
def zod (n : Nat) : Bool := decide (n % 2 = 1)
theorem zod_s (n : Nat) : zod (n + 1) = !zod n := by
  unfold zod
  rcases Nat.mod_two_eq_zero_or_one n with h | h
  · rw [show (n + 1) % 2 = 1 by omega, h]
    rfl
  · rw [show (n + 1) % 2 = 0 by omega, h]
    rfl
/-- the level of a wire at tick t -/
def zlv (S : zS) (w tk n : Nat) (t : Int) : Bool := xor (decide (zI S 160 w = 1)) (zod (zcu (zR S 22 tk) n t))
/-- a wire's row: n ticks that rise strictly, each of 0 to 9999 -/
def zRk (S : zS) (w tk n : Nat) : Prop := zI S 161 w = nI n ∧ zAsc (zR S 22 tk) n ∧ ∀ j, j < n → 0 ≤ (zR S 22 tk j).toInt ∧ (zR S 22 tk j).toInt ≤ 9999
/-- what flipAt's contract (c_X6_flipAt) makes of the row and of its parity: turned from x on -/
theorem zRk.flip {S S1 : zS} {w tk n : Nat} {x : Int32} (h : zRk S w tk n) (hn : n < 364) (hx : 0 ≤ x.toInt ∧ x.toInt ≤ 9999)
    (hp : (zwHas S w tk x = true ∧ S1 = zsI (zsR S 22 tk (zdel (zR S 22 tk) (zwC S w tk x) (zwN S w))) 161 w (zI S 161 w - 1)) ∨ (¬ zwHas S w tk x = true ∧ (0 ≤ zI S 161 w ∧ zI S 161 w < 364) ∧ S1 = zsI (zsR S 22 tk (zins (zR S 22 tk) (zwC S w tk x) (zI S 161 w).toNatClampNeg x)) 161 w (zI S 161 w + 1)) ∨ (¬ zwHas S w tk x = true ∧ ¬ (0 ≤ zI S 161 w ∧ zI S 161 w < 364) ∧ S1 = S)) :
    ∃ n', n' ≤ n + 1 ∧ zRk S1 w tk n' ∧ (∀ t, zod (zcu (zR S1 22 tk) n' t) = xor (zod (zcu (zR S 22 tk) n t)) (decide (x.toInt ≤ t))) ∧ (n' = n + 1 ↔ ¬ zwHas S w tk x = true) ∧ (zwHas S w tk x = true → n' = n - 1) := by
  obtain ⟨h1, h2, h3⟩ := h
  have hcl : (zI S 161 w).toNatClampNeg = n := by rw [h1, nI_clamp (by omega)]
  have hN : zwN S w = n := by
    show min (zI S 161 w).toNatClampNeg 364 = n
    rw [hcl]
    omega
  have hC : zwC S w tk x = zcu (zR S 22 tk) n (x.toInt - 1) := by
    unfold zwC
    rw [hN]
    exact zct_congr fun j _ => by
      by_cases g : zR S 22 tk j < x
      · rw [decide_eq_true g, decide_eq_true (by rw [Int32.lt_iff_toInt_lt] at g; omega)]
      · rw [decide_eq_false g, decide_eq_false (by rw [Int32.lt_iff_toInt_lt] at g; omega)]
  obtain ⟨s1, s2⟩ := zcu_spec (t := x.toInt - 1) h2
  have hcn := zcu_le (zR S 22 tk) n (x.toInt - 1)
  have hasx := zwHas_iff S w tk x
  rw [hN, hC] at hasx
  rw [hN, hC, hcl] at hp
  generalize zcu (zR S 22 tk) n (x.toInt - 1) = c at s1 s2 hcn hasx hp
  have hlow : ∀ j, j < c → (zR S 22 tk j).toInt < x.toInt := fun j hj => by
    have := s1 j hj
    omega
  rcases hp with ⟨q, e⟩ | ⟨q, q2, e⟩ | ⟨q, q2, -⟩
  · obtain ⟨g1, g2⟩ := hasx.mp q
    have hI : zI S1 161 w = nI (n - 1) := by
      rw [e, zI_s, h1]
      obtain ⟨k, rfl⟩ : ∃ k, n = k + 1 := ⟨n - 1, by omega⟩
      exact nI_pred k
    have hR : zR S1 22 tk = zdel (zR S 22 tk) c n := by
      rw [e]
      exact zR_s _ _ _ _
    refine ⟨n - 1, by omega, ⟨hI, by rw [hR]; exact zdel_asc h2, fun j hj => ?_⟩, fun t => ?_, ⟨fun g => absurd g (by omega), fun g => absurd q g⟩, fun _ => rfl⟩
    · rw [hR]
      rcases Nat.lt_or_ge j c with p | p
      · rw [zdel_lt p]
        exact h3 j (by omega)
      · rw [zdel_ge p (by omega)]
        exact h3 (j + 1) (by omega)
    · rw [hR, zdel_cu h2 g1 t, g2]
      by_cases ht : x.toInt ≤ t
      · rw [if_pos ht, zod_s, decide_eq_true ht]
        cases zod (zcu (zdel (zR S 22 tk) c n) (n - 1) t) <;> rfl
      · rw [if_neg ht, Nat.add_zero, decide_eq_false ht]
        cases zod (zcu (zdel (zR S 22 tk) c n) (n - 1) t) <;> rfl
  · have hhi : ∀ j, c ≤ j → j < n → x.toInt < (zR S 22 tk j).toInt := fun j g1 g2 => by
      have a1 := s2 j g1 g2
      rcases Nat.lt_or_ge c j with p | p
      · have a2 := s2 c (Nat.le_refl c) (by omega)
        have a3 := h2 c j p g2
        omega
      · have ej : j = c := by omega
        subst ej
        have : ¬ zR S 22 tk j = x := fun g => q (hasx.mpr ⟨g2, g⟩)
        have : (zR S 22 tk j).toInt ≠ x.toInt := fun g => this (Int32.toInt_inj.mp g)
        omega
    have hI : zI S1 161 w = nI (n + 1) := by
      rw [e, zI_s, h1]
      exact nI_1 n
    have hR : zR S1 22 tk = zins (zR S 22 tk) c n x := by
      rw [e]
      exact zR_s _ _ _ _
    refine ⟨n + 1, Nat.le_refl _, ⟨hI, by rw [hR]; exact zins_asc h2 hcn hlow hhi, fun j hj => ?_⟩, fun t => ?_, ⟨fun _ => q, fun _ => rfl⟩, fun g => absurd g q⟩
    · rw [hR]
      rcases Nat.lt_trichotomy j c with p | p | p
      · rw [zins_lt p]
        exact h3 j (by omega)
      · subst p
        rw [zins_at]
        exact hx
      · rw [zins_gt p (by omega)]
        exact h3 (j - 1) (by omega)
    · rw [hR, zins_cu h2 hcn hlow hhi t]
      by_cases ht : x.toInt ≤ t
      · rw [if_pos ht, zod_s, decide_eq_true ht]
        cases zod (zcu (zR S 22 tk) n t) <;> rfl
      · rw [if_neg ht, Nat.add_zero, decide_eq_false ht]
        cases zod (zcu (zR S 22 tk) n t) <;> rfl
  · exact absurd ⟨by rw [h1]; exact nI_pos' (by omega), by rw [h1]; exact (nI_ltI (by omega) (by decide)).mpr (show n < 364 from hn)⟩ q2
/-- the pattern that is being sent: b at first; what was sent rises strictly; P t: the level at tick t -/
def zPat (f : Nat → Int32) (k : Nat) (b : Bool) (P : Int → Bool) : Prop := zAsc f k ∧ ∀ t, P t = xor b (zod (zcu f k t))
theorem zPat.nil (f : Nat → Int32) (b : Bool) : zPat f 0 b (fun _ => b) := ⟨fun i j _ h => absurd h (Nat.not_lt_zero j), fun t => by cases b <;> rfl⟩
theorem zPat.send {f : Nat → Int32} {k : Nat} {b : Bool} {P : Int → Bool} {x : Int32} (h : zPat f k b P) (hx : ∀ j, j < k → (f j).toInt < x.toInt) : zPat (upd f k x) (k + 1) b (fun t => xor (P t) (decide (x.toInt ≤ t))) := by
  refine ⟨h.1.snoc hx, fun t => ?_⟩
  show xor (P t) (decide (x.toInt ≤ t)) = _
  rw [h.2 t, zcu_snoc]
  by_cases ht : x.toInt ≤ t
  · rw [if_pos ht, zod_s, decide_eq_true ht]
    cases b <;> cases zod (zcu f k t) <;> rfl
  · rw [if_neg ht, Nat.add_zero, decide_eq_false ht]
    cases b <;> cases zod (zcu f k t) <;> rfl
theorem zod_cu (f : Nat → Int32) (i : Nat) (t : Int) : zod (zcu f (i + 1) t) = xor (zod (zcu f i t)) (decide ((f i).toInt ≤ t)) := by
  by_cases ht : (f i).toInt ≤ t
  · rw [zcu_t ht, zod_s, decide_eq_true ht]
    cases zod (zcu f i t) <;> rfl
  · rw [zcu_f ht, decide_eq_false ht]
    cases zod (zcu f i t) <;> rfl
/-- a count after so many flips: one less for each that has its tick, one more else -/
def zsm (p : Nat → Bool) : Nat → Int
  | 0 => 0
  | n + 1 => zsm p n + (if p n = true then -1 else 1)
theorem zsm_rg (p : Nat → Bool) : ∀ n : Nat, -(n : Int) ≤ zsm p n ∧ zsm p n ≤ n
  | 0 => ⟨Int.le_refl _, Int.le_refl _⟩
  | n + 1 => by
    have h := zsm_rg p n
    show _ ≤ zsm p n + (if p n = true then -1 else 1) ∧ zsm p n + (if p n = true then -1 else 1) ≤ _
    split <;> omega
theorem z_add1 {a b : Int32} (h : -1000000 ≤ a.toInt ∧ a.toInt ≤ 1000000) (hb : -1000000 ≤ b.toInt ∧ b.toInt ≤ 1000000) : (a + b).toInt = a.toInt + b.toInt := by
  rw [Int32.toInt_add]
  exact Int.bmod_eq_of_le (by omega) (by omega)
theorem zsm_no {p : Nat → Bool} {a : Int32} {n0 i : Nat} (ha : a.toInt = (n0 : Int) + zsm p i) (h0 : n0 ≤ 1000) (hi : i ≤ 1000) (h : ¬ p i = true) : (a + 1).toInt = (n0 : Int) + zsm p (i + 1) := by
  have hr := zsm_rg p i
  have e1 : (1 : Int32).toInt = 1 := rfl
  rw [z_add1 (by omega) (by omega), e1, ha]
  show _ = (n0 : Int) + (zsm p i + (if p i = true then -1 else 1))
  rw [if_neg h]
  omega
theorem zsm_yes {p : Nat → Bool} {a : Int32} {n0 i : Nat} (ha : a.toInt = (n0 : Int) + zsm p i) (h0 : n0 ≤ 1000) (hi : i ≤ 1000) (h : p i = true) : (a + (-1)).toInt = (n0 : Int) + zsm p (i + 1) := by
  have hr := zsm_rg p i
  have e1 : ((-1 : Int32)).toInt = -1 := rfl
  rw [z_add1 (by omega) (by omega), e1, ha]
  show _ = (n0 : Int) + (zsm p i + (if p i = true then -1 else 1))
  rw [if_pos h]
  omega
/-- what is being sent over w: n calls of send went by; the level now; the pattern P; all ticks from lo on and ahead of nxt -/
def zSp (S0 S : zS) (w sn : Nat) (b : Bool) (P : Int → Bool) (cur : Int32) (lo nxt : Int) (n : Nat) : Prop := zChg S0 S w sn ∧ zI S 163 w = cur ∧ (cur = 0 ∨ cur = 1) ∧ (∀ t, nxt ≤ t + 1 → P t = decide (cur = 1)) ∧ ∃ k, k ≤ n ∧ zI S 164 w = nI k ∧ zPat (zR S 22 sn) k b P ∧ ∀ j, j < k → lo ≤ (zR S 22 sn j).toInt ∧ (zR S 22 sn j).toInt < nxt
theorem zSp.begin {S : zS} {w sn : Nat} {c : Int32} (hc : c = 0 ∨ c = 1) (lo nxt : Int) : zSp S (zsI (zsI S 163 w c) 164 w 0) w sn (decide (c = 1)) (fun _ => decide (c = 1)) c lo nxt 0 :=
  ⟨zChg.tr (zChg.I (Or.inl rfl)) (zChg.I (Or.inr rfl)), zI_t (by decide) (zI_s _ _ _ _), hc, fun _ _ => rfl, 0, Nat.le_refl _, zI_s _ _ _ _, zPat.nil _ _, fun j h => absurd h (Nat.not_lt_zero j)⟩
theorem zSp.same {S0 S : zS} {w sn n : Nat} {b : Bool} {P : Int → Bool} {cur x : Int32} {lo nxt : Int} (h : zSp S0 S w sn b P cur lo nxt n) (ht : nxt ≤ x.toInt) : zSp S0 S w sn b (fun t => if x.toInt ≤ t then decide (cur = 1) else P t) cur lo (x.toInt + 1) (n + 1) := by
  obtain ⟨h1, h2, h3, h4, k, h5, h6, h7, h8⟩ := h
  have e : (fun t => if x.toInt ≤ t then decide (cur = 1) else P t) = P := by
    funext t
    show (if x.toInt ≤ t then decide (cur = 1) else P t) = P t
    split
    · exact (h4 t (by omega)).symm
    · rfl
  rw [e]
  exact ⟨h1, h2, h3, fun t q => h4 t (by omega), k, by omega, h6, h7, fun j hj => ⟨(h8 j hj).1, by have := (h8 j hj).2; omega⟩⟩
theorem zSp.step {S0 S : zS} {w sn n k : Nat} {b : Bool} {P : Int → Bool} {cur v x : Int32} {lo nxt : Int} (h : zSp S0 S w sn b P cur lo nxt n) (hv : v = 0 ∨ v = 1) (hne : ¬ v = cur) (hk : zI S 164 w = nI k) (hkn : k ≤ n) (hn : n < 64) (ht : nxt ≤ x.toInt) (hlo : lo ≤ x.toInt) : zSp S0 (zsI (zsR (zsI S 163 w v) 22 sn (upd (zR S 22 sn) k x)) 164 w (nI (k + 1))) w sn b (fun t => if x.toInt ≤ t then decide (v = 1) else P t) v lo (x.toInt + 1) (n + 1) := by
  obtain ⟨h1, h2, h3, h4, k', h5, h6, h7, h8⟩ := h
  have hkk : k' = k := (nI_eq (by omega) (by omega)).mp (h6.symm.trans hk)
  subst hkk
  have hR : zR (zsI (zsR (zsI S 163 w v) 22 sn (upd (zR S 22 sn) k' x)) 164 w (nI (k' + 1))) 22 sn = upd (zR S 22 sn) k' x := zR_s _ _ _ _
  have hp := h7.send (x := x) (fun j hj => by have := (h8 j hj).2; omega)
  have e : (fun t => if x.toInt ≤ t then decide (v = 1) else P t) = (fun t => xor (P t) (decide (x.toInt ≤ t))) := by
    funext t
    show (if x.toInt ≤ t then decide (v = 1) else P t) = xor (P t) (decide (x.toInt ≤ t))
    by_cases g : x.toInt ≤ t
    · rw [if_pos g, decide_eq_true g, h4 t (by omega)]
      rcases hv with rfl | rfl <;> rcases h3 with rfl | rfl
      · exact absurd rfl hne
      · decide
      · decide
      · exact absurd rfl hne
    · rw [if_neg g, decide_eq_false g, Bool.xor_false]
  refine ⟨h1.tr ((zChg.I (Or.inl rfl)).tr (zChg.R.tr (zChg.I (Or.inr rfl)))), zI_t (by decide) (show zI (zsR (zsI S 163 w v) 22 sn (upd (zR S 22 sn) k' x)) 163 w = v from zI_s S 163 w v), hv, fun t q => if_pos (by omega), k' + 1, by omega, zI_s _ _ _ _, ?_, ?_⟩
  · rw [hR, e]
    exact hp
  · rw [hR]
    intro j hj
    by_cases g : j = k'
    · subst g
      rw [pk_us]
      exact ⟨hlo, by omega⟩
    · rw [pk_un g]
      have := h8 j (by omega)
      exact ⟨this.1, by omega⟩
theorem zb_iff {P Q : Prop} [Decidable P] [Decidable Q] : zb P = zb Q ↔ (P ↔ Q) := by
  unfold zb
  by_cases h : P <;> by_cases g : Q <;> simp [h, g]
theorem zpos {x : Int32} (h : ¬ x ≤ 0) : 0 < x := by
  rw [Int32.le_iff_toInt_le] at h
  rw [Int32.lt_iff_toInt_lt]
  omega
theorem zpos0 {x : Int32} (h : x ≤ 0) : ¬ 0 < x := by
  rw [Int32.le_iff_toInt_le] at h
  rw [Int32.lt_iff_toInt_lt]
  omega
/-- the level that is shown once nx of a wire's ticks went by -/
def zhl (S : zS) (w nx : Nat) : Bool := xor (decide (zI S 160 w = 1)) (zod nx)
def zlb (b : Bool) : Int32 := if b = true then 1 else 0
theorem zlb_01 (b : Bool) : zlb b = 0 ∨ zlb b = 1 := by cases b <;> decide
theorem zlb_t {b : Bool} : ¬ zlb b = 0 ↔ b = true := by cases b <;> decide
theorem zlb_f {b : Bool} : zlb b = 0 ↔ b = false := by cases b <;> decide
theorem zhl_0 {S : zS} {w : Nat} (h : zI S 160 w = 0 ∨ zI S 160 w = 1) : zI S 160 w = zlb (zhl S w 0) := by
  unfold zhl
  rcases h with h | h <;> rw [h] <;> decide
theorem zhl_s (S : zS) (w nx : Nat) : zhl S w (nx + 1) = !zhl S w nx := by
  unfold zhl
  rw [zod_s]
  cases decide (zI S 160 w = 1) <;> cases zod nx <;> rfl
theorem zhl_up {S : zS} {w nx : Nat} (h : zlb (zhl S w nx) = 0) : (1 : Int32) = zlb (zhl S w (nx + 1)) := by rw [zhl_s, zlb_f.mp h]; rfl
theorem zhl_dn {S : zS} {w nx : Nat} (h : ¬ zlb (zhl S w nx) = 0) : (0 : Int32) = zlb (zhl S w (nx + 1)) := by rw [zhl_s, zlb_t.mp h]; rfl
/-- a row of samples into which the first i levels of a wire were laid -/
def zsg (old : Nat → Int32) (bit : Int32) (L : Nat → Bool) (i : Nat) : Nat → Int32 := fun j => if j < i ∧ L j = true then old j ||| bit else old j
theorem zsg_0 (old : Nat → Int32) (bit : Int32) (L : Nat → Bool) : zsg old bit L 0 = old := funext fun j => if_neg (fun h => absurd h.1 (Nat.not_lt_zero j))
theorem zsg_n {old : Nat → Int32} {bit : Int32} {L : Nat → Bool} {i : Nat} (h : L i = false) : zsg old bit L i = zsg old bit L (i + 1) := funext fun j => by
  unfold zsg
  by_cases e : j = i
  · subst e
    rw [if_neg (fun q => absurd q.1 (Nat.lt_irrefl j)), if_neg (fun q => by rw [h] at q; exact absurd q.2 (by decide))]
  · by_cases g : j < i ∧ L j = true
    · rw [if_pos g, if_pos ⟨by omega, g.2⟩]
    · rw [if_neg g, if_neg (fun q => g ⟨by omega, q.2⟩)]
theorem zsg_y {old : Nat → Int32} {bit : Int32} {L : Nat → Bool} {i : Nat} (h : L i = true) : upd (zsg old bit L i) i (zsg old bit L i i ||| bit) = zsg old bit L (i + 1) := funext fun j => by
  by_cases e : j = i
  · subst e
    rw [pk_us]
    unfold zsg
    rw [if_neg (fun q => absurd q.1 (Nat.lt_irrefl j)), if_pos ⟨Nat.lt_succ_self j, h⟩]
  · rw [pk_un e]
    unfold zsg
    by_cases g : j < i ∧ L j = true
    · rw [if_pos g, if_pos ⟨by omega, g.2⟩]
    · rw [if_neg g, if_neg (fun q => g ⟨by omega, q.2⟩)]
/-- the samples of a capture: m of them; M w i: sample i is high on wire w -/
def zCp (S : zS) (c0 lv m : Nat) (M : Nat → Nat → Bool) : Prop := zI S 64 c0 = nI m ∧ m ≤ 400 ∧ ∀ w i, w < 4 → i < m → (((zR S 22 lv i) >>> (nI w &&& 31)) &&& 1 = 1 ↔ M w i = true)
theorem zCp.hi {S : zS} {c0 lv m : Nat} {M : Nat → Nat → Bool} (h : zCp S c0 lv m M) {w i : Nat} (hw : w < 4) (hi : i < m) : (((zR S 22 lv (nI i).toNatClampNeg) >>> (nI w &&& 31)) &&& 1 = 1 ↔ M w i = true) := by
  have := h.2.1
  rw [nI_clamp (by omega)]
  exact h.2.2 w i hw hi
/-- sample i differs on wire w from the one ahead -/
abbrev zcg (M : Nat → Nat → Bool) (w i : Nat) : Prop := 0 < i ∧ ¬ M w i = M w (i - 1)
theorem z_m31 {m : Nat} (h : m ≤ 400) : m < 2 ^ 31 := by omega
/-! blocks of samples -/
theorem zsh_l : ∀ q, q < 401 → ∀ d, d < 10 → nI q <<< (nI d &&& 31) = nI (q * 2 ^ d) := by decide +kernel
theorem zsh_r : ∀ q, q < 401 → ∀ d, d < 10 → nI q >>> (nI d &&& 31) = nI (q / 2 ^ d) := by decide +kernel
theorem zsh_a : ∀ q, q < 401 → ∀ d, d < 10 → nI q &&& (((1 : Int32) <<< (nI d &&& 31)) - 1) = nI (q % 2 ^ d) := by decide +kernel
theorem zp2 : ∀ d, d < 10 → 1 ≤ 2 ^ d ∧ 2 ^ d ≤ 512 := by decide
theorem nI_ge' {m : Nat} (h : m ≤ 400) : ¬ (400 : Int32) < nI m := by
  rw [show (400 : Int32) = nI 400 from rfl, nI_ltI (by omega) (by omega)]
  omega
