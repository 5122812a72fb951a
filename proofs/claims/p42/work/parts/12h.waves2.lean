/-! what two serial bytes show, sample by sample -/
theorem zser_wave {v1 v2 h g i : Nat} {pr : Int32} (h1 : v1 < 256) (hp : zpr3 pr) (hh : 1 ≤ h ∧ h ≤ 5) (hg : g ≤ 40) (hi : i ≤ 4 * zsbN pr + g + 1) :
    xor (zpt 1 (zlS (nI v1) pr) (ztk (nI 5) (nI (2 * h))) (zsbN pr) ((5 - h + i * h : Nat) : Int)) (xor true (zpt 1 (zlS (nI v2) pr) (ztk (nI (5 + zsbN pr * (2 * h) + g * h)) (nI (2 * h))) (zsbN pr) ((5 - h + i * h : Nat) : Int))) = zwave v1 v2 pr g i := by
  have h10 := zsbN_ge pr
  have h11 := zsbN_le pr
  have b1 : zsbN pr * (2 * h) ≤ 11 * (2 * h) := Nat.mul_le_mul_right _ h11
  have b2 : g * h ≤ 40 * h := Nat.mul_le_mul_right _ hg
  by_cases hi0 : i = 0
  · subst hi0
    have e : 5 - h + 0 * h = 5 - h := by omega
    rw [e, zser_lt (by omega) (by omega), zser_lt (by omega) (by omega)]
    rfl
  · have et : 5 - h + i * h = 5 + (i - 1) * h := by
      obtain ⟨j, rfl⟩ : ∃ j, i = j + 1 := ⟨i - 1, by omega⟩
      rw [Nat.add_mul, Nat.one_mul, show j + 1 - 1 = j by omega]
      omega
    have q1 : (5 + (i - 1) * h - 5) / (2 * h) = (i - 1) / 2 := by
      rw [show 5 + (i - 1) * h - 5 = (i - 1) * h by omega]
      exact Nat.mul_div_mul_right _ _ (by omega)
    have z1 := zser_at (v := v1) (ta := 5) (bt := 2 * h) (pr := pr) (t := 5 + (i - 1) * h) (by omega) (by omega) (by omega) q1
    rw [et, z1]
    unfold zwave
    rw [if_neg hi0]
    by_cases hc : i - 1 < 2 * zsbN pr + g
    · have lt : (i - 1) * h < (2 * zsbN pr + g) * h := Nat.mul_lt_mul_of_pos_right hc (by omega)
      rw [Nat.add_mul, show 2 * zsbN pr * h = zsbN pr * (2 * h) by rw [Nat.mul_comm 2 (zsbN pr), Nat.mul_assoc]] at lt
      rw [if_pos hc, zser_lt (by omega) (by omega)]
      cases zlv1 v1 pr (min ((i - 1) / 2 + 1) (zsbN pr)) <;> rfl
    · have ge : (2 * zsbN pr + g) * h ≤ (i - 1) * h := Nat.mul_le_mul_right _ (by omega)
      have hsub : (i - 1) * h - (2 * zsbN pr + g) * h = (i - 1 - 2 * zsbN pr - g) * h := by
        rw [← Nat.sub_mul, show i - 1 - (2 * zsbN pr + g) = i - 1 - 2 * zsbN pr - g by omega]
      have e2 : (2 * zsbN pr + g) * h = zsbN pr * (2 * h) + g * h := by
        rw [Nat.add_mul, Nat.mul_comm 2 (zsbN pr), Nat.mul_assoc]
      have q2 : (5 + (i - 1) * h - (5 + zsbN pr * (2 * h) + g * h)) / (2 * h) = (i - 1 - 2 * zsbN pr - g) / 2 := by
        rw [show 5 + (i - 1) * h - (5 + zsbN pr * (2 * h) + g * h) = (i - 1 - 2 * zsbN pr - g) * h by omega]
        exact Nat.mul_div_mul_right _ _ (by omega)
      rw [if_neg hc, zser_at (ta := 5 + zsbN pr * (2 * h) + g * h) (by omega) (by omega) (by omega) q2, show min ((i - 1) / 2 + 1) (zsbN pr) = zsbN pr by omega, zser_stop' h1 hp]
      cases zlv1 v2 pr (min ((i - 1 - 2 * zsbN pr - g) / 2 + 1) (zsbN pr)) <;> rfl
/-! two wires -/
theorem zpu_la {c : Int32} {L : Nat → Int32} {τ : Nat → Nat} (h0 : L 0 = c) {i k : Nat} : ∀ {n : Nat}, k ≤ n → (∀ j, j < k → τ j ≤ i) → (∀ j, k ≤ j → j < n → i < τ j) → zpu c L τ n i = decide (L k = 1)
  | 0, h, _, _ => by
    have : k = 0 := by omega
    subst this
    rw [h0]
    rfl
  | n + 1, h, h1, h2 => by
    show (if τ n ≤ i then decide (L (n + 1) = 1) else zpu c L τ n i) = _
    by_cases e : k = n + 1
    · subst e
      rw [if_pos (h1 n (Nat.lt_succ_self n))]
    · rw [if_neg (by have := h2 n (by omega) (Nat.lt_succ_self n); omega)]
      exact zpu_la h0 (n := n) (by omega) h1 (fun j g1 g2 => h2 j g1 (by omega))
def zcw (i : Nat) : Bool := zpu 1 zlC (fun j => zmC j + 1) 56 i
theorem zcw_at : ∀ i, i < 60 → zcw i = decide (i < 2 ∨ i % 2 = 1 ∨ 57 ≤ i) := by decide +kernel
def zdw (W : Int32) (i : Nat) : Bool := zpu 1 (zlD W) (fun j => zmD j + 1) 30 i
def zdk (i : Nat) : Nat := if i = 0 then 0 else if i = 1 then 1 else if i < 56 then i / 2 + 1 else if i < 58 then 29 else 30
theorem zdk_at : ∀ i, i < 60 → zdk i ≤ 30 ∧ (∀ j, j < zdk i → zmD j + 1 ≤ i) ∧ (∀ j, j < 30 → zdk i ≤ j → i < zmD j + 1) := by decide +kernel
theorem zdw_at {W : Int32} {i : Nat} (hi : i < 60) : zdw W i = decide (zlD W (zdk i) = 1) := by
  obtain ⟨h1, h2, h3⟩ := zdk_at i hi
  exact zpu_la rfl h1 h2 (fun j g1 g2 => h3 j g2 g1)
theorem zTB_f {b : Bool} {i fb bt : Nat} {r : Bool × Nat × Nat × List zNt × (Nat → Int32)} : zTB b i (true, [], fb, bt, r) = (true, [b], i, bt, r) := by
  rw [zTB_n rfl (by decide), if_pos rfl]
theorem zTB_m {b c : Bool} {bs : List Bool} {i fb bt : Nat} {r : Bool × Nat × Nat × List zNt × (Nat → Int32)} (g : ¬ (c :: bs).length + 1 = 9) : zTB b i (true, c :: bs, fb, bt, r) = (true, b :: c :: bs, fb, bt, r) := by
  rw [zTB_n rfl g, if_neg (List.cons_ne_nil _ _)]
theorem zTB_l {b c wr : Bool} {bs : List Bool} {i fb bt ad tg : Nat} {L : List zNt} {rg : Nat → Int32} (g : (c :: bs).length + 1 = 9) : zTB b i (true, c :: bs, fb, bt, wr, ad, tg, L, rg) = (true, [], fb, bt + 1, zyW (zval (c :: bs)) (!b) bt wr, zyA (zval (c :: bs)) bt ad, zyT (zval (c :: bs)) bt tg, L ++ [zyN (zval (c :: bs)) (!b) i fb bt], zyR (zval (c :: bs)) (!b) bt wr ad tg rg) := by
  rw [zTB_9 rfl g, if_neg (List.cons_ne_nil _ _)]
/-- one byte, bit after bit -/
theorem zbyte (i fb bt ad tg : Nat) (wr b0 b1 b2 b3 b4 b5 b6 b7 b8 : Bool) (L : List zNt) (rg : Nat → Int32) :
    zTB b8 (i + 16) (zTB b7 (i + 14) (zTB b6 (i + 12) (zTB b5 (i + 10) (zTB b4 (i + 8) (zTB b3 (i + 6) (zTB b2 (i + 4) (zTB b1 (i + 2) (zTB b0 i (true, [], fb, bt, wr, ad, tg, L, rg))))))))) =
    (true, [], i, bt + 1, zyW (zval [b7, b6, b5, b4, b3, b2, b1, b0]) (!b8) bt wr, zyA (zval [b7, b6, b5, b4, b3, b2, b1, b0]) bt ad, zyT (zval [b7, b6, b5, b4, b3, b2, b1, b0]) bt tg, L ++ [zyN (zval [b7, b6, b5, b4, b3, b2, b1, b0]) (!b8) (i + 16) i bt], zyR (zval [b7, b6, b5, b4, b3, b2, b1, b0]) (!b8) bt wr ad tg rg) := by
  rw [zTB_f, zTB_m (c := b0) (bs := []) (by simp), zTB_m (c := b1) (bs := [b0]) (by simp), zTB_m (c := b2) (bs := [b1, b0]) (by simp), zTB_m (c := b3) (bs := [b2, b1, b0]) (by simp), zTB_m (c := b4) (bs := [b3, b2, b1, b0]) (by simp), zTB_m (c := b5) (bs := [b4, b3, b2, b1, b0]) (by simp), zTB_m (c := b6) (bs := [b5, b4, b3, b2, b1, b0]) (by simp), zTB_l (c := b7) (bs := [b6, b5, b4, b3, b2, b1, b0]) rfl]
def zbts (x : Nat → Bool) (rg : Nat → Int32) : Nat → zTau
  | 0 => (true, [], 0, 0, false, 0, 0, [(83, nI 1, nI 1, 0, 45)], rg)
  | n + 1 => zTB (x n) (2 * n + 3) (zbts x rg n)
theorem zRT_bits {W : Int32} {rg : Nat → Int32} : ∀ n, n ≤ 27 → zRT zcw (zdw W) rg (2 * n + 1) = zbts (fun n => decide (zlD W (n + 2) = 1)) rg n
  | 0, _ => by
    have c0 : zcw 0 = true := zcw_at 0 (by decide)
    have c1 : zcw 1 = true := zcw_at 1 (by decide)
    have d0 : zdw W 0 = true := zdw_at (by decide)
    have d1 : zdw W 1 = false := zdw_at (by decide)
    exact zRT_s (k := 0) (fun g => by rw [c0] at g; exact absurd g.2 (by decide)) ⟨c1, d1, d0⟩
  | n + 1, hn => by
    have ih := zRT_bits (W := W) (rg := rg) n (by omega)
    have ca : zcw (2 * n + 2) = false := by
      rw [zcw_at _ (by omega)]
      exact decide_eq_false (by omega)
    have cb : zcw (2 * n + 3) = true := by
      rw [zcw_at _ (by omega)]
      exact decide_eq_true (by omega)
    have e1 : zRT zcw (zdw W) rg (2 * n + 2) = zRT zcw (zdw W) rg (2 * n + 1) := zRT_n (k := 2 * n + 1) (fun g => by rw [ca] at g; exact absurd g.1 (by decide)) (fun g => by rw [ca] at g; exact absurd g.1 (by decide)) (fun g => by rw [ca] at g; exact absurd g.1 (by decide))
    have e2 : zRT zcw (zdw W) rg (2 * n + 3) = zTB (zdw W (2 * n + 3)) (2 * n + 3) (zRT zcw (zdw W) rg (2 * n + 2)) := zRT_b (k := 2 * n + 2) ⟨cb, ca⟩
    have ed : zdw W (2 * n + 3) = decide (zlD W (n + 2) = 1) := by
      rw [zdw_at (by omega)]
      have : zdk (2 * n + 3) = n + 2 := by
        unfold zdk
        rw [if_neg (by omega), if_neg (by omega), if_pos (by omega)]
        omega
      rw [this]
    rw [show 2 * (n + 1) + 1 = 2 * n + 3 by omega, e2, e1, ih, ed]
    rfl
def zby (x : Nat → Bool) (o : Nat) : Nat := zval [x (o + 7), x (o + 6), x (o + 5), x (o + 4), x (o + 3), x (o + 2), x (o + 1), x o]
/-- what is told of two wires, and the registers -/
theorem zRT_two {W : Int32} {rg : Nat → Int32} (x : Nat → Bool) (hx : ∀ n, x n = decide (zlD W (n + 2) = 1)) :
    (zRT zcw (zdw W) rg 59).2.2.2.2.2.2.2.1 = [(83, nI 1, nI 1, 0, 45), zyN (zby x 0) (!x 8) 19 3 0, zyN (zby x 9) (!x 17) 37 21 1, zyN (zby x 18) (!x 26) 55 39 2, (69, nI 58, nI 58, 0, 45)] ∧
    (zRT zcw (zdw W) rg 59).2.2.2.2.2.2.2.2 = zyR (zby x 18) (!x 26) 2 (zyW (zby x 9) (!x 17) 1 (zyW (zby x 0) (!x 8) 0 false)) (zby x 0 / 2) (zby x 9 % 16) rg := by
  have hx2 : (fun n => decide (zlD W (n + 2) = 1)) = x := funext fun n => (hx n).symm
  have c56 : zcw 56 = false := zcw_at 56 (by decide)
  have c57 : zcw 57 = true := zcw_at 57 (by decide)
  have c58 : zcw 58 = true := zcw_at 58 (by decide)
  have c59 : zcw 59 = true := zcw_at 59 (by decide)
  have d57 : zdw W 57 = false := zdw_at (by decide)
  have d58 : zdw W 58 = true := zdw_at (by decide)
  have d59 : zdw W 59 = true := zdw_at (by decide)
  have e55 : zRT zcw (zdw W) rg 55 = zbts x rg 27 := by
    rw [← hx2]
    exact zRT_bits 27 (by decide)
  have f9 : zbts x rg 9 = (true, [], 3, 1, zyW (zby x 0) (!x 8) 0 false, zyA (zby x 0) 0 0, zyT (zby x 0) 0 0, [(83, nI 1, nI 1, 0, 45)] ++ [zyN (zby x 0) (!x 8) 19 3 0], zyR (zby x 0) (!x 8) 0 false 0 0 rg) := by
    have h9 : zbts x rg 9 = zTB (x 8) 19 (zTB (x 7) 17 (zTB (x 6) 15 (zTB (x 5) 13 (zTB (x 4) 11 (zTB (x 3) 9 (zTB (x 2) 7 (zTB (x 1) 5 (zTB (x 0) 3 (true, [], 0, 0, false, 0, 0, [(83, nI 1, nI 1, 0, 45)], rg))))))))) := rfl
    rw [h9]
    exact zbyte 3 0 0 0 0 false (x 0) (x 1) (x 2) (x 3) (x 4) (x 5) (x 6) (x 7) (x 8) _ rg
  have f18 : zbts x rg 18 = zTB (x 17) 37 (zTB (x 16) 35 (zTB (x 15) 33 (zTB (x 14) 31 (zTB (x 13) 29 (zTB (x 12) 27 (zTB (x 11) 25 (zTB (x 10) 23 (zTB (x 9) 21 (zbts x rg 9))))))))) := rfl
  have f27 : zbts x rg 27 = zTB (x 26) 55 (zTB (x 25) 53 (zTB (x 24) 51 (zTB (x 23) 49 (zTB (x 22) 47 (zTB (x 21) 45 (zTB (x 20) 43 (zTB (x 19) 41 (zTB (x 18) 39 (zbts x rg 18))))))))) := rfl
  have r0 : zyR (zby x 0) (!x 8) 0 false 0 0 rg = rg := if_neg (fun g => absurd g.1 (by decide))
  rw [f9, r0] at f18
  rw [zbyte 21 3 1] at f18
  have r1 : ∀ wr ad tg, zyR (zval [x 16, x 15, x 14, x 13, x 12, x 11, x 10, x 9]) (!x 17) 1 wr ad tg rg = rg := fun wr ad tg => if_neg (fun g => absurd g.1 (by decide))
  rw [r1] at f18
  rw [f18, zbyte 39 21 2] at f27
  have e56 : zRT zcw (zdw W) rg 56 = zRT zcw (zdw W) rg 55 := zRT_n (k := 55) (fun g => by rw [c56] at g; exact absurd g.1 (by decide)) (fun g => by rw [c56] at g; exact absurd g.1 (by decide)) (fun g => by rw [c56] at g; exact absurd g.1 (by decide))
  have e57 : zRT zcw (zdw W) rg 57 = zTB (zdw W 57) 57 (zRT zcw (zdw W) rg 56) := zRT_b (k := 56) ⟨c57, c56⟩
  have e58 := zRT_e (c := zcw) (d := zdw W) (rg := rg) (k := 57) (fun g => by rw [c57] at g; exact absurd g.2 (by decide)) (fun g => by rw [d58] at g; exact absurd g.2.1 (by decide)) ⟨c58, d58, d57⟩
  have e59 : zRT zcw (zdw W) rg 59 = zRT zcw (zdw W) rg 58 := zRT_n (k := 58) (fun g => by rw [c58] at g; exact absurd g.2 (by decide)) (fun g => by rw [d59] at g; exact absurd g.2.1 (by decide)) (fun g => by rw [d58] at g; exact absurd g.2.2 (by decide))
  rw [e59, e58, e57, e56, e55, f27, d57, zTB_f]
  exact ⟨rfl, rfl⟩
