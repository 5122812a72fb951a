/-! the pattern of what is sent at equal steps -/
theorem zpt_lt {c : Int32} {L T : Nat → Int32} {t : Int} : ∀ {n : Nat}, (∀ j, j < n → t < (T j).toInt) → zpt c L T n t = decide (c = 1)
  | 0, _ => rfl
  | n + 1, h => by
    show (if (T n).toInt ≤ t then decide (L (n + 1) = 1) else zpt c L T n t) = _
    rw [if_neg (by have := h n (Nat.lt_succ_self n); omega)]
    exact zpt_lt (n := n) (fun j hj => h j (by omega))
theorem zpt_ge {c : Int32} {L T : Nat → Int32} {t : Int} {q : Nat} : ∀ {n : Nat}, 1 ≤ n → (∀ j, j < n → ((T j).toInt ≤ t ↔ j ≤ q)) → zpt c L T n t = decide (L (min (q + 1) n) = 1)
  | 0, h, _ => absurd h (by decide)
  | n + 1, _, h => by
    show (if (T n).toInt ≤ t then decide (L (n + 1) = 1) else zpt c L T n t) = _
    by_cases g : (T n).toInt ≤ t
    · have := (h n (Nat.lt_succ_self n)).mp g
      rw [if_pos g, show min (q + 1) (n + 1) = n + 1 by omega]
    · have h2 : ¬ n ≤ q := fun e => g ((h n (Nat.lt_succ_self n)).mpr e)
      rw [if_neg g, zpt_ge (n := n) (by omega) (fun j hj => h j (by omega)), show min (q + 1) (n + 1) = min (q + 1) n by omega]
/-- .. told at multiples of a step: τ j: the step of the j-th -/
def zpu (c : Int32) (L : Nat → Int32) (τ : Nat → Nat) : Nat → Nat → Bool
  | 0, _ => decide (c = 1)
  | n + 1, i => if τ n ≤ i then decide (L (n + 1) = 1) else zpu c L τ n i
theorem zpt_u {c : Int32} {L T : Nat → Int32} {τ : Nat → Nat} {hf i : Nat} (hh : 1 ≤ hf) : ∀ {n : Nat}, (∀ j, j < n → T j = nI (τ j * hf) ∧ τ j * hf < 2 ^ 31) → zpt c L T n ((i * hf : Nat) : Int) = zpu c L τ n i
  | 0, _ => rfl
  | n + 1, h => by
    obtain ⟨h1, h2⟩ := h n (Nat.lt_succ_self n)
    have e : (T n).toInt ≤ ((i * hf : Nat) : Int) ↔ τ n ≤ i := by
      rw [h1, nI_toInt h2, Int.ofNat_le]
      exact Nat.mul_le_mul_right_iff (by omega)
    show (if (T n).toInt ≤ _ then decide (L (n + 1) = 1) else zpt c L T n _) = (if τ n ≤ i then decide (L (n + 1) = 1) else zpu c L τ n i)
    rw [zpt_u hh (n := n) (fun j hj => h j (by omega))]
    by_cases g : τ n ≤ i
    · rw [if_pos (e.mpr g), if_pos g]
    · rw [if_neg (fun q => g (e.mp q)), if_neg g]
/-! a serial byte, told sample by sample -/
def zlv1 (v : Nat) (pr : Int32) (j : Nat) : Bool := decide (zlS (nI v) pr j = 1)
def zwave (v1 v2 : Nat) (pr : Int32) (g i : Nat) : Bool := if i = 0 then true else if i - 1 < 2 * zsbN pr + g then zlv1 v1 pr (min ((i - 1) / 2 + 1) (zsbN pr)) else zlv1 v2 pr (min ((i - 1 - 2 * zsbN pr - g) / 2 + 1) (zsbN pr))
theorem zsbN_ge (p : Int32) : 10 ≤ zsbN p := by
  unfold zsbN
  split <;> omega
/-- a serial byte's levels at a tick -/
theorem zser_at {v ta bt q : Nat} {pr : Int32} {t : Nat} (hta : ta + 12 * bt < 2 ^ 31) (hbt : 1 ≤ bt) (ht : ta ≤ t) (hq : (t - ta) / bt = q) : zpt 1 (zlS (nI v) pr) (ztk (nI ta) (nI bt)) (zsbN pr) (t : Int) = zlv1 v pr (min (q + 1) (zsbN pr)) := by
  have h11 := zsbN_le pr
  have h10 := zsbN_ge pr
  refine zpt_ge (by omega) (fun j hj => ?_)
  have hj2 : j * bt ≤ 11 * bt := Nat.mul_le_mul_right _ (by omega)
  rw [ztk_nI, nI_toInt (by omega), Int.ofNat_le, ← hq, Nat.le_div_iff_mul_le (by omega)]
  omega
theorem zser_lt {v ta bt : Nat} {pr : Int32} {t : Nat} (hta : ta + 12 * bt < 2 ^ 31) (ht : t < ta) : zpt 1 (zlS (nI v) pr) (ztk (nI ta) (nI bt)) (zsbN pr) (t : Int) = true := by
  have h11 := zsbN_le pr
  refine (zpt_lt (fun j hj => ?_)).trans (by decide)
  have hj2 : j * bt ≤ 11 * bt := Nat.mul_le_mul_right _ (by omega)
  rw [ztk_nI, nI_toInt (by omega)]
  omega
theorem zser_stop : ∀ v, v < 256 → zlv1 v 110 10 = true ∧ zlv1 v 101 11 = true ∧ zlv1 v 111 11 = true := by decide +kernel
theorem zser_start : ∀ v, v < 256 → zlv1 v 110 1 = false ∧ zlv1 v 101 1 = false ∧ zlv1 v 111 1 = false := by decide +kernel
def zsvl (L : Nat → Bool) : Nat → Nat
  | 0 => 0
  | n + 1 => zsvl L n + (if L (n + 2) = true then 2 ^ n else 0)
theorem zser_val : ∀ v, v < 256 → zsvl (zlv1 v 110) 8 = v ∧ zsvl (zlv1 v 101) 8 = v ∧ zsvl (zlv1 v 111) 8 = v := by decide +kernel
theorem zser_par : ∀ v, v < 256 → (zlv1 v 101 10 = true ↔ zpo (nI v) 101 = 1) ∧ (zlv1 v 111 10 = true ↔ zpo (nI v) 111 = 1) ∧ ¬ (zlv1 v 101 10 = true ↔ zpo (nI v) 111 = 1) ∧ ¬ (zlv1 v 111 10 = true ↔ zpo (nI v) 101 = 1) := by decide +kernel
abbrev zpr3 (pr : Int32) : Prop := pr = 110 ∨ pr = 101 ∨ pr = 111
theorem zser_stop' {v : Nat} {pr : Int32} (hv : v < 256) (hp : zpr3 pr) : zlv1 v pr (zsbN pr) = true := by
  obtain ⟨h1, h2, h3⟩ := zser_stop v hv
  rcases hp with rfl | rfl | rfl
  · exact h1
  · exact h2
  · exact h3
theorem zser_start' {v : Nat} {pr : Int32} (hv : v < 256) (hp : zpr3 pr) : zlv1 v pr 1 = false := by
  obtain ⟨h1, h2, h3⟩ := zser_start v hv
  rcases hp with rfl | rfl | rfl
  · exact h1
  · exact h2
  · exact h3
theorem zser_val' {v : Nat} {pr : Int32} (hv : v < 256) (hp : zpr3 pr) : zsvl (zlv1 v pr) 8 = v := by
  obtain ⟨h1, h2, h3⟩ := zser_val v hv
  rcases hp with rfl | rfl | rfl
  · exact h1
  · exact h2
  · exact h3
theorem zsv_eq {m L : Nat → Bool} {f : Nat} : ∀ {n : Nat}, (∀ j, j < n → m (f + 2 * (j + 1) + 1) = L (j + 2)) → zsv m f n = zsvl L n
  | 0, _ => rfl
  | n + 1, h => by
    show zsv m f n + (if m (f + 2 * (n + 1) + 1) = true then 2 ^ n else 0) = zsvl L n + (if L (n + 2) = true then 2 ^ n else 0)
    rw [zsv_eq (n := n) (fun j hj => h j (by omega)), h n (Nat.lt_succ_self n)]
/-- the wave at the middle of bit j of a byte that begins at sample f -/
theorem zwave_1 {v1 v2 g j : Nat} {pr : Int32} (hj : j < zsbN pr) : zwave v1 v2 pr g (1 + 2 * j + 1) = zlv1 v1 pr (j + 1) := by
  unfold zwave
  rw [if_neg (by omega), if_pos (by omega), show min ((1 + 2 * j + 1 - 1) / 2 + 1) (zsbN pr) = j + 1 by omega]
theorem zwave_2 {v1 v2 g j : Nat} {pr : Int32} (hj : j < zsbN pr) : zwave v1 v2 pr g (2 * zsbN pr + g + 1 + 2 * j + 1) = zlv1 v2 pr (j + 1) := by
  unfold zwave
  rw [if_neg (by omega), if_neg (by omega), show min ((2 * zsbN pr + g + 1 + 2 * j + 1 - 1 - 2 * zsbN pr - g) / 2 + 1) (zsbN pr) = j + 1 by omega]
theorem zDS_keep {m : Nat → Bool} {mm : Nat} {pr : Int32} {X : Nat × List zNt} {a : Nat} (hX : zDS m mm pr a = X) : ∀ b, a ≤ b → (∀ k, a ≤ k → k < b → ¬ (X.1 ≤ k + 1 ∧ m (k + 1) = false ∧ m k = true)) → zDS m mm pr b = X
  | 0, h, _ => by
    have : a = 0 := by omega
    subst this
    exact hX
  | b + 1, h, hk => by
    by_cases e : a = b + 1
    · subst e
      exact hX
    · have ih := zDS_keep hX b (by omega) (fun k h1 h2 => hk k h1 (by omega))
      rw [zDS_n (by rw [ih]; exact hk b (by omega) (Nat.lt_succ_self b)), ih]
/-- the fault that is told of a byte sent with parity pr and read with pr2 -/
def zflt (pr pr2 : Int32) : Int32 := if pr = pr2 then 45 else 112
theorem zser_flt {m : Nat → Bool} {f v : Nat} {pr pr2 : Int32} (hv : v < 256) (hp : zpr3 pr) (hp2 : pr2 = pr ∨ (pr = 101 ∧ pr2 = 111) ∨ (pr = 111 ∧ pr2 = 101)) (hm : ∀ j, j < zsbN pr → m (f + 2 * j + 1) = zlv1 v pr (j + 1)) : zsf m f pr2 v = zflt pr pr2 := by
  obtain ⟨q1, q2, q3, q4⟩ := zser_par v hv
  have hst := zser_stop' hv hp
  rcases hp2 with rfl | ⟨rfl, rfl⟩ | ⟨rfl, rfl⟩
  · have he : m (zse f pr2) = true := by
      have h10 := zsbN_ge pr2
      have := hm (zsbN pr2 - 1) (by omega)
      rw [show zsbN pr2 - 1 + 1 = zsbN pr2 by omega, hst] at this
      exact this
    unfold zflt
    rw [if_pos rfl]
    refine (zsf_k ?_ he).symm
    rcases hp with rfl | rfl | rfl
    · exact Or.inl rfl
    · refine Or.inr ?_
      rw [hm 9 (by decide)]
      exact q1
    · refine Or.inr ?_
      rw [hm 9 (by decide)]
      exact q2
  · unfold zflt
    rw [if_neg (by decide)]
    refine (zsf_p (by decide) ?_).symm
    rw [hm 9 (by decide)]
    exact q3
  · unfold zflt
    rw [if_neg (by decide)]
    refine (zsf_p (by decide) ?_).symm
    rw [hm 9 (by decide)]
    exact q4
theorem zse_of {f : Nat} {pr pr2 : Int32} (h : zsbN pr2 = zsbN pr) : zse f pr2 = f + 2 * (zsbN pr - 1) + 1 := by
  unfold zse
  rw [h]
/-- two bytes, a gap of g samples between them: both are told -/
theorem zser_run {v1 v2 g : Nat} {pr pr2 : Int32} (h1 : v1 < 256) (h2 : v2 < 256) (hp : zpr3 pr) (hp2 : pr2 = pr ∨ (pr = 101 ∧ pr2 = 111) ∨ (pr = 111 ∧ pr2 = 101)) :
    (zDS (zwave v1 v2 pr g) (4 * zsbN pr + g + 2) pr2 (4 * zsbN pr + g + 1)).2 = [(66, nI 1, nI (2 * zsbN pr), nI v1, zflt pr pr2), (66, nI (2 * zsbN pr + g + 1), nI (4 * zsbN pr + g), nI v2, zflt pr pr2)] := by
  have hN2 : zsbN pr2 = zsbN pr := by
    rcases hp2 with rfl | ⟨rfl, rfl⟩ | ⟨rfl, rfl⟩ <;> rfl
  have h10 := zsbN_ge pr
  have h11 := zsbN_le pr
  have w1 : ∀ j, j < zsbN pr → zwave v1 v2 pr g (1 + 2 * j + 1) = zlv1 v1 pr (j + 1) := fun j hj => zwave_1 hj
  have w2 : ∀ j, j < zsbN pr → zwave v1 v2 pr g (2 * zsbN pr + g + 1 + 2 * j + 1) = zlv1 v2 pr (j + 1) := fun j hj => zwave_2 hj
  have e1 : zse 1 pr2 = 2 * zsbN pr := by
    rw [zse_of hN2]
    omega
  have e2 : zse (2 * zsbN pr + g + 1) pr2 = 4 * zsbN pr + g := by
    rw [zse_of hN2]
    omega
  have val1 : zsv (zwave v1 v2 pr g) 1 8 = v1 := (zsv_eq (L := zlv1 v1 pr) (fun j hj => w1 (j + 1) (by omega))).trans (zser_val' h1 hp)
  have val2 : zsv (zwave v1 v2 pr g) (2 * zsbN pr + g + 1) 8 = v2 := (zsv_eq (L := zlv1 v2 pr) (fun j hj => w2 (j + 1) (by omega))).trans (zser_val' h2 hp)
  have s0 : zwave v1 v2 pr g 0 = true := rfl
  have s1 : zwave v1 v2 pr g 1 = false := by
    unfold zwave
    rw [if_neg (by omega), if_pos (by omega), show min ((1 - 1) / 2 + 1) (zsbN pr) = 1 by omega]
    exact zser_start' h1 hp
  have shi : ∀ i, 2 * zsbN pr ≤ i → i ≤ 2 * zsbN pr + g → zwave v1 v2 pr g i = true := fun i g1 g2 => by
    unfold zwave
    rw [if_neg (by omega), if_pos (by omega), show min ((i - 1) / 2 + 1) (zsbN pr) = zsbN pr by omega]
    exact zser_stop' h1 hp
  have slo : zwave v1 v2 pr g (2 * zsbN pr + g + 1) = false := by
    unfold zwave
    rw [if_neg (by omega), if_neg (by omega), show min ((2 * zsbN pr + g + 1 - 1 - 2 * zsbN pr - g) / 2 + 1) (zsbN pr) = 1 by omega]
    exact zser_start' h2 hp
  have send : zwave v1 v2 pr g (4 * zsbN pr + g + 1) = true := by
    unfold zwave
    rw [if_neg (by omega), if_neg (by omega), show min ((4 * zsbN pr + g + 1 - 1 - 2 * zsbN pr - g) / 2 + 1) (zsbN pr) = zsbN pr by omega]
    exact zser_stop' h2 hp
  have hA : zDS (zwave v1 v2 pr g) (4 * zsbN pr + g + 2) pr2 1 = (2 * zsbN pr + 1, [(66, nI 1, nI (2 * zsbN pr), nI v1, zflt pr pr2)]) := by
    rw [zDS_y (k := 0) (show (1 : Nat) ≤ 0 + 1 by decide) s1 s0, show (0 + 1 : Nat) = 1 from rfl, zTS_1 (by rw [e1]; omega) (by rw [show 1 + 2 * 0 + 1 = 1 + 2 * 0 + 1 from rfl, w1 0 (by omega), zser_start' h1 hp]; decide), e1, val1, zser_flt h1 hp hp2 w1]
    rfl
  have hB : zDS (zwave v1 v2 pr g) (4 * zsbN pr + g + 2) pr2 (2 * zsbN pr + g) = (2 * zsbN pr + 1, [(66, nI 1, nI (2 * zsbN pr), nI v1, zflt pr pr2)]) := zDS_keep hA _ (by omega) (fun k g1 g2 q => by
    have q1 : 2 * zsbN pr + 1 ≤ k + 1 := q.1
    have := shi (k + 1) (by omega) (by omega)
    rw [q.2.1] at this
    exact absurd this (by decide))
  have hC : zDS (zwave v1 v2 pr g) (4 * zsbN pr + g + 2) pr2 (2 * zsbN pr + g + 1) = (4 * zsbN pr + g + 1, [(66, nI 1, nI (2 * zsbN pr), nI v1, zflt pr pr2), (66, nI (2 * zsbN pr + g + 1), nI (4 * zsbN pr + g), nI v2, zflt pr pr2)]) := by
    rw [zDS_y (k := 2 * zsbN pr + g) (by rw [hB]; show 2 * zsbN pr + 1 ≤ _; omega) slo (shi _ (by omega) (by omega)), hB, zTS_1 (by rw [e2]; omega) (by rw [show 2 * zsbN pr + g + 1 + 2 * 0 + 1 = 2 * zsbN pr + g + 1 + 2 * 0 + 1 from rfl, w2 0 (by omega), zser_start' h2 hp]; decide), e2, val2, zser_flt h2 hp hp2 w2]
    rfl
  rw [zDS_keep hC (4 * zsbN pr + g + 1) (by omega) (fun k g1 g2 q => by
    have q1 : 4 * zsbN pr + g + 1 ≤ k + 1 := q.1
    have e : k = 4 * zsbN pr + g := by omega
    subst e
    rw [send] at q
    exact absurd q.2.1 (by decide))]
