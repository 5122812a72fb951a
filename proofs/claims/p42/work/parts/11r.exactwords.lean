/-! how many flips a wire has, told by its levels -/
def zhp (G : Int → Bool) (x : Nat → Nat) : Nat → Bool := fun j => decide (¬ G (x j : Int) = G ((x j : Int) - 1))
theorem zsm_congr {p q : Nat → Bool} : ∀ {n : Nat}, (∀ j, j < n → p j = q j) → zsm p n = zsm q n
  | 0, _ => rfl
  | n + 1, h => by
    show zsm p n + (if p n = true then -1 else 1) = zsm q n + (if q n = true then -1 else 1)
    rw [zsm_congr (n := n) (fun j hj => h j (by omega)), h n (Nat.lt_succ_self n)]
theorem zcu_all {f : Nat → Int32} {n : Nat} {t : Int} (h : ∀ j, j < n → (f j).toInt ≤ t) : zcu f n t = n := zct_all fun j hj => decide_eq_true (h j hj)
theorem zhas_F {S : zS} {w tk n : Nat} {x : Nat} {G : Int → Bool} (h : zRk S w tk n) (hn : n ≤ 364) (hx : x < 2 ^ 31) (hF : ∀ t, zlv S w tk n t = G t) : zwHas S w tk (nI x) = decide (¬ G (x : Int) = G ((x : Int) - 1)) := by
  have h1 := zhas_iff (x := nI x) h hn
  rw [nI_toInt hx] at h1
  have h2 := hF x
  have h3 := hF ((x : Int) - 1)
  unfold zlv at h2 h3
  rw [← h2, ← h3]
  cases hz : zwHas S w tk (nI x)
  · rw [eq_comm, decide_eq_false_iff_not]
    intro g
    have h9 := h1.mpr (fun e => g (by rw [e]))
    rw [hz] at h9
    exact absurd h9 (by decide)
  · rw [eq_comm, decide_eq_true_eq]
    intro g
    apply h1.mp hz
    revert g
    cases decide (zI S 160 w = 1) <;> cases zod (zcu (zR S 22 tk) n (x : Int)) <;> cases zod (zcu (zR S 22 tk) n ((x : Int) - 1)) <;> decide
theorem zhas_step {S S2 : zS} {w tk n n0 i : Nat} {sent : Nat → Int32} (hrk : zRk S2 w tk n) (hn : n ≤ 364) (h0 : zRk S w tk n0) (hn0 : n0 ≤ 364) (hasc : ∀ j, j < i → (sent j).toInt < (sent i).toInt)
    (hlv : ∀ t, zod (zcu (zR S2 22 tk) n t) = xor (zod (zcu (zR S 22 tk) n0 t)) (zod (zcu sent i t))) : zwHas S2 w tk (sent i) = true ↔ zwHas S w tk (sent i) = true := by
  rw [zhas_iff hrk hn, zhas_iff h0 hn0, hlv, hlv, zcu_all (f := sent) (n := i) (t := (sent i).toInt) (fun j hj => by have := hasc j hj; omega), zcu_all (f := sent) (n := i) (t := (sent i).toInt - 1) (fun j hj => by have := hasc j hj; omega)]
  cases zod i <;> cases zod (zcu (zR S 22 tk) n0 (sent i).toInt) <;> cases zod (zcu (zR S 22 tk) n0 ((sent i).toInt - 1)) <;> decide
theorem zsm_s (p : Nat → Bool) (n : Nat) : zsm p (n + 1) = zsm p n + (if p n = true then -1 else 1) := rfl
theorem zexact {S S2 S3 : zS} {w tk n n0 i n2 : Nat} {sent : Nat → Int32} (hrk : zRk S2 w tk n) (hn : n ≤ 363) (hc : (n : Int) = (n0 : Int) + zsm (fun j => zwHas S w tk (sent j)) i) (hh : zwHas S2 w tk (sent i) = true ↔ zwHas S w tk (sent i) = true)
    (h1 : n2 = n + 1 ↔ ¬ zwHas S2 w tk (sent i) = true) (h2 : zwHas S2 w tk (sent i) = true → n2 = n - 1) : (n2 : Int) = (n0 : Int) + zsm (fun j => zwHas S w tk (sent j)) (i + 1) := by
  rw [zsm_s]
  by_cases g : zwHas S2 w tk (sent i) = true
  · have e := h2 g
    have hp : 0 < n := by
      have h3 := ((zwHas_iff _ _ _ _).mp g).1
      have h4 : zwN S2 w = min (zI S2 161 w).toNatClampNeg 364 := rfl
      rw [hrk.1, nI_clamp (by omega)] at h4
      omega
    rw [if_pos (hh.mp g)]
    omega
  · have e := h1.mpr g
    rw [if_neg (fun q => g (hh.mpr q))]
    omega
theorem zOb.exact {S S1 : zS} {a : Nat → Nat} {F : Nat → Int → Bool} {N : Nat → Nat} {A1 A2 : Int32} {rg : Nat → Int32} {ns w n' : Nat} {G : Int → Bool} {L : List zNt} (hD : zDs a) (h : zOb S a F N A1 A2 rg ns L) (hw : w < 4) (g : zFlp S S1 (a (10 + w)) (a (20 + w))) (h1 : zRk S1 (a (10 + w)) (a (20 + w)) n') (h2 : n' ≤ 300) {k : Nat}
    (h3 : ∀ t, zod (zcu (zR S1 22 (a (20 + w))) n' t) = xor (zod (zcu (zR S 22 (a (20 + w))) (N w) t)) (zod (zcu (zR S 22 (a (30 + w))) k t))) (hG : ∀ t, zod (zcu (zR S 22 (a (30 + w))) k t) = G t) : zOb S1 a (zup F w (fun t => xor (F w t) (G t))) (zup N w n') A1 A2 rg ns L := by
  refine h.flp hD hw g h1 h2 (fun t => ?_)
  have e : zI S1 160 (a (10 + w)) = zI S 160 (a (10 + w)) := g.2.1 160 _ (Or.inr (by decide))
  have hF := (h.2.2.1 w hw).2.2.2 t
  unfold zlv at hF ⊢
  rw [e, h3 t, ← hF, hG t]
  cases decide (zI S 160 (a (10 + w)) = 1) <;> cases zod (zcu (zR S 22 (a (20 + w))) (N w) t) <;> cases G t <;> rfl
/-- one tick that is sent, two -/
theorem zcu_1 {f : Nat → Int32} {x : Nat} (hx : x < 2 ^ 31) (h : f 0 = nI x) (t : Int) : zod (zcu f 1 t) = decide ((x : Int) ≤ t) := by
  rw [zod_cu, h, nI_toInt hx]
  show xor (zod 0) _ = _
  cases decide ((x : Int) ≤ t) <;> rfl
theorem zcu_2 {f : Nat → Int32} {x y : Nat} (hx : x < 2 ^ 31) (hy : y < 2 ^ 31) (h : f 0 = nI x) (g : f 1 = nI y) (t : Int) : zod (zcu f 2 t) = xor (decide ((x : Int) ≤ t)) (decide ((y : Int) ≤ t)) := by
  rw [zod_cu, zcu_1 hx h, g, nI_toInt hy]
