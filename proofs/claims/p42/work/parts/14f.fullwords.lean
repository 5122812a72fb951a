/-! words of full: wire 2 alone, its ticks full -/
def zG (k : Nat) : Int → Bool := fun t => decide (0 ≤ t ∧ t < 4 * (k : Int) ∧ t % 4 < 2)
theorem zG_glitch (k : Nat) : (fun t : Int => xor (zG k t) (xor (decide (((4 * k : Nat) : Int) ≤ t)) (decide (((4 * k + 2 : Nat) : Int) ≤ t)))) = zG (k + 1) := by
  funext t
  by_cases h1 : ((4 * k : Nat) : Int) ≤ t
  · have hA : zG k t = false := decide_eq_false (by omega)
    rw [decide_eq_true h1, hA]
    by_cases h2 : ((4 * k + 2 : Nat) : Int) ≤ t
    · have hB : zG (k + 1) t = false := decide_eq_false (by omega)
      rw [decide_eq_true h2, hB]
      rfl
    · have hB : zG (k + 1) t = true := decide_eq_true (by omega)
      rw [decide_eq_false h2, hB]
      rfl
  · have hB : zG (k + 1) t = zG k t := by
      unfold zG
      exact decide_eq_decide.mpr ⟨fun ⟨x, y, z⟩ => ⟨x, by omega, z⟩, fun ⟨x, y, z⟩ => ⟨x, by omega, z⟩⟩
    rw [decide_eq_false h1, decide_eq_false (by omega), hB]
    cases zG k t <;> rfl
theorem zG_hit (k : Nat) : zsm (zhp (zG k) (fun j => 4 * k + j * 2)) 2 = 2 := by
  have e : ∀ j, j < 2 → zhp (zG k) (fun j => 4 * k + j * 2) j = false := fun j hj => by
    have a1 : zG k ((4 * k + j * 2 : Nat) : Int) = false := decide_eq_false (by omega)
    have a2 : zG k (((4 * k + j * 2 : Nat) : Int) - 1) = false := decide_eq_false (by omega)
    exact decide_eq_false (fun h => h (a1.trans a2.symm))
  show (0 + (if zhp (zG k) (fun j => 4 * k + j * 2) 0 = true then -1 else 1)) + (if zhp (zG k) (fun j => 4 * k + j * 2) 1 = true then -1 else 1) = 2
  rw [e 0 (by decide), e 1 (by decide)]
  rfl
def zFu (S : zS) (a : Nat → Nat) (G : Int → Bool) (n ns : Nat) : Prop := ∃ F N, zOb S a F N 1 1 (fun _ => 0) ns [] ∧ F 2 = G ∧ N 2 = n ∧ ∀ w, w ≠ 2 → N w = 0
theorem zFu.gw {S S1 : zS} {a : Nat → Nat} {G : Int → Bool} {n ns : Nat} (g : zGw S S1) (h : zFu S a G n ns) : zFu S1 a G n ns := by
  obtain ⟨F, N, h1, h2⟩ := h
  exact ⟨F, N, zOb.gw g h1, h2⟩
theorem zFu.new {S : zS} {a : Nat → Nat} (h : zNew S a) : zFu S a (zG 0) 0 0 := ⟨_, _, zOb.new h, funext fun t => (decide_eq_false (by omega)).symm, rfl, fun _ _ => rfl⟩
theorem zFu.hit {S1 : zS} {a : Nat → Nat} {F : Nat → Int → Bool} {N : Nat → Nat} {G K : Int → Bool} {n ns m n' : Nat} {x : Nat → Nat} {r : Int32} {c : Int} (hF : F 2 = G) (hN : N 2 = n) (hN0 : ∀ w, w ≠ 2 → N w = 0) (hc : zsm (zhp G x) m = c) (hn' : (n : Int) + c = n') (h3 : n' ≤ 300)
    (hp : ((N 2 : Int) + zsm (zhp (F 2) x) m ≤ 300 ∧ ∃ n9 : Nat, (n9 : Int) = (N 2 : Int) + zsm (zhp (F 2) x) m ∧ r = nI n9 ∧ zOb S1 a (zup F 2 (fun t => xor (F 2 t) (K t))) (zup N 2 n9) 1 1 (fun _ => 0) ns []) ∨ (r = (-2000000003) ∧ ¬ (N 2 : Int) + zsm (zhp (F 2) x) m ≤ 300 ∧ zOb S1 a F N 1 1 (fun _ => 0) ns [])) : r = nI n' ∧ zFu S1 a (fun t => xor (G t) (K t)) n' ns := by
  rw [hF, hN, hc, hn'] at hp
  rcases hp with ⟨-, n9, e, hr, h⟩ | ⟨-, g, -⟩
  · have e2 : n9 = n' := by omega
    subst e2
    exact ⟨hr, _, _, h, zup_s _ _ _, zup_s _ _ _, fun w hw => (zup_n hw).trans (hN0 w hw)⟩
  · exact absurd (by omega) g
theorem zFu.over {S1 : zS} {a : Nat → Nat} {F : Nat → Int → Bool} {N : Nat → Nat} {G K : Int → Bool} {n ns m : Nat} {x : Nat → Nat} {r : Int32} {c : Int} (hF : F 2 = G) (hN : N 2 = n) (hN0 : ∀ w, w ≠ 2 → N w = 0) (hc : zsm (zhp G x) m = c) (h3 : 300 < (n : Int) + c)
    (hp : ((N 2 : Int) + zsm (zhp (F 2) x) m ≤ 300 ∧ ∃ n9 : Nat, (n9 : Int) = (N 2 : Int) + zsm (zhp (F 2) x) m ∧ r = nI n9 ∧ zOb S1 a (zup F 2 (fun t => xor (F 2 t) (K t))) (zup N 2 n9) 1 1 (fun _ => 0) ns []) ∨ (r = (-2000000003) ∧ ¬ (N 2 : Int) + zsm (zhp (F 2) x) m ≤ 300 ∧ zOb S1 a F N 1 1 (fun _ => 0) ns [])) : r = (-2000000003) ∧ zFu S1 a G n ns := by
  rw [hF, hN, hc] at hp
  rcases hp with ⟨g, -⟩ | ⟨hr, -, h⟩
  · exact absurd g (by omega)
  · exact ⟨hr, F, N, h, hF, hN, hN0⟩
theorem zOb.fr {S S1 : zS} {a : Nat → Nat} {F : Nat → Int → Bool} {N : Nat → Nat} {A1 A2 : Int32} {rg : Nat → Int32} {ns ns' : Nat} {L : List zNt} {TI TR : Nat → Nat → Prop} (h : zOb S a F N A1 A2 rg ns L) (g : zFr S S1 TI TR) (i : ∀ t x, t ∈ [160, 161, 181, 182, 183, 112] → ¬ TI t x) (i64 : ¬ TI 64 (a 41)) (r20 : ∀ w, w < 4 → ¬ TR 22 (a (20 + w))) (r6 : ¬ TR 22 (a 6))
    (rn : ¬ TR 21 (a 60) ∧ ¬ TR 22 (a 61) ∧ ¬ TR 22 (a 62) ∧ ¬ TR 22 (a 63) ∧ ¬ TR 21 (a 64)) (hs : zSt S1 (a 3) (a 7) (a 9) 400 ns') : zOb S1 a F N A1 A2 rg ns' L := by
  obtain ⟨hX, h2, h3, h4, h5, h6, h7, h8, h9, h10⟩ := h
  have e : ∀ t x, t ∈ [160, 161, 181, 182, 183, 112] → zI S1 t x = zI S t x := fun t x q => g.2.1 t x (i t x q)
  refine ⟨zX.fix g.1 hX, zNts.fix g.1 h2, fun w hw => ?_, (e _ _ (by decide)).trans h4, (e _ _ (by decide)).trans h5, (e _ _ (by decide)).trans h6, (g.2.2.1 22 _ r6).trans h7, (g.2.1 64 _ i64).trans h8, hs, h10.fr g (i _ _ (by decide)) rn.1 rn.2.1 rn.2.2.1 rn.2.2.2.1 rn.2.2.2.2⟩
  obtain ⟨g1, g2, g3, g4⟩ := h3 w hw
  have e1 := e 160 (a (10 + w)) (by decide)
  have e2 := g.2.2.1 22 _ (r20 w hw)
  refine ⟨by rw [e1]; exact g1, g2.eq (e 161 _ (by decide)) e2, g3, fun t => ?_⟩
  rw [zlv.eq e1 e2]
  exact g4 t
theorem zTR.no {a : Nat → Nat} (hD : zDs a) {j : Nat} (hj : j ∈ zRws) (h7 : j ≠ 7) (h8 : j ≠ 8) (h9 : j ≠ 9) {k : Nat} : ¬ zTR (a 7) (a 8) (a 9) k (a j) := by
  rintro (⟨-, e⟩ | ⟨-, e | e⟩)
  · exact hD j hj 7 (by decide) h7 e
  · exact hD j hj 8 (by decide) h8 e
  · exact hD j hj 9 (by decide) h9 e
theorem zFu.stp {S S1 : zS} {a : Nat → Nat} {G : Int → Bool} {n ns ns' : Nat} (hD : zDs a) (h : zFu S a G n ns) (h2 : zSt S1 (a 3) (a 7) (a 9) 400 ns') (g : zFr S S1 (zTI (a 3)) (zTR (a 7) (a 8) (a 9))) : zFu S1 a G n ns' := by
  obtain ⟨F, N, h1, h3⟩ := h
  exact ⟨F, N, h1.fr g (fun t x q e => by rw [e.1] at q; exact absurd q (by decide)) (fun e => absurd e.1 (by decide)) (fun w hw => zTR.no hD (zr20 w hw) (by omega) (by omega) (by omega)) (zTR.no hD (by decide) (by decide) (by decide) (by decide))
    ⟨zTR.no hD (by decide) (by decide) (by decide) (by decide), zTR.no hD (by decide) (by decide) (by decide) (by decide), zTR.no hD (by decide) (by decide) (by decide) (by decide), zTR.no hD (by decide) (by decide) (by decide) (by decide), zTR.no hD (by decide) (by decide) (by decide) (by decide)⟩ h2, h3⟩
theorem zFu.cap {S S1 : zS} {a : Nat → Nat} {G : Int → Bool} {n ns : Nat} (hD : zDs a) (h : zFu S a G n ns) (g : zFr S S1 (fun t x => t = 64 ∧ x = a (40 + 0)) (fun k x => k = 22 ∧ x = a (50 + 0))) : zFu S1 a G n ns := by
  obtain ⟨F, N, h1, h3⟩ := h
  have hn : ∀ j, j ∈ zRws → j ≠ 50 → ∀ k, ¬ (k = 22 ∧ a j = a (50 + 0)) := fun j hj h5 k e => hD j hj 50 (by decide) h5 e.2
  have h9 := h1.2.2.2.2.2.2.2.2.1
  exact ⟨F, N, h1.fr g (fun t x q e => by rw [e.1] at q; exact absurd q (by decide)) (fun e => z4041 h1.1 hD e.2) (fun w hw => hn _ (zr20 w hw) (by omega) _) (hn 6 (by decide) (by decide) _)
    ⟨hn 60 (by decide) (by decide) _, hn 61 (by decide) (by decide) _, hn 62 (by decide) (by decide) _, hn 63 (by decide) (by decide) _, hn 64 (by decide) (by decide) _⟩ (h9.eq (g.2.1 128 _ (fun e => absurd e.1 (by decide))) (g.2.2.1 21 _ (hn 7 (by decide) (by decide) _)) (g.2.2.1 22 _ (hn 9 (by decide) (by decide) _))), h3⟩
theorem zFu.rst {S : zS} {a : Nat → Nat} {G : Int → Bool} {n ns : Nat} (hD : zDs a) (h : zFu S a G n ns) : zFu (zsI S 128 (a 3) 0) a G n 0 :=
  zFu.stp hD h ⟨zI_s _ _ _ _, fun j g => absurd g (Nat.not_lt_zero j)⟩ (zFr.I ⟨rfl, rfl⟩)
theorem zCp.stp {S S1 : zS} {a : Nat → Nat} {mm : Nat} {M : Nat → Nat → Bool} (hD : zDs a) (h : zCp S (a (40 + 0)) (a (50 + 0)) mm M) (g : zFr S S1 (zTI (a 3)) (zTR (a 7) (a 8) (a 9))) : zCp S1 (a (40 + 0)) (a (50 + 0)) mm M := by
  obtain ⟨g1, g2, g3⟩ := h
  refine ⟨(g.2.1 64 _ (fun e => absurd e.1 (by decide))).trans g1, g2, fun w i hw hi => ?_⟩
  rw [g.2.2.1 22 _ (zTR.no hD (j := 50) (by decide) (by decide) (by decide) (by decide))]
  exact g3 w i hw hi
theorem znle {k : Nat} (h0 : 0 < k) (h : k ≤ 400) (g : nI k ≤ 0) : False := by
  rw [Int32.le_iff_toInt_le, nI_toInt (by omega)] at g
  have h1 : (0 : Int32).toInt = 0 := rfl
  rw [h1] at g
  omega
theorem zsm4_2 {N : Nat → Nat} {n : Nat} (h : N 2 = n) (h0 : ∀ w, w ≠ 2 → N w = 0) : zsm4 N 4 = n := by
  show 0 + N 0 + N 1 + N 2 + N 3 = n
  rw [h0 0 (by decide), h0 1 (by decide), h0 3 (by decide), h]
  omega
abbrev zG1 : Int → Bool := fun t => xor (zG 150 t) (decide (((0 : Nat) : Int) ≤ t))
abbrev zG2 : Int → Bool := fun t => xor (zG1 t) (decide (((1 : Nat) : Int) ≤ t))
abbrev zG3 : Int → Bool := fun t => xor (zG2 t) (xor (decide (((1 : Nat) : Int) ≤ t)) (decide (((1 + 1 : Nat) : Int) ≤ t)))
theorem zh0 : zsm (zhp (zG 150) (fun _ => 1)) 1 = 1 := by decide +kernel
theorem zh1 : zsm (zhp (zG 150) (fun _ => 0)) 1 = -1 := by decide +kernel
theorem zh2 : zsm (zhp zG1 (fun _ => 1)) 1 = 1 := by decide +kernel
theorem zh3 : zsm (zhp zG2 (fun j => 601 + j * 1)) 2 = 2 := by decide +kernel
theorem zh4 : zsm (zhp zG2 (fun j => 1 + j * 1)) 2 = -2 := by decide +kernel
theorem zh5 : ¬ zG3 ((0 + (3 + 1) * 1 : Nat) : Int) = zG3 ((0 + 3 * 1 : Nat) : Int) := by decide +kernel
theorem zFu.X {S : zS} {a : Nat → Nat} {G : Int → Bool} {n ns : Nat} (h : zFu S a G n ns) : zX S a := by
  obtain ⟨F, N, h1, -⟩ := h
  exact h1.1
