/-! all that the law asks of an object -/
def zup {α : Type} (f : Nat → α) (w : Nat) (x : α) : Nat → α := fun i => if i = w then x else f i
theorem zup_s {α : Type} (f : Nat → α) (w : Nat) (x : α) : zup f w x w = x := if_pos rfl
theorem zup_n {α : Type} {f : Nat → α} {w i : Nat} {x : α} (h : i ≠ w) : zup f w x i = f i := if_neg h
/-- F, N: the wires' levels and how many flips they have; A1, A2: what is answered; rg: the registers; ns: the steps, all of kind t and 400; L: the notes -/
def zOb (S : zS) (a : Nat → Nat) (F : Nat → Int → Bool) (N : Nat → Nat) (A1 A2 : Int32) (rg : Nat → Int32) (ns : Nat) (L : List zNt) : Prop := zX S a ∧ zNts S (a 4) (a 60) (a 61) (a 62) (a 63) (a 64) ∧ zWv S a F N ∧ zI S 181 (a 0) = 0 ∧ zI S 182 (a 0) = A1 ∧ zI S 183 (a 0) = A2 ∧ zR S 22 (a 6) = rg ∧ zI S 64 (a 41) = 0 ∧ zSt S (a 3) (a 7) (a 9) 400 ns ∧ zNo S (a 4) (a 60) (a 61) (a 62) (a 63) (a 64) L
theorem zRk.eq {S S1 : zS} {w tk n : Nat} (h : zRk S w tk n) (h1 : zI S1 161 w = zI S 161 w) (h2 : zR S1 22 tk = zR S 22 tk) : zRk S1 w tk n := by
  unfold zRk
  rw [h1, h2]
  exact h
theorem zlv.eq {S S1 : zS} {w tk n : Nat} {t : Int} (h1 : zI S1 160 w = zI S 160 w) (h2 : zR S1 22 tk = zR S 22 tk) : zlv S1 w tk n t = zlv S w tk n t := by
  unfold zlv
  rw [h1, h2]
theorem zSt.eq {S S1 : zS} {t k1 k3 n : Nat} {p : Int32} (h : zSt S t k1 k3 p n) (h1 : zI S1 128 t = zI S 128 t) (h2 : zR S1 21 k1 = zR S 21 k1) (h3 : zR S1 22 k3 = zR S 22 k3) : zSt S1 t k1 k3 p n := by
  unfold zSt
  rw [h1, h2, h3]
  exact h
/-- rows that a sender may change: those of flips and those of what is sent -/
abbrev zSR (a : Nat → Nat) : Nat → Nat → Prop := fun k x => k = 22 ∧ ∃ i, (20 ≤ i ∧ i ≤ 23 ∨ 30 ≤ i ∧ i ≤ 33) ∧ x = a i
abbrev zSI : Nat → Nat → Prop := fun t _ => t = 161 ∨ t = 163 ∨ t = 164
theorem zSR.no {a : Nat → Nat} (hD : zDs a) {j : Nat} (hj : j ∈ zRws) (h : ¬ (20 ≤ j ∧ j ≤ 23 ∨ 30 ≤ j ∧ j ≤ 33)) {k : Nat} : ¬ zSR a k (a j) := by
  rintro ⟨-, i, hi, e⟩
  have hm : ∀ i, i < 34 → (20 ≤ i ∧ i ≤ 23 ∨ 30 ≤ i ∧ i ≤ 33) → i ∈ zRws := by decide
  exact hD j hj i (hm i (by omega) hi) (fun q => h (q ▸ hi)) e
theorem zNo.sr {S S1 : zS} {a : Nat → Nat} {L : List zNt} (hD : zDs a) (g : zFr S S1 zSI (zSR a)) (h : zNo S (a 4) (a 60) (a 61) (a 62) (a 63) (a 64) L) : zNo S1 (a 4) (a 60) (a 61) (a 62) (a 63) (a 64) L :=
  h.fr g (show ¬ ((112 : Nat) = 161 ∨ (112 : Nat) = 163 ∨ (112 : Nat) = 164) by decide) (zSR.no hD (by decide) (by decide)) (zSR.no hD (by decide) (by decide)) (zSR.no hD (by decide) (by decide)) (zSR.no hD (by decide) (by decide)) (zSR.no hD (by decide) (by decide))
/-- a sender leaves all but the wires as it was -/
theorem zOb.sr {S S1 : zS} {a : Nat → Nat} {F F' : Nat → Int → Bool} {N N' : Nat → Nat} {A1 A2 : Int32} {rg : Nat → Int32} {ns : Nat} {L : List zNt} (hD : zDs a) (h : zOb S a F N A1 A2 rg ns L) (g : zFr S S1 zSI (zSR a)) (hw : zWv S1 a F' N') : zOb S1 a F' N' A1 A2 rg ns L := by
  obtain ⟨h1, h2, -, h4, h5, h6, h7, h8, h9, h10⟩ := h
  have n181 : ¬ zSI 181 (a 0) := by unfold zSI; decide
  have n182 : ¬ zSI 182 (a 0) := by unfold zSI; decide
  have n183 : ¬ zSI 183 (a 0) := by unfold zSI; decide
  have n64 : ¬ zSI 64 (a 41) := by unfold zSI; decide
  have n128 : ¬ zSI 128 (a 3) := by unfold zSI; decide
  exact ⟨zX.fix g.1 h1, zNts.fix g.1 h2, hw, (g.2.1 181 _ n181).trans h4, (g.2.1 182 _ n182).trans h5, (g.2.1 183 _ n183).trans h6, (g.2.2.1 22 _ (zSR.no hD (j := 6) (by decide) (by decide))).trans h7, (g.2.1 64 _ n64).trans h8, h9.eq (g.2.1 128 _ n128) (g.2.2.1 21 _ (zSR.no hD (j := 7) (by decide) (by decide))) (g.2.2.1 22 _ (zSR.no hD (j := 9) (by decide) (by decide))), zNo.sr hD g h10⟩
/-- what is about to be sent changes no level -/
theorem zOb.snd {S S1 : zS} {a : Nat → Nat} {F : Nat → Int → Bool} {N : Nat → Nat} {A1 A2 : Int32} {rg : Nat → Int32} {ns : Nat} {L : List zNt} (hD : zDs a) (h : zOb S a F N A1 A2 rg ns L) (g : zFr S S1 (fun t _ => t = 163 ∨ t = 164) (fun k x => k = 22 ∧ ∃ i, i < 4 ∧ x = a (30 + i))) : zOb S1 a F N A1 A2 rg ns L := by
  refine zOb.sr hD h (g.mono (fun t _ q => Or.inr q) (fun k x q => ?_)) (fun w hw => ?_)
  · obtain ⟨q1, i, q2, q3⟩ := q
    exact ⟨q1, 30 + i, Or.inr ⟨by omega, by omega⟩, q3⟩
  · obtain ⟨g1, g2, g3, g4⟩ := h.2.2.1 w hw
    have e1 : zI S1 160 (a (10 + w)) = zI S 160 (a (10 + w)) := g.2.1 160 _ (show ¬ ((160 : Nat) = 163 ∨ (160 : Nat) = 164) by decide)
    have e2 : zI S1 161 (a (10 + w)) = zI S 161 (a (10 + w)) := g.2.1 161 _ (show ¬ ((161 : Nat) = 163 ∨ (161 : Nat) = 164) by decide)
    have e3 : zR S1 22 (a (20 + w)) = zR S 22 (a (20 + w)) := g.2.2.1 22 _ (by
      rintro ⟨-, i, q2, q3⟩
      exact hD.ts hw q2 q3)
    refine ⟨by rw [e1]; exact g1, g2.eq e2 e3, g3, fun t => ?_⟩
    rw [zlv.eq e1 e3]
    exact g4 t
/-- flips of wire w -/
theorem zOb.flp {S S1 : zS} {a : Nat → Nat} {F : Nat → Int → Bool} {N : Nat → Nat} {A1 A2 : Int32} {rg : Nat → Int32} {ns w n' : Nat} {G : Int → Bool} {L : List zNt} (hD : zDs a) (h : zOb S a F N A1 A2 rg ns L) (hw : w < 4) (g : zFlp S S1 (a (10 + w)) (a (20 + w))) (h1 : zRk S1 (a (10 + w)) (a (20 + w)) n') (h2 : n' ≤ 300) (h3 : ∀ t, zlv S1 (a (10 + w)) (a (20 + w)) n' t = G t) : zOb S1 a (zup F w G) (zup N w n') A1 A2 rg ns L := by
  have hX := h.1
  have hWv := h.2.2.1
  have gf : zFr S S1 zSI (zSR a) := ⟨g.1, fun t x q => g.2.1 t x (by
    by_cases e : t = 161
    · exact absurd (Or.inl e) q
    · exact Or.inr e), fun k x q => g.2.2.1 k x (by
    by_cases e : x = a (20 + w)
    · by_cases e2 : k = 22
      · exact absurd ⟨e2, 20 + w, Or.inl ⟨by omega, by omega⟩, e⟩ q
      · exact Or.inr e2
    · exact Or.inl e), g.2.2.2⟩
  refine zOb.sr hD h gf (fun v hv => ?_)
  by_cases e : v = w
  · subst e
    rw [zup_s, zup_s]
    refine ⟨?_, h1, h2, h3⟩
    rw [g.2.1 160 _ (Or.inr (by decide))]
    exact (hWv v hv).1
  · rw [zup_n e, zup_n e]
    obtain ⟨g1, g2, g3, g4⟩ := hWv v hv
    have e1 : zI S1 160 (a (10 + v)) = zI S 160 (a (10 + v)) := g.2.1 160 _ (Or.inr (by decide))
    have e2 : zI S1 161 (a (10 + v)) = zI S 161 (a (10 + v)) := g.2.1 161 _ (Or.inl (hX.wd hv hw e).1)
    have e3 : zR S1 22 (a (20 + v)) = zR S 22 (a (20 + v)) := g.2.2.1 22 _ (Or.inl (hD.tt hv hw e))
    refine ⟨by rw [e1]; exact g1, g2.eq e2 e3, g3, fun t => ?_⟩
    rw [zlv.eq e1 e3]
    exact g4 t
theorem zSp.fr {S0 S : zS} {a : Nat → Nat} {w n : Nat} {b : Bool} {P : Int → Bool} {cur : Int32} {lo nxt : Int} (hw : w < 4) (h : zSp S0 S (a (10 + w)) (a (30 + w)) b P cur lo nxt n) : zFr S0 S (fun t _ => t = 163 ∨ t = 164) (fun k x => k = 22 ∧ ∃ i, i < 4 ∧ x = a (30 + i)) := h.1.fr (fun _ g => g) ⟨rfl, w, hw, rfl⟩
theorem zSp.flpf {S S1 : zS} {w sn n w' tk' : Nat} {b : Bool} {P : Int → Bool} {cur : Int32} {lo nxt : Int} (h : zSp S S w sn b P cur lo nxt n) (g : zFlp S S1 w' tk') (hne : sn ≠ tk') : zSp S1 S1 w sn b P cur lo nxt n := by
  obtain ⟨-, h2, h3, h4, k, h5, h6, h7, h8⟩ := h
  have e : zR S1 22 sn = zR S 22 sn := g.2.2.1 22 sn (Or.inl hne)
  refine ⟨zChg.rf, (g.2.1 163 w (Or.inr (by decide))).trans h2, h3, h4, k, h5, (g.2.1 164 w (Or.inr (by decide))).trans h6, ?_, ?_⟩
  · rw [e]
    exact h7
  · rw [e]
    exact h8
theorem znx_nI {A B m : Nat} (hA : A < 2 ^ 31) (hB : B < 2 ^ 31) : znx (nI A) (nI B) m = ((A + m * B : Nat) : Int) := by
  unfold znx
  rw [nI_toInt hA, nI_toInt hB, Int.natCast_add, Int.natCast_mul]
/-- a tick that is sent and in the row: the levels on both sides of it differ -/
theorem zhas_iff {S : zS} {w tk n : Nat} {x : Int32} (h : zRk S w tk n) (hn : n ≤ 364) : zwHas S w tk x = true ↔ zod (zcu (zR S 22 tk) n x.toInt) ≠ zod (zcu (zR S 22 tk) n (x.toInt - 1)) := by
  obtain ⟨h1, h2, -⟩ := h
  have hN : zwN S w = n := by
    show min (zI S 161 w).toNatClampNeg 364 = n
    rw [h1, nI_clamp (by omega)]
    omega
  have hC : zwC S w tk x = zcu (zR S 22 tk) n (x.toInt - 1) := by
    unfold zwC
    rw [hN]
    exact zct_congr fun j _ => by
      by_cases g : zR S 22 tk j < x
      · rw [decide_eq_true g, decide_eq_true (by rw [Int32.lt_iff_toInt_lt] at g; omega)]
      · rw [decide_eq_false g, decide_eq_false (by rw [Int32.lt_iff_toInt_lt] at g; omega)]
  have hasx := zwHas_iff S w tk x
  rw [hN, hC] at hasx
  obtain ⟨s1, s2⟩ := zcu_spec (t := x.toInt - 1) h2
  have hc := zcu_le (zR S 22 tk) n (x.toInt - 1)
  generalize zcu (zR S 22 tk) n (x.toInt - 1) = c at hasx s1 s2 hc
  by_cases q : c < n ∧ zR S 22 tk c = x
  · have e : zcu (zR S 22 tk) n x.toInt = c + 1 := zcu_eq (by omega) (fun j hj => by
      rcases Nat.lt_or_ge j c with g | g
      · have := s1 j g
        omega
      · rw [show j = c by omega, q.2]
        exact Int.le_refl _) (fun j g1 g2 => by
      have := h2 c j (by omega) g2
      rw [q.2] at this
      exact this)
    rw [e, zod_s]
    exact ⟨fun _ => by cases zod c <;> decide, fun _ => hasx.mpr q⟩
  · have e : zcu (zR S 22 tk) n x.toInt = c := zcu_eq hc (fun j hj => by
      have := s1 j hj
      omega) (fun j g1 g2 => by
      have a1 := s2 j g1 g2
      have a2 : x.toInt ≤ (zR S 22 tk c).toInt := by
        have := s2 c (Nat.le_refl c) (by omega)
        omega
      have a3 : (zR S 22 tk c).toInt ≠ x.toInt := fun g => q ⟨by omega, Int32.toInt_inj.mp g⟩
      rcases Nat.lt_or_ge c j with g | g
      · have := h2 c j g g2
        omega
      · rw [show j = c by omega]
        omega)
    rw [e]
    exact ⟨fun g => absurd (hasx.mp g) q, fun g => absurd rfl g⟩
def zwg (A1 A2 : Int32) (rd : Bool) (ad ri v : Nat) : Int32 := ((zan (nI ad * 2 + zb (rd = true)) A1 <<< ((9 : Int32) &&& 31) ||| zan (nI ri) A2) <<< ((9 : Int32) &&& 31)) ||| zan (nI v) A2
theorem ztk_nI (A B m : Nat) : ztk (nI A) (nI B) m = nI (A + m * B) := by
  unfold ztk
  rw [pk_mul, nI_add]
