/-! words of the law's walks -/
theorem zrk2 {S : zS} {k a n : Nat} {i v : Int32} (h : zR S k a i.toNatClampNeg = v) (e : i.toNatClampNeg = n) : zR S k a n = v := e ▸ h
theorem zga {S : zS} {q k j : Nat} {f : Nat → Int32} {v : Int32} (h : f j = v) : zR (zsR S k q f) k q j = v := (congrFun (zR_s S k q f) j).trans h
theorem zOb.i160 {S : zS} {a : Nat → Nat} {F : Nat → Int → Bool} {N : Nat → Nat} {A1 A2 : Int32} {rg : Nat → Int32} {ns w : Nat} {L : List zNt} {b : Bool} (h : zOb S a F N A1 A2 rg ns L) (hw : w < 4) (hN : N w = 0) (hF : F w 0 = b) : zI S 160 (a (10 + w)) = zb (b = true) := by
  obtain ⟨g1, -, -, g4⟩ := h.2.2.1 w hw
  have q := g4 0
  rw [hN, hF] at q
  have q : xor (decide (zI S 160 (a (10 + w)) = 1)) false = b := q
  rw [Bool.xor_false] at q
  rcases g1 with e | e
  · rw [e] at q ⊢
    subst q
    rfl
  · rw [e] at q ⊢
    subst q
    rfl
theorem zup_eq {α : Type} {f g : Nat → α} {w : Nat} {x y : α} (h : ∀ i, f i = g i) (e : x = y) : zup f w x = zup g w y := by
  funext i
  unfold zup
  rw [e, h i]
theorem zOb.idle0 {S : zS} {a : Nat → Nat} {F : Nat → Int → Bool} {N : Nat → Nat} {A1 A2 : Int32} {rg : Nat → Int32} {ns w : Nat} {L : List zNt} {b : Bool} (h : zOb S a F N A1 A2 rg ns L) (hw : w < 4) (hF : ∀ t, F w t = false) (hN : N w = 0) : zOb (zsI S 160 (a (10 + w)) (zb (b = true))) a (zup F w (fun _ => b)) N A1 A2 rg ns L := by
  have g := zOb.idle (b := b) h hw
  have e := zOb.i160 h hw hN (hF 0)
  rw [e] at g
  have q : zup F w (fun t => xor (F w t) (xor (decide (zb (false = true) = 1)) b)) = zup F w (fun _ => b) := zup_eq (fun _ => rfl) (by
    funext t
    rw [hF t, show decide (zb (false = true) = 1) = false from rfl]
    cases b <;> rfl)
  rw [q] at g
  exact g
theorem zCp.cong {S : zS} {c0 lv mm : Nat} {M M' : Nat → Nat → Bool} (h : zCp S c0 lv mm M) (e : ∀ w i, w < 4 → i < mm → M w i = M' w i) : zCp S c0 lv mm M' := by
  obtain ⟨g1, g2, g3⟩ := h
  refine ⟨g1, g2, fun w i hw hi => ?_⟩
  rw [← e w i hw hi]
  exact g3 w i hw hi
abbrev zRg (S : zS) (a : Nat → Nat) (rg : Nat → Int32) : Prop := zR S 22 (a 6) = rg
theorem zRg.gw {S S1 : zS} {a : Nat → Nat} {rg : Nat → Int32} (g : zGw S S1) (hX : zX S a) (h : zRg S a rg) : zRg S1 a rg := by
  have hd := hX.2.2.2.2.2.2.2.2.2.2.2.1
  have e := (g _ (fun e => by have := hd.2.2.1.symm.trans e; exact absurd this (by decide))).2.2.2.1 22
  exact e.trans h
theorem z41.gw {S S1 : zS} {a : Nat → Nat} (g : zGw S S1) (hX : zX S a) (h : zI S 64 (a 41) = 0) : zI S1 64 (a 41) = 0 := by
  have hc := (zX.ci hX (q := 1) (by decide)).2
  have e := ((g _ (fun e => by have := hc.1.symm.trans e; exact absurd this (by decide))).2.2.2.2 64).1
  exact e.trans h
/-- the two captures are two -/
theorem z4041 {S : zS} {a : Nat → Nat} (hX : zX S a) (hD : zDs a) : a 41 ≠ a 40 := by
  have h0 := (zX.ci hX (q := 0) (by decide)).2
  have h1 := (zX.ci hX (q := 1) (by decide)).2
  intro e
  have e1 : zQ S 65 (a 40) = some (a 50) := h0.2.1
  have e2 : zQ S 65 (a 41) = some (a 51) := h1.2.1
  rw [e, e1] at e2
  exact hD 50 (by decide) 51 (by decide) (by decide) (Option.some.inj e2)
/-- what a capture of 0 leaves -/
theorem zcap0 {S S1 : zS} {a : Nat → Nat} {F : Nat → Int → Bool} {N : Nat → Nat} {A1 A2 : Int32} {rg : Nat → Int32} {ns : Nat} {L : List zNt} (hD : zDs a) (h : zOb S a F N A1 A2 rg ns L) (g : zFr S S1 (fun t x => t = 64 ∧ x = a (40 + 0)) (fun k x => k = 22 ∧ x = a (50 + 0))) : zX S1 a ∧ zNts S1 (a 4) (a 60) (a 61) (a 62) (a 63) (a 64) ∧ zRg S1 a rg ∧ zI S1 64 (a 41) = 0 := by
  refine ⟨zX.fix g.1 h.1, zNts.fix g.1 h.2.1, ?_, ?_⟩
  · exact (g.2.2.1 22 (a 6) (fun q => hD 6 (by decide) 50 (by decide) (by decide) q.2)).trans h.2.2.2.2.2.2.1
  · exact (g.2.1 64 (a 41) (fun q => z4041 h.1 hD q.2)).trans h.2.2.2.2.2.2.2.1
/-! numbers of serial -/
theorem zneo_3 : ∀ k, k < 3 → zneo k = 110 ∨ zneo k = 101 ∨ zneo k = 111 := by decide
theorem zbn_t {pr : Int32} (h : pr = 110) : nI (zsbN pr) = 10 := by
  unfold zsbN
  rw [if_pos h]
  rfl
theorem zbn_f {pr : Int32} (h : ¬ pr = 110) : nI (zsbN pr) = 11 := by
  unfold zsbN
  rw [if_neg h]
  rfl
theorem zmx5 : ∀ h, h < 10 → (if (0 : Int32) < 5 - nI h then 5 - nI h else 0) = nI (5 - h) := by decide +kernel
theorem zdvh : ∀ h, h < 10 → nI (2 * h) / 2 = nI h := by decide +kernel
theorem zsu5 : ∀ h, h < 10 → 5 - nI (5 - h) = nI (5 - (5 - h)) := by decide +kernel
theorem zrm5 : ∀ h, h < 10 → 1 ≤ h → nI (5 - (5 - h)) - nI (5 - (5 - h)) / nI h * nI h = 0 → h ≤ 5 := by decide +kernel
theorem zgph : ∀ h, h < 10 → 1 ≤ h → ∀ g, g < 20 → nI g - nI g / nI h * nI h = 0 → g = g / h * h := by decide +kernel
theorem zgdh : ∀ h, h < 10 → 1 ≤ h → ∀ g, g < 20 → nI g / nI h = nI (g / h) := by decide +kernel
theorem znz {h : Nat} (h0 : 1 ≤ h) (h1 : h < 2 ^ 30) : nI h ≠ 0 := fun e => by
  have := (nI_eq (b := 0) (by omega) (by decide)).mp e
  omega
theorem zCp.one {S : zS} {c0 lv mm w : Nat} {M : Nat → Nat → Bool} (m : Nat → Bool) (h : zCp S c0 lv mm M) (e : ∀ i, i < mm → M w i = m i) : ∃ M', zCp S c0 lv mm M' ∧ M' w = m := by
  refine ⟨fun v i => if v = w then m i else M v i, h.cong (fun v i _ hi => ?_), funext fun i => if_pos rfl⟩
  by_cases q : v = w
  · rw [if_pos q, q]
    exact e i hi
  · rw [if_neg q]
theorem zCp.two {S : zS} {c0 lv mm w u : Nat} {M : Nat → Nat → Bool} (m n : Nat → Bool) (h : zCp S c0 lv mm M) (hne : w ≠ u) (e : ∀ i, i < mm → M w i = m i) (e2 : ∀ i, i < mm → M u i = n i) : ∃ M', zCp S c0 lv mm M' ∧ M' w = m ∧ M' u = n := by
  refine ⟨fun v i => if v = w then m i else if v = u then n i else M v i, h.cong (fun v i _ hi => ?_), funext fun i => if_pos rfl, funext fun i => (if_neg (Ne.symm hne)).trans (if_pos rfl)⟩
  by_cases q : v = w
  · rw [if_pos q, q]
    exact e i hi
  · rw [if_neg q]
    by_cases q2 : v = u
    · rw [if_pos q2, q2]
      exact e2 i hi
    · rw [if_neg q2]
theorem zCp.three {S : zS} {c0 lv mm w u x : Nat} {M : Nat → Nat → Bool} (m n k : Nat → Bool) (h : zCp S c0 lv mm M) (hne : w ≠ u) (hne2 : w ≠ x) (hne3 : u ≠ x) (e : ∀ i, i < mm → M w i = m i) (e2 : ∀ i, i < mm → M u i = n i) (e3 : ∀ i, i < mm → M x i = k i) : ∃ M', zCp S c0 lv mm M' ∧ M' w = m ∧ M' u = n ∧ M' x = k := by
  refine ⟨fun v i => if v = w then m i else if v = u then n i else if v = x then k i else M v i, h.cong (fun v i _ hi => ?_), funext fun i => if_pos rfl, funext fun i => (if_neg (Ne.symm hne)).trans (if_pos rfl), funext fun i => (if_neg (Ne.symm hne2)).trans ((if_neg (Ne.symm hne3)).trans (if_pos rfl))⟩
  by_cases q : v = w
  · rw [if_pos q, q]
    exact e i hi
  · rw [if_neg q]
    by_cases q2 : v = u
    · rw [if_pos q2, q2]
      exact e2 i hi
    · rw [if_neg q2]
      by_cases q3 : v = x
      · rw [if_pos q3, q3]
        exact e3 i hi
      · rw [if_neg q3]
theorem zxx (p q : Bool) : xor (xor true (xor true p)) (xor true q) = xor p (xor true q) := by cases p <;> cases q <;> rfl
/-- a row that was just made, and what was laid into it -/
def zAr (S S1 : zS) (q n : Nat) (vs : List Int32) : Prop := zGw S S1 ∧ zK S1 q = 22 ∧ zN S1 q = n ∧ ∀ (j : Nat) (x : Int32), vs[j]? = some x → zR S1 22 q j = x
theorem zAr.new {S : zS} {q n : Nat} (h : zK S q = 0) : zAr S (znR S q 22 n (fun _ => 0)) q n [] := ⟨zGw.nR h, zK_nRs _ _ _ _ _, zN_nRs _ _ _ _ _, fun j x e => by cases e⟩
theorem zAr.st {S S1 : zS} {q n k : Nat} {i v : Int32} {vs : List Int32} (h : zAr S S1 q n vs) (hq : zK S q = 0) (hi : i.toNatClampNeg = k) (hk : vs.length = k) : zAr S (zsR S1 22 q (upd (zR S1 22 q) i.toNatClampNeg v)) q n (vs ++ [v]) := by
  obtain ⟨h1, h2, h3, h4⟩ := h
  refine ⟨h1.R hq, h2, h3, fun j x e => zga ?_⟩
  rw [hi, ← hk]
  rcases Nat.lt_trichotomy j vs.length with g | g | g
  · rw [pk_un (by omega)]
    exact h4 j x (by rw [List.getElem?_append_left g] at e; exact e)
  · subst g
    rw [List.getElem?_append_right (Nat.le_refl _), Nat.sub_self] at e
    rw [pk_us]
    exact Option.some.inj e
  · rw [List.getElem?_eq_none (by rw [List.length_append]; exact g)] at e
    cases e
theorem zwr_3 {pr rx : Int32} (f : (if pr = 101 then (111 : Int32) else 101) = rx) : rx = 110 ∨ rx = 101 ∨ rx = 111 := by
  by_cases h : pr = 101
  · rw [if_pos h] at f
    exact Or.inr (Or.inr f.symm)
  · rw [if_neg h] at f
    exact Or.inr (Or.inl f.symm)
theorem zwr_c {pr rx : Int32} (f : (if pr = 101 then (111 : Int32) else 101) = rx) : ((rx.toUInt32 % 65536).toInt32) = rx := by
  rcases zwr_3 f with h | h | h
  · rw [h]
    decide
  · rw [h]
    decide
  · rw [h]
    decide
theorem zwr_p {pr rx : Int32} (hpr : pr = 110 ∨ pr = 101 ∨ pr = 111) (hn : ¬ pr = 110) (f : (if pr = 101 then (111 : Int32) else 101) = rx) : (pr = 101 ∧ rx = 111) ∨ (pr = 111 ∧ rx = 101) := by
  rcases hpr with h | h | h
  · exact absurd h hn
  · rw [if_pos h] at f
    exact Or.inl ⟨h, f.symm⟩
  · rw [if_neg (by rw [h]; decide)] at f
    exact Or.inr ⟨h, f.symm⟩
theorem zser_run2 {v1 v2 g : Nat} {pr pr2 : Int32} (h1 : v1 < 256) (h2 : v2 < 256) (hp : zpr3 pr) (hq : (pr = 101 ∧ pr2 = 111) ∨ (pr = 111 ∧ pr2 = 101)) :
    (zDS (zwave v1 v2 pr g) (4 * zsbN pr + g + 2) pr2 (4 * zsbN pr + g + 1)).2 = [(66, nI 1, nI (2 * zsbN pr), nI v1, 112), (66, nI (2 * zsbN pr + g + 1), nI (4 * zsbN pr + g), nI v2, 112)] := by
  have := zser_run (v1 := v1) (v2 := v2) (g := g) h1 h2 hp (Or.inr hq)
  have e : zflt pr pr2 = 112 := by rcases hq with ⟨rfl, rfl⟩ | ⟨rfl, rfl⟩ <;> rfl
  rw [e] at this
  exact this
theorem zflt_s (p : Int32) : zflt p p = 45 := if_pos rfl
theorem zcend {h b g : Nat} (h5 : h ≤ 5) (hb : b ≤ 11) (hg : g ≤ 19) : 5 - h + h * (4 * b + g + 2 - 1) ≤ 9999 := by
  have : h * (4 * b + g + 2 - 1) ≤ 5 * 64 := Nat.mul_le_mul h5 (by omega)
  omega
