/-! an object of Probehall: its rows are all different -/
def zRws : List Nat := [6, 7, 8, 9, 20, 21, 22, 23, 30, 31, 32, 33, 50, 51, 60, 61, 62, 63, 64]
def zDs (a : Nat → Nat) : Prop := ∀ i, i ∈ zRws → ∀ j, j ∈ zRws → i ≠ j → a i ≠ a j
theorem zr20 : ∀ w, w < 4 → 20 + w ∈ zRws := by decide
theorem zr30 : ∀ w, w < 4 → 30 + w ∈ zRws := by decide
theorem zr50 : ∀ w, w < 2 → 50 + w ∈ zRws := by decide
theorem zDs.tl {a : Nat → Nat} (h : zDs a) {w q : Nat} (hw : w < 4) (hq : q < 2) : a (20 + w) ≠ a (50 + q) := h _ (zr20 w hw) _ (zr50 q hq) (by omega)
theorem zDs.tt {a : Nat → Nat} (h : zDs a) {w v : Nat} (hw : w < 4) (hv : v < 4) (hne : w ≠ v) : a (20 + w) ≠ a (20 + v) := h _ (zr20 w hw) _ (zr20 v hv) (by omega)
theorem zDs.ts {a : Nat → Nat} (h : zDs a) {w v : Nat} (hw : w < 4) (hv : v < 4) : a (20 + w) ≠ a (30 + v) := h _ (zr20 w hw) _ (zr30 v hv) (by omega)
theorem zDs.nd {a : Nat → Nat} (h : zDs a) : zNd (a 60) (a 61) (a 62) (a 63) (a 64) := ⟨h 60 (by decide) 64 (by decide) (by decide), h 61 (by decide) 62 (by decide) (by decide), h 61 (by decide) 63 (by decide) (by decide), h 62 (by decide) 63 (by decide) (by decide)⟩
theorem zX.wi {S : zS} {a : Nat → Nat} (hX : zX S a) {w : Nat} (h : w < 4) : zP S (a 1) (nI w).toNatClampNeg = some (a (10 + w)) ∧ zWire S (a (10 + w)) (a (20 + w)) (a (30 + w)) := by
  obtain ⟨-, -, -, -, -, -, -, -, -, -, -, -, -, hw, -, -⟩ := hX
  rw [nI_clamp (by omega)]
  exact hw w h
theorem zX.ci {S : zS} {a : Nat → Nat} (hX : zX S a) {q : Nat} (h : q < 2) : zP S (a 2) (nI q).toNatClampNeg = some (a (40 + q)) ∧ zCap S (a (40 + q)) (a (50 + q)) := by
  obtain ⟨-, -, -, -, -, -, -, -, -, -, -, -, -, -, -, hc⟩ := hX
  rw [nI_clamp (by omega)]
  exact hc q h
theorem zX.wd {S : zS} {a : Nat → Nat} (hX : zX S a) {w v : Nat} (h : w < 4) (h2 : v < 4) (hn : w ≠ v) : a (10 + w) ≠ a (10 + v) ∧ a (30 + w) ≠ a (30 + v) := by
  obtain ⟨-, -, -, -, -, -, -, -, -, -, -, -, -, -, hd, -⟩ := hX
  exact hd w v h h2 hn
theorem zw4 : ∀ w, w < 4 → (0 : Int32) ≤ nI w ∧ nI w ≤ 3 := by decide
theorem zc2 : ∀ w, w < 2 → (0 : Int32) ≤ nI w ∧ nI w ≤ 1 := by decide
theorem zrg {n m : Nat} {M : Int32} (h : n ≤ m) (hm : m < 2 ^ 31) (hM : M = nI m) : (0 : Int32) ≤ nI n ∧ nI n ≤ M := by
  subst hM
  exact ⟨nI_pos' (by omega), nI_le h hm⟩
theorem zrg1 {n m : Nat} {M : Int32} (h0 : 1 ≤ n) (h : n ≤ m) (hm : m < 2 ^ 31) (hM : M = nI m) : (1 : Int32) ≤ nI n ∧ nI n ≤ M := by
  subst hM
  exact ⟨nI_le (a := 1) h0 (by omega), nI_le h hm⟩
/-- the wires: F w: the levels of wire w; N w: how many flips it has -/
def zWv (S : zS) (a : Nat → Nat) (F : Nat → Int → Bool) (N : Nat → Nat) : Prop := ∀ w, w < 4 → (zI S 160 (a (10 + w)) = 0 ∨ zI S 160 (a (10 + w)) = 1) ∧ zRk S (a (10 + w)) (a (20 + w)) (N w) ∧ N w ≤ 300 ∧ ∀ t, zlv S (a (10 + w)) (a (20 + w)) (N w) t = F w t
/-- a row of samples into which the levels of the first i wires were laid -/
def zcg4 (old : Nat → Int32) (L : Nat → Nat → Bool) (mm : Nat) : Nat → Nat → Int32
  | 0 => fun j => if j < 400 then 0 else old j
  | i + 1 => zsg (zcg4 old L mm i) ((1 : Int32) <<< (nI i &&& 31)) (L i) mm
def zo (b : Bool) (x bit : Int32) : Int32 := if b = true then x ||| bit else x
theorem zo_4 : ∀ b0 b1 b2 b3 : Bool, ∀ w, w < 4 → ((zo b3 (zo b2 (zo b1 (zo b0 0 ((1 : Int32) <<< (nI 0 &&& 31))) ((1 : Int32) <<< (nI 1 &&& 31))) ((1 : Int32) <<< (nI 2 &&& 31))) ((1 : Int32) <<< (nI 3 &&& 31))) >>> (nI w &&& 31) &&& 1 = 1 ↔ [b0, b1, b2, b3].getD w false = true) := by decide +kernel
theorem zcg4_at {old : Nat → Int32} {L : Nat → Nat → Bool} {mm j : Nat} (hm : mm ≤ 400) (hj : j < mm) {w : Nat} (hw : w < 4) : (zcg4 old L mm 4 j) >>> (nI w &&& 31) &&& 1 = 1 ↔ L w j = true := by
  have h0 : zcg4 old L mm 0 j = 0 := if_pos (by omega)
  have hs : ∀ i, zcg4 old L mm (i + 1) j = zo (L i j) (zcg4 old L mm i j) ((1 : Int32) <<< (nI i &&& 31)) := fun i => by
    show (if j < mm ∧ L i j = true then _ else _) = _
    unfold zo
    by_cases h : L i j = true
    · rw [if_pos ⟨hj, h⟩, if_pos h]
    · rw [if_neg (fun g => h g.2), if_neg h]
  rw [hs 3, hs 2, hs 1, hs 0, h0]
  have := zo_4 (L 0 j) (L 1 j) (L 2 j) (L 3 j) w hw
  rcases (show w = 0 ∨ w = 1 ∨ w = 2 ∨ w = 3 by omega) with rfl | rfl | rfl | rfl <;> exact this
/-! runs of the decoders over samples (c, d, s: the levels of clock, data, select) -/
def zRT (c d : Nat → Bool) (rg : Nat → Int32) : Nat → zTau
  | 0 => (false, [], 0, 0, false, 0, 0, [], rg)
  | k + 1 =>
    let x := zRT c d rg k
    if c (k + 1) = true ∧ c k = false then zTB (d (k + 1)) (k + 1) x
    else if c (k + 1) = true ∧ d (k + 1) = false ∧ d k = true then (true, [], x.2.2.1, 0, x.2.2.2.2.1, x.2.2.2.2.2.1, x.2.2.2.2.2.2.1, x.2.2.2.2.2.2.2.1 ++ [(83, nI (k + 1), nI (k + 1), 0, 45)], x.2.2.2.2.2.2.2.2)
    else if c (k + 1) = true ∧ d (k + 1) = true ∧ d k = false then (false, x.2.1, x.2.2.1, x.2.2.2.1, x.2.2.2.2.1, x.2.2.2.2.2.1, x.2.2.2.2.2.2.1, x.2.2.2.2.2.2.2.1 ++ [(69, nI (k + 1), nI (k + 1), 0, 45)], x.2.2.2.2.2.2.2.2)
    else x
def zTok (k : Nat) (x : zTau) : Prop := x.2.1.length < 9 ∧ x.2.2.2.1 ≤ k ∧ x.2.2.2.2.2.1 < 128 ∧ x.2.2.2.2.2.2.1 < 16 ∧ x.2.2.2.2.2.2.2.1.length ≤ k
theorem zTB_ok {b : Bool} {i k : Nat} {x : zTau} (h : zTok k x) : zTok (k + 1) (zTB b i x) := by
  obtain ⟨h1, h2, h3, h4, h5⟩ := h
  unfold zTB
  by_cases g : x.1 = true
  · rw [if_pos g]
    by_cases g9 : x.2.1.length + 1 = 9
    · rw [if_pos g9]
      have hz := zval_lt x.2.1
      rw [show x.2.1.length = 8 by omega] at hz
      have hz2 : zval x.2.1 < 256 := hz
      refine ⟨(by decide : 0 < 9), ?_, ?_, ?_, ?_⟩
      · show x.2.2.2.1 + 1 ≤ k + 1
        omega
      · show zyA _ _ _ < 128
        unfold zyA
        split <;> omega
      · show zyT _ _ _ < 16
        unfold zyT
        split <;> omega
      · show (_ ++ [_]).length ≤ k + 1
        rw [List.length_append]
        show _ + 1 ≤ k + 1
        omega
    · rw [if_neg g9]
      refine ⟨?_, ?_, h3, h4, ?_⟩
      · show x.2.1.length + 1 < 9
        omega
      · show x.2.2.2.1 ≤ k + 1
        omega
      · show x.2.2.2.2.2.2.2.1.length ≤ k + 1
        omega
  · rw [if_neg g]
    exact ⟨h1, by omega, h3, h4, by omega⟩
theorem zRT_ok (c d : Nat → Bool) (rg : Nat → Int32) : ∀ k, zTok k (zRT c d rg k)
  | 0 => ⟨(by decide : 0 < 9), Nat.le_refl 0, (by decide : 0 < 128), (by decide : 0 < 16), Nat.le_refl 0⟩
  | k + 1 => by
    have h := zRT_ok c d rg k
    show zTok (k + 1) (if c (k + 1) = true ∧ c k = false then _ else if c (k + 1) = true ∧ d (k + 1) = false ∧ d k = true then _ else if c (k + 1) = true ∧ d (k + 1) = true ∧ d k = false then _ else _)
    by_cases g1 : c (k + 1) = true ∧ c k = false
    · rw [if_pos g1]
      exact zTB_ok h
    · rw [if_neg g1]
      obtain ⟨h1, h2, h3, h4, h5⟩ := h
      by_cases g2 : c (k + 1) = true ∧ d (k + 1) = false ∧ d k = true
      · rw [if_pos g2]
        refine ⟨(by decide : 0 < 9), Nat.zero_le _, h3, h4, ?_⟩
        show (_ ++ [_]).length ≤ k + 1
        rw [List.length_append]
        show _ + 1 ≤ k + 1
        omega
      · rw [if_neg g2]
        by_cases g3 : c (k + 1) = true ∧ d (k + 1) = true ∧ d k = false
        · rw [if_pos g3]
          refine ⟨h1, ?_, h3, h4, ?_⟩
          · show (zRT c d rg k).2.2.2.1 ≤ k + 1
            omega
          · show (_ ++ [_]).length ≤ k + 1
            rw [List.length_append]
            show _ + 1 ≤ k + 1
            omega
        · rw [if_neg g3]
          exact ⟨h1, by omega, h3, h4, by omega⟩
theorem zRT_b {c d : Nat → Bool} {rg : Nat → Int32} {k : Nat} (h : c (k + 1) = true ∧ c k = false) : zRT c d rg (k + 1) = zTB (d (k + 1)) (k + 1) (zRT c d rg k) := if_pos h
theorem zRT_s {c d : Nat → Bool} {rg : Nat → Int32} {k : Nat} (h : ¬ (c (k + 1) = true ∧ c k = false)) (g : c (k + 1) = true ∧ d (k + 1) = false ∧ d k = true) : zRT c d rg (k + 1) = (true, [], (zRT c d rg k).2.2.1, 0, (zRT c d rg k).2.2.2.2.1, (zRT c d rg k).2.2.2.2.2.1, (zRT c d rg k).2.2.2.2.2.2.1, (zRT c d rg k).2.2.2.2.2.2.2.1 ++ [(83, nI (k + 1), nI (k + 1), 0, 45)], (zRT c d rg k).2.2.2.2.2.2.2.2) := (if_neg h).trans (if_pos g)
theorem zRT_e {c d : Nat → Bool} {rg : Nat → Int32} {k : Nat} (h : ¬ (c (k + 1) = true ∧ c k = false)) (g : ¬ (c (k + 1) = true ∧ d (k + 1) = false ∧ d k = true)) (q : c (k + 1) = true ∧ d (k + 1) = true ∧ d k = false) : zRT c d rg (k + 1) = (false, (zRT c d rg k).2.1, (zRT c d rg k).2.2.1, (zRT c d rg k).2.2.2.1, (zRT c d rg k).2.2.2.2.1, (zRT c d rg k).2.2.2.2.2.1, (zRT c d rg k).2.2.2.2.2.2.1, (zRT c d rg k).2.2.2.2.2.2.2.1 ++ [(69, nI (k + 1), nI (k + 1), 0, 45)], (zRT c d rg k).2.2.2.2.2.2.2.2) := (if_neg h).trans ((if_neg g).trans (if_pos q))
theorem zRT_n {c d : Nat → Bool} {rg : Nat → Int32} {k : Nat} (h : ¬ (c (k + 1) = true ∧ c k = false)) (g : ¬ (c (k + 1) = true ∧ d (k + 1) = false ∧ d k = true)) (q : ¬ (c (k + 1) = true ∧ d (k + 1) = true ∧ d k = false)) : zRT c d rg (k + 1) = zRT c d rg k := (if_neg h).trans ((if_neg g).trans (if_neg q))
def zFR (s c d : Nat → Bool) (up : Bool) : Nat → zPhi
  | 0 => ([], 0, [])
  | k + 1 =>
    if s (k + 1) = true ∧ s k = false then zFS (k + 1) (zFR s c d up k)
    else if s (k + 1) = false ∧ s k = false ∧ ((up = true ∧ c (k + 1) = true ∧ c k = false) ∨ (up = false ∧ c (k + 1) = false ∧ c k = true)) then zFB (d (k + 1)) (k + 1) (zFR s c d up k)
    else zFR s c d up k
theorem zFR_r {s c d : Nat → Bool} {up : Bool} {k : Nat} (h : s (k + 1) = true ∧ s k = false) : zFR s c d up (k + 1) = zFS (k + 1) (zFR s c d up k) := if_pos h
theorem zFR_b {s c d : Nat → Bool} {up : Bool} {k : Nat} (h : s (k + 1) = false ∧ s k = false ∧ ((up = true ∧ c (k + 1) = true ∧ c k = false) ∨ (up = false ∧ c (k + 1) = false ∧ c k = true))) : zFR s c d up (k + 1) = zFB (d (k + 1)) (k + 1) (zFR s c d up k) := (if_neg (fun g => by rw [h.1] at g; exact absurd g.1 (by decide))).trans (if_pos h)
theorem zFR_n {s c d : Nat → Bool} {up : Bool} {k : Nat} (h : ¬ (s (k + 1) = true ∧ s k = false)) (g : ¬ (s (k + 1) = false ∧ s k = false ∧ ((up = true ∧ c (k + 1) = true ∧ c k = false) ∨ (up = false ∧ c (k + 1) = false ∧ c k = true)))) : zFR s c d up (k + 1) = zFR s c d up k := (if_neg h).trans (if_neg g)
def zFok (k : Nat) (x : zPhi) : Prop := x.1.length < 8 ∧ x.2.2.length ≤ k
theorem zFR_ok (s c d : Nat → Bool) (up : Bool) : ∀ k, zFok k (zFR s c d up k)
  | 0 => ⟨(by decide : 0 < 8), Nat.le_refl 0⟩
  | k + 1 => by
    obtain ⟨h1, h2⟩ := zFR_ok s c d up k
    by_cases g1 : s (k + 1) = true ∧ s k = false
    · rw [zFR_r g1]
      refine ⟨(by decide : 0 < 8), ?_⟩
      show (if (zFR s c d up k).1 = [] then _ else _ ++ [_]).length ≤ k + 1
      split
      · omega
      · rw [List.length_append]
        show _ + 1 ≤ k + 1
        omega
    · by_cases g2 : s (k + 1) = false ∧ s k = false ∧ ((up = true ∧ c (k + 1) = true ∧ c k = false) ∨ (up = false ∧ c (k + 1) = false ∧ c k = true))
      · rw [zFR_b g2]
        unfold zFB
        by_cases g8 : (zFR s c d up k).1.length + 1 = 8
        · rw [if_pos g8]
          refine ⟨(by decide : 0 < 8), ?_⟩
          show (_ ++ [_]).length ≤ k + 1
          rw [List.length_append]
          show _ + 1 ≤ k + 1
          omega
        · rw [if_neg g8]
          refine ⟨?_, ?_⟩
          · show (zFR s c d up k).1.length + 1 < 8
            omega
          · show (zFR s c d up k).2.2.length ≤ k + 1
            omega
      · rw [zFR_n g1 g2]
        exact ⟨h1, by omega⟩
