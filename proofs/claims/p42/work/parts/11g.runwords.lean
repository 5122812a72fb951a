/-! a reader of four wires: bits, firstBit, notes -/
abbrev zPhi : Type := List Bool × Nat × List zNt
def zFP (S : zS) (q0 t0 k1 k2 k3 k4 k5 : Nat) (x : zPhi) : Prop := zFw S q0 t0 x.1 x.2.1 ∧ zNo S t0 k1 k2 k3 k4 k5 x.2.2
def zFB (b : Bool) (i : Nat) (x : zPhi) : zPhi :=
  if x.1.length + 1 = 8 then ([], (if x.1 = [] then i else x.2.1), x.2.2 ++ [(66, nI (if x.1 = [] then i else x.2.1), nI i, nI (zval (b :: x.1)), 45)])
  else (b :: x.1, (if x.1 = [] then i else x.2.1), x.2.2)
def zFS (i : Nat) (x : zPhi) : zPhi := ([], x.2.1, if x.1 = [] then x.2.2 else x.2.2 ++ [(66, nI x.2.1, nI i, nI (zval x.1), 115)])
theorem zFB_8 {b : Bool} {i fb : Nat} {bs : List Bool} {L : List zNt} (g : bs.length + 1 = 8) : zFB b i (bs, fb, L) = ([], (if bs = [] then i else fb), L ++ [(66, nI (if bs = [] then i else fb), nI i, nI (zval (b :: bs)), 45)]) := if_pos g
theorem zFB_n {b : Bool} {i fb : Nat} {bs : List Bool} {L : List zNt} (g : ¬ bs.length + 1 = 8) : zFB b i (bs, fb, L) = (b :: bs, (if bs = [] then i else fb), L) := if_neg g
theorem zFS_0 {i fb : Nat} {bs : List Bool} {L : List zNt} (g : bs = []) : zFS i (bs, fb, L) = ([], fb, L) := by
  unfold zFS
  rw [if_pos g]
theorem zFS_1 {i fb : Nat} {bs : List Bool} {L : List zNt} (g : ¬ bs = []) : zFS i (bs, fb, L) = ([], fb, L ++ [(66, nI fb, nI i, nI (zval bs), 115)]) := by
  unfold zFS
  rw [if_neg g]
/-! blocks -/
/-- no sample of the block (of 2 ^ d samples) that sample i lies in differs from the one ahead -/
def zBk (M : Nat → Nat → Bool) (w d mm q : Nat) : Prop := ∀ k, k < mm → k / 2 ^ d = q → ¬ zcg M w k
theorem zdv {a q n : Nat} (hn : 1 ≤ n) (h1 : q * n ≤ a) (h2 : a < q * n + n) : a / n = q := by
  have h3 : a < (q + 1) * n := by
    rw [Nat.add_mul, Nat.one_mul]
    exact h2
  exact Nat.le_antisymm (Nat.le_of_lt_succ ((Nat.div_lt_iff_lt_mul (by omega)).mpr h3)) ((Nat.le_div_iff_mul_le (by omega)).mpr h1)
theorem zdv2 {a q n : Nat} (hn : 1 ≤ n) (h : a / n = q) : q * n ≤ a ∧ a < q * n + n := by
  have h3 := Nat.div_add_mod a n
  have h4 := Nat.mod_lt a (show n > 0 by omega)
  rw [h, Nat.mul_comm] at h3
  omega
/-! a serial byte that is read at its halves (20 tenths) -/
/-- the value whose bits stand at fall + 3, fall + 5 .. -/
def zsv (m : Nat → Bool) (f : Nat) : Nat → Nat
  | 0 => 0
  | n + 1 => zsv m f n + (if m (f + 2 * (n + 1) + 1) = true then 2 ^ n else 0)
theorem zsv_lt (m : Nat → Bool) (f : Nat) : ∀ n, zsv m f n < 2 ^ n
  | 0 => (Nat.zero_lt_one : 0 < 1)
  | n + 1 => by
    have h := zsv_lt m f n
    show zsv m f n + (if m (f + 2 * (n + 1) + 1) = true then 2 ^ n else 0) < 2 ^ (n + 1)
    rw [Nat.pow_succ]
    split <;> omega
theorem zsv_1 {m : Nat → Bool} {f n v : Nat} (hv : v = zsv m f n) (h : m (f + 2 * (n + 1) + 1) = true) : v + 2 ^ n = zsv m f (n + 1) := by
  show _ = zsv m f n + (if m (f + 2 * (n + 1) + 1) = true then 2 ^ n else 0)
  rw [if_pos h, hv]
theorem zsv_0 {m : Nat → Bool} {f n v : Nat} (hv : v = zsv m f n) (h : ¬ m (f + 2 * (n + 1) + 1) = true) : v = zsv m f (n + 1) := by
  show _ = zsv m f n + (if m (f + 2 * (n + 1) + 1) = true then 2 ^ n else 0)
  rw [if_neg h, hv]
  rfl
theorem zor2 : ∀ n, n < 8 → ∀ v, v < 2 ^ n → nI v ||| ((1 : Int32) <<< (nI n &&& 31)) = nI (v + 2 ^ n) := by decide +kernel
theorem z2a20 {f n : Nat} (hn : n ≤ 10) : nI f + (2 * nI n + 1) * 20 / 20 = nI (f + 2 * n + 1) := by
  have h : ∀ n, n < 11 → (2 * nI n + 1) * 20 / 20 = nI (2 * n + 1) := by decide +kernel
  rw [h n (by omega), nI_add]
  rfl
theorem zeq1 {P : Prop} [Decidable P] : zb P = 1 ↔ P := by
  unfold zb
  by_cases h : P <;> simp [h]
theorem zeq0 {P : Prop} [Decidable P] : zb P = 0 ↔ ¬ P := zb0
/-- its last sample -/
def zse (f : Nat) (pr : Int32) : Nat := f + 2 * (zsbN pr - 1) + 1
/-- its fault; v: its value -/
def zsf (m : Nat → Bool) (f : Nat) (pr : Int32) (v : Nat) : Int32 := if ¬ pr = 110 ∧ ¬ (m (f + 2 * 9 + 1) = true ↔ zpo (nI v) pr = 1) then 112 else if m (zse f pr) = true then 45 else 102
theorem zsf_p {m : Nat → Bool} {f v : Nat} {pr : Int32} (h : ¬ pr = 110) (g : ¬ (m (f + 2 * 9 + 1) = true ↔ zpo (nI v) pr = 1)) : (112 : Int32) = zsf m f pr v := (if_pos ⟨h, g⟩).symm
theorem zsf_k {m : Nat → Bool} {f v : Nat} {pr : Int32} (h : pr = 110 ∨ (m (f + 2 * 9 + 1) = true ↔ zpo (nI v) pr = 1)) (g : m (zse f pr) = true) : (45 : Int32) = zsf m f pr v := by
  unfold zsf
  rw [if_neg (fun q => h.elim q.1 q.2), if_pos g]
theorem zsf_f {m : Nat → Bool} {f v : Nat} {pr : Int32} (h : pr = 110 ∨ (m (f + 2 * 9 + 1) = true ↔ zpo (nI v) pr = 1)) (g : ¬ m (zse f pr) = true) : (102 : Int32) = zsf m f pr v := by
  unfold zsf
  rw [if_neg (fun q => h.elim q.1 q.2), if_neg g]
theorem zsf_ch (m : Nat → Bool) (f v : Nat) (pr : Int32) : vp_nar .char (zsf m f pr v) = zsf m f pr v := by
  unfold zsf
  split
  · decide
  · split <;> decide
/-- what is told of a fall, and where one goes on -/
def zTS (m : Nat → Bool) (mm : Nat) (pr : Int32) (f : Nat) (L : List zNt) : Nat × List zNt :=
  if mm ≤ zse f pr ∨ m (f + 2 * 0 + 1) = true then (f + 1, L) else (zse f pr + 1, L ++ [(66, nI f, nI (zse f pr), nI (zsv m f 8), zsf m f pr (zsv m f 8))])
theorem zTS_0 {m : Nat → Bool} {mm f : Nat} {pr : Int32} {L : List zNt} (h : mm ≤ zse f pr ∨ m (f + 2 * 0 + 1) = true) : zTS m mm pr f L = (f + 1, L) := if_pos h
theorem zTS_1 {m : Nat → Bool} {mm f : Nat} {pr : Int32} {L : List zNt} (h : ¬ mm ≤ zse f pr) (g : ¬ m (f + 2 * 0 + 1) = true) : zTS m mm pr f L = (zse f pr + 1, L ++ [(66, nI f, nI (zse f pr), nI (zsv m f 8), zsf m f pr (zsv m f 8))]) := if_neg (fun q => q.elim h g)
theorem zTS_len (m : Nat → Bool) (mm f : Nat) (pr : Int32) (L : List zNt) : (zTS m mm pr f L).2.length ≤ L.length + 1 := by
  unfold zTS
  split
  · exact Nat.le_succ _
  · rw [List.length_append]
    exact Nat.le_refl _
/-- the first k samples behind sample 0 were looked at -/
def zDS (m : Nat → Bool) (mm : Nat) (pr : Int32) : Nat → Nat × List zNt
  | 0 => (1, [])
  | k + 1 => if (zDS m mm pr k).1 ≤ k + 1 ∧ m (k + 1) = false ∧ m k = true then zTS m mm pr (k + 1) (zDS m mm pr k).2 else zDS m mm pr k
theorem zDS_len (m : Nat → Bool) (mm : Nat) (pr : Int32) : ∀ k, (zDS m mm pr k).2.length ≤ k
  | 0 => Nat.le_refl 0
  | k + 1 => by
    have h := zDS_len m mm pr k
    show (if (zDS m mm pr k).1 ≤ k + 1 ∧ m (k + 1) = false ∧ m k = true then zTS m mm pr (k + 1) (zDS m mm pr k).2 else zDS m mm pr k).2.length ≤ k + 1
    split
    · have := zTS_len m mm (k + 1) pr (zDS m mm pr k).2
      omega
    · omega
theorem zDS_nx (m : Nat → Bool) (mm : Nat) (pr : Int32) : ∀ k, (zDS m mm pr k).1 ≤ k + 30
  | 0 => (show 1 ≤ 30 by decide)
  | k + 1 => by
    have h := zDS_nx m mm pr k
    show (if (zDS m mm pr k).1 ≤ k + 1 ∧ m (k + 1) = false ∧ m k = true then zTS m mm pr (k + 1) (zDS m mm pr k).2 else zDS m mm pr k).1 ≤ k + 1 + 30
    split
    · have hb := zsbN_le pr
      unfold zTS zse
      split
      · show k + 1 + 1 ≤ _
        omega
      · show k + 1 + 2 * (zsbN pr - 1) + 1 + 1 ≤ _
        omega
    · omega
theorem zDS_y {m : Nat → Bool} {mm k : Nat} {pr : Int32} (h1 : (zDS m mm pr k).1 ≤ k + 1) (h2 : m (k + 1) = false) (h3 : m k = true) : zDS m mm pr (k + 1) = zTS m mm pr (k + 1) (zDS m mm pr k).2 := if_pos ⟨h1, h2, h3⟩
theorem zDS_n {m : Nat → Bool} {mm k : Nat} {pr : Int32} (h : ¬ ((zDS m mm pr k).1 ≤ k + 1 ∧ m (k + 1) = false ∧ m k = true)) : zDS m mm pr (k + 1) = zDS m mm pr k := if_neg h
