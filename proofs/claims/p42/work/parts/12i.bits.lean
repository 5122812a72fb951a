/-! the bits of a word that is sent -/
theorem zor_n (a b : Nat) : nI a ||| nI b = nI (a ||| b) := by
  apply Int32.toBitVec_inj.1
  show BitVec.ofNat 32 a ||| BitVec.ofNat 32 b = BitVec.ofNat 32 (a ||| b)
  apply BitVec.eq_of_getLsbD_eq
  intro i hi
  simp [hi]
theorem zand_1 (a : Nat) : nI a &&& 1 = nI (a % 2) := by
  have h : nI a &&& nI 1 = nI (a &&& 1) := by
    apply Int32.toBitVec_inj.1
    show BitVec.ofNat 32 a &&& BitVec.ofNat 32 1 = BitVec.ofNat 32 (a &&& 1)
    apply BitVec.eq_of_getLsbD_eq
    intro i hi
    rw [BitVec.getLsbD_and, BitVec.getLsbD_ofNat, BitVec.getLsbD_ofNat, BitVec.getLsbD_ofNat, Nat.testBit_and, decide_eq_true hi]
    simp only [Bool.true_and]
  rw [show (1 : Int32) = nI 1 from rfl, h, Nat.and_one_is_mod]
theorem zsm31 : ∀ k, k < 31 → ((nI k &&& 31).toBitVec.smod 32).toNat = k := by decide +kernel
theorem zbv_n {M k : Nat} (hM : M < 2 ^ 31) (hk : k < 31) : zbv (nI M) (nI k) = nI (M / 2 ^ k % 2) := by
  unfold zbv
  rw [pk_shrN hM _ k (zsm31 k hk), zand_1]
  rcases Nat.mod_two_eq_zero_or_one (M / 2 ^ k) with h | h
  · rw [h]
    decide
  · rw [h]
    decide
theorem zbv_b {M k : Nat} (hM : M < 2 ^ 31) (hk : k < 31) : decide (zbv (nI M) (nI k) = 1) = decide (M / 2 ^ k % 2 = 1) := by
  rw [zbv_n hM hk, show (1 : Int32) = nI 1 from rfl]
  by_cases h : M / 2 ^ k % 2 = 1
  · rw [h]
    rfl
  · rw [decide_eq_false h, decide_eq_false (fun g => h ((nI_eq (by omega) (by decide)).mp g))]
/-- the word of two wires -/
def zan1 (b : Bool) : Nat := if b = true then 0 else 1
theorem zan_n {v : Nat} (b : Bool) (hv : v < 256) : zan (nI v) (zb (b = true)) = nI (v * 2 + zan1 b) := by
  unfold zan zan1
  rw [pk_shlN (n := v) _ 1 (by decide) (by omega)]
  cases b
  · rw [if_pos (show zb (false = true) = 0 from rfl), if_neg (show ¬ false = true by decide), show (1 : Int32) = nI 1 from rfl, zor_n]
    congr 1
    have := Nat.two_pow_add_eq_or_of_lt (i := 1) (b := 1) (by decide) v
    rw [Nat.mul_comm v]
    omega
  · rw [if_neg (show ¬ zb (true = true) = 0 by decide), if_pos (show true = true from rfl), show (0 : Int32) = nI 0 from rfl, zor_n, Nat.or_zero]
    rfl
theorem zcat9 {X Y : Nat} (hX : X < 2 ^ 22) (hY : Y < 512) : (nI X <<< ((9 : Int32) &&& 31)) ||| nI Y = nI (X * 512 + Y) := by
  rw [pk_shlN (n := X) _ 9 (by decide) (by omega), zor_n]
  congr 1
  have := Nat.two_pow_add_eq_or_of_lt (i := 9) (b := Y) hY X
  rw [Nat.mul_comm X]
  omega
theorem zwg_n {ad ri v : Nat} (a1 a2 rd : Bool) (had : ad < 128) (hri : ri < 16) (hv : v < 256) : zwg (zb (a1 = true)) (zb (a2 = true)) rd ad ri v = nI (((ad * 2 + (if rd = true then 1 else 0)) * 2 + zan1 a1) * 262144 + (ri * 2 + zan1 a2) * 512 + (v * 2 + zan1 a2)) := by
  have hz : ∀ b, zan1 b < 2 := fun b => by unfold zan1; split <;> decide
  have h1 := hz a1
  have h2 := hz a2
  have e : nI ad * 2 + zb (rd = true) = nI (ad * 2 + (if rd = true then 1 else 0)) := by
    rw [show (2 : Int32) = nI 2 from rfl, pk_mul]
    cases rd
    · rw [show zb (false = true) = nI 0 from rfl, nI_add]
      rfl
    · rw [show zb (true = true) = nI 1 from rfl, nI_add]
      rfl
  have hr : (if rd = true then 1 else 0 : Nat) < 2 := by split <;> decide
  unfold zwg
  rw [e, zan_n a1 (by omega), zan_n a2 (by omega), zan_n a2 (by omega), zcat9 (by omega) (by omega), zcat9 (by omega) (by omega)]
  exact congrArg nI (by omega)
/-- eight bits of a number, the highest first -/
theorem zval8 {M h : Nat} (y : Nat → Bool) (hy : ∀ j, j < 8 → y j = decide (M / 2 ^ (h + 7 - j) % 2 = 1)) : zval [y 7, y 6, y 5, y 4, y 3, y 2, y 1, y 0] = M / 2 ^ h % 256 := by
  have hb : ∀ k, (if decide (M / 2 ^ k % 2 = 1) = true then 1 else 0 : Nat) = M / 2 ^ h / 2 ^ (k - h) % 2 ∨ k < h := fun k => by
    by_cases g : k < h
    · exact Or.inr g
    · left
      rw [Nat.div_div_eq_div_mul, ← Nat.pow_add, show h + (k - h) = k by omega]
      rcases Nat.mod_two_eq_zero_or_one (M / 2 ^ k) with q | q
      · rw [q]
        rfl
      · rw [q]
        rfl
  have hb2 : ∀ j, j < 8 → (if y j = true then 1 else 0 : Nat) = M / 2 ^ h / 2 ^ (7 - j) % 2 := fun j hj => by
    rw [hy j hj]
    rcases hb (h + 7 - j) with q | q
    · rw [q, show h + 7 - j - h = 7 - j by omega]
    · omega
  show 2 * (2 * (2 * (2 * (2 * (2 * (2 * (2 * 0 + (if y 0 = true then 1 else 0)) + (if y 1 = true then 1 else 0)) + (if y 2 = true then 1 else 0)) + (if y 3 = true then 1 else 0)) + (if y 4 = true then 1 else 0)) + (if y 5 = true then 1 else 0)) + (if y 6 = true then 1 else 0)) + (if y 7 = true then 1 else 0) = _
  rw [hb2 0 (by decide), hb2 1 (by decide), hb2 2 (by decide), hb2 3 (by decide), hb2 4 (by decide), hb2 5 (by decide), hb2 6 (by decide), hb2 7 (by decide)]
  generalize M / 2 ^ h = q
  have p : (2 : Nat) ^ 7 = 128 ∧ (2 : Nat) ^ 6 = 64 ∧ (2 : Nat) ^ 5 = 32 ∧ (2 : Nat) ^ 4 = 16 ∧ (2 : Nat) ^ 3 = 8 ∧ (2 : Nat) ^ 2 = 4 := ⟨rfl, rfl, rfl, rfl, rfl, rfl⟩
  show 2 * (2 * (2 * (2 * (2 * (2 * (2 * (2 * 0 + q / 2 ^ 7 % 2) + q / 2 ^ 6 % 2) + q / 2 ^ 5 % 2) + q / 2 ^ 4 % 2) + q / 2 ^ 3 % 2) + q / 2 ^ 2 % 2) + q / 2 ^ 1 % 2) + q / 2 ^ 0 % 2 = q % 256
  rw [p.1, p.2.1, p.2.2.1, p.2.2.2.1, p.2.2.2.2.1, p.2.2.2.2.2]
  omega
theorem zdq {c q r : Nat} (h : r < c) : (c * q + r) / c = q := by
  rw [Nat.mul_add_div (by omega), Nat.div_eq_of_lt h, Nat.add_zero]
/-- the bytes of two wires -/
theorem ztwo_bits {ad ri v : Nat} (a1 a2 rd : Bool) (had : ad < 128) (hri : ri < 16) (hv : v < 256) (x : Nat → Bool) (hx : ∀ n, x n = decide (zlD (zwg (zb (a1 = true)) (zb (a2 = true)) rd ad ri v) (n + 2) = 1)) :
    zby x 0 = ad * 2 + (if rd = true then 1 else 0) ∧ zby x 9 = ri ∧ zby x 18 = v ∧ (!x 8) = a1 ∧ (!x 17) = a2 ∧ (!x 26) = a2 := by
  have hz : ∀ b, zan1 b < 2 := fun b => by unfold zan1; split <;> decide
  have hz2 : ∀ b, (!decide (zan1 b = 1)) = b := fun b => by cases b <;> rfl
  have h1 := hz a1
  have h2 := hz a2
  have hr : (if rd = true then 1 else 0 : Nat) < 2 := by split <;> decide
  generalize hR : (if rd = true then 1 else 0 : Nat) = R at hr ⊢
  obtain ⟨M, hM⟩ : ∃ M, M = ((ad * 2 + R) * 2 + zan1 a1) * 262144 + (ri * 2 + zan1 a2) * 512 + (v * 2 + zan1 a2) := ⟨_, rfl⟩
  have hM31 : M < 2 ^ 31 := by omega
  have hb : ∀ n, n < 27 → x n = decide (M / 2 ^ (26 - n) % 2 = 1) := fun n hn => by
    rw [hx n, zlD_s hn, zwg_n a1 a2 rd had hri hv, hR, ← hM, show (26 : Int32) = nI 26 from rfl, pk_sub (by omega), zbv_b hM31 (by omega)]
  have b0 : zby x 0 = M / 2 ^ 19 % 256 := zval8 (h := 19) (fun j => x (0 + j)) (fun j hj => by
    show x (0 + j) = _
    rw [hb (0 + j) (by omega), show 26 - (0 + j) = 19 + 7 - j by omega])
  have b9 : zby x 9 = M / 2 ^ 10 % 256 := zval8 (h := 10) (fun j => x (9 + j)) (fun j hj => by
    show x (9 + j) = _
    rw [hb (9 + j) (by omega), show 26 - (9 + j) = 10 + 7 - j by omega])
  have b18 : zby x 18 = M / 2 ^ 1 % 256 := zval8 (h := 1) (fun j => x (18 + j)) (fun j hj => by
    show x (18 + j) = _
    rw [hb (18 + j) (by omega), show 26 - (18 + j) = 1 + 7 - j by omega])
  have p : (2 : Nat) ^ 19 = 524288 ∧ (2 : Nat) ^ 10 = 1024 ∧ (2 : Nat) ^ 18 = 262144 ∧ (2 : Nat) ^ 9 = 512 := ⟨rfl, rfl, rfl, rfl⟩
  rw [p.1] at b0
  rw [p.2.1] at b9
  have q1 : M / 524288 = ad * 2 + R := by
    rw [show M = 524288 * (ad * 2 + R) + (zan1 a1 * 262144 + (ri * 2 + zan1 a2) * 512 + (v * 2 + zan1 a2)) by omega]
    exact zdq (by omega)
  have q2 : M / 1024 = ((ad * 2 + R) * 2 + zan1 a1) * 256 + ri := by
    rw [show M = 1024 * (((ad * 2 + R) * 2 + zan1 a1) * 256 + ri) + (zan1 a2 * 512 + (v * 2 + zan1 a2)) by omega]
    exact zdq (by omega)
  have q3 : M / 2 ^ 1 = (((ad * 2 + R) * 2 + zan1 a1) * 512 + (ri * 2 + zan1 a2)) * 256 + v := by
    rw [show M = 2 ^ 1 * ((((ad * 2 + R) * 2 + zan1 a1) * 512 + (ri * 2 + zan1 a2)) * 256 + v) + zan1 a2 by omega]
    exact zdq (by omega)
  have q4 : M / 262144 = (ad * 2 + R) * 2 + zan1 a1 := by
    rw [show M = 262144 * ((ad * 2 + R) * 2 + zan1 a1) + ((ri * 2 + zan1 a2) * 512 + (v * 2 + zan1 a2)) by omega]
    exact zdq (by omega)
  have q5 : M / 512 = ((ad * 2 + R) * 2 + zan1 a1) * 512 + (ri * 2 + zan1 a2) := by
    rw [show M = 512 * (((ad * 2 + R) * 2 + zan1 a1) * 512 + (ri * 2 + zan1 a2)) + (v * 2 + zan1 a2) by omega]
    exact zdq (by omega)
  rw [q1] at b0
  rw [q2] at b9
  rw [q3] at b18
  refine ⟨by omega, by omega, by omega, ?_, ?_, ?_⟩
  · rw [hb 8 (by decide), show 26 - 8 = 18 from rfl, p.2.2.1, q4, show ((ad * 2 + R) * 2 + zan1 a1) % 2 = zan1 a1 by omega]
    exact hz2 a1
  · rw [hb 17 (by decide), show 26 - 17 = 9 from rfl, p.2.2.2, q5, show (((ad * 2 + R) * 2 + zan1 a1) * 512 + (ri * 2 + zan1 a2)) % 2 = zan1 a2 by omega]
    exact hz2 a2
  · rw [hb 26 (by decide), show M / 2 ^ (26 - 26) % 2 = zan1 a2 by show M / 2 ^ 0 % 2 = _; rw [show (2 : Nat) ^ 0 = 1 from rfl]; omega]
    exact hz2 a2
/-! four wires -/
def zsw4 (i : Nat) : Bool := zpu 1 zlL (fun j => zmL j + 1) 2 i
def zcw4 (md i : Nat) : Bool := zpu (zge2 (nI md)) (zlF (zge2 (nI md))) (fun j => j + 1 + 1) 16 i
def zdw4 (md v i : Nat) : Bool := zpu 0 (zlG (nI v)) (fun j => zmG (zlt2 (nI md)) j + 1) 9 i
def zfb (md : Nat) : Nat := if md = 0 ∨ md = 2 then 2 else 3
def zf4a (x y : zNt) : Bool := decide (x.1 = y.1) && decide (x.2.1 = y.2.1) && decide (x.2.2.1 = y.2.2.1) && decide (x.2.2.2.1 = y.2.2.2.1) && decide (x.2.2.2.2 = y.2.2.2.2)
def zf4b (L : List zNt) (y : zNt) : Bool := match L with
  | [] => false
  | x :: L' => zf4a x y && L'.isEmpty
theorem zf4c {L : List zNt} {y : zNt} (h : zf4b L y = true) : L = [y] := by
  match L, h with
  | [], h => exact absurd h Bool.false_ne_true
  | x :: L', h =>
    unfold zf4b zf4a at h
    rw [Bool.and_eq_true, Bool.and_eq_true, Bool.and_eq_true, Bool.and_eq_true, Bool.and_eq_true, decide_eq_true_eq, decide_eq_true_eq, decide_eq_true_eq, decide_eq_true_eq, decide_eq_true_eq] at h
    obtain ⟨x1, x2, x3, x4, x5⟩ := x
    obtain ⟨y1, y2, y3, y4, y5⟩ := y
    obtain ⟨⟨⟨⟨⟨h1, h2⟩, h3⟩, h4⟩, h5⟩, h6⟩ := h
    have h1 : x1 = y1 := h1
    have h2 : x2 = y2 := h2
    have h3 : x3 = y3 := h3
    have h4 : x4 = y4 := h4
    have h5 : x5 = y5 := h5
    have h6 : L' = [] := List.isEmpty_iff.mp h6
    rw [h1, h2, h3, h4, h5, h6]
theorem zfour0 : ∀ md, md < 4 → ∀ v, v < 256 → zf4b (zFR zsw4 (zcw4 md) (zdw4 md v) (decide (md = 0 ∨ md = 3)) 19).2.2 (66, nI (zfb md), nI (zfb md + 14), nI v, 45) = true := by decide +kernel
theorem zfour (md : Nat) (h : md < 4) (v : Nat) (hv : v < 256) : (zFR zsw4 (zcw4 md) (zdw4 md v) (decide (md = 0 ∨ md = 3)) 19).2.2 = [(66, nI (zfb md), nI (zfb md + 14), nI v, 45)] := zf4c (zfour0 md h v hv)
