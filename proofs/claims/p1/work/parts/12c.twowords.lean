/-! two wires and four: the levels last sent on three wires -/
def zl3 (c1 c2 c3 : Nat) (v1 v2 v3 : Int32) (j : Nat) : Int32 := if j = c1 then v1 else if j = c2 then v2 else if j = c3 then v3 else 0
theorem zl3_1 (c1 c2 c3 : Nat) (v1 v2 v3 : Int32) : zl3 c1 c2 c3 v1 v2 v3 c1 = v1 := if_pos rfl
theorem zl3_2 {c1 c2 : Nat} (c3 : Nat) (v1 v2 v3 : Int32) (h : c1 ≠ c2) : zl3 c1 c2 c3 v1 v2 v3 c2 = v2 := (if_neg (Ne.symm h)).trans (if_pos rfl)
theorem zl3_3 {c1 c2 c3 : Nat} (v1 v2 v3 : Int32) (h : c1 ≠ c3) (h2 : c2 ≠ c3) : zl3 c1 c2 c3 v1 v2 v3 c3 = v3 := (if_neg (Ne.symm h)).trans ((if_neg (Ne.symm h2)).trans (if_pos rfl))
def zTp (S S1 : zS) (f : Nat → Nat) (q sn : Nat) (A p0 p1 p2 cur : Int32) : Prop := (cur = p2 ∧ S1 = S) ∨ (¬ cur = p2 ∧ ∃ S2 : zS, ((A + p1 ≤ 9999 ∧ S2 = zsR S 23 (f p0.toNatClampNeg) (upd (zR S 23 (f p0.toNatClampNeg)) (A + p1).toNatClampNeg (zno (zR S 23 (f p0.toNatClampNeg) (A + p1).toNatClampNeg)))) ∨ (¬ A + p1 ≤ 9999 ∧ S2 = S)) ∧ S1 = zsR (zsI S2 211 q (if A + p1 ≤ 9999 then zI S 211 q else 0)) 23 sn (upd (zR S 23 sn) p0.toNatClampNeg p2))
section Z3
variable {S S1 : zS} {q m0 rw sn : Nat} {f : Nat → Nat} {A p0 p1 p2 : Int32} {L t : Nat → Int32} {k n c1 c2 c3 : Nat} {v1 v2 v3 : Int32} {g1 g2 g3 : Prop}
theorem zg1 {cur : Int32} (hv : p2 = L (k + 1)) (ht : A + p1 = t k) (hc : cur = L k) : ((zgd L t k ∧ g2 ∧ g3) ∧ (p2 = cur ∨ A + p1 ≤ 9999)) ↔ (zgd L t (k + 1) ∧ g2 ∧ g3) := by
  have e := zgd_s L t k
  rw [hv, ht, hc]
  exact ⟨fun h => ⟨e.mp ⟨h.1.1, h.2⟩, h.1.2⟩, fun h => ⟨⟨(e.mpr h.1).1, h.2⟩, (e.mpr h.1).2⟩⟩
theorem zSe_3a (hE : zSe S q m0 rw sn f A (zl3 c1 c2 c3 (L k) v2 v3) (zgd L t k ∧ g2 ∧ g3) n) (hp : 0 ≤ p0 ∧ p0 ≤ 3) (hc : p0.toNatClampNeg = c1) (hv : p2 = L (k + 1)) (ht : A + p1 = t k) (hpost : zTp S S1 f q sn A p0 p1 p2 (zl3 c1 c2 c3 (L k) v2 v3 p0.toNatClampNeg)) :
    zSe S1 q m0 rw sn f A (zl3 c1 c2 c3 (L (k + 1)) v2 v3) (zgd L t (k + 1) ∧ g2 ∧ g3) (n + 1) ∧ zFs S S1 := by
  have h := zSe_tell hE hp hpost
  refine ⟨h.1.weak (fun j _ => ?_) (zg1 hv ht (by rw [hc]; exact zl3_1 _ _ _ _ _ _)) (Nat.le_refl _), h.2⟩
  show (if j = p0.toNatClampNeg then p2 else zl3 c1 c2 c3 (L k) v2 v3 j) = zl3 c1 c2 c3 (L (k + 1)) v2 v3 j
  rw [hc, hv]
  unfold zl3
  by_cases h1 : j = c1
  · rw [if_pos h1, if_pos h1]
  · rw [if_neg h1, if_neg h1, if_neg h1]
theorem zSe_3b (hE : zSe S q m0 rw sn f A (zl3 c1 c2 c3 v1 (L k) v3) (g1 ∧ zgd L t k ∧ g3) n) (hp : 0 ≤ p0 ∧ p0 ≤ 3) (hc : p0.toNatClampNeg = c2) (hd : c1 ≠ c2) (hv : p2 = L (k + 1)) (ht : A + p1 = t k) (hpost : zTp S S1 f q sn A p0 p1 p2 (zl3 c1 c2 c3 v1 (L k) v3 p0.toNatClampNeg)) :
    zSe S1 q m0 rw sn f A (zl3 c1 c2 c3 v1 (L (k + 1)) v3) (g1 ∧ zgd L t (k + 1) ∧ g3) (n + 1) ∧ zFs S S1 := by
  have h := zSe_tell hE hp hpost
  have hg := zg1 (g2 := g1) (g3 := g3) hv ht (show zl3 c1 c2 c3 v1 (L k) v3 p0.toNatClampNeg = L k by rw [hc]; exact zl3_2 _ _ _ _ hd)
  refine ⟨h.1.weak (fun j _ => ?_) ⟨fun x => ?_, fun x => ?_⟩ (Nat.le_refl _), h.2⟩
  · show (if j = p0.toNatClampNeg then p2 else zl3 c1 c2 c3 v1 (L k) v3 j) = zl3 c1 c2 c3 v1 (L (k + 1)) v3 j
    rw [hc, hv]
    unfold zl3
    by_cases h1 : j = c2
    · rw [if_pos h1, if_neg (by rw [h1]; exact Ne.symm hd), if_pos h1]
    · rw [if_neg h1, if_neg h1, if_neg h1]
  · have y := hg.mp ⟨⟨x.1.2.1, x.1.1, x.1.2.2⟩, x.2⟩
    exact ⟨y.2.1, y.1, y.2.2⟩
  · have y := hg.mpr ⟨x.2.1, x.1, x.2.2⟩
    exact ⟨⟨y.1.2.1, y.1.1, y.1.2.2⟩, y.2⟩
theorem zSe_3c (hE : zSe S q m0 rw sn f A (zl3 c1 c2 c3 v1 v2 (L k)) (g1 ∧ g2 ∧ zgd L t k) n) (hp : 0 ≤ p0 ∧ p0 ≤ 3) (hc : p0.toNatClampNeg = c3) (hd : c1 ≠ c3) (hd2 : c2 ≠ c3) (hv : p2 = L (k + 1)) (ht : A + p1 = t k) (hpost : zTp S S1 f q sn A p0 p1 p2 (zl3 c1 c2 c3 v1 v2 (L k) p0.toNatClampNeg)) :
    zSe S1 q m0 rw sn f A (zl3 c1 c2 c3 v1 v2 (L (k + 1))) (g1 ∧ g2 ∧ zgd L t (k + 1)) (n + 1) ∧ zFs S S1 := by
  have h := zSe_tell hE hp hpost
  have hg := zg1 (g2 := g1) (g3 := g2) hv ht (show zl3 c1 c2 c3 v1 v2 (L k) p0.toNatClampNeg = L k by rw [hc]; exact zl3_3 _ _ _ hd hd2)
  refine ⟨h.1.weak (fun j _ => ?_) ⟨fun x => ?_, fun x => ?_⟩ (Nat.le_refl _), h.2⟩
  · show (if j = p0.toNatClampNeg then p2 else zl3 c1 c2 c3 v1 v2 (L k) j) = zl3 c1 c2 c3 v1 v2 (L (k + 1)) j
    rw [hc, hv]
    unfold zl3
    by_cases h1 : j = c3
    · rw [if_pos h1, if_neg (by rw [h1]; exact Ne.symm hd), if_neg (by rw [h1]; exact Ne.symm hd2), if_pos h1]
    · rw [if_neg h1, if_neg h1, if_neg h1]
  · have y := hg.mp ⟨⟨x.1.2.2, x.1.1, x.1.2.1⟩, x.2⟩
    exact ⟨y.2.1, y.2.2, y.1⟩
  · have y := hg.mpr ⟨x.2.2, x.1, x.2.1⟩
    exact ⟨⟨y.1.2.1, y.1.2.2, y.1.1⟩, y.2⟩
end Z3
theorem zcl_ne {p0 p1 : Int32} (h0 : 0 ≤ p0 ∧ p0 ≤ 3) (h1 : 0 ≤ p1 ∧ p1 ≤ 3) (h : ¬ p0 = p1) : p0.toNatClampNeg ≠ p1.toNatClampNeg := by
  obtain ⟨A, hA, rfl⟩ := nI_of2 (x := p0) (M := 3) (n := 3) rfl (by grind) h0.2
  obtain ⟨B, hB, rfl⟩ := nI_of2 (x := p1) (M := 3) (n := 3) rfl (by grind) h1.2
  rw [nI_clamp (by omega), nI_clamp (by omega)]
  exact fun e => h (by rw [e])
theorem zcl_4 {p0 : Int32} (h0 : 0 ≤ p0 ∧ p0 ≤ 3) : p0.toNatClampNeg ≠ 4 := by
  have := z_cl4 h0
  omega
theorem zGv.R {S : zS} {k v : Nat} {f : Nat → Int32} : zGv S (zsR S k v f) v := fun _ _ hv => ⟨rfl, fun _ => ⟨rfl, rfl⟩, rfl, fun _ => zR_a hv rfl, rfl, rfl⟩
theorem zSe.gv {S S1 : zS} {v q m0 rw sn : Nat} {f : Nat → Nat} {A : Int32} {lev : Nat → Int32} {G : Prop} {n : Nat} (hE : zSe S q m0 rw sn f A lev G n) (h : zGv S S1 v) (hv : zK S v = 0) : zSe S1 q m0 rw sn f A lev G n := by
  obtain ⟨⟨a1, a2, a3, a4, a5, a6, a7, a8, a9, a10, a11, a12, a13⟩, ⟨hg1, hg2⟩, hl, hf⟩ := hE
  have kq := h q (by rw [a1]; decide) (zne hv (by rw [a1]; decide))
  have km := h m0 (by rw [a5]; decide) (zne hv (by rw [a5]; decide))
  have kr := h rw (by rw [a10]; decide) (zne hv (by rw [a10]; decide))
  have ks := h sn (by rw [a12]; decide) (zne hv (by rw [a12]; decide))
  refine ⟨⟨kq.1.trans a1, (kq.2.1 _).2.trans a2, (kq.2.1 _).2.trans a3, (kq.2.1 _).2.trans a4, km.1.trans a5, (km.2.1 _).1.trans a6, (km.2.1 _).1.trans a7, (km.2.1 _).1.trans a8, (kq.2.1 _).1.trans a9, kr.1.trans a10, kr.2.2.1.trans a11, ks.1.trans a12, ks.2.2.1.trans a13⟩, ?_, fun j hj => ?_, fun j hj => ?_⟩
  · rw [(kq.2.1 211).1]
    exact ⟨hg1, hg2⟩
  · rw [ks.2.2.2.1 23]
    exact hl j hj
  · obtain ⟨b1, b2, b3, b4, b5⟩ := hf j hj
    have kf := h (f j) (by rw [b2]; decide) (zne hv (by rw [b2]; decide))
    refine ⟨(congrFun kr.2.2.2.2.1 j).trans b1, kf.1.trans b2, kf.2.2.1.trans b3, b4, ?_⟩
    rw [kf.2.2.2.1 23]
    exact b5
/-! the bits of what is sent over two wires -/
theorem zor_nI (a b : Nat) : nI a ||| nI b = nI (a ||| b) := by
  apply Int32.toBitVec_inj.mp
  show BitVec.ofNat 32 a ||| BitVec.ofNat 32 b = BitVec.ofNat 32 (a ||| b)
  exact (BitVec.ofNat_or ..).symm
theorem zsh : ∀ k, k < 32 → (((nI k &&& 31 : Int32)).toBitVec.smod 32).toNat = k := by decide +kernel
theorem zbvN {N k : Nat} (hN : N < 2 ^ 31) (hk : k < 32) : zbv (nI N) (nI k) = nI (N / 2 ^ k % 2) := by
  unfold zbv
  rw [pk_shrN hN _ k (zsh k hk), pk_andN (n := N / 2 ^ k) (Nat.lt_of_le_of_lt (Nat.div_le_self _ _) (by omega)) (m := 1) 1 rfl]
  rcases Nat.mod_two_eq_zero_or_one (N / 2 ^ k) with h | h
  · rw [show N / 2 ^ k % 2 ^ 1 = 0 from h]
    rfl
  · rw [show N / 2 ^ k % 2 ^ 1 = 1 from h]
    rfl
theorem zanN {A : Nat} (hA : A < 2 ^ 20) : zan (nI A) 1 = nI (2 * A) := by
  unfold zan
  rw [if_neg (by decide), pk_shlN _ 1 (by decide) (by omega), show (0 : Int32) = nI 0 from rfl, zor_nI, Nat.or_zero]
  congr 1
  omega
theorem zwdN {A R V : Nat} (hA : A ≤ 255) (hR : R ≤ 15) (hV : V ≤ 255) : ((zan (nI A) 1 <<< ((9 : Int32) &&& 31) ||| zan (nI R) 1) <<< ((9 : Int32) &&& 31)) ||| zan (nI V) 1 = nI (A * 2 ^ 19 + R * 2 ^ 10 + V * 2) := by
  rw [zanN (by omega), zanN (by omega), zanN (by omega), pk_shlN _ 9 (by decide) (by omega), zor_nI, Nat.mul_comm (2 * A), ← Nat.two_pow_add_eq_or_of_lt (i := 9) (by omega), pk_shlN _ 9 (by decide) (by omega), zor_nI, Nat.mul_comm _ (2 ^ 9), ← Nat.two_pow_add_eq_or_of_lt (i := 9) (by omega)]
  congr 1
  omega
def zby (p2 p3 p4 p5 : Int32) (i : Nat) : Int32 := if i / 9 = 0 then 2 * p2 + p3 else if i / 9 = 1 then p4 else p5
theorem zwbit {p2 p3 p4 p5 : Int32} (h2 : 0 ≤ p2 ∧ p2 ≤ 127) (h3 : p3 = 0 ∨ p3 = 1) (h4 : 0 ≤ p4 ∧ p4 ≤ 15) (h5 : 0 ≤ p5 ∧ p5 ≤ 255) {i : Nat} (hi : i < 27) : (i % 9 = 8 → zlD (zwd2 p2 p3 p4 p5) (i + 2) = 0) ∧ (¬ i % 9 = 8 → zlD (zwd2 p2 p3 p4 p5) (i + 2) = zbv (zby p2 p3 p4 p5 i) (7 - nI (i % 9))) := by
  obtain ⟨A, hA, rfl⟩ := nI_of2 (x := p2) (M := 127) (n := 127) rfl (by grind) h2.2
  obtain ⟨R, hR, rfl⟩ := nI_of2 (x := p4) (M := 15) (n := 15) rfl (by grind) h4.2
  obtain ⟨V, hV, rfl⟩ := nI_of2 (x := p5) (M := 255) (n := 255) rfl (by grind) h5.2
  obtain ⟨B, hB, rfl⟩ : ∃ B : Nat, B ≤ 1 ∧ p3 = nI B := by
    rcases h3 with h | h
    · exact ⟨0, by decide, h⟩
    · exact ⟨1, by decide, h⟩
  have hw : zwd2 (nI A) (nI B) (nI R) (nI V) = nI ((2 * A + B) * 2 ^ 19 + R * 2 ^ 10 + V * 2) := by
    unfold zwd2
    rw [show nI A * 2 + nI B = nI (2 * A + B) by rw [show (2 : Int32) = nI 2 from rfl, pk_mul, nI_add, Nat.mul_comm], zwdN (by omega) hR hV]
  have hz : zby (nI A) (nI B) (nI R) (nI V) i = nI (if i / 9 = 0 then 2 * A + B else if i / 9 = 1 then R else V) := by
    unfold zby
    rw [show (2 : Int32) * nI A + nI B = nI (2 * A + B) by rw [show (2 : Int32) = nI 2 from rfl, pk_mul, nI_add]]
    split
    · rfl
    · split <;> rfl
  rw [zlD_s hi, hw, hz, show (26 : Int32) - nI i = nI (26 - i) from pk_sub (a := 26) (by omega), zbvN (by omega) (by omega)]
  constructor
  · intro h
    have e : i = 8 ∨ i = 17 ∨ i = 26 := by omega
    rw [show (0 : Int32) = nI 0 from rfl]
    congr 1
    rcases e with rfl | rfl | rfl <;> simp only [Nat.reduceSub, Nat.reducePow] <;> omega
  · intro h
    rw [show (7 : Int32) - nI (i % 9) = nI (7 - i % 9) from pk_sub (a := 7) (by omega), zbvN (by split <;> (try split) <;> omega) (by omega)]
    congr 1
    have e : i = 0 ∨ i = 1 ∨ i = 2 ∨ i = 3 ∨ i = 4 ∨ i = 5 ∨ i = 6 ∨ i = 7 ∨ i = 9 ∨ i = 10 ∨ i = 11 ∨ i = 12 ∨ i = 13 ∨ i = 14 ∨ i = 15 ∨ i = 16 ∨ i = 18 ∨ i = 19 ∨ i = 20 ∨ i = 21 ∨ i = 22 ∨ i = 23 ∨ i = 24 ∨ i = 25 := by omega
    rcases e with rfl | rfl | rfl | rfl | rfl | rfl | rfl | rfl | rfl | rfl | rfl | rfl | rfl | rfl | rfl | rfl | rfl | rfl | rfl | rfl | rfl | rfl | rfl | rfl <;> simp only [Nat.reduceSub, Nat.reducePow, Nat.reduceMod, Nat.reduceDiv, if_true, if_false, reduceIte, Nat.reduceEqDiff] <;> omega
theorem zmod9 : ∀ i, i < 27 → nI i - nI i / 9 * 9 = nI (i % 9) := by decide +kernel
theorem zdiv9 : ∀ i, i < 27 → nI i / 9 = nI (i / 9) := by decide +kernel
theorem zfrom (p : Int32) (i : Nat) : p + 2 * p * nI i = nI (2 * i + 1) * p := by
  rw [← z2i1, Int32.add_mul, Int32.one_mul, Int32.add_comm, Int32.mul_assoc, Int32.mul_assoc, Int32.mul_comm p]
theorem znxt (h : Int32) (m : Nat) : nI m * h + h = nI (m + 1) * h := by rw [nI_succ, Int32.add_mul, Int32.one_mul]
theorem zmGr {p : Int32} (h : 0 ≤ p ∧ p ≤ 3) {i : Nat} (hi : i < 8) : 2 * nI i + (p - p / 2 * 2) = nI (zmG (zlt2 p) i) := by
  obtain ⟨A, hA, rfl⟩ := nI_of2 (x := p) (M := 3) (n := 3) rfl (by grind) h.2
  rcases (show A = 0 ∨ A = 1 ∨ A = 2 ∨ A = 3 by omega) with rfl | rfl | rfl | rfl
  · rw [← zmG_0 hi (show zlt2 (nI 0) = 0 by decide), show (nI 0 - nI 0 / 2 * 2 : Int32) = 0 by decide, Int32.add_zero]
  · rw [← zmG_1 hi (show ¬ zlt2 (nI 1) = 0 by decide), show (nI 1 - nI 1 / 2 * 2 : Int32) = 1 by decide]
  · rw [← zmG_0 hi (show zlt2 (nI 2) = 0 by decide), show (nI 2 - nI 2 / 2 * 2 : Int32) = 0 by decide, Int32.add_zero]
  · rw [← zmG_1 hi (show ¬ zlt2 (nI 3) = 0 by decide), show (nI 3 - nI 3 / 2 * 2 : Int32) = 1 by decide]
theorem kdg_two {p0 p1 p2 p3 p4 p5 p6 p7 : Int32} (h0 : 0 ≤ p0 ∧ p0 ≤ 3) (h1 : 0 ≤ p1 ∧ p1 ≤ 3) (hd : ¬ p0 = p1) (h2 : 0 ≤ p2 ∧ p2 ≤ 127) (h4 : 0 ≤ p4 ∧ p4 ≤ 15) (h5 : 0 ≤ p5 ∧ p5 ≤ 255) (h6 : 0 ≤ p6 ∧ p6 ≤ 9999) (h7 : 1 ≤ p7 ∧ p7 ≤ 50) : ((zgd zlC (fun j => ztk p6 p7 (zmC j)) 56 ∧ zgd (zlD (zwd2 p2 p3 p4 p5)) (fun j => ztk p6 p7 (zmD j)) 30 ∧ True) → kd_two p0 p1 p2 p3 p4 p5 p6 p7 = 0) ∧ (¬ (zgd zlC (fun j => ztk p6 p7 (zmC j)) 56 ∧ zgd (zlD (zwd2 p2 p3 p4 p5)) (fun j => ztk p6 p7 (zmD j)) 30 ∧ True) → kd_two p0 p1 p2 p3 p4 p5 p6 p7 = 3) := by
  have e : kd_two p0 p1 p2 p3 p4 p5 p6 p7 = if zgd zlC (fun j => ztk p6 p7 (zmC j)) 56 ∧ zgd (zlD (zwd2 p2 p3 p4 p5)) (fun j => ztk p6 p7 (zmD j)) 30 then 0 else 3 := by
    unfold kd_two
    rw [if_neg (fun q => q ⟨h0, h1⟩), if_neg (fun q => q ⟨h2, h4, h5, h6, h7, hd⟩)]
  rw [e]
  exact ⟨fun q => if_pos ⟨q.1, q.2.1⟩, fun q => if_neg (fun x => q ⟨x.1, x.2, trivial⟩)⟩
theorem kdg_four {p0 p1 p2 p3 p4 p5 p6 : Int32} (h0 : 0 ≤ p0 ∧ p0 ≤ 3) (h1 : 0 ≤ p1 ∧ p1 ≤ 3) (h2 : 0 ≤ p2 ∧ p2 ≤ 3) (d1 : ¬ p0 = p1) (d2 : ¬ p0 = p2) (d3 : ¬ p1 = p2) (h3 : 0 ≤ p3 ∧ p3 ≤ 255) (h4 : 0 ≤ p4 ∧ p4 ≤ 9999) (h5 : 1 ≤ p5 ∧ p5 ≤ 50) (h6 : 0 ≤ p6 ∧ p6 ≤ 3) : ((zgd (zlF (zge2 p6)) (fun j => ztk p4 p5 (j + 1)) 16 ∧ zgd (zlG p3) (fun j => ztk p4 p5 (zmG (zlt2 p6) j)) 9 ∧ zgd zlL (fun j => ztk p4 p5 (zmL j)) 2) → kd_four p0 p1 p2 p3 p4 p5 p6 = 0) ∧ (¬ (zgd (zlF (zge2 p6)) (fun j => ztk p4 p5 (j + 1)) 16 ∧ zgd (zlG p3) (fun j => ztk p4 p5 (zmG (zlt2 p6) j)) 9 ∧ zgd zlL (fun j => ztk p4 p5 (zmL j)) 2) → kd_four p0 p1 p2 p3 p4 p5 p6 = 3) := by
  have e : kd_four p0 p1 p2 p3 p4 p5 p6 = if zgd (zlF (zge2 p6)) (fun j => ztk p4 p5 (j + 1)) 16 ∧ zgd (zlG p3) (fun j => ztk p4 p5 (zmG (zlt2 p6) j)) 9 ∧ zgd zlL (fun j => ztk p4 p5 (zmL j)) 2 then 0 else 3 := by
    unfold kd_four
    rw [if_neg (fun q => q ⟨h0, h1, h2⟩), if_neg (fun q => q ⟨h3, h4, h5, h6, d1, d2, d3⟩)]
  rw [e]
  exact ⟨fun q => if_pos q, fun q => if_neg q⟩
theorem zlD_01 (w : Int32) : ∀ n, zlD w n = 0 ∨ zlD w n = 1
  | 0 => Or.inr rfl
  | 1 => Or.inl rfl
  | j + 2 => by
    show (if j < 27 then zbv w (26 - nI j) else if j = 27 then 0 else 1) = 0 ∨ (if j < 27 then zbv w (26 - nI j) else if j = 27 then 0 else 1) = 1
    split
    · exact zbv_01 _ _
    · split
      · exact Or.inl rfl
      · exact Or.inr rfl
theorem zlG_01 (v : Int32) : ∀ n, zlG v n = 0 ∨ zlG v n = 1
  | 0 => Or.inl rfl
  | j + 1 => by
    show (if j < 8 then zbv v (7 - nI j) else 0) = 0 ∨ (if j < 8 then zbv v (7 - nI j) else 0) = 1
    split
    · exact zbv_01 _ _
    · exact Or.inl rfl
