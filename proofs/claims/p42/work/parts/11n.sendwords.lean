/-! the pattern of what is sent: L (j + 1) from tick T j on; c ahead of all -/
def zpt (c : Int32) (L T : Nat → Int32) : Nat → Int → Bool
  | 0 => fun _ => decide (c = 1)
  | n + 1 => fun t => if (T n).toInt ≤ t then decide (L (n + 1) = 1) else zpt c L T n t
theorem zpt_s {c p0 p1 : Int32} {L T : Nat → Int32} {n : Nat} (h0 : p0 = L (n + 1)) (h1 : p1 = T n) : (fun t : Int => if p1.toInt ≤ t then decide (p0 = 1) else zpt c L T n t) = zpt c L T (n + 1) := by
  subst h0
  subst h1
  rfl
theorem zSp.weak {S0 S : zS} {w sn n n' : Nat} {b : Bool} {P P' : Int → Bool} {cur : Int32} {lo nxt nxt' : Int} (h : zSp S0 S w sn b P cur lo nxt n) (hP : P = P') (hn : n ≤ n') (hx : nxt ≤ nxt') : zSp S0 S w sn b P' cur lo nxt' n' := by
  subst hP
  obtain ⟨h1, h2, h3, h4, k, h5, h6, h7, h8⟩ := h
  exact ⟨h1, h2, h3, fun t q => h4 t (by omega), k, by omega, h6, h7, fun j hj => ⟨(h8 j hj).1, Int.lt_of_lt_of_le (h8 j hj).2 hx⟩⟩
theorem zSp.self {S0 S : zS} {w sn n : Nat} {b : Bool} {P : Int → Bool} {cur : Int32} {lo nxt : Int} (h : zSp S0 S w sn b P cur lo nxt n) : zSp S S w sn b P cur lo nxt n := ⟨zChg.rf, h.2⟩
theorem zSp.frame {S S' : zS} {w sn w' sn' n : Nat} {b : Bool} {P : Int → Bool} {cur : Int32} {lo nxt : Int} (h : zSp S S w sn b P cur lo nxt n) (hc : zChg S S' w' sn') (hw : w ≠ w') (hs : sn ≠ sn') : zSp S' S' w sn b P cur lo nxt n := by
  obtain ⟨-, h2, h3, h4, k, h5, h6, h7, h8⟩ := h
  have e : zR S' 22 sn = zR S 22 sn := hc.2.2.1 22 sn (Or.inl hs)
  refine ⟨zChg.rf, (hc.2.1 163 w (Or.inl hw)).trans h2, h3, h4, k, h5, (hc.2.1 164 w (Or.inl hw)).trans h6, ?_, ?_⟩
  · rw [e]
    exact h7
  · rw [e]
    exact h8
/-- what is sent over whichever wire: n1, n2: the rows -/
def zPq (S S' : zS) (n1 n2 : Nat) : Prop := zFr S S' (fun t _ => t = 163 ∨ t = 164) (fun k x => k = 22 ∧ (x = n1 ∨ x = n2))
theorem zChg.fr {S S' : zS} {w sn : Nat} {TI TR : Nat → Nat → Prop} (h : zChg S S' w sn) (h1 : ∀ t, (t = 163 ∨ t = 164) → TI t w) (h2 : TR 22 sn) : zFr S S' TI TR := ⟨h.1, fun t a q => h.2.1 t a (by
  by_cases e : a = w
  · subst e
    exact Or.inr ⟨fun e => q (h1 t (Or.inl e)), fun e => q (h1 t (Or.inr e))⟩
  · exact Or.inl e), fun k a q => h.2.2.1 k a (by
  by_cases e : a = sn
  · subst e
    exact Or.inr (fun e => q (e ▸ h2))
  · exact Or.inl e), h.2.2.2⟩
def zTwp (S0 S : zS) (w1 n1 w2 n2 : Nat) (P1 : Int → Bool) (c1 : Int32) (x1 : Int) (k1 : Nat) (P2 : Int → Bool) (c2 : Int32) (x2 : Int) (k2 : Nat) : Prop := zPq S0 S n1 n2 ∧ zSp S S w1 n1 true P1 c1 0 x1 k1 ∧ zSp S S w2 n2 true P2 c2 0 x2 k2
theorem zTwp.one {S0 S S1 : zS} {w1 n1 w2 n2 : Nat} {P1 P P' P2 : Int → Bool} {c1 c c2 : Int32} {x1 x x' x2 : Int} {k1 k k2 : Nat} (h : zTwp S0 S w1 n1 w2 n2 P1 c1 x1 k1 P2 c2 x2 k2) (hd : w1 ≠ w2 ∧ n1 ≠ n2) (hs : zSp S S1 w1 n1 true P c 0 x k ∧ zChg S S1 w1 n1) (hP : P = P') (hx : x ≤ x') : zTwp S0 S1 w1 n1 w2 n2 P' c x' k P2 c2 x2 k2 :=
  ⟨h.1.tr (hs.2.fr (fun _ g => g) ⟨rfl, Or.inl rfl⟩), hs.1.self.weak hP (Nat.le_refl _) hx, h.2.2.frame hs.2 (Ne.symm hd.1) (Ne.symm hd.2)⟩
theorem zTwp.two {S0 S S1 : zS} {w1 n1 w2 n2 : Nat} {P1 P P' P2 : Int → Bool} {c1 c c2 : Int32} {x1 x x' x2 : Int} {k1 k k2 : Nat} (h : zTwp S0 S w1 n1 w2 n2 P1 c1 x1 k1 P2 c2 x2 k2) (hd : w1 ≠ w2 ∧ n1 ≠ n2) (hs : zSp S S1 w2 n2 true P c 0 x k ∧ zChg S S1 w2 n2) (hP : P = P') (hx : x ≤ x') : zTwp S0 S1 w1 n1 w2 n2 P1 c1 x1 k1 P' c x' k :=
  ⟨h.1.tr (hs.2.fr (fun _ g => g) ⟨rfl, Or.inr rfl⟩), h.2.1.frame hs.2 hd.1 hd.2, hs.1.self.weak hP (Nat.le_refl _) hx⟩
theorem znx_pos {p h : Int32} {m : Nat} (hp : 0 ≤ p) (hh : 1 ≤ h) : 0 ≤ znx p h m := by
  unfold znx
  rw [Int32.le_iff_toInt_le] at hp hh
  have h1 : (1 : Int32).toInt = 1 := rfl
  have h0 : (0 : Int32).toInt = 0 := rfl
  rw [h1] at hh
  rw [h0] at hp
  have h2 := Int.mul_nonneg (show 0 ≤ (m : Int) by omega) (show 0 ≤ h.toInt by omega)
  omega
theorem ztk_lo {p h : Int32} {m : Nat} (hp : 0 ≤ p ∧ p ≤ 9999) (hh : 1 ≤ h ∧ h ≤ 50) (hm : m ≤ 63) : 0 ≤ (ztk p h m).toInt := by
  rw [ztk_i hp hh hm]
  exact znx_pos hp.1 hh.1
theorem zp_lo {p : Int32} (hp : 0 ≤ p) : 0 ≤ p.toInt := by
  rw [Int32.le_iff_toInt_le] at hp
  exact hp
/-! the same patterns, one level on -/
theorem zpF1 (ih p h : Int32) (i : Nat) : (fun t : Int => if (ztk p h (2 * i + 1)).toInt ≤ t then decide (zno ih = 1) else zpt ih (zlF ih) (fun j => ztk p h (j + 1)) (2 * i) t) = zpt ih (zlF ih) (fun j => ztk p h (j + 1)) (2 * i + 1) := zpt_s (zlF_o ih i).symm rfl
theorem zpF2 (ih p h : Int32) (i : Nat) : (fun t : Int => if (ztk p h (2 * i + 2)).toInt ≤ t then decide (ih = 1) else zpt ih (zlF ih) (fun j => ztk p h (j + 1)) (2 * i + 1) t) = zpt ih (zlF ih) (fun j => ztk p h (j + 1)) (2 * (i + 1)) := zpt_s (n := 2 * i + 1) (zlF_e ih (i + 1)).symm rfl
theorem zpC1 (p h : Int32) (i : Nat) : (fun t : Int => if (ztk p h (2 * i + 2)).toInt ≤ t then decide ((1 : Int32) = 1) else zpt 1 zlC (fun j => ztk p h (zmC j)) (2 * i + 1) t) = zpt 1 zlC (fun j => ztk p h (zmC j)) (2 * i + 2) := zpt_s (n := 2 * i + 1) (zlC_e i).symm rfl
theorem zpC2 (p h : Int32) (i : Nat) : (fun t : Int => if (ztk p h (2 * i + 3)).toInt ≤ t then decide ((0 : Int32) = 1) else zpt 1 zlC (fun j => ztk p h (zmC j)) (2 * i + 2) t) = zpt 1 zlC (fun j => ztk p h (zmC j)) (2 * i + 3) := zpt_s (n := 2 * i + 2) (zlC_o (i + 1)).symm rfl
theorem zpD {w p h : Int32} {i : Nat} (hi : i < 27) : (fun t : Int => if (ztk p h (2 * i + 1)).toInt ≤ t then decide (zlD w (i + 2) = 1) else zpt 1 (zlD w) (fun j => ztk p h (zmD j)) (i + 1) t) = zpt 1 (zlD w) (fun j => ztk p h (zmD j)) (i + 2) := zpt_s (n := i + 1) rfl (by rw [show zmD (i + 1) = 2 * i + 1 from if_pos hi])
theorem zpD28 (w p h : Int32) : (fun t : Int => if (ztk p h 55).toInt ≤ t then decide ((0 : Int32) = 1) else zpt 1 (zlD w) (fun j => ztk p h (zmD j)) 28 t) = zpt 1 (zlD w) (fun j => ztk p h (zmD j)) 29 := zpt_s (n := 28) rfl rfl
theorem zpD29 (w p h : Int32) : (fun t : Int => if (ztk p h 57).toInt ≤ t then decide ((1 : Int32) = 1) else zpt 1 (zlD w) (fun j => ztk p h (zmD j)) 29 t) = zpt 1 (zlD w) (fun j => ztk p h (zmD j)) 30 := zpt_s (n := 29) rfl rfl
theorem zpG {v lt p h : Int32} {i : Nat} (_ : i < 8) : (fun t : Int => if (ztk p h (zmG lt i)).toInt ≤ t then decide (zlG v (i + 1) = 1) else zpt 0 (zlG v) (fun j => ztk p h (zmG lt j)) i t) = zpt 0 (zlG v) (fun j => ztk p h (zmG lt j)) (i + 1) := zpt_s rfl rfl
theorem zpG8 (v lt p h : Int32) : (fun t : Int => if (ztk p h 17).toInt ≤ t then decide ((0 : Int32) = 1) else zpt 0 (zlG v) (fun j => ztk p h (zmG lt j)) 8 t) = zpt 0 (zlG v) (fun j => ztk p h (zmG lt j)) 9 := zpt_s (n := 8) rfl rfl
theorem zpL {p0 p1 h : Int32} (he : p1 = ztk p0 h 17) : (fun t : Int => if p1.toInt ≤ t then decide ((1 : Int32) = 1) else zpt 1 zlL (fun j => ztk p0 h (zmL j)) 1 t) = zpt 1 zlL (fun j => ztk p0 h (zmL j)) 2 := zpt_s (n := 1) rfl he
theorem zpL0 (p0 h : Int32) : (fun t : Int => if p0.toInt ≤ t then decide ((0 : Int32) = 1) else zpt 1 zlL (fun j => ztk p0 h (zmL j)) 0 t) = zpt 1 zlL (fun j => ztk p0 h (zmL j)) 1 := zpt_s (n := 0) rfl (ztk_0 p0 h).symm
/-! a wire's levels once all is flipped that was sent -/
theorem zSp.flip {S0 S S1 : zS} {w tk sn n n0 k : Nat} {b : Bool} {P F : Int → Bool} {cur : Int32} {lo nxt : Int} (hs : zSp S0 S w sn b P cur lo nxt n) (hk : zI S 164 w = nI k) (hk64 : k ≤ 64) (hn : n ≤ 64) (hF : ∀ t, zlv S w tk n0 t = F t)
    (hp : zFlp S S1 w tk ∧ ∃ n, n ≤ n0 + k ∧ zRk S1 w tk n ∧ ∀ t, zod (zcu (zR S1 22 tk) n t) = xor (zod (zcu (zR S 22 tk) n0 t)) (zod (zcu (zR S 22 sn) k t))) :
    ∃ n', n' ≤ n0 + n ∧ zRk S1 w tk n' ∧ ∀ t, zlv S1 w tk n' t = xor (F t) (xor b (P t)) := by
  obtain ⟨-, -, -, -, k', g5, g6, g7, -⟩ := hs
  have hkk : k' = k := (nI_eq (by omega) (by omega)).mp (g6.symm.trans hk)
  subst hkk
  obtain ⟨hf, n', h1, h2, h3⟩ := hp
  refine ⟨n', by omega, h2, fun t => ?_⟩
  have e : zI S1 160 w = zI S 160 w := hf.2.1 160 w (Or.inr (by decide))
  have hFt := hF t
  unfold zlv at hFt ⊢
  rw [e, h3 t, ← hFt, g7.2 t]
  cases decide (zI S 160 w = 1) <;> cases zod (zcu (zR S 22 tk) n0 t) <;> cases b <;> cases zod (zcu (zR S 22 sn) k' t) <;> rfl
