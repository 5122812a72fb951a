/-! what a call may change: the fields TI and the rows TR alone -/
def zFr (S S1 : zS) (TI TR : Nat → Nat → Prop) : Prop := zFix S S1 ∧ (∀ t a, ¬ TI t a → zI S1 t a = zI S t a) ∧ (∀ k a, ¬ TR k a → zR S1 k a = zR S k a) ∧ zJ S1 = zJ S
theorem zFr.rf {S : zS} {TI TR : Nat → Nat → Prop} : zFr S S TI TR := ⟨zFix.rf, fun _ _ _ => rfl, fun _ _ _ => rfl, rfl⟩
theorem zFr.tr {S S1 S2 : zS} {TI TR : Nat → Nat → Prop} (h : zFr S S1 TI TR) (h2 : zFr S1 S2 TI TR) : zFr S S2 TI TR := ⟨h.1.tr h2.1, fun t a q => (h2.2.1 t a q).trans (h.2.1 t a q), fun k a q => (h2.2.2.1 k a q).trans (h.2.2.1 k a q), h2.2.2.2.trans h.2.2.2⟩
theorem zFr.mono {S S1 : zS} {TI TR TI' TR' : Nat → Nat → Prop} (h : zFr S S1 TI TR) (h1 : ∀ t a, TI t a → TI' t a) (h2 : ∀ t a, TR t a → TR' t a) : zFr S S1 TI' TR' := ⟨h.1, fun t a q => h.2.1 t a (fun g => q (h1 t a g)), fun t a q => h.2.2.1 t a (fun g => q (h2 t a g)), h.2.2.2⟩
theorem zFr.I {S : zS} {t a : Nat} {v : Int32} {TI TR : Nat → Nat → Prop} (h : TI t a) : zFr S (zsI S t a v) TI TR := by
  refine ⟨zFix.I, fun t' a' q => ?_, fun _ _ _ => rfl, rfl⟩
  by_cases ha : a' = a
  · subst ha
    exact zI_t (fun e => q (e ▸ h)) rfl
  · exact zI_a ha rfl
theorem zFr.R {S : zS} {k a : Nat} {f : Nat → Int32} {TI TR : Nat → Nat → Prop} (h : TR k a) : zFr S (zsR S k a f) TI TR := by
  refine ⟨zFix.R, fun _ _ _ => rfl, fun k' a' q => ?_, rfl⟩
  by_cases ha : a' = a
  · subst ha
    exact zR_t (fun e => q (e ▸ h)) rfl
  · exact zR_a ha rfl
/-! notes: kind, begin, end, value, fault -/
abbrev zNt : Type := Int32 × Int32 × Int32 × Int32 × Int32
def zNo (S : zS) (t k b e v f : Nat) (L : List zNt) : Prop := zI S 112 t = nI L.length ∧ L.length ≤ 200 ∧ ∀ (j : Nat) (x : zNt), L[j]? = some x → zR S 21 k j = x.1 ∧ zR S 22 b j = x.2.1 ∧ zR S 22 e j = x.2.2.1 ∧ zR S 22 v j = x.2.2.2.1 ∧ zR S 21 f j = x.2.2.2.2
def zNd (k b e v f : Nat) : Prop := k ≠ f ∧ b ≠ e ∧ b ≠ v ∧ e ≠ v
abbrev zNI (t : Nat) : Nat → Nat → Prop := fun t' a => t' = 112 ∧ a = t
abbrev zNR (k b e v f : Nat) : Nat → Nat → Prop := fun k' a => (k' = 21 ∧ (a = k ∨ a = f)) ∨ (k' = 22 ∧ (a = b ∨ a = e ∨ a = v))
theorem zNo.tell {S S1 S2 S3 S4 S5 S6 : zS} {t k b e v f : Nat} {L : List zNt} (x : zNt) (h : zNo S t k b e v f L) (hd : zNd k b e v f) (hl : L.length < 200)
    {i : Nat} (hi : i = L.length) {c1 c5 n : Int32} (h1 : c1 = x.1) (h5 : c5 = x.2.2.2.2) (hn : n = nI (L.length + 1))
    (e1 : S1 = zsR S 21 k (upd (zR S 21 k) i c1)) (e2 : S2 = zsR S1 22 b (upd (zR S1 22 b) i x.2.1)) (e3 : S3 = zsR S2 22 e (upd (zR S2 22 e) i x.2.2.1)) (e4 : S4 = zsR S3 22 v (upd (zR S3 22 v) i x.2.2.2.1)) (e5 : S5 = zsR S4 21 f (upd (zR S4 21 f) i c5)) (e6 : S6 = zsI S5 112 t n) :
    zNo S6 t k b e v f (L ++ [x]) ∧ zFr S S6 (zNI t) (zNR k b e v f) := by
  obtain ⟨d1, d2, d3, d4⟩ := hd
  obtain ⟨n1, n2, n3⟩ := h
  have hfr : zFr S S6 (zNI t) (zNR k b e v f) := by
    rw [e6, e5, e4, e3, e2, e1]
    exact (zFr.R (Or.inl ⟨rfl, Or.inl rfl⟩)).tr ((zFr.R (Or.inr ⟨rfl, Or.inl rfl⟩)).tr ((zFr.R (Or.inr ⟨rfl, Or.inr (Or.inl rfl)⟩)).tr ((zFr.R (Or.inr ⟨rfl, Or.inr (Or.inr rfl)⟩)).tr ((zFr.R (Or.inl ⟨rfl, Or.inr rfl⟩)).tr (zFr.I ⟨rfl, rfl⟩)))))
  refine ⟨⟨?_, ?_, fun j y hy => ?_⟩, hfr⟩
  · rw [e6, zI_s, hn, List.length_append]
    rfl
  · rw [List.length_append]
    show L.length + 1 ≤ 200
    omega
  · have r1 : zR S6 21 k = upd (zR S 21 k) i c1 := by
      rw [e6, e5, e4, e3, e2, e1]
      exact zR_a (k := 21) (k' := 21) d1 (zR_t (by decide) (zR_t (by decide) (zR_t (by decide) (zR_s _ _ _ _))))
    have b1 : zR S1 22 b = zR S 22 b := by
      rw [e1]
      exact zR_t (by decide) rfl
    have r2 : zR S6 22 b = upd (zR S 22 b) i x.2.1 := by
      rw [← b1, e6, e5, e4, e3]
      refine zR_t (by decide) (zR_a d3 (zR_a d2 ?_))
      rw [e2]
      exact zR_s _ _ _ _
    have b2 : zR S2 22 e = zR S 22 e := by
      rw [e2, e1]
      exact zR_a (Ne.symm d2) (zR_t (by decide) rfl)
    have r3 : zR S6 22 e = upd (zR S 22 e) i x.2.2.1 := by
      rw [← b2, e6, e5, e4]
      refine zR_t (by decide) (zR_a d4 ?_)
      rw [e3]
      exact zR_s _ _ _ _
    have b3 : zR S3 22 v = zR S 22 v := by
      rw [e3, e2, e1]
      exact zR_a (Ne.symm d4) (zR_a (Ne.symm d3) (zR_t (by decide) rfl))
    have r4 : zR S6 22 v = upd (zR S 22 v) i x.2.2.2.1 := by
      rw [← b3, e6, e5]
      refine zR_t (by decide) ?_
      rw [e4]
      exact zR_s _ _ _ _
    have b4 : zR S4 21 f = zR S 21 f := by
      rw [e4, e3, e2, e1]
      exact zR_t (by decide) (zR_t (by decide) (zR_t (by decide) (zR_a (Ne.symm d1) rfl)))
    have r5 : zR S6 21 f = upd (zR S 21 f) i c5 := by
      rw [← b4, e6, e5]
      exact zR_s _ _ _ _
    rw [r1, r2, r3, r4, r5]
    subst hi
    rcases Nat.lt_or_ge j L.length with q | q
    · rw [List.getElem?_append_left q] at hy
      have := n3 j y hy
      rw [pk_un (by omega), pk_un (by omega), pk_un (by omega), pk_un (by omega), pk_un (by omega)]
      exact this
    · have hj : j = L.length := by
        have hlen := (List.getElem?_eq_some_iff.mp hy).1
        rw [List.length_append] at hlen
        have : j < L.length + 1 := hlen
        omega
      subst hj
      rw [List.getElem?_append_right (Nat.le_refl _), Nat.sub_self] at hy
      have : x = y := Option.some.inj hy
      subst this
      rw [pk_us, pk_us, pk_us, pk_us, pk_us]
      exact ⟨h1, rfl, rfl, rfl, h5⟩
theorem zNo.fr {S S1 : zS} {t k b e v f : Nat} {L : List zNt} {TI TR : Nat → Nat → Prop} (h : zNo S t k b e v f L) (g : zFr S S1 TI TR) (h1 : ¬ TI 112 t) (h2 : ¬ TR 21 k) (h3 : ¬ TR 22 b) (h4 : ¬ TR 22 e) (h5 : ¬ TR 22 v) (h6 : ¬ TR 21 f) : zNo S1 t k b e v f L := by
  obtain ⟨n1, n2, n3⟩ := h
  refine ⟨(g.2.1 _ _ h1).trans n1, n2, fun j x hx => ?_⟩
  rw [g.2.2.1 _ _ h2, g.2.2.1 _ _ h3, g.2.2.1 _ _ h4, g.2.2.1 _ _ h5, g.2.2.1 _ _ h6]
  exact n3 j x hx
theorem zNts.fix {S S' : zS} {t k b e v f : Nat} (g : zFix S S') (h : zNts S t k b e v f) : zNts S' t k b e v f := by
  unfold zNts at h ⊢
  rw [g.1, g.2.1, g.2.2.1]
  exact h
theorem zDev.fix {S S' : zS} {d rg : Nat} (g : zFix S S') (h : zDev S d rg) : zDev S' d rg := by
  unfold zDev at h ⊢
  rw [g.1, g.2.1, g.2.2.1]
  exact h
theorem zTrg.fix {S S' : zS} {t k n m : Nat} (g : zFix S S') (h : zTrg S t k n m) : zTrg S' t k n m := by
  unfold zTrg at h ⊢
  rw [g.1, g.2.1, g.2.2.1]
  exact h
/-! bits that were taken, the newest first -/
def zval : List Bool → Nat
  | [] => 0
  | b :: bs => 2 * zval bs + (if b = true then 1 else 0)
theorem zval_lt : ∀ bs : List Bool, zval bs < 2 ^ bs.length
  | [] => by decide
  | b :: bs => by
    have h := zval_lt bs
    show 2 * zval bs + (if b = true then 1 else 0) < 2 ^ (bs.length + 1)
    rw [Nat.pow_succ]
    split <;> omega
theorem zvl (b : Bool) (bs : List Bool) : zval (b :: bs) = 2 * zval bs + (if b = true then 1 else 0) := rfl
theorem zbt_1 : ∀ v, v < 256 → (nI v <<< ((1 : Int32) &&& 31)) ||| 1 = nI (2 * v + 1) := by decide +kernel
theorem zbt_0 : ∀ v, v < 256 → (nI v <<< ((1 : Int32) &&& 31)) ||| 0 = nI (2 * v) := by decide +kernel
theorem zbt_r : ∀ v, v < 512 → nI v >>> ((1 : Int32) &&& 31) = nI (v / 2) := by decide +kernel
theorem zbt_a : ∀ v, v < 512 → nI v &&& 1 = nI (v % 2) := by decide +kernel
theorem zbt_15 : ∀ v, v < 256 → nI v &&& 15 = nI (v % 16) := by decide +kernel
/-- a byte and its answer, or eight bits: the word after one bit more -/
theorem zbt {bs : List Bool} (b : Bool) {w x : Int32} (hl : bs.length ≤ 8) (hw : w = nI (zval bs)) (hx : (b = true ∧ x = 1) ∨ (b = false ∧ x = 0)) : (w <<< ((1 : Int32) &&& 31)) ||| x = nI (zval (b :: bs)) := by
  have h := zval_lt bs
  have h2 : 2 ^ bs.length ≤ 2 ^ 8 := Nat.pow_le_pow_right (by decide) hl
  have h3 : zval bs < 256 := by
    have : 2 ^ 8 = 256 := rfl
    omega
  subst hw
  rcases hx with ⟨rfl, rfl⟩ | ⟨rfl, rfl⟩
  · exact zbt_1 _ h3
  · rw [zbt_0 _ h3]
    rfl
/-! what a reader of two wires is: isStarted, bits, firstBit, bytes, isWriting, address, target; notes; registers -/
abbrev zTau : Type := Bool × List Bool × Nat × Nat × Bool × Nat × Nat × List zNt × (Nat → Int32)
def zTw (S : zS) (q nt dv : Nat) (st : Bool) (bs : List Bool) (fb bt : Nat) (wr : Bool) (ad tg : Nat) : Prop := zK S q = 9 ∧ zQ S 144 q = some nt ∧ zQ S 145 q = some dv ∧ zI S 146 q = zb (st = true) ∧ zI S 147 q = nI bs.length ∧ (bs ≠ [] → zI S 148 q = nI (zval bs) ∧ zI S 149 q = nI fb) ∧ zI S 150 q = nI bt ∧ zI S 151 q = zb (wr = true) ∧ zI S 152 q = nI ad ∧ zI S 153 q = nI tg
/-- a byte is taken -/
def zyW (num : Nat) (ans : Bool) (bt : Nat) (wr : Bool) : Bool := if bt = 0 then ans && decide (num % 2 = 0) else if bt = 1 then wr && ans else wr
def zyA (num bt ad : Nat) : Nat := if bt = 0 then num / 2 else ad
def zyT (num bt tg : Nat) : Nat := if bt = 1 then num % 16 else tg
def zyN (num : Nat) (ans : Bool) (i fb bt : Nat) : zNt := (if bt = 0 then 65 else 68, nI fb, nI i, nI num, if ans = true then 45 else 110)
def zyR (num : Nat) (ans : Bool) (bt : Nat) (wr : Bool) (ad tg : Nat) (rg : Nat → Int32) : Nat → Int32 := if bt = 2 ∧ wr = true ∧ ans = true then upd rg (ad * 16 + tg) (nI num) else rg
/-- what a reader of two wires may change -/
abbrev zWI (q nt : Nat) : Nat → Nat → Prop := fun t a => a = q ∨ (t = 112 ∧ a = nt)
abbrev zWR (k b e v f rg : Nat) : Nat → Nat → Prop := fun k' a => (k' = 21 ∧ (a = k ∨ a = f)) ∨ (k' = 22 ∧ (a = b ∨ a = e ∨ a = v ∨ a = rg))
/-- what a reader of four wires is: bits, firstBit -/
def zFw (S : zS) (q nt : Nat) (bs : List Bool) (fb : Nat) : Prop := zK S q = 6 ∧ zQ S 96 q = some nt ∧ zI S 97 q = nI bs.length ∧ (bs ≠ [] → zI S 98 q = nI (zval bs) ∧ zI S 99 q = nI fb)
/-! steps of kind t, each with the number p -/
def zSt (S : zS) (t k1 k3 : Nat) (p : Int32) (n : Nat) : Prop := zI S 128 t = nI n ∧ ∀ j, j < n → zR S 21 k1 j = 116 ∧ zR S 22 k3 j = p
abbrev zTI (t : Nat) : Nat → Nat → Prop := fun t' a => t' = 128 ∧ a = t
abbrev zTR (k1 k2 k3 : Nat) : Nat → Nat → Prop := fun k' a => (k' = 21 ∧ a = k1) ∨ (k' = 22 ∧ (a = k2 ∨ a = k3))
theorem zSt.add {S S1 S2 S3 S4 : zS} {t k1 k2 k3 n : Nat} {p p1 : Int32} (h : zSt S t k1 k3 p n) (hd : k2 ≠ k3) {i : Nat} (hi : i = n) {c1 x : Int32} (h1 : c1 = 116) (hx : x = nI (n + 1))
    (e1 : S1 = zsR S 21 k1 (upd (zR S 21 k1) i c1)) (e2 : S2 = zsR S1 22 k2 (upd (zR S1 22 k2) i p1)) (e3 : S3 = zsR S2 22 k3 (upd (zR S2 22 k3) i p)) (e4 : S4 = zsI S3 128 t x) :
    zSt S4 t k1 k3 p (n + 1) ∧ zFr S S4 (zTI t) (zTR k1 k2 k3) := by
  subst hi
  have hfr : zFr S S4 (zTI t) (zTR k1 k2 k3) := by
    rw [e4, e3, e2, e1]
    exact (zFr.R (Or.inl ⟨rfl, rfl⟩)).tr ((zFr.R (Or.inr ⟨rfl, Or.inl rfl⟩)).tr ((zFr.R (Or.inr ⟨rfl, Or.inr rfl⟩)).tr (zFr.I ⟨rfl, rfl⟩)))
  refine ⟨⟨?_, fun j hj => ?_⟩, hfr⟩
  · rw [e4, zI_s, hx]
  · have r1 : zR S4 21 k1 = upd (zR S 21 k1) i c1 := by
      rw [e4, e3, e2, e1]
      exact zR_t (by decide) (zR_t (by decide) (zR_s _ _ _ _))
    have b2 : zR S2 22 k3 = zR S 22 k3 := by
      rw [e2, e1]
      exact zR_a (Ne.symm hd) (zR_t (by decide) rfl)
    have r3 : zR S4 22 k3 = upd (zR S 22 k3) i p := by
      rw [← b2, e4, e3]
      exact zR_s _ _ _ _
    rw [r1, r3]
    by_cases q : j = i
    · subst q
      rw [pk_us, pk_us]
      exact ⟨h1, rfl⟩
    · rw [pk_un q, pk_un q]
      exact h.2 j (by omega)
theorem zFr.wi {S S1 : zS} {t k b e v f : Nat} (q rg : Nat) (h : zFr S S1 (zNI t) (zNR k b e v f)) : zFr S S1 (zWI q t) (zWR k b e v f rg) := h.mono (fun _ _ g => Or.inr g) (fun _ _ g => g.imp (fun g => g) (fun g => ⟨g.1, g.2.imp (fun g => g) (fun g => g.imp (fun g => g) Or.inl)⟩))
theorem zNo.nI {S S1 : zS} {t k b e v f rA : Nat} {L : List zNt} (h : zNo S t k b e v f L) (g : zFr S S1 (fun t _ => t ≠ 112) (fun k a => k = 22 ∧ a = rA)) (hr : rA ≠ b ∧ rA ≠ e ∧ rA ≠ v) : zNo S1 t k b e v f L := h.fr g (fun g => g rfl) (fun g => absurd g.1 (by decide)) (fun g => hr.1 g.2.symm) (fun g => hr.2.1 g.2.symm) (fun g => hr.2.2 g.2.symm) (fun g => absurd g.1 (by decide))
theorem zbt_i {num : Nat} (h : num < 256) : nI num &&& 1 = 0 ↔ num % 2 = 0 := by
  rw [zbt_a _ (by omega)]
  exact nI_eq (b := 0) (by omega) (by decide)
theorem zan_t {a b : Bool} (h : a = true) (g : b = true) : (1 : Int32) = zb ((a && b) = true) := zb_t (by rw [h, g]; rfl)
theorem zan_l {a b : Bool} (h : ¬ a = true) : (0 : Int32) = zb ((a && b) = true) := zb_f (fun g => h ((Bool.and_eq_true_iff.mp g).1))
theorem zan_r {a b : Bool} (h : ¬ b = true) : (0 : Int32) = zb ((a && b) = true) := zb_f (fun g => h ((Bool.and_eq_true_iff.mp g).2))
abbrev zYI (q nt : Nat) : Nat → Nat → Prop := fun t a => (a = q ∧ 150 ≤ t) ∨ (t = 112 ∧ a = nt)
theorem zFr.wy {S S1 : zS} {t k b e v f : Nat} (q rg : Nat) (h : zFr S S1 (zNI t) (zNR k b e v f)) : zFr S S1 (zYI q t) (zWR k b e v f rg) := h.mono (fun _ _ g => Or.inr g) (fun _ _ g => g.imp (fun g => g) (fun g => ⟨g.1, g.2.imp (fun g => g) (fun g => g.imp (fun g => g) Or.inl)⟩))
theorem zFr.yw {S S1 : zS} {q t : Nat} {TR : Nat → Nat → Prop} (h : zFr S S1 (zYI q t) TR) : zFr S S1 (zWI q t) TR := h.mono (fun _ _ g => g.imp (fun g => g.1) (fun g => g)) (fun _ _ g => g)
theorem zbt_b {b : Bool} {bs : List Bool} (h : zval (b :: bs) < 512) : nI (zval (b :: bs)) &&& 1 = 0 ↔ (!b) = true := by
  rw [zbt_a _ h, show (0 : Int32) = nI 0 from rfl, nI_eq (by omega) (by decide), zvl]
  cases b
  · rw [if_neg (by decide)]
    exact ⟨fun _ => rfl, fun _ => by omega⟩
  · rw [if_pos rfl]
    exact ⟨fun g => by omega, fun g => absurd g (by decide)⟩
/-- what a reader of two wires makes of a rise of the clock -/
def zTB (b : Bool) (i : Nat) (x : zTau) : zTau :=
  if x.1 = true then
    (if x.2.1.length + 1 = 9 then
      (x.1, [], (if x.2.1 = [] then i else x.2.2.1), x.2.2.2.1 + 1, zyW (zval x.2.1) (!b) x.2.2.2.1 x.2.2.2.2.1, zyA (zval x.2.1) x.2.2.2.1 x.2.2.2.2.2.1, zyT (zval x.2.1) x.2.2.2.1 x.2.2.2.2.2.2.1, x.2.2.2.2.2.2.2.1 ++ [zyN (zval x.2.1) (!b) i (if x.2.1 = [] then i else x.2.2.1) x.2.2.2.1], zyR (zval x.2.1) (!b) x.2.2.2.1 x.2.2.2.2.1 x.2.2.2.2.2.1 x.2.2.2.2.2.2.1 x.2.2.2.2.2.2.2.2)
    else (x.1, b :: x.2.1, (if x.2.1 = [] then i else x.2.2.1), x.2.2.2))
  else x
def zTP (S : zS) (q0 t0 d0 k1 k2 k3 k4 k5 rA : Nat) (x : zTau) : Prop := zTw S q0 t0 d0 x.1 x.2.1 x.2.2.1 x.2.2.2.1 x.2.2.2.2.1 x.2.2.2.2.2.1 x.2.2.2.2.2.2.1 ∧ zNo S t0 k1 k2 k3 k4 k5 x.2.2.2.2.2.2.2.1 ∧ zR S 22 rA = x.2.2.2.2.2.2.2.2
theorem zTB_n {b st : Bool} {i fb bt : Nat} {bs : List Bool} {r : Bool × Nat × Nat × List zNt × (Nat → Int32)} (h : st = true) (g : ¬ bs.length + 1 = 9) : zTB b i (st, bs, fb, bt, r) = (st, b :: bs, (if bs = [] then i else fb), bt, r) := by
  unfold zTB
  rw [if_pos h, if_neg g]
theorem zTB_9 {b st wr : Bool} {i fb bt ad tg : Nat} {bs : List Bool} {L : List zNt} {rg : Nat → Int32} (h : st = true) (g : bs.length + 1 = 9) : zTB b i (st, bs, fb, bt, wr, ad, tg, L, rg) = (st, [], (if bs = [] then i else fb), bt + 1, zyW (zval bs) (!b) bt wr, zyA (zval bs) bt ad, zyT (zval bs) bt tg, L ++ [zyN (zval bs) (!b) i (if bs = [] then i else fb) bt], zyR (zval bs) (!b) bt wr ad tg rg) := by
  unfold zTB
  rw [if_pos h, if_pos g]
theorem zTB_0 {b st : Bool} {i : Nat} {r : List Bool × Nat × Nat × Bool × Nat × Nat × List zNt × (Nat → Int32)} (h : ¬ st = true) : zTB b i (st, r) = (st, r) := if_neg h
