abbrev vwCl : List vw_C := [(RX0, TX0, 2), (RX1, TX1, 1), (RX2, TX2, 4), (RX3, TX3, 6), (RX4, TX4, 4), (RX5, TX5, 10), (RX6, TX6, 6), (RX7, TX7, 8)]
/-! THE POOL: all objects and arrays of the class and of the reference, by their addresses: kind, fields by tag (16 * kind + place), lengths, rows -/
def zS : Type := (Nat → Nat) × (Nat → Nat → Int32) × (Nat → Nat → Option Nat) × (Nat → Nat) × (Nat → Nat → Nat → Int32) × (Nat → Nat → Option Nat) × (Nat → Nat → Int64)
def zK (S : zS) : Nat → Nat := S.1
def zI (S : zS) : Nat → Nat → Int32 := S.2.1
def zQ (S : zS) : Nat → Nat → Option Nat := S.2.2.1
def zN (S : zS) : Nat → Nat := S.2.2.2.1
def zR (S : zS) : Nat → Nat → Nat → Int32 := S.2.2.2.2.1
def zP (S : zS) : Nat → Nat → Option Nat := S.2.2.2.2.2.1
def zJ (S : zS) : Nat → Nat → Int64 := S.2.2.2.2.2.2
def zsI (S : zS) (t a : Nat) (v : Int32) : zS := (S.1, va_up S.2.1 t (va_up (S.2.1 t) a v), S.2.2)
def zsQ (S : zS) (t a : Nat) (v : Option Nat) : zS := (S.1, S.2.1, va_up S.2.2.1 t (va_up (S.2.2.1 t) a v), S.2.2.2)
def zsR (S : zS) (k a : Nat) (f : Nat → Int32) : zS := (S.1, S.2.1, S.2.2.1, S.2.2.2.1, va_up S.2.2.2.2.1 k (va_up (S.2.2.2.2.1 k) a f), S.2.2.2.2.2)
def zsP (S : zS) (a : Nat) (f : Nat → Option Nat) : zS := (S.1, S.2.1, S.2.2.1, S.2.2.2.1, S.2.2.2.2.1, va_up S.2.2.2.2.2.1 a f, S.2.2.2.2.2.2)
def zsJ (S : zS) (a : Nat) (f : Nat → Int64) : zS := (S.1, S.2.1, S.2.2.1, S.2.2.2.1, S.2.2.2.2.1, S.2.2.2.2.2.1, va_up S.2.2.2.2.2.2 a f)
/-- a new object of kind k; a new row of ints (kind k, n places), of references, of longs -/
def znO (S : zS) (q k : Nat) : zS := (va_up S.1 q k, fun t => va_up (S.2.1 t) q 0, fun t => va_up (S.2.2.1 t) q none, S.2.2.2)
def znR (S : zS) (q k n : Nat) (f : Nat → Int32) : zS := (va_up S.1 q k, S.2.1, S.2.2.1, va_up S.2.2.2.1 q n, va_up S.2.2.2.2.1 k (va_up (S.2.2.2.2.1 k) q f), S.2.2.2.2.2)
def znP (S : zS) (q k n : Nat) (f : Nat → Option Nat) : zS := (va_up S.1 q k, S.2.1, S.2.2.1, va_up S.2.2.2.1 q n, S.2.2.2.2.1, va_up S.2.2.2.2.2.1 q f, S.2.2.2.2.2.2)
def znJ (S : zS) (q n : Nat) : zS := (va_up S.1 q 24, S.2.1, S.2.2.1, va_up S.2.2.2.1 q n, S.2.2.2.2.1, S.2.2.2.2.2.1, va_up S.2.2.2.2.2.2 q (fun _ => 0))
/-- the fields of an object in their order -/
def zfl (S : zS) (a : Nat) : List Bool → Nat → List Value
  | [], _ => []
  | b :: bs, t => (if b = true then va_rf (zQ S t a) else .int (zI S t a)) :: zfl S a bs (t + 1)
/-- which fields are references, by the kind, 4 to 11: Capture, Devices, FourReader, Notes, Trigger, TwoReader, Wire, Probehall -/
def zlay : Nat → List Bool
  | 4 => [false, true]
  | 5 => [true]
  | 6 => [true, false, false, false]
  | 7 => [false, true, true, true, true, true]
  | 8 => [false, true, true, true]
  | 9 => [true, true, false, false, false, false, false, false, false, false]
  | 10 => [false, false, true, false, false, true]
  | 11 => [true, true, true, true, true, false, false, false]
  | _ => []
def zE (y : Nat → ClassId) (S : zS) (a : Nat) : va_E :=
  if zK S a < 21 then .inr (zK S a - 4, zfl S a (zlay (zK S a)) (16 * zK S a))
  else if zK S a = 24 then .inl (y 24, zN S a, .inr (.inl (zJ S a)))
  else if zK S a < 31 then .inl (y (zK S a), zN S a, .inl (zR S (zK S a) a))
  else .inl (y (zK S a), zN S a, .inr (.inr (.inr (.inr (zP S a)))))
theorem zE_o {y : Nat → ClassId} {S : zS} {a k : Nat} (h : zK S a = k) (hk : k < 21) : zE y S a = .inr (k - 4, zfl S a (zlay k) (16 * k)) := by
  subst h
  exact if_pos hk
theorem zE_j {y : Nat → ClassId} {S : zS} {a : Nat} (h : zK S a = 24) : zE y S a = .inl (y 24, zN S a, .inr (.inl (zJ S a))) := by
  simp [zE, h]
theorem zE_r {y : Nat → ClassId} {S : zS} {a k : Nat} (h : zK S a = k) (h1 : 21 ≤ k) (h2 : k < 24) : zE y S a = .inl (y k, zN S a, .inl (zR S k a)) := by
  subst h
  unfold zE
  rw [if_neg (by omega), if_neg (by omega), if_pos (by omega)]
theorem zE_p {y : Nat → ClassId} {S : zS} {a k : Nat} (h : zK S a = k) (h1 : 31 ≤ k) : zE y S a = .inl (y k, zN S a, .inr (.inr (.inr (.inr (zP S a))))) := by
  subst h
  unfold zE
  rw [if_neg (by omega), if_neg (by omega), if_neg (by omega)]
theorem zfl_at (S : zS) (a : Nat) : ∀ (bs : List Bool) (t j : Nat), (zfl S a bs t)[j]? = bs[j]?.map (fun b => if b = true then va_rf (zQ S (t + j) a) else .int (zI S (t + j) a))
  | [], t, j => by simp [zfl]
  | b :: bs, t, 0 => by simp [zfl]
  | b :: bs, t, j + 1 => by
    show (zfl S a bs (t + 1))[j]? = _
    rw [zfl_at S a bs (t + 1) j, show t + 1 + j = t + (j + 1) by omega]
    rfl
theorem zfl_len (S : zS) (a : Nat) : ∀ (bs : List Bool) (t : Nat), (zfl S a bs t).length = bs.length
  | [], t => rfl
  | b :: bs, t => by
    show (zfl S a bs (t + 1)).length + 1 = bs.length + 1
    rw [zfl_len S a bs (t + 1)]
theorem zfl_congr {S S' : zS} {a : Nat} {bs : List Bool} {t : Nat} (hI : ∀ t, zI S' t a = zI S t a) (hQ : ∀ t, zQ S' t a = zQ S t a) : zfl S' a bs t = zfl S a bs t := by
  apply List.ext_getElem?
  intro j
  rw [zfl_at, zfl_at]
  simp only [hI, hQ]
theorem zfl_setI {S : zS} {a : Nat} {bs : List Bool} {t j : Nat} (v : Int32) (hj : bs[j]? = some false) : (zfl S a bs t).set j (.int v) = zfl (zsI S (t + j) a v) a bs t := by
  have hl := (List.getElem?_eq_some_iff.mp hj).1
  apply List.ext_getElem?
  intro i
  rw [List.getElem?_set, zfl_at, zfl_at]
  by_cases h : j = i
  · subst h
    rw [if_pos rfl, if_pos (by rw [zfl_len]; exact hl), hj]
    simp [zI, zsI, va_up]
  · rw [if_neg h]
    have e1 : zI (zsI S (t + j) a v) (t + i) a = zI S (t + i) a := by
      show va_up S.2.1 (t + j) _ (t + i) a = _
      rw [va_up_ne _ _ (by omega)]
      rfl
    rw [e1]
    rfl
theorem zfl_setQ {S : zS} {a : Nat} {bs : List Bool} {t j : Nat} (v : Option Nat) (hj : bs[j]? = some true) : (zfl S a bs t).set j (va_rf v) = zfl (zsQ S (t + j) a v) a bs t := by
  have hl := (List.getElem?_eq_some_iff.mp hj).1
  apply List.ext_getElem?
  intro i
  rw [List.getElem?_set, zfl_at, zfl_at]
  by_cases h : j = i
  · subst h
    rw [if_pos rfl, if_pos (by rw [zfl_len]; exact hl), hj]
    simp [zQ, zsQ, va_up]
  · rw [if_neg h]
    have e1 : zQ (zsQ S (t + j) a v) (t + i) a = zQ S (t + i) a := by
      show va_up S.2.2.1 (t + j) _ (t + i) a = _
      rw [va_up_ne _ _ (by omega)]
      rfl
    rw [e1]
    rfl
theorem zE_eq {y : Nat → ClassId} {S S' : zS} {a : Nat} (hK : zK S' a = zK S a) (hI : ∀ t, zI S' t a = zI S t a) (hQ : ∀ t, zQ S' t a = zQ S t a) (hN : zN S' a = zN S a) (hR : ∀ k, zR S' k a = zR S k a) (hP : zP S' a = zP S a) (hJ : zJ S' a = zJ S a) : zE y S' a = zE y S a := by
  unfold zE
  rw [hK, hN, hP, hJ, hR, zfl_congr hI hQ]
theorem zE_sI {y : Nat → ClassId} {S : zS} {a k j : Nat} (v : Int32) (h : zK S a = k) (hk : k < 21) (hj : (zlay k)[j]? = some false) (b : Nat) : va_up (zE y S) a (.inr (k - 4, (zfl S a (zlay k) (16 * k)).set j (.int v))) b = zE y (zsI S (16 * k + j) a v) b := by
  by_cases hb : b = a
  · subst hb
    rw [va_up_self, zfl_setI v hj, zE_o (S := zsI S (16 * k + j) b v) (k := k) h hk]
  · rw [va_up_ne _ _ hb]
    refine Eq.symm ?_
    refine zE_eq rfl (fun t => ?_) (fun _ => rfl) rfl (fun _ => rfl) rfl rfl
    show va_up S.2.1 _ _ t b = S.2.1 t b
    by_cases ht : t = 16 * k + j
    · subst ht
      rw [va_up_self, va_up_ne _ _ hb]
    · rw [va_up_ne _ _ ht]
theorem zE_sQ {y : Nat → ClassId} {S : zS} {a k j : Nat} (v : Option Nat) (h : zK S a = k) (hk : k < 21) (hj : (zlay k)[j]? = some true) (b : Nat) : va_up (zE y S) a (.inr (k - 4, (zfl S a (zlay k) (16 * k)).set j (va_rf v))) b = zE y (zsQ S (16 * k + j) a v) b := by
  by_cases hb : b = a
  · subst hb
    rw [va_up_self, zfl_setQ v hj, zE_o (S := zsQ S (16 * k + j) b v) (k := k) h hk]
  · rw [va_up_ne _ _ hb]
    refine Eq.symm ?_
    refine zE_eq rfl (fun _ => rfl) (fun t => ?_) rfl (fun _ => rfl) rfl rfl
    show va_up S.2.2.1 _ _ t b = S.2.2.1 t b
    by_cases ht : t = 16 * k + j
    · subst ht
      rw [va_up_self, va_up_ne _ _ hb]
    · rw [va_up_ne _ _ ht]
theorem zE_sR {y : Nat → ClassId} {S : zS} {a k : Nat} (f : Nat → Int32) (h : zK S a = k) (h1 : 21 ≤ k) (h2 : k < 24) (b : Nat) : va_up (zE y S) a (.inl (y k, zN S a, .inl f)) b = zE y (zsR S k a f) b := by
  by_cases hb : b = a
  · subst hb
    rw [va_up_self, zE_r (S := zsR S k b f) (k := k) h h1 h2]
    simp [zR, zN, zsR, va_up]
  · rw [va_up_ne _ _ hb]
    refine Eq.symm ?_
    refine zE_eq rfl (fun _ => rfl) (fun _ => rfl) rfl (fun t => ?_) rfl rfl
    show va_up S.2.2.2.2.1 _ _ t b = S.2.2.2.2.1 t b
    by_cases ht : t = k
    · subst ht
      rw [va_up_self, va_up_ne _ _ hb]
    · rw [va_up_ne _ _ ht]
theorem zE_sP {y : Nat → ClassId} {S : zS} {a k : Nat} (f : Nat → Option Nat) (h : zK S a = k) (h1 : 31 ≤ k) (b : Nat) : va_up (zE y S) a (.inl (y k, zN S a, .inr (.inr (.inr (.inr f))))) b = zE y (zsP S a f) b := by
  by_cases hb : b = a
  · subst hb
    rw [va_up_self, zE_p (S := zsP S b f) (k := k) h h1]
    simp [zP, zN, zsP, va_up]
  · rw [va_up_ne _ _ hb]
    refine Eq.symm ?_
    refine zE_eq rfl (fun _ => rfl) (fun _ => rfl) rfl (fun _ => rfl) ?_ rfl
    show va_up S.2.2.2.2.2.1 _ _ b = S.2.2.2.2.2.1 b
    rw [va_up_ne _ _ hb]
theorem zE_sJ {y : Nat → ClassId} {S : zS} {a : Nat} (f : Nat → Int64) (h : zK S a = 24) (b : Nat) : va_up (zE y S) a (.inl (y 24, zN S a, .inr (.inl f))) b = zE y (zsJ S a f) b := by
  by_cases hb : b = a
  · subst hb
    rw [va_up_self, zE_j (S := zsJ S b f) h]
    simp [zJ, zN, zsJ, va_up]
  · rw [va_up_ne _ _ hb]
    refine Eq.symm ?_
    refine zE_eq rfl (fun _ => rfl) (fun _ => rfl) rfl (fun _ => rfl) rfl ?_
    show va_up S.2.2.2.2.2.2 _ _ b = S.2.2.2.2.2.2 b
    rw [va_up_ne _ _ hb]
/-- the fields of a new object: 0 and null -/
def zfl0 : List Bool → List Value
  | [] => []
  | b :: bs => (if b = true then .null else .int 0) :: zfl0 bs
theorem zfl_new (S : zS) (q k : Nat) : ∀ (bs : List Bool) (t : Nat), zfl (znO S q k) q bs t = zfl0 bs
  | [], t => rfl
  | b :: bs, t => by
    show (if b = true then va_rf (va_up (S.2.2.1 t) q none q) else .int (va_up (S.2.1 t) q 0 q)) :: zfl (znO S q k) q bs (t + 1) = _
    rw [zfl_new S q k bs (t + 1), va_up_self, va_up_self]
    rfl
theorem zE_nO {y : Nat → ClassId} {S : zS} {q k : Nat} (hk : k < 21) (b : Nat) : va_up (zE y S) q (.inr (k - 4, zfl0 (zlay k))) b = zE y (znO S q k) b := by
  by_cases hb : b = q
  · subst hb
    have hK : zK (znO S b k) b = k := va_up_self _ _ _
    rw [va_up_self, zE_o hK hk, zfl_new]
  · rw [va_up_ne _ _ hb]
    refine Eq.symm ?_
    exact zE_eq (va_up_ne _ _ hb) (fun t => va_up_ne _ _ hb) (fun t => va_up_ne _ _ hb) rfl (fun _ => rfl) rfl rfl
theorem zE_nR {y : Nat → ClassId} {S : zS} {q k n : Nat} {f : Nat → Int32} (h1 : 21 ≤ k) (h2 : k < 24) (b : Nat) : va_up (zE y S) q (.inl (y k, n, .inl f)) b = zE y (znR S q k n f) b := by
  by_cases hb : b = q
  · subst hb
    have hK : zK (znR S b k n f) b = k := va_up_self _ _ _
    rw [va_up_self, zE_r hK h1 h2]
    simp [zR, zN, znR, va_up]
  · rw [va_up_ne _ _ hb]
    refine Eq.symm ?_
    refine zE_eq (va_up_ne _ _ hb) (fun t => rfl) (fun t => rfl) (va_up_ne _ _ hb) (fun t => ?_) rfl rfl
    show va_up S.2.2.2.2.1 _ _ t b = S.2.2.2.2.1 t b
    by_cases ht : t = k
    · subst ht
      rw [va_up_self, va_up_ne _ _ hb]
    · rw [va_up_ne _ _ ht]
theorem zE_nP {y : Nat → ClassId} {S : zS} {q k n : Nat} {f : Nat → Option Nat} (h1 : 31 ≤ k) (b : Nat) : va_up (zE y S) q (.inl (y k, n, .inr (.inr (.inr (.inr f))))) b = zE y (znP S q k n f) b := by
  by_cases hb : b = q
  · subst hb
    have hK : zK (znP S b k n f) b = k := va_up_self _ _ _
    rw [va_up_self, zE_p hK h1]
    simp [zP, zN, znP, va_up]
  · rw [va_up_ne _ _ hb]
    refine Eq.symm ?_
    exact zE_eq (va_up_ne _ _ hb) (fun t => rfl) (fun t => rfl) (va_up_ne _ _ hb) (fun t => rfl) (va_up_ne _ _ hb) rfl
theorem zE_nJ {y : Nat → ClassId} {S : zS} {q n : Nat} (b : Nat) : va_up (zE y S) q (.inl (y 24, n, .inr (.inl (fun _ => 0)))) b = zE y (znJ S q n) b := by
  by_cases hb : b = q
  · subst hb
    have hK : zK (znJ S b n) b = 24 := va_up_self _ _ _
    rw [va_up_self, zE_j hK]
    simp [zJ, zN, znJ, va_up]
  · rw [va_up_ne _ _ hb]
    refine Eq.symm ?_
    exact zE_eq (va_up_ne _ _ hb) (fun t => rfl) (fun t => rfl) (va_up_ne _ _ hb) (fun t => rfl) rfl (va_up_ne _ _ hb)
/-- a cell that stays as it is, beside the pool (none, or a row of one long), as y says -/
def zXo (y : Nat → ClassId) : va_W := if y 94 = 0 then [] else [(y 95, .inl (y 24, 1, .inr (.inl (fun _ => Int64.ofNat (y 96)))))]
/-- the heap holds the pool -/
def zH (D : va_G) (y : Nat → ClassId) (base : Nat) (S : zS) (H : Heap) : Prop := ∃ L : List Nat, (∀ a, zK S a ≠ 0 → a ∈ L) ∧ va_P D vwCl (zXo y ++ va_pl L (zE y S)) H ∧ va_D (fun q : Nat => base ≤ q) (zXo y ++ va_pl L (zE y S))
/-- the array classes -/
def zT (y : Nat → ClassId) : List (ClassId × FieldType) := [(y 21, .char), (y 22, .int), (y 31, .object RX0), (y 32, .object RX6)]
theorem zH.set {D : va_G} {y : Nat → ClassId} {base : Nat} {S S' : zS} {H1 : Heap} {L : List Nat} {a k9 : Nat} {e : va_E} (hL : ∀ b, zK S b ≠ 0 → b ∈ L) (ha : a ∈ L) (hKK : zK S' = zK S) (hP : va_P D vwCl ((zXo y ++ va_pl L (zE y S)).set k9 (a, e)) H1) (hD0 : va_D (fun q : Nat => base ≤ q) (zXo y ++ va_pl L (zE y S))) (hk9 : (zXo y ++ va_pl L (zE y S))[k9]? = some (a, zE y S a)) (he : ∀ b, va_up (zE y S) a e b = zE y S' b) : zH D y base S' H1 := by
  have hD : va_D (fun q : Nat => base ≤ q) ((zXo y ++ va_pl L (zE y S)).set k9 (a, e)) := hD0.set hk9
  rw [va_pl_set hD0 ha hk9, va_pl_congr he] at hP hD
  exact ⟨L, by rw [hKK]; exact hL, hP, hD⟩
theorem zH.push {D : va_G} {y : Nat → ClassId} {base : Nat} {S S' : zS} {H1 : Heap} {L : List Nat} {q k : Nat} {e : va_E} (hL : ∀ b, zK S b ≠ 0 → b ∈ L) (hKK : zK S' = va_up (zK S) q k) (hP : va_P D vwCl ((zXo y ++ va_pl L (zE y S)) ++ [(q, e)]) H1) (hD : va_D (fun q : Nat => base ≤ q) ((zXo y ++ va_pl L (zE y S)) ++ [(q, e)])) (he : ∀ b, va_up (zE y S) q e b = zE y S' b) : zK S q = 0 ∧ zH D y base S' H1 := by
  have hq : q ∉ L := va_pl_fresh2 hD
  refine ⟨Decidable.byContradiction fun h => hq (hL q h), ?_⟩
  rw [List.append_assoc, va_pl_push hq, va_pl_congr he] at hP hD
  refine ⟨L ++ [q], fun b hb => ?_, hP, hD⟩
  by_cases h : b = q
  · subst h
    exact List.mem_append_right _ List.mem_cons_self
  · rw [hKK, va_up_ne _ _ h] at hb
    exact List.mem_append_left _ (hL b hb)
