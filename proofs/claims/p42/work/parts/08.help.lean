/-! small rows that the printed walks use -/
/-- 1 for a thing that holds, else 0 -/
def zb (P : Prop) [Decidable P] : Int32 := if P then 1 else 0
theorem zb0 {P : Prop} [Decidable P] : zb P = 0 ↔ ¬ P := by
  unfold zb
  by_cases h : P <;> simp [h]
theorem zb1 {P : Prop} [Decidable P] : ¬ zb P = 0 ↔ P := by
  unfold zb
  by_cases h : P <;> simp [h]
theorem zb_t {P : Prop} [Decidable P] (h : P) : (1 : Int32) = zb P := by unfold zb; rw [if_pos h]
theorem zb_f {P : Prop} [Decidable P] (h : ¬ P) : (0 : Int32) = zb P := by unfold zb; rw [if_neg h]
theorem zb_01 (P : Prop) [Decidable P] : zb P = 0 ∨ zb P = 1 := by
  unfold zb
  by_cases h : P <;> simp [h]
theorem zb_congr {P P' : Prop} [Decidable P] [Decidable P'] (h : P ↔ P') : zb P = zb P' := by
  unfold zb
  by_cases h2 : P
  · rw [if_pos h2, if_pos (h.mp h2)]
  · rw [if_neg h2, if_neg (fun q => h2 (h.mpr q))]
theorem z01_nar {v : Int32} (h : v = 0 ∨ v = 1) : narrow .boolean (.int v) = .int v := by
  rcases h with h | h <;> subst h <;> rfl
theorem z01_nf {v : Int32} (h : v = 0 ∨ v = 1) : narrow .boolean (.int v) = .int v ∧ fits .boolean (.int v) = true := by
  rcases h with h | h <;> subst h <;> exact ⟨rfl, by decide⟩
theorem zb_nar (P : Prop) [Decidable P] : narrow .boolean (.int (zb P)) = .int (zb P) := z01_nar (zb_01 P)
theorem zb_nf (P : Prop) [Decidable P] : narrow .boolean (.int (zb P)) = .int (zb P) ∧ fits .boolean (.int (zb P)) = true := z01_nf (zb_01 P)
theorem zin_of {x N : Int32} {n : Nat} (hN : N.toInt = n) (h0 : 0 ≤ x) (h1 : x < N) : vp_in x n := by
  rw [vp_in_iff, ← hN]
  rw [Int32.le_iff_toInt_le] at h0
  rw [Int32.lt_iff_toInt_lt] at h1
  exact ⟨h0, h1⟩
theorem zlen {S : zS} {a n : Nat} {v : Int32} (h : zN S a = n) (hv : Int32.ofNat n = v) : Int32.ofNat (zN S a) = v := by rw [h]; exact hv
theorem zI_t {S : zS} {t t' a a' : Nat} {v u : Int32} (h : t' ≠ t) (hu : zI S t' a' = u) : zI (zsI S t a v) t' a' = u := by
  rw [← hu]
  show va_up S.2.1 t _ t' a' = S.2.1 t' a'
  rw [va_up_ne _ _ h]
theorem zI_a {S : zS} {t t' a a' : Nat} {v u : Int32} (h : a' ≠ a) (hu : zI S t' a' = u) : zI (zsI S t a v) t' a' = u := by
  by_cases ht : t' = t
  · subst ht
    rw [← hu]
    show va_up S.2.1 t' _ t' a' = S.2.1 t' a'
    rw [va_up_self, va_up_ne _ _ h]
  · exact zI_t ht hu
theorem zI_s (S : zS) (t a : Nat) (v : Int32) : zI (zsI S t a v) t a = v := by
  show va_up S.2.1 t _ t a = v
  rw [va_up_self, va_up_self]
theorem zQ_t {S : zS} {t t' a a' : Nat} {v u : Option Nat} (h : t' ≠ t) (hu : zQ S t' a' = u) : zQ (zsQ S t a v) t' a' = u := by
  rw [← hu]
  show va_up S.2.2.1 t _ t' a' = S.2.2.1 t' a'
  rw [va_up_ne _ _ h]
theorem zQ_a {S : zS} {t t' a a' : Nat} {v u : Option Nat} (h : a' ≠ a) (hu : zQ S t' a' = u) : zQ (zsQ S t a v) t' a' = u := by
  by_cases ht : t' = t
  · subst ht
    rw [← hu]
    show va_up S.2.2.1 t' _ t' a' = S.2.2.1 t' a'
    rw [va_up_self, va_up_ne _ _ h]
  · exact zQ_t ht hu
theorem zQ_s (S : zS) (t a : Nat) (v : Option Nat) : zQ (zsQ S t a v) t a = v := by
  show va_up S.2.2.1 t _ t a = v
  rw [va_up_self, va_up_self]
theorem zR_s (S : zS) (k a : Nat) (f : Nat → Int32) : zR (zsR S k a f) k a = f := by
  show va_up S.2.2.2.2.1 k _ k a = f
  rw [va_up_self, va_up_self]
theorem zR_a {S : zS} {k k' a a' : Nat} {f u : Nat → Int32} (h : a' ≠ a) (hu : zR S k' a' = u) : zR (zsR S k a f) k' a' = u := by
  rw [← hu]
  show va_up S.2.2.2.2.1 k _ k' a' = S.2.2.2.2.1 k' a'
  by_cases ht : k' = k
  · subst ht
    rw [va_up_self, va_up_ne _ _ h]
  · rw [va_up_ne _ _ ht]
theorem zR_t {S : zS} {k k' a a' : Nat} {f u : Nat → Int32} (h : k' ≠ k) (hu : zR S k' a' = u) : zR (zsR S k a f) k' a' = u := by
  rw [← hu]
  show va_up S.2.2.2.2.1 k _ k' a' = S.2.2.2.2.1 k' a'
  rw [va_up_ne _ _ h]
theorem zP_s (S : zS) (a : Nat) (f : Nat → Option Nat) : zP (zsP S a f) a = f := va_up_self _ _ _
theorem zP_a {S : zS} {a a' : Nat} {f u : Nat → Option Nat} (h : a' ≠ a) (hu : zP S a' = u) : zP (zsP S a f) a' = u := by
  rw [← hu]
  exact va_up_ne _ _ h
theorem zne {S : zS} {q a : Nat} (h : zK S q = 0) (ha : zK S a ≠ 0) : a ≠ q := fun e => ha (by rw [e]; exact h)
theorem zneK {S : zS} {a b j k : Nat} (ha : zK S a = j) (hb : zK S b = k) (h : j ≠ k) : a ≠ b := fun e => h (by rw [← ha, e, hb])
theorem zK_nO {S : zS} {q k a v : Nat} (h : a ≠ q) (hu : zK S a = v) : zK (znO S q k) a = v := by rw [← hu]; exact va_up_ne _ _ h
theorem zQ_nO {S : zS} {q k a t : Nat} {v : Option Nat} (h : a ≠ q) (hu : zQ S t a = v) : zQ (znO S q k) t a = v := by rw [← hu]; exact va_up_ne _ _ h
theorem zI_nO {S : zS} {q k a t : Nat} {v : Int32} (h : a ≠ q) (hu : zI S t a = v) : zI (znO S q k) t a = v := by rw [← hu]; exact va_up_ne _ _ h
theorem zK_nOs (S : zS) (q k : Nat) : zK (znO S q k) q = k := va_up_self _ _ _
theorem zI_nOs (S : zS) (q k t : Nat) : zI (znO S q k) t q = 0 := va_up_self _ _ _
theorem zQ_nOs (S : zS) (q k t : Nat) : zQ (znO S q k) t q = none := va_up_self _ _ _
theorem zK_nR {S : zS} {q k n a v : Nat} {f : Nat → Int32} (h : a ≠ q) (hu : zK S a = v) : zK (znR S q k n f) a = v := by rw [← hu]; exact va_up_ne _ _ h
theorem zN_nR {S : zS} {q k n a v : Nat} {f : Nat → Int32} (h : a ≠ q) (hu : zN S a = v) : zN (znR S q k n f) a = v := by rw [← hu]; exact va_up_ne _ _ h
theorem zK_nRs (S : zS) (q k n : Nat) (f : Nat → Int32) : zK (znR S q k n f) q = k := va_up_self _ _ _
theorem zN_nRs (S : zS) (q k n : Nat) (f : Nat → Int32) : zN (znR S q k n f) q = n := va_up_self _ _ _
theorem zR_nRs (S : zS) (q k n : Nat) (f : Nat → Int32) : zR (znR S q k n f) k q = f := by
  show va_up S.2.2.2.2.1 k _ k q = f
  rw [va_up_self, va_up_self]
theorem zR_nR {S : zS} {q k k' n a : Nat} {f u : Nat → Int32} (h : a ≠ q) (hu : zR S k' a = u) : zR (znR S q k n f) k' a = u := by
  rw [← hu]
  show va_up S.2.2.2.2.1 k _ k' a = S.2.2.2.2.1 k' a
  by_cases ht : k' = k
  · subst ht
    rw [va_up_self, va_up_ne _ _ h]
  · rw [va_up_ne _ _ ht]
theorem zK_nP {S : zS} {q k n a v : Nat} {f : Nat → Option Nat} (h : a ≠ q) (hu : zK S a = v) : zK (znP S q k n f) a = v := by rw [← hu]; exact va_up_ne _ _ h
theorem zN_nP {S : zS} {q k n a v : Nat} {f : Nat → Option Nat} (h : a ≠ q) (hu : zN S a = v) : zN (znP S q k n f) a = v := by rw [← hu]; exact va_up_ne _ _ h
theorem zP_nP {S : zS} {q k n a : Nat} {f v : Nat → Option Nat} (h : a ≠ q) (hu : zP S a = v) : zP (znP S q k n f) a = v := by rw [← hu]; exact va_up_ne _ _ h
theorem zK_nPs (S : zS) (q k n : Nat) (f : Nat → Option Nat) : zK (znP S q k n f) q = k := va_up_self _ _ _
theorem zN_nPs (S : zS) (q k n : Nat) (f : Nat → Option Nat) : zN (znP S q k n f) q = n := va_up_self _ _ _
theorem zP_nPs (S : zS) (q k n : Nat) (f : Nat → Option Nat) : zP (znP S q k n f) q = f := va_up_self _ _ _
section ZHELP
variable {p : Program} {l : Launch} {e : Env} {R : Room} {s : State} {m : MethodId} {args : Array Value} {below : List Frame} {meth : Method} {c : Code} {H : Heap} {locs : List Loc} {cells slots : Nat} {Q : State → Prop}
variable {cc : ByteArray} {pc nL : Nat} {ls : Array Slot} {rest st0 : List Value} {D : va_G} {y : Nat → ClassId} {base a : Nat} {S : zS} {Ts : List Cond} {own : String}
/-- the number on top by another name -/
theorem zrd {x0 x : Int32} (h : x0 = x) (kk : W p l e R s m args below meth c H locs cells slots Q (F0 m pc ls (.int x :: rest))) : W p l e R s m args below meth c H locs cells slots Q (F0 m pc ls (.int x0 :: rest)) := by
  subst h
  exact kk
theorem znewC (C : CallFix p m c cc nL s args Ts own) (hw : zW D y base S s H locs) (harr : Cond.arrayClass .char ∈ Ts) {n : Int32} {N : Nat} (hn : ¬ n < 0) (hN : n.toNatClampNeg = N) (hbytes : N * 2 ≤ 536870912) (hcells : cells + 1 ≤ R.cells) (hslots : slots + N ≤ R.slots) (hdg : decode cc pc = .ok (.newarray .char, 2))
    (kk : ∀ (q : Nat) (H1 : Heap), zK S q = 0 → zW D y base (znR S q 21 N (fun _ => 0)) s H1 locs → W p l e R s m args below meth c H1 locs (cells + 1) (slots + N) Q (F0 m (pc + 2) ls (.ref q :: rest))) : W p l e R s m args below meth c H locs cells slots Q (F0 m pc ls (.int n :: rest)) := by
  obtain ⟨L, hL, hP, hD⟩ := hw.2.1
  obtain ⟨hx, hb, hml, hown, hts⟩ := C
  refine va_newa (D := D) (atype := .char) hx hb (hts _ harr) (ty := .char) rfl hw.1.1 hP hD hw.2.2.1 (zA_all hw.2.2.2) (a0 := (N, .inl (fun _ => 0))) (fun _ => rfl) hn hN hbytes hcells hslots hdg (fun q cA H1 hK1 hP1 hD1 hS1 => ?_)
  have hcA : cA = y 21 := zK_last hK1 (t0 := 0) rfl
  subst hcA
  obtain ⟨hq, hH⟩ := zH.push (S' := znR S q 21 N (fun _ => 0)) (k := 21) hL rfl hP1 hD1 (zE_nR (by omega) (by omega))
  exact kk q H1 hq ⟨hw.1, hH, hS1, hw.2.2.2⟩
/-- a constructor -/
theorem zcI_v (C : CallFix p m c cc nL s args Ts own) (hw : zW D y base S s H locs) {y0 : MethodName} {bytes : ByteArray} {maxL index mc ms b : Nat} {ws ws' : List Cond} {rm : Room} {post : zS → Prop} {As : List Value} {n9 : Nat}
    (hM : zMv l y0 ws rm (.ref b :: As) D y base S post mc ms) (hG : GoodIn Ts ws) (hws : ws = Cond.code y0 bytes maxL none :: ws') (hini : Cond.initialized y0.cls ∈ Ts) (hl : Cond.methodLink own index y0 ∈ Ts) (hin : Cond.instanceMethod y0 ∈ Ts) (hy1 : y0.name = "<init>") (hd : y0.cls ≠ "java/lang/invoke/MethodHandle" ∧ y0.cls ≠ "java/lang/invoke/VarHandle" ∧ (parseMethodDescriptor y0.desc).map (fun d => d.parameters.length) = some n9) (hR : (rm.cells = mc ∧ rm.slots = ms) ∧ rm.frames + 1 ≤ R.frames ∧ 8 + (maxL + 11) + rm.locals ≤ R.locals)
    (hn9 : As.length = n9) (hls : ls.size = nL) (hst : st0 = As.reverse ++ .ref b :: rest) (hcat : (rest.map fun v => v.category).sum ≤ 8) (hf : cells + mc ≤ R.cells ∧ slots + ms ≤ R.slots) (hdg : decode cc pc = .ok (.invokespecial index, 3))
    (kk : ∀ (S' : zS) (H1 : Heap) (locs1 : List Loc), post S' → zW D y base S' s H1 locs1 → W p l e R s m args below meth c H1 locs1 (cells + mc) (slots + ms) Q (F0 m (pc + 3) ls rest)) : W p l e R s m args below meth c H locs cells slots Q (F0 m pc ls st0) :=
  va_callv (va_runI (As := As) (rest := rest) C hM (cwI n9 C.2.2.2.2 hG hws hR.1.1 hR.1.2 (C.2.2.2.2 _ hini) (C.2.2.2.2 _ hl) (C.2.2.2.2 _ hin) hy1 hd hR.2) ⟨zBlind, fun U hU hW => ⟨rfl, zIn hw hU hW⟩⟩ rfl hn9 hls hst (lv_room hcat) hdg hf) hw.2.2.1 (fun _ _ h => h) (fun _ h => h) (fun u t H1 locs1 ht _ hp hB _ _ hS => kk u H1 locs1 hp (zOut hw ht hB hS))
end ZHELP
theorem zdfX0 : ∀ j, j < 2 → defaultValue (tyX0 j) = vp_V (zfl0 (zlay 4)) j := by decide +kernel
theorem zdfX1 : ∀ j, j < 1 → defaultValue (tyX1 j) = vp_V (zfl0 (zlay 5)) j := by decide +kernel
theorem zdfX2 : ∀ j, j < 4 → defaultValue (tyX2 j) = vp_V (zfl0 (zlay 6)) j := by decide +kernel
theorem zdfX3 : ∀ j, j < 6 → defaultValue (tyX3 j) = vp_V (zfl0 (zlay 7)) j := by decide +kernel
theorem zdfX4 : ∀ j, j < 4 → defaultValue (tyX4 j) = vp_V (zfl0 (zlay 8)) j := by decide +kernel
theorem zdfX5 : ∀ j, j < 10 → defaultValue (tyX5 j) = vp_V (zfl0 (zlay 9)) j := by decide +kernel
theorem zdfX6 : ∀ j, j < 6 → defaultValue (tyX6 j) = vp_V (zfl0 (zlay 10)) j := by decide +kernel
theorem zdfX7 : ∀ j, j < 8 → defaultValue (tyX7 j) = vp_V (zfl0 (zlay 11)) j := by decide +kernel
