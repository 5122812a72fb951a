/-! which exception a call on new objects is owed (0: none, else its place among the catches), both for the class and for the reference -/
abbrev zw (p : Int32) : Prop := 0 ≤ p ∧ p ≤ 3
abbrev zc (p : Int32) : Prop := 0 ≤ p ∧ p ≤ 1
abbrev zt (p : Int32) : Prop := 0 ≤ p ∧ p ≤ 9999
abbrev zb8 (p : Int32) : Prop := 0 ≤ p ∧ p ≤ 255
abbrev zpar (p : Int32) : Prop := p = 110 ∨ p = 101 ∨ p = 111
def kd_idle (p0 : Int32) : Int32 := if zw p0 then 0 else 1
def kd_flip (p0 p1 : Int32) : Int32 := if ¬ zw p0 then 1 else if ¬ zt p1 then 2 else 0
def kd_glitch (p0 p1 p2 : Int32) : Int32 := if ¬ zw p0 then 1 else if ¬ (zt p1 ∧ (1 ≤ p2 ∧ p2 ≤ 99) ∧ p1 + p2 ≤ 9999) then 2 else 0
def kd_drift (p0 : Int32) : Int32 := if -50 ≤ p0 ∧ p0 ≤ 50 then 0 else 1
def kd_capture (p0 p1 p2 p3 : Int32) : Int32 := if ¬ zc p0 then 1 else if ¬ (zt p1 ∧ (1 ≤ p2 ∧ p2 ≤ 99) ∧ (1 ≤ p3 ∧ p3 ≤ 400) ∧ p1 + p2 * (p3 - 1) ≤ 9999) then 2 else 0
def kd_samples (p0 : Int32) : Int32 := if zc p0 then 0 else 1
def kd_sample (p0 : Int32) : Int32 := if zc p0 then 2 else 1
def kd_runs (p0 p1 : Int32) : Int32 := if zc p0 ∧ zw p1 then 0 else 1
def kd_run (p0 p1 : Int32) : Int32 := if zc p0 ∧ zw p1 then 2 else 1
def kd_block (p0 p1 p2 : Int32) : Int32 := if ¬ (zc p0 ∧ zw p1) then 1 else if ¬ (0 ≤ p2 ∧ p2 ≤ 9) then 2 else 3
def kd_step (p0 p1 p2 : Int32) : Int32 := if ¬ (p0 = 112 ∨ p0 = 116 ∨ zw p1) then 1 else if ¬ ((p0 = 112 ∧ 0 ≤ p2 ∧ p2 ≤ 15) ∨ ((p0 = 114 ∨ p0 = 102 ∨ p0 = 104 ∨ p0 = 108 ∨ p0 = 116) ∧ 1 ≤ p2 ∧ p2 ≤ 400)) then 2 else 0
def kd_decodeSerial (p0 p1 p2 p3 : Int32) : Int32 := if ¬ (zc p0 ∧ zw p1) then 1 else if ¬ ((10 ≤ p2 ∧ p2 ≤ 999) ∧ zpar p3) then 2 else 0
def kd_decodeTwo (p0 p1 p2 : Int32) : Int32 := if ¬ (zc p0 ∧ zw p1 ∧ zw p2) then 1 else if p1 = p2 then 2 else 0
def kd_decodeFour (p0 p1 p2 p3 p4 : Int32) : Int32 := if ¬ (zc p0 ∧ zw p1 ∧ zw p2 ∧ zw p3) then 1 else if ¬ ((¬ p1 = p2 ∧ ¬ p1 = p3 ∧ ¬ p2 = p3) ∧ 0 ≤ p4 ∧ p4 ≤ 3) then 2 else 0
def kd_register (p0 p1 : Int32) : Int32 := if (0 ≤ p0 ∧ p0 ≤ 127) ∧ 0 ≤ p1 ∧ p1 ≤ 15 then 0 else 1
def kd_follows (p0 p1 : Int32) : Int32 := if zb8 p0 ∧ zb8 p1 then 0 else 1
def kd_alike (p0 : Int32) : Int32 := if -399 ≤ p0 ∧ p0 ≤ 399 then 0 else 1
def kd_differs (p0 : Int32) : Int32 := if -399 ≤ p0 ∧ p0 ≤ 399 then 2 else 1
def kd_best (p0 : Int32) : Int32 := if 0 ≤ p0 ∧ p0 ≤ 99 then 2 else 1
/-- all that the class may change: its own kinds' fields (tags 64 to 191) and rows of ints and chars; it may make objects -/
def zCls (S S' : zS) : Prop := ∀ b, zK S b ≠ 0 → zK S' b = zK S b ∧ zN S' b = zN S b ∧ zP S' b = zP S b ∧ zJ S' b = zJ S b ∧ zR S' 23 b = zR S 23 b ∧ ∀ t, (t < 64 ∨ 192 ≤ t) → zI S' t b = zI S t b ∧ zQ S' t b = zQ S t b
theorem zCls.rf {S : zS} : zCls S S := fun _ _ => ⟨rfl, rfl, rfl, rfl, rfl, fun _ _ => ⟨rfl, rfl⟩⟩
theorem zCls.tr {S S1 S2 : zS} (h : zCls S S1) (h2 : zCls S1 S2) : zCls S S2 := fun b hb => by
  obtain ⟨a1, a2, a3, a4, a5, a6⟩ := h b hb
  obtain ⟨b1, b2, b3, b4, b5, b6⟩ := h2 b (by rw [a1]; exact hb)
  exact ⟨b1.trans a1, b2.trans a2, b3.trans a3, b4.trans a4, b5.trans a5, fun t ht => ⟨((b6 t ht).1).trans (a6 t ht).1, ((b6 t ht).2).trans (a6 t ht).2⟩⟩
theorem zCls.I {S : zS} {t a : Nat} {v : Int32} (h : 64 ≤ t ∧ t < 192) : zCls S (zsI S t a v) := fun b _ => ⟨rfl, rfl, rfl, rfl, rfl, fun _ ht => ⟨zI_t (by omega) rfl, rfl⟩⟩
theorem zCls.R {S : zS} {k a : Nat} {f : Nat → Int32} (h : k ≠ 23) : zCls S (zsR S k a f) := fun b _ => ⟨rfl, rfl, rfl, rfl, zR_t (by omega) rfl, fun _ _ => ⟨rfl, rfl⟩⟩
theorem zCls.Q {S : zS} {t a : Nat} {v : Option Nat} (h : 64 ≤ t ∧ t < 192) : zCls S (zsQ S t a v) := fun b _ => ⟨rfl, rfl, rfl, rfl, rfl, fun _ ht => ⟨rfl, zQ_t (by omega) rfl⟩⟩
theorem zCls.nO {S : zS} {q k : Nat} (h : zK S q = 0) : zCls S (znO S q k) := fun b hb => ⟨zK_nO (zne h hb) rfl, rfl, rfl, rfl, rfl, fun _ _ => ⟨zI_nO (zne h hb) rfl, zQ_nO (zne h hb) rfl⟩⟩
theorem zCls.chg {S S' : zS} {w sn : Nat} (h : zChg S S' w sn) : zCls S S' := fun b _ => ⟨congrFun h.1.1 b, congrFun h.1.2.2.1 b, congrFun h.1.2.2.2 b, congrFun h.2.2.2 b, h.2.2.1 23 b (Or.inr (by decide)), fun t ht => ⟨h.2.1 t b (Or.inr (by omega)), congrFun (congrFun h.1.2.1 t) b⟩⟩
theorem zCls.flp {S S' : zS} {w tk : Nat} (h : zFlp S S' w tk) : zCls S S' := fun b _ => ⟨congrFun h.1.1 b, congrFun h.1.2.2.1 b, congrFun h.1.2.2.2 b, congrFun h.2.2.2 b, h.2.2.1 23 b (Or.inr (by decide)), fun t ht => ⟨h.2.1 t b (Or.inr (by omega)), congrFun (congrFun h.1.2.1 t) b⟩⟩
/-- an object of Probehall: a 0 itself, a 1 its wires, a 2 its captures, a 3 its trigger, a 4 its notes, a 5 its devices, a 6 their registers, a 7 .. a 9 the trigger's rows, a (10 + i) the wires, a (20 + i) their flips, a (30 + i) what is being sent, a (40 + i) the captures, a (50 + i) their samples -/
def zX (S : zS) (a : Nat → Nat) : Prop := zK S (a 0) = 11 ∧ zQ S 176 (a 0) = some (a 1) ∧ zQ S 177 (a 0) = some (a 2) ∧ zQ S 178 (a 0) = some (a 3) ∧ zQ S 179 (a 0) = some (a 4) ∧ zQ S 180 (a 0) = some (a 5) ∧ zK S (a 1) = 32 ∧ zN S (a 1) = 4 ∧ zK S (a 2) = 31 ∧ zN S (a 2) = 2 ∧ zK S (a 4) = 7 ∧ zDev S (a 5) (a 6) ∧ zTrg S (a 3) (a 7) (a 8) (a 9) ∧ (∀ i, i < 4 → zP S (a 1) i = some (a (10 + i)) ∧ zWire S (a (10 + i)) (a (20 + i)) (a (30 + i))) ∧ (∀ i j, i < 4 → j < 4 → i ≠ j → a (10 + i) ≠ a (10 + j) ∧ a (30 + i) ≠ a (30 + j)) ∧ (∀ i, i < 2 → zP S (a 2) i = some (a (40 + i)) ∧ zCap S (a (40 + i)) (a (50 + i)))
/-- .. as it is when it is new -/
def zX0 (S : zS) (a : Nat → Nat) : Prop := (∀ i, i < 4 → zI S 160 (a (10 + i)) = 0 ∧ zI S 161 (a (10 + i)) = 0) ∧ (∀ i, i < 2 → zI S 64 (a (40 + i)) = 0 ∧ ∀ j, zR S 22 (a (50 + i)) j = 0) ∧ zI S 128 (a 3) = 0 ∧ zI S 112 (a 4) = 0 ∧ zI S 181 (a 0) = 0 ∧ zI S 182 (a 0) = 1 ∧ zI S 183 (a 0) = 1 ∧ ∀ j, zR S 22 (a 6) j = 0
theorem z_cl4 {p : Int32} (h : 0 ≤ p ∧ p ≤ 3) : p.toNatClampNeg < 4 := by
  have h2 := h.2
  rw [Int32.le_iff_toInt_le] at h2
  show p.toInt.toNat < 4
  have : (3 : Int32).toInt = 3 := rfl
  omega
theorem z_cl2 {p : Int32} (h : 0 ≤ p ∧ p ≤ 1) : p.toNatClampNeg < 2 := by
  have h2 := h.2
  rw [Int32.le_iff_toInt_le] at h2
  show p.toInt.toNat < 2
  have : (1 : Int32).toInt = 1 := rfl
  omega
theorem zX_w {S : zS} {a : Nat → Nat} (hX : zX S a) (h0 : zX0 S a) {p : Int32} (h : 0 ≤ p ∧ p ≤ 3) : ∃ w tk sn : Nat, zP S (a 1) p.toNatClampNeg = some w ∧ zWire S w tk sn ∧ zI S 160 w = 0 ∧ zI S 161 w = 0 ∧ w = a (10 + p.toNatClampNeg) ∧ sn = a (30 + p.toNatClampNeg) := by
  obtain ⟨-, -, -, -, -, -, -, -, -, -, -, -, -, hw, -, -⟩ := hX
  have h4 := z_cl4 h
  exact ⟨_, _, _, (hw _ h4).1, (hw _ h4).2, (h0.1 _ h4).1, (h0.1 _ h4).2, rfl, rfl⟩
theorem zX_c {S : zS} {a : Nat → Nat} (hX : zX S a) (h0 : zX0 S a) {p : Int32} (h : 0 ≤ p ∧ p ≤ 1) : ∃ c lv : Nat, zP S (a 2) p.toNatClampNeg = some c ∧ zCap S c lv ∧ zI S 64 c = 0 ∧ ∀ j, zR S 22 lv j = 0 := by
  obtain ⟨-, -, -, -, -, -, -, -, -, -, -, -, -, -, -, hc⟩ := hX
  have h4 := z_cl2 h
  exact ⟨_, _, (hc _ h4).1, (hc _ h4).2, (h0.2.1 _ h4).1, (h0.2.1 _ h4).2⟩
theorem zX_ne {S : zS} {a : Nat → Nat} (hX : zX S a) {p q : Int32} (h : 0 ≤ p ∧ p ≤ 3) (h2 : 0 ≤ q ∧ q ≤ 3) (hn : ¬ p = q) : a (10 + p.toNatClampNeg) ≠ a (10 + q.toNatClampNeg) ∧ a (30 + p.toNatClampNeg) ≠ a (30 + q.toNatClampNeg) := by
  obtain ⟨-, -, -, -, -, -, -, -, -, -, -, -, -, -, hd, -⟩ := hX
  refine hd _ _ (z_cl4 h) (z_cl4 h2) (fun e => hn ?_)
  rw [z_01 p h.1, z_01 q h2.1, e]
theorem zblk {p : Int32} (h : 0 ≤ p ∧ p ≤ 9) : ((0 + ((1 : Int32) <<< (p &&& 31))) - 1) >>> (p &&& 31) = 0 := by
  have hd : ∀ j, j < 10 → ((0 + ((1 : Int32) <<< (nI j &&& 31))) - 1) >>> (nI j &&& 31) = 0 := by decide +kernel
  obtain ⟨j, hj, rfl⟩ := nI_of2 (x := p) (M := 9) (n := 9) rfl (by grind) h.2
  exact hd j (by omega)
