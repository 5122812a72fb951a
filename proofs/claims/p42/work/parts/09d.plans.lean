section ZCS
variable {p : Program} {l : Launch} {e : Env} {R : Room} {s : State} {m : MethodId} {args : Array Value} {below : List Frame} {meth : Method} {c : Code} {H : Heap} {locs : List Loc} {cells slots : Nat} {Q : State → Prop}
variable {cc : ByteArray} {pc nL : Nat} {ls : Array Slot} {rest st0 : List Value} {D : va_G} {y : Nat → ClassId} {base a : Nat} {S : zS} {Ts : List Cond} {own : String}
theorem zcS_v (C : CallFix p m c cc nL s args Ts own) (hw : zW D y base S s H locs) {y0 : MethodName} {bytes : ByteArray} {maxL index mc ms : Nat} {ret : Option FieldType} {ws ws' : List Cond} {rm : Room} {post : zS → Prop} {As : List Value} {n9 : Nat}
    (hM : zMv l y0 ws rm As D y base S post mc ms) (hG : GoodIn Ts (va_wsS own index y0 ws)) (hws : ws = Cond.code y0 bytes maxL ret :: ws') (hd : y0.cls ≠ "java/lang/invoke/MethodHandle" ∧ y0.cls ≠ "java/lang/invoke/VarHandle" ∧ (parseMethodDescriptor y0.desc).map (fun d => d.parameters.length) = some n9) (hR : (rm.cells = mc ∧ rm.slots = ms) ∧ rm.frames + 1 ≤ R.frames ∧ 8 + (maxL + 11) + rm.locals ≤ R.locals)
    (hn9 : As.length = n9) (hls : ls.size = nL) (hst : st0 = As.reverse ++ rest) (hcat : (rest.map fun v => v.category).sum ≤ 8) (hf : cells + mc ≤ R.cells ∧ slots + ms ≤ R.slots) (hdg : decode cc pc = .ok (.invokestatic index, 3))
    (kk : ∀ (S' : zS) (H1 : Heap) (locs1 : List Loc), post S' → zW D y base S' s H1 locs1 → W p l e R s m args below meth c H1 locs1 (cells + mc) (slots + ms) Q (F0 m (pc + 3) ls rest)) : W p l e R s m args below meth c H locs cells slots Q (F0 m pc ls st0) :=
  va_callv (va_runS (As := As) (rest := rest) C hM (va_cwS n9 C.2.2.2.2 hG hws hR.1.1 hR.1.2 hd hR.2) (zpS hw As) rfl hn9 hls hst (lv_room hcat) hdg hf) hw.2.2.1 (fun _ _ h => h) (fun _ h => h) (fun u t H1 locs1 ht _ hp hB _ _ hS => kk u H1 locs1 hp (zOut hw ht hB hS))
end ZCS
/-! what a call sends over wires, in words that the class and the reference share -/
/-- all ticks are good at which the level becomes another (the level 0 is the one ahead of all that is sent) -/
def zgB (lev t : Nat → Int32) : Nat → Bool
  | 0 => true
  | n + 1 => zgB lev t n && (decide (lev (n + 1) = lev n) || decide (t n ≤ 9999))
abbrev zgd (lev t : Nat → Int32) (n : Nat) : Prop := zgB lev t n = true
theorem zgd_0 (lev t : Nat → Int32) : True ↔ zgd lev t 0 := ⟨fun _ => rfl, fun _ => trivial⟩
theorem zgd_s (lev t : Nat → Int32) (n : Nat) : (zgd lev t n ∧ (lev (n + 1) = lev n ∨ t n ≤ 9999)) ↔ zgd lev t (n + 1) := by
  show _ ↔ (zgB lev t n && (decide (lev (n + 1) = lev n) || decide (t n ≤ 9999))) = true
  rw [Bool.and_eq_true, Bool.or_eq_true, decide_eq_true_eq, decide_eq_true_eq]
/-- the tick some steps behind a beginning, with no drift -/
def ztk (p h : Int32) (m : Nat) : Int32 := p + nI m * h
def znx (p h : Int32) (m : Nat) : Int := p.toInt + (m : Int) * h.toInt
theorem ztk_i {p h : Int32} {m : Nat} (hp : 0 ≤ p ∧ p ≤ 9999) (hh : 1 ≤ h ∧ h ≤ 50) (hm : m ≤ 63) : (ztk p h m).toInt = znx p h m := by
  obtain ⟨A, hA, rfl⟩ := nI_of2 (x := p) (M := 9999) (n := 9999) rfl (by grind) hp.2
  obtain ⟨B, hB, rfl⟩ := nI_of2 (x := h) (M := 50) (n := 50) rfl (by grind) hh.2
  unfold ztk znx
  have hmb : m * B ≤ 63 * 50 := Nat.mul_le_mul hm hB
  rw [pk_mul, nI_add, nI_toInt (by omega), nI_toInt (by omega), nI_toInt (by omega), Int.natCast_add, Int.natCast_mul]
theorem znx_s {p h : Int32} {m m' : Nat} (hh : 1 ≤ h) (hm : m < m') : znx p h m + 1 ≤ znx p h m' := by
  unfold znx
  rw [Int32.le_iff_toInt_le] at hh
  have h1 : (1 : Int32).toInt = 1 := rfl
  rw [h1] at hh
  have h2 := Int.mul_le_mul_of_nonneg_right (show (m : Int) + 1 ≤ (m' : Int) by omega) (show 0 ≤ h.toInt by omega)
  rw [Int.add_mul, Int.one_mul] at h2
  omega
theorem ztk_0 (p h : Int32) : ztk p h 0 = p := by
  unfold ztk
  rw [nI_0, Int32.zero_mul, Int32.add_zero]
/-- one may go on to a later tick -/
theorem ztk_nx {p h : Int32} {m m' : Nat} (hp : 0 ≤ p ∧ p ≤ 9999) (hh : 1 ≤ h ∧ h ≤ 50) (hm : m ≤ 63) (h2 : m < m') : (ztk p h m).toInt + 1 ≤ znx p h m' := by
  rw [ztk_i hp hh hm]
  exact znx_s hh.1 h2
/-- only what is being sent, over whichever wire, may be another -/
def zPl (S S' : zS) : Prop := zFix S S' ∧ (∀ t a, (t ≠ 163 ∧ t ≠ 164) → zI S' t a = zI S t a) ∧ zCls S S'
theorem zPl.rf {S : zS} : zPl S S := ⟨zFix.rf, fun _ _ _ => rfl, zCls.rf⟩
theorem zPl.tr {S S1 S2 : zS} (h : zPl S S1) (h2 : zPl S1 S2) : zPl S S2 := ⟨h.1.tr h2.1, fun t a q => (h2.2.1 t a q).trans (h.2.1 t a q), h.2.2.tr h2.2.2⟩
theorem zPl.chg {S S' : zS} {w sn : Nat} (h : zChg S S' w sn) : zPl S S' := ⟨h.1, fun t a q => h.2.1 t a (Or.inr q), zCls.chg h⟩
theorem zSnd.self {S0 S : zS} {w sn n : Nat} {cur : Int32} {good : Prop} {nxt : Int} (h : zSnd S0 S w sn cur good nxt n) : zSnd S S w sn cur good nxt n := ⟨zChg.rf, h.2⟩
theorem zSnd.frame {S S' : zS} {w sn w' sn' n : Nat} {cur : Int32} {good : Prop} {nxt : Int} (h : zSnd S S w sn cur good nxt n) (hc : zChg S S' w' sn') (hw : w ≠ w') (hs : sn ≠ sn') : zSnd S' S' w sn cur good nxt n := by
  obtain ⟨h1, h2, h3, k, h4, h5, h6, h7⟩ := h
  refine ⟨zChg.rf, (hc.2.1 _ _ (Or.inl hw)).trans h2, h3, k, h4, (hc.2.1 _ _ (Or.inl hw)).trans h5, ?_, ?_⟩
  · rw [hc.2.2.1 22 sn (Or.inl hs)]
    exact h6
  · rw [hc.2.2.1 22 sn (Or.inl hs)]
    exact h7
/-- a tick put among those to be sent, whatever the level -/
theorem zSnd.add {S0 S : zS} {w sn n : Nat} {cur t : Int32} {good : Prop} {nxt : Int} (h : zSnd S0 S w sn cur good nxt n) {k : Nat} (hk : zI S 164 w = nI k) (hk64 : k ≤ n) (hn : n < 64) (ht : nxt ≤ t.toInt) : zSnd S0 (zsI (zsR S 22 sn (upd (zR S 22 sn) k t)) 164 w (nI (k + 1))) w sn cur (good ∧ t ≤ 9999) (t.toInt + 1) (n + 1) := by
  obtain ⟨h1, h2, h3, k', h4, h5, h6, h7⟩ := h
  have hkk : k' = k := by
    have e : nI k' = nI k := h5.symm.trans hk
    exact (nI_eq (by omega) (by omega)).mp e
  subst hkk
  have hR : zR (zsI (zsR S 22 sn (upd (zR S 22 sn) k' t)) 164 w (nI (k' + 1))) 22 sn = upd (zR S 22 sn) k' t := zR_s _ _ _ _
  refine ⟨h1.tr (zChg.R.tr (zChg.I (Or.inr rfl))), zI_t (by decide) h2, h3, k' + 1, by omega, zI_s _ _ _ _, ?_, ?_⟩
  · rw [hR]
    constructor
    · intro q
      refine ⟨h6.mp (fun j hj => ?_), ?_⟩
      · have := q j (by omega)
        rwa [pk_un (by omega)] at this
      · have := q k' (by omega)
        rwa [pk_us] at this
    · rintro ⟨g1, g2⟩ j hj
      by_cases e : j = k'
      · subst e
        rw [pk_us]
        exact g2
      · rw [pk_un e]
        exact h6.mpr g1 j (by omega)
  · rw [hR]
    intro j hj
    by_cases e : j = k'
    · subst e
      rw [pk_us]
      omega
    · rw [pk_un e]
      have := h7 j (by omega)
      omega
/-- two wires are sent over, in turns -/
def zTwo (S0 S : zS) (w1 n1 w2 n2 : Nat) (c1 : Int32) (g1 : Prop) (x1 : Int) (k1 : Nat) (c2 : Int32) (g2 : Prop) (x2 : Int) (k2 : Nat) : Prop := zPl S0 S ∧ zSnd S S w1 n1 c1 g1 x1 k1 ∧ zSnd S S w2 n2 c2 g2 x2 k2
theorem zTwo.one {S0 S S1 : zS} {w1 n1 w2 n2 : Nat} {c1 : Int32} {g1 : Prop} {x1 : Int} {k1 : Nat} {c2 : Int32} {g2 : Prop} {x2 : Int} {k2 : Nat} {c : Int32} {g g' : Prop} {x x' : Int} {k : Nat} (h : zTwo S0 S w1 n1 w2 n2 c1 g1 x1 k1 c2 g2 x2 k2) (hd : w1 ≠ w2 ∧ n1 ≠ n2) (hs : zSnd S S1 w1 n1 c g x k ∧ zChg S S1 w1 n1) (hg : g ↔ g') (hx : x ≤ x') : zTwo S0 S1 w1 n1 w2 n2 c g' x' k c2 g2 x2 k2 :=
  ⟨h.1.tr (zPl.chg hs.2), hs.1.self.weak hg (Nat.le_refl _) hx, h.2.2.frame hs.2 (Ne.symm hd.1) (Ne.symm hd.2)⟩
theorem zTwo.two {S0 S S1 : zS} {w1 n1 w2 n2 : Nat} {c1 : Int32} {g1 : Prop} {x1 : Int} {k1 : Nat} {c2 : Int32} {g2 : Prop} {x2 : Int} {k2 : Nat} {c : Int32} {g g' : Prop} {x x' : Int} {k : Nat} (h : zTwo S0 S w1 n1 w2 n2 c1 g1 x1 k1 c2 g2 x2 k2) (hd : w1 ≠ w2 ∧ n1 ≠ n2) (hs : zSnd S S1 w2 n2 c g x k ∧ zChg S S1 w2 n2) (hg : g ↔ g') (hx : x ≤ x') : zTwo S0 S1 w1 n1 w2 n2 c1 g1 x1 k1 c g' x' k :=
  ⟨h.1.tr (zPl.chg hs.2), h.2.1.frame hs.2 hd.1 hd.2, hs.1.self.weak hg (Nat.le_refl _) hx⟩
theorem zX.fix {S S' : zS} {a : Nat → Nat} (f : zFix S S') (h : zX S a) : zX S' a := by
  unfold zX zWire zCap zDev zTrg at h ⊢
  rw [f.1, f.2.1, f.2.2.1, f.2.2.2]
  exact h
theorem zct_all {p : Nat → Bool} : ∀ {n : Nat}, (∀ j, j < n → p j = true) → zct p n = n
  | 0, _ => rfl
  | n + 1, h => by rw [zct_t (h n (by omega)), zct_all (fun j hj => h j (by omega))]
/-- a tick behind all of a wire's flips is put in -/
theorem zflp_step {S2 S3 : zS} {w tk i : Nat} {p : Int32} (h161 : zI S2 161 w = nI i) (hi : i < 64) (hj : ∀ j, j < i → zR S2 22 tk j < p)
    (h : zFlp S2 S3 w tk ∧ ((zwHas S2 w tk p = true ∧ S3 = zsI (zsR S2 22 tk (zdel (zR S2 22 tk) (zwC S2 w tk p) (zwN S2 w))) 161 w (zI S2 161 w - 1)) ∨ (¬ zwHas S2 w tk p = true ∧ (0 ≤ zI S2 161 w ∧ zI S2 161 w < 364) ∧ S3 = zsI (zsR S2 22 tk (zins (zR S2 22 tk) (zwC S2 w tk p) (zI S2 161 w).toNatClampNeg p)) 161 w (zI S2 161 w + 1)) ∨ (¬ zwHas S2 w tk p = true ∧ ¬ (0 ≤ zI S2 161 w ∧ zI S2 161 w < 364) ∧ S3 = S2))) :
    zI S3 161 w = nI (i + 1) ∧ (∀ j, j < i → zR S3 22 tk j = zR S2 22 tk j) ∧ zR S3 22 tk i = p := by
  have hN : zwN S2 w = i := by
    show min (zI S2 161 w).toNatClampNeg 364 = i
    rw [h161, nI_clamp (by omega)]
    omega
  have hC : zwC S2 w tk p = i := by
    unfold zwC
    rw [hN]
    exact zct_all (fun j hjj => decide_eq_true (hj j hjj))
  rcases h.2 with ⟨q, _⟩ | ⟨_, _, e⟩ | ⟨_, q, _⟩
  · have := (zwHas_iff _ _ _ _).mp q
    rw [hC, hN] at this
    omega
  · rw [hC, h161, nI_clamp (by omega)] at e
    rw [e]
    have hR : zR (zsI (zsR S2 22 tk (zins (zR S2 22 tk) i i p)) 161 w (nI i + 1)) 22 tk = zins (zR S2 22 tk) i i p := zR_s _ _ _ _
    refine ⟨?_, fun j hjj => ?_, ?_⟩
    · rw [zI_s, nI_1]
    · rw [hR]
      unfold zins
      rw [if_pos hjj]
    · rw [hR]
      unfold zins
      rw [if_neg (by omega), if_pos rfl]
  · rw [h161] at q
    exact absurd ⟨nI_pos' (by omega), nI_lt (b := 364) (by omega) (by omega)⟩ q
theorem zcap_nn {p1 p2 p3 : Int32} (h1 : 0 ≤ p1 ∧ p1 ≤ 9999) (h2 : 1 ≤ p2 ∧ p2 ≤ 99) (h3 : 1 ≤ p3 ∧ p3 ≤ 400) : 0 ≤ p1 + p2 * (p3 - 1) := by
  obtain ⟨A, hA, rfl⟩ := nI_of2 (x := p1) (M := 9999) (n := 9999) rfl (by grind) h1.2
  obtain ⟨B, hB, rfl⟩ := nI_of2 (x := p2) (M := 99) (n := 99) rfl (by grind) h2.2
  obtain ⟨C, hC, rfl⟩ := nI_of2 (x := p3) (M := 400) (n := 400) rfl (by grind) h3.2
  have hC1 : 1 ≤ C := by
    have := h3.1
    rw [Int32.le_iff_toInt_le, nI_toInt (by omega)] at this
    have h1 : (1 : Int32).toInt = 1 := rfl
    omega
  have hm : B * (C - 1) ≤ 99 * 399 := Nat.mul_le_mul hB (by omega)
  rw [show (nI C - 1 : Int32) = nI (C - 1) from pk_sub (b := 1) hC1, pk_mul, nI_add]
  exact nI_pos' (by omega)
/-! a serial byte -/
def zhb (w b : Int32) : Prop := (w >>> (b &&& 31)) &&& 1 = 1
def zsbN (par : Int32) : Nat := if par = 110 then 10 else 11
def zus (x k : Int32) : Int32 := (x.toUInt32 >>> (k.toUInt32 &&& Int32.toUInt32 31)).toInt32
def zbc1 (p : Int32) : Int32 := p - (zus p 1 &&& 1431655765)
def zbc2 (x : Int32) : Int32 := (x &&& 858993459) + (zus x 2 &&& 858993459)
def zbc3 (x : Int32) : Int32 := (x + zus x 4) &&& 252645135
def zbc4 (x : Int32) : Int32 := x + zus x 8
def zbc5 (x : Int32) : Int32 := x + zus x 16
def zbc (p : Int32) : Int32 := zbc5 (zbc4 (zbc3 (zbc2 (zbc1 p)))) &&& 63
def zpo (v par : Int32) : Int32 := if par = 111 then 1 - (zbc v &&& 1) else zbc v &&& 1
def zsw (v par : Int32) : Int32 := (if par = 110 then v <<< ((1 : Int32) &&& 31) else (v <<< ((1 : Int32) &&& 31)) ||| (zpo v par <<< ((9 : Int32) &&& 31))) ||| ((1 : Int32) <<< ((nI (zsbN par) - 1) &&& 31))
def zbv (w b : Int32) : Int32 := if (w >>> (b &&& 31)) &&& 1 = 1 then 1 else 0
theorem zbv_1 {w b : Int32} (h : (w >>> (b &&& 31)) &&& 1 = 1) : (1 : Int32) = zbv w b := by unfold zbv; rw [if_pos h]
theorem zbv_0 {w b : Int32} (h : ¬ (w >>> (b &&& 31)) &&& 1 = 1) : (0 : Int32) = zbv w b := by unfold zbv; rw [if_neg h]
theorem zbv_01 (w b : Int32) : zbv w b = 0 ∨ zbv w b = 1 := by
  unfold zbv
  split
  · exact Or.inr rfl
  · exact Or.inl rfl
/-- the levels of a serial byte -/
def zlS (v par : Int32) : Nat → Int32
  | 0 => 1
  | j + 1 => zbv (zsw v par) (nI j)
/-- .. of a byte that is answered or not -/
def zan (v b : Int32) : Int32 := (v <<< ((1 : Int32) &&& 31)) ||| (if b = 0 then 1 else 0)
def zno (b : Int32) : Int32 := if b = 0 then 1 else 0
theorem zno_01 (b : Int32) : zno b = 0 ∨ zno b = 1 := by
  unfold zno
  split
  · exact Or.inr rfl
  · exact Or.inl rfl
/-- two wires: the clock's levels, and the data's -/
def zlC : Nat → Int32
  | 0 => 1
  | 1 => 0
  | j + 2 => if j % 2 = 0 then 1 else 0
def zlD (w : Int32) : Nat → Int32
  | 0 => 1
  | 1 => 0
  | j + 2 => if j < 27 then zbv w (26 - nI j) else if j = 27 then 0 else 1
/-- the steps (halves) behind the beginning at which they are sent -/
def zmC (j : Nat) : Nat := j + 1
def zmD : Nat → Nat
  | 0 => 0
  | j + 1 => if j < 27 then 2 * j + 1 else if j = 27 then 55 else 57
/-- four wires: select, clock, data -/
def zlL : Nat → Int32
  | 0 => 1
  | 1 => 0
  | _ => 1
def zmL (j : Nat) : Nat := if j = 0 then 0 else 17
def zlF (ih : Int32) : Nat → Int32
  | 0 => ih
  | j + 1 => if j % 2 = 0 then zno ih else ih
def zlG (v : Int32) : Nat → Int32
  | 0 => 0
  | j + 1 => if j < 8 then zbv v (7 - nI j) else 0
def zmG (lt : Int32) (j : Nat) : Nat := if j < 8 then (if lt = 0 then 2 * j else 2 * j + 1) else 17
def kd_serial (p0 p1 p2 p3 p4 : Int32) : Int32 := if ¬ zw p0 then 1 else if ¬ (zb8 p1 ∧ zt p2 ∧ (2 ≤ p3 ∧ p3 ≤ 50) ∧ zpar p4) then 2 else if zgd (zlS p1 p4) (ztk p2 p3) (zsbN p4) then 0 else 3
def zwd2 (p2 p3 p4 p5 : Int32) : Int32 := ((zan (p2 * 2 + p3) 1 <<< ((9 : Int32) &&& 31) ||| zan p4 1) <<< ((9 : Int32) &&& 31)) ||| zan p5 1
def kd_two (p0 p1 p2 p3 p4 p5 p6 p7 : Int32) : Int32 := if ¬ (zw p0 ∧ zw p1) then 1 else if ¬ ((0 ≤ p2 ∧ p2 ≤ 127) ∧ (0 ≤ p4 ∧ p4 ≤ 15) ∧ zb8 p5 ∧ zt p6 ∧ (1 ≤ p7 ∧ p7 ≤ 50) ∧ ¬ p0 = p1) then 2 else if zgd zlC (fun j => ztk p6 p7 (zmC j)) 56 ∧ zgd (zlD (zwd2 p2 p3 p4 p5)) (fun j => ztk p6 p7 (zmD j)) 30 then 0 else 3
def zlt2 (p : Int32) : Int32 := if p - p / 2 * 2 = 1 then 1 else 0
def zge2 (p : Int32) : Int32 := if p < 2 then 0 else 1
def kd_four (p0 p1 p2 p3 p4 p5 p6 : Int32) : Int32 := if ¬ (zw p0 ∧ zw p1 ∧ zw p2) then 1 else if ¬ (zb8 p3 ∧ zt p4 ∧ (1 ≤ p5 ∧ p5 ≤ 50) ∧ (0 ≤ p6 ∧ p6 ≤ 3) ∧ ¬ p0 = p1 ∧ ¬ p0 = p2 ∧ ¬ p1 = p2) then 2 else if zgd (zlF (zge2 p6)) (fun j => ztk p4 p5 (j + 1)) 16 ∧ zgd (zlG p3) (fun j => ztk p4 p5 (zmG (zlt2 p6) j)) 9 ∧ zgd zlL (fun j => ztk p4 p5 (zmL j)) 2 then 0 else 3
theorem zsbN_le (p : Int32) : zsbN p ≤ 11 := by
  unfold zsbN
  split <;> omega
theorem zrI {S : zS} {t w sn j : Nat} {v : Int32} {f : Nat → Int32} : zR (zsI (zsR S 22 sn f) t w v) 22 sn j = f j := congrFun (zR_s S 22 sn f) j
theorem zgl {p1 p2 : Int32} (h1 : 0 ≤ p1 ∧ p1 ≤ 9999) (h2 : 1 ≤ p2 ∧ p2 ≤ 99) : p1.toInt + 1 ≤ (p1 + p2).toInt := by
  obtain ⟨A, hA, rfl⟩ := nI_of2 (x := p1) (M := 9999) (n := 9999) rfl (by grind) h1.2
  obtain ⟨B, hB, rfl⟩ := nI_of2 (x := p2) (M := 99) (n := 99) rfl (by grind) h2.2
  have h3 := h2.1
  rw [Int32.le_iff_toInt_le, nI_toInt (by omega)] at h3
  have h4 : (1 : Int32).toInt = 1 := rfl
  rw [nI_add, nI_toInt (by omega), nI_toInt (by omega)]
  omega
theorem zasc2 {S : zS} {t w t' w' sn : Nat} {v v' p1 p2 : Int32} (h : p1.toInt + 1 ≤ (p1 + p2).toInt) : ∀ i j, i < j → j < 2 → zR (zsI (zsR (zsI (zsR S 22 sn (upd (zR S 22 sn) 0 p1)) t w v) 22 sn (upd (zR (zsI (zsR S 22 sn (upd (zR S 22 sn) 0 p1)) t w v) 22 sn) 1 (p1 + p2))) t' w' v') 22 sn i < zR (zsI (zsR (zsI (zsR S 22 sn (upd (zR S 22 sn) 0 p1)) t w v) 22 sn (upd (zR (zsI (zsR S 22 sn (upd (zR S 22 sn) 0 p1)) t w v) 22 sn) 1 (p1 + p2))) t' w' v') 22 sn j := by
  intro i j h1 h2
  obtain ⟨rfl, rfl⟩ : i = 0 ∧ j = 1 := by omega
  rw [zrI, zrI, pk_us, pk_un (by decide), zrI, pk_us, Int32.lt_iff_toInt_lt]
  omega
theorem zIR {S : zS} {w sn : Nat} {f : Nat → Int32} {v u : Int32} (h : zI S 161 w = u) : zI (zsI (zsR S 22 sn f) 164 w v) 161 w = u := zI_t (by decide) h
