/-! the world at the law's entry, out of what the statement gives -/
theorem zarr1 {args : Array Value} {s : State} {ty : FieldType} (h : (Cond.arrayClass ty).before args s = true) : ∃ c : ClassId, ArrOfT s c ty ∧ s.vm.findClass ("[" ++ ty.toString) = some c := by
  obtain ⟨c, k, comp, h1, h2, h3⟩ := Cond.arrayClass_spec h
  exact ⟨c, fun n z => ⟨fun k h => (by cases h), k, h2, comp, h3⟩, h1⟩
theorem zarr2 {args : Array Value} {s : State} {C : String} (h : (Cond.arrayOver (.object C)).before args s = true) : ∃ c : ClassId, ArrOfT s c (.object C) ∧ va_RA s c (.object C) := by
  obtain ⟨comp, c, k, h1, -, h3, h4, h5⟩ := Cond.arrayOver_spec h
  exact ⟨c, fun n z => ⟨fun k h => (by cases h), k, h3, comp, h4⟩, k, comp, h3, h4, h1, h5⟩
theorem zy_of (c21 c22 c31 c32 a90 a91 b L : Nat) (xs : Nat → Int32) : ∃ y : Nat → ClassId, (y 21 = c21 ∧ y 22 = c22 ∧ y 31 = c31 ∧ y 32 = c32) ∧ y 90 = a90 ∧ y 91 = a91 ∧ y 94 = 0 ∧ y 98 = b ∧ y 99 = L ∧ ∀ j, zxs y j = xs j :=
  ⟨fun k => if k = 21 then c21 else if k = 22 then c22 else if k = 31 then c31 else if k = 32 then c32 else if k = 90 then a90 else if k = 91 then a91 else if k = 98 then b else if k = 99 then L else if 200 ≤ k then (xs (k - 200)).toBitVec.toNat else 0, ⟨rfl, rfl, rfl, rfl⟩, rfl, rfl, rfl, rfl, rfl, fun j => by
    unfold zxs
    dsimp only
    rw [if_neg (by omega), if_neg (by omega), if_neg (by omega), if_neg (by omega), if_neg (by omega), if_neg (by omega), if_neg (by omega), if_neg (by omega), if_pos (by omega), show 200 + j - 200 = j by omega]
    apply Int32.toBitVec_inj.1
    show BitVec.ofNat 32 (xs j).toBitVec.toNat = (xs j).toBitVec
    first | simp | (rw [BitVec.ofNat_toNat, BitVec.setWidth_eq])⟩
theorem zNw_in : ∀ w ∈ zNw, w ∈ lw_tbl := by decide +kernel
theorem zStr_in : ∀ q ∈ zStr, Cond.stringRef q.1 q.2.1 q.2.2 ∈ lw_tbl := by decide +kernel
theorem zStr_ex : ∀ q ∈ zStr, Cond.exactly (.string q.1 q.2.1) "java/lang/String" ∈ flatC (Jvm.Cond.and given_1 narrow_1) := by decide +kernel
theorem zNc_in : ∀ E ∈ zEx, ∀ E' ∈ zEx, E ≠ E' → Cond.not (.castable E E') ∈ flatC (Jvm.Cond.and given_1 narrow_1) := by decide +kernel
theorem zAo_in : ∀ C ∈ zAo, Cond.arrayOver (.object C) ∈ lw_tbl := by decide +kernel
theorem zel_in : ∀ j, j < 3 → Cond.eq (.elem (.field (.string "ProbehallLaw" 196) "java/lang/String" "value" "[B") (.int (Int32.ofNat j))) (.int (([110, 101, 111] : List Int32).getD j 0)) ∈ flatC (Jvm.Cond.and given_1 narrow_1) := by decide +kernel
theorem zKn_of {s : State} {args : Array Value} (hts : ∀ w ∈ lw_tbl, w.before args s = true) : ∃ D : va_G, ∀ (k : Nat) (q : vw_C), vwCl[k]? = some q → u_Kn s q.1 q.2.1 q.2.2 (D.1 k) (D.2 k) := by
  obtain ⟨c0, i0, h0⟩ := u_known (C := RX0) (T := TX0) (N := 2) (n := 2) hts inX0 (hts (.instantiable RX0 2) (by decide +kernel))
  obtain ⟨c1, i1, h1⟩ := u_known (C := RX1) (T := TX1) (N := 1) (n := 1) hts inX1 (hts (.instantiable RX1 1) (by decide +kernel))
  obtain ⟨c2, i2, h2⟩ := u_known (C := RX2) (T := TX2) (N := 4) (n := 4) hts inX2 (hts (.instantiable RX2 4) (by decide +kernel))
  obtain ⟨c3, i3, h3⟩ := u_known (C := RX3) (T := TX3) (N := 6) (n := 6) hts inX3 (hts (.instantiable RX3 6) (by decide +kernel))
  obtain ⟨c4, i4, h4⟩ := u_known (C := RX4) (T := TX4) (N := 4) (n := 4) hts inX4 (hts (.instantiable RX4 4) (by decide +kernel))
  obtain ⟨c5, i5, h5⟩ := u_known (C := RX5) (T := TX5) (N := 10) (n := 10) hts inX5 (hts (.instantiable RX5 10) (by decide +kernel))
  obtain ⟨c6, i6, h6⟩ := u_known (C := RX6) (T := TX6) (N := 6) (n := 6) hts inX6 (hts (.instantiable RX6 6) (by decide +kernel))
  obtain ⟨c7, i7, h7⟩ := u_known (C := RX7) (T := TX7) (N := 8) (n := 8) hts inX7 (hts (.instantiable RX7 8) (by decide +kernel))
  refine ⟨(fun k => if k = 0 then c0 else if k = 1 then c1 else if k = 2 then c2 else if k = 3 then c3 else if k = 4 then c4 else if k = 5 then c5 else if k = 6 then c6 else c7, fun k => if k = 0 then i0 else if k = 1 then i1 else if k = 2 then i2 else if k = 3 then i3 else if k = 4 then i4 else if k = 5 then i5 else if k = 6 then i6 else i7), fun k q hq => ?_⟩
  match k, hq with
  | 0, hq => cases hq; exact h0
  | 1, hq => cases hq; exact h1
  | 2, hq => cases hq; exact h2
  | 3, hq => cases hq; exact h3
  | 4, hq => cases hq; exact h4
  | 5, hq => cases hq; exact h5
  | 6, hq => cases hq; exact h6
  | 7, hq => cases hq; exact h7
  | k + 8, hq => simp [vwCl] at hq
theorem zV_of {p : Program} {s : State} {m : MethodId} {meth : Method} {c : Code} {b L : Nat} {xs : Nat → Int32} (C0 : lw_At p s m meth c b L xs) : ∃ (D : va_G) (y : Nat → ClassId), y 94 = 0 ∧ y 98 = b ∧ y 99 = L ∧ zV D y s.heap.size s s.heap := by
  obtain ⟨hx, hb, hr, hml, hown, hts, hX, hbl, hlocks, hgv⟩ := id C0
  have hfl := flat_of_before _ hgv
  have hA : ∀ a : Nat, a < s.heap.size → ¬ zA s.heap.size a := fun a h => Nat.not_le.mpr h
  obtain ⟨D, hD⟩ := zKn_of hts
  obtain ⟨c21, a21, b21⟩ := zarr1 (ty := .char) (hts _ (by decide +kernel))
  obtain ⟨c22, a22, b22⟩ := zarr1 (ty := .int) (hts _ (by decide +kernel))
  obtain ⟨c31, a31, b31⟩ := zarr2 (C := RX0) (hts _ (by decide +kernel))
  obtain ⟨c32, a32, b32⟩ := zarr2 (C := RX6) (hts _ (by decide +kernel))
  obtain ⟨adK, adV, j1, j2⟩ := vk_Sof (args := #[Value.ref b]) (s := s) (N := 1) (tm := fun _ => .string "ProbehallLaw" 196) (len := [3]) (byt := [[110, 101, 111]]) (A := zA s.heap.size) (fun i hi => by rw [show i = 0 by omega]; decide) (fun i hi => hfl _ (by decide +kernel)) (fun i hi => hfl _ (by decide +kernel)) (fun i hi => hfl _ (by decide +kernel)) (fun i hi => by rw [show i = 0 by omega]; exact hfl _ (by decide +kernel)) (fun i hi j hj => by rw [show i = 0 by omega] at hj ⊢; exact hfl _ (zel_in j hj)) (fun i j hi hj h => absurd (show i = j by omega) h) hA
  have j3 : vk_S 1 [3] [[110, 101, 111]] (fun _ => adK 0) (fun _ => adV 0) (zA s.heap.size) s s.heap := ⟨fun i hi => by rw [show i = 0 by omega]; exact j1.1 0 (by decide), fun i j hi hj _ => by omega⟩
  have j4 : vk_R "ProbehallLaw" 196 "neo" (adK 0) s := vk_R.of (hts _ (by decide +kernel)) (j2 0 (by decide))
  obtain ⟨y, ⟨y21, y22, y31, y32⟩, y90, y91, y94, y98, y99, yx⟩ := zy_of c21 c22 c31 c32 (adK 0) (adV 0) b L xs
  have hK : va_K D vwCl (zT y) s := ⟨hD, fun k q hq => by
    match k, hq with
    | 0, hq => cases hq; rw [y21]; exact ⟨a21, b21⟩
    | 1, hq => cases hq; rw [y22]; exact ⟨a22, b22⟩
    | 2, hq => cases hq; rw [y31]; exact ⟨a31, b31⟩
    | 3, hq => cases hq; rw [y32]; exact ⟨a32, b32⟩
    | k + 4, hq => simp [zT] at hq⟩
  have hJ : zJdk y s.heap.size s s.heap := by
    refine ⟨?_, ⟨?_, ?_⟩, ?_, ?_, ?_⟩
    · exact va_Zof (hts _ (by decide +kernel)) (hts _ (by decide +kernel)) (va_eqt (hfl (.eq (.static "java/lang/String" "COMPACT_STRINGS" "Z") (.int 1)) (by decide +kernel))) hA
    · rw [y90]
      exact j4
    · rw [y90, y91]
      exact j3
    · exact va_Zqof (hts _ (by decide +kernel)) (hts _ (by decide +kernel)) (hfl _ (by decide +kernel)) hA
    · rw [y98, y99, show zxs y = xs from funext yx]
      exact hX
    · rw [y98]
      exact hbl
  exact ⟨D, y, y94, y98, y99, hK, vx_Zqof (hts _ (by decide +kernel)) (hts _ (by decide +kernel)) (hfl _ (by decide +kernel)) hA, vx_Zqof (hts _ (by decide +kernel)) (hts _ (by decide +kernel)) (hfl _ (by decide +kernel)) hA, fun w hw => va_any (by have := zNw_ok w hw; simp only [Bool.and_eq_true] at this; exact this.2) (hts w (zNw_in w hw)), fun q hq => by
    obtain ⟨a, -, -, -, h1, -⟩ := Cond.exactly_spec (args := #[Value.ref b]) (first := s) (o := none) (s := s) (idx := []) (t := .string q.1 q.2.1) (cls := "java/lang/String") (hfl _ (zStr_ex q hq))
    exact ⟨a, vk_R.of (hts _ (zStr_in q hq)) h1⟩, fun E hE E' hE' hn => va_Nc.of (hfl _ (zNc_in E hE E' hE' hn)), fun C hC => va_AO.of (hts _ (zAo_in C hC)), trivial, hJ⟩
def zS0 : zS := (fun _ => 0, fun _ _ => 0, fun _ _ => none, fun _ => 0, fun _ _ _ => 0, fun _ _ => none, fun _ _ => 0)
theorem zH0 {D : va_G} {y : Nat → ClassId} {base : Nat} {H : Heap} (hy : y 94 = 0) : zH D y base zS0 H := by
  have hX0 : zXo y = [] := if_pos hy
  refine ⟨[], fun a h => absurd rfl h, ?_, ?_⟩
  · rw [hX0]
    exact fun k q h => by simp [va_pl] at h
  · rw [hX0]
    exact ⟨fun i j p q h => by simp [va_pl] at h, fun k q h => by simp [va_pl] at h⟩

