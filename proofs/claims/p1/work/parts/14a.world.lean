/-! the world at the law's entry, out of what the statement gives -/
theorem zarr1 {args : Array Value} {s : State} {ty : FieldType} (h : (Cond.arrayClass ty).before args s = true) : ∃ c : ClassId, ArrOfT s c ty ∧ s.vm.findClass ("[" ++ ty.toString) = some c := by
  obtain ⟨c, k, comp, h1, h2, h3⟩ := Cond.arrayClass_spec h
  exact ⟨c, fun n z => ⟨fun k h => (by cases h), k, h2, comp, h3⟩, h1⟩
theorem zarr2 {args : Array Value} {s : State} {C : String} (h : (Cond.arrayOver (.object C)).before args s = true) : ∃ c : ClassId, ArrOfT s c (.object C) ∧ va_RA s c (.object C) := by
  obtain ⟨comp, c, k, h1, -, h3, h4, h5⟩ := Cond.arrayOver_spec h
  exact ⟨c, fun n z => ⟨fun k h => (by cases h), k, h3, comp, h4⟩, k, comp, h3, h4, h1, h5⟩
theorem zarr3 {args : Array Value} {s : State} {t : FieldType} (h : (Cond.arrayOver (.array t)).before args s = true) : ∃ (c comp : ClassId) (k : Class), ArrOfT s c (.array t) ∧ s.vm.findClass ("[" ++ (FieldType.array t).toString) = some c ∧ s.vm.findClass (FieldType.array t).toString = some comp ∧ s.vm.classes[c]? = some k ∧ k.kind = .array comp (.array t) := by
  obtain ⟨comp, c, k, h1, h2, h3, h4⟩ := Cond.arrayOver_specA h
  exact ⟨c, comp, k, fun n z => ⟨fun k h => (by cases h), k, h2, comp, h3⟩, h4, h1, h2, h3⟩
theorem zy_of (c21 c22 c23 c24 c31 c32 c33 c34 c35 a90 a91 a92 : Nat) : ∃ y : Nat → ClassId, (y 21 = c21 ∧ y 22 = c22 ∧ y 23 = c23 ∧ y 24 = c24 ∧ y 31 = c31 ∧ y 32 = c32 ∧ y 33 = c33 ∧ y 34 = c34 ∧ y 35 = c35) ∧ y 90 = a90 ∧ y 91 = a91 ∧ y 92 = a92 ∧ y 94 = 0 :=
  ⟨fun k => if k = 21 then c21 else if k = 22 then c22 else if k = 23 then c23 else if k = 24 then c24 else if k = 31 then c31 else if k = 32 then c32 else if k = 33 then c33 else if k = 34 then c34 else if k = 35 then c35 else if k = 90 then a90 else if k = 91 then a91 else if k = 92 then a92 else 0, ⟨rfl, rfl, rfl, rfl, rfl, rfl, rfl, rfl, rfl⟩, rfl, rfl, rfl, rfl⟩
theorem zNw_in : ∀ w ∈ zNw, w ∈ lw_tbl := by decide +kernel
theorem zStr_in : ∀ q ∈ zStr, Cond.stringRef q.1 q.2.1 q.2.2 ∈ lw_tbl := by decide +kernel
theorem zStr_ex : ∀ q ∈ zStr, Cond.exactly (.string q.1 q.2.1) "java/lang/String" ∈ flatC (Jvm.Cond.and given_1 narrow_1) := by decide +kernel
theorem zNc_in : ∀ E ∈ zEx, ∀ E' ∈ zEx, E ≠ E' → Cond.not (.castable E E') ∈ flatC (Jvm.Cond.and given_1 narrow_1) := by decide +kernel
theorem zAo_in : ∀ C ∈ zAo, Cond.arrayOver (.object C) ∈ lw_tbl := by decide +kernel
theorem zel_in : ∀ j, j < 5 → Cond.eq (.elem (.field (.string "ProbehallModel" 181) "java/lang/String" "value" "[B") (.int (Int32.ofNat j))) (.int (([114, 102, 104, 108, 116] : List Int32).getD j 0)) ∈ flatC (Jvm.Cond.and given_1 narrow_1) := by decide +kernel
theorem zKn_of {s : State} {args : Array Value} (hts : ∀ w ∈ lw_tbl, w.before args s = true) : ∃ D : va_G, ∀ (k : Nat) (q : vw_C), vwCl[k]? = some q → u_Kn s q.1 q.2.1 q.2.2 (D.1 k) (D.2 k) := by
  obtain ⟨c0, i0, h0⟩ := u_known (C := RJ6) (T := TJ6) (N := 1) (n := 1) hts inJ6 (hts (.instantiable RJ6 1) (by decide +kernel))
  obtain ⟨c1, i1, h1⟩ := u_known (C := RJx35411) (T := TJx35411) (N := 4) (n := 4) hts inJx35411 (hts (.instantiable RJx35411 4) (by decide +kernel))
  obtain ⟨c2, i2, h2⟩ := u_known (C := RJx4a65c) (T := TJx4a65c) (N := 3) (n := 3) hts inJx4a65c (hts (.instantiable RJx4a65c 3) (by decide +kernel))
  obtain ⟨c3, i3, h3⟩ := u_known (C := RX0) (T := TX0) (N := 2) (n := 2) hts inX0 (hts (.instantiable RX0 2) (by decide +kernel))
  obtain ⟨c4, i4, h4⟩ := u_known (C := RX1) (T := TX1) (N := 1) (n := 1) hts inX1 (hts (.instantiable RX1 1) (by decide +kernel))
  obtain ⟨c5, i5, h5⟩ := u_known (C := RX2) (T := TX2) (N := 4) (n := 4) hts inX2 (hts (.instantiable RX2 4) (by decide +kernel))
  obtain ⟨c6, i6, h6⟩ := u_known (C := RX3) (T := TX3) (N := 6) (n := 6) hts inX3 (hts (.instantiable RX3 6) (by decide +kernel))
  obtain ⟨c7, i7, h7⟩ := u_known (C := RX4) (T := TX4) (N := 4) (n := 4) hts inX4 (hts (.instantiable RX4 4) (by decide +kernel))
  obtain ⟨c8, i8, h8⟩ := u_known (C := RX5) (T := TX5) (N := 10) (n := 10) hts inX5 (hts (.instantiable RX5 10) (by decide +kernel))
  obtain ⟨c9, i9, h9⟩ := u_known (C := RX6) (T := TX6) (N := 6) (n := 6) hts inX6 (hts (.instantiable RX6 6) (by decide +kernel))
  obtain ⟨c10, i10, h10⟩ := u_known (C := RX7) (T := TX7) (N := 8) (n := 8) hts inX7 (hts (.instantiable RX7 8) (by decide +kernel))
  obtain ⟨c11, i11, h11⟩ := u_known (C := RX8) (T := TX8) (N := 5) (n := 5) hts inX8 (hts (.instantiable RX8 5) (by decide +kernel))
  obtain ⟨c12, i12, h12⟩ := u_known (C := RX9) (T := TX9) (N := 5) (n := 5) hts inX9 (hts (.instantiable RX9 5) (by decide +kernel))
  obtain ⟨c13, i13, h13⟩ := u_known (C := RX10) (T := TX10) (N := 3) (n := 3) hts inX10 (hts (.instantiable RX10 3) (by decide +kernel))
  obtain ⟨c14, i14, h14⟩ := u_known (C := RX11) (T := TX11) (N := 10) (n := 10) hts inX11 (hts (.instantiable RX11 10) (by decide +kernel))
  refine ⟨(fun k => if k = 0 then c0 else if k = 1 then c1 else if k = 2 then c2 else if k = 3 then c3 else if k = 4 then c4 else if k = 5 then c5 else if k = 6 then c6 else if k = 7 then c7 else if k = 8 then c8 else if k = 9 then c9 else if k = 10 then c10 else if k = 11 then c11 else if k = 12 then c12 else if k = 13 then c13 else c14, fun k => if k = 0 then i0 else if k = 1 then i1 else if k = 2 then i2 else if k = 3 then i3 else if k = 4 then i4 else if k = 5 then i5 else if k = 6 then i6 else if k = 7 then i7 else if k = 8 then i8 else if k = 9 then i9 else if k = 10 then i10 else if k = 11 then i11 else if k = 12 then i12 else if k = 13 then i13 else i14), fun k q hq => ?_⟩
  match k, hq with
  | 0, hq => cases hq; exact h0
  | 1, hq => cases hq; exact h1
  | 2, hq => cases hq; exact h2
  | 3, hq => cases hq; exact h3
  | 4, hq => cases hq; exact h4
  | 5, hq => cases hq; exact h5
  | 6, hq => cases hq; exact h6
  | 7, hq => cases hq; exact h7
  | 8, hq => cases hq; exact h8
  | 9, hq => cases hq; exact h9
  | 10, hq => cases hq; exact h10
  | 11, hq => cases hq; exact h11
  | 12, hq => cases hq; exact h12
  | 13, hq => cases hq; exact h13
  | 14, hq => cases hq; exact h14
  | k + 15, hq => simp [vwCl] at hq
theorem zV_of {p : Program} {s : State} {m : MethodId} {meth : Method} {c : Code} {b L : Nat} {xs : Nat → Int32} (C0 : lw_At p s m meth c b L xs) : ∃ (D : va_G) (y : Nat → ClassId), y 94 = 0 ∧ zV D y s.heap.size s s.heap := by
  obtain ⟨hx, hb, hr, hml, hown, hts, hX, hbl, hlocks, hgv⟩ := id C0
  have hfl := flat_of_before _ hgv
  have hA : ∀ a : Nat, a < s.heap.size → ¬ zA s.heap.size a := fun a h => Nat.not_le.mpr h
  obtain ⟨D, hD⟩ := zKn_of hts
  obtain ⟨c21, a21, b21⟩ := zarr1 (ty := .char) (hts _ (by decide +kernel))
  obtain ⟨c22, a22, b22⟩ := zarr1 (ty := .int) (hts _ (by decide +kernel))
  obtain ⟨c23, a23, b23⟩ := zarr1 (ty := .boolean) (hts _ (by decide +kernel))
  obtain ⟨c24, a24, b24⟩ := zarr1 (ty := .long) (hts _ (by decide +kernel))
  obtain ⟨c31, a31, b31⟩ := zarr2 (C := RX0) (hts _ (by decide +kernel))
  obtain ⟨c32, a32, b32⟩ := zarr2 (C := RX6) (hts _ (by decide +kernel))
  obtain ⟨c33, a33, b33⟩ := zarr2 (C := "java/lang/Object") (hts _ (by decide +kernel))
  have hoi : va_AOA .int s := over_moved (Vm.Alike.refl s.vm) (hts (.arrayOver (.array .int)) (by decide +kernel))
  have hoz : va_AOA .boolean s := over_moved (Vm.Alike.refl s.vm) (hts (.arrayOver (.array .boolean)) (by decide +kernel))
  obtain ⟨c34, d34, k34, a34, b34, e34, f34, g34⟩ := zarr3 (args := #[]) hoi
  obtain ⟨c35, d35, k35, a35, b35, e35, f35, g35⟩ := zarr3 (args := #[]) hoz
  obtain ⟨a92, -, -, -, i1, -⟩ := Cond.exactly_spec (args := #[Value.ref b]) (first := s) (o := none) (s := s) (idx := []) (t := .static "java/util/ArrayList" "DEFAULTCAPACITY_EMPTY_ELEMENTDATA" "[Ljava/lang/Object;") (cls := "[Ljava/lang/Object;") (hfl _ (by decide +kernel))
  obtain ⟨t92, i2, i3⟩ := va_Tof (N := 0) (f := fun _ => .null) (ty := .object "java/lang/Object") (tm := .static "java/util/ArrayList" "DEFAULTCAPACITY_EMPTY_ELEMENTDATA" "[Ljava/lang/Object;") (A := zA s.heap.size) (by decide) (hfl _ (by decide +kernel)) (va_eqt (hfl (.eq (.length (.static "java/util/ArrayList" "DEFAULTCAPACITY_EMPTY_ELEMENTDATA" "[Ljava/lang/Object;")) (.int 0)) (by decide +kernel))) (fun j hj => absurd hj (Nat.not_lt_zero j)) hA
  have e92 : t92 = a92 := by
    have h := Option.some.inj (i2.symm.trans i1)
    injection h
  subst e92
  obtain ⟨adK, adV, j1, j2⟩ := vk_Sof (args := #[Value.ref b]) (s := s) (N := 1) (tm := fun _ => .string "ProbehallModel" 181) (len := [5]) (byt := [[114, 102, 104, 108, 116]]) (A := zA s.heap.size) (fun i hi => by rw [show i = 0 by omega]; decide) (fun i hi => hfl _ (by decide +kernel)) (fun i hi => hfl _ (by decide +kernel)) (fun i hi => hfl _ (by decide +kernel)) (fun i hi => by rw [show i = 0 by omega]; exact hfl _ (by decide +kernel)) (fun i hi j hj => by rw [show i = 0 by omega] at hj ⊢; exact hfl _ (zel_in j hj)) (fun i j hi hj h => absurd (show i = j by omega) h) hA
  have j3 : vk_S 1 [5] [[114, 102, 104, 108, 116]] (fun _ => adK 0) (fun _ => adV 0) (zA s.heap.size) s s.heap := ⟨fun i hi => by rw [show i = 0 by omega]; exact j1.1 0 (by decide), fun i j hi hj _ => by omega⟩
  have j4 : vk_R "ProbehallModel" 181 "rfhlt" (adK 0) s := vk_R.of (hts _ (by decide +kernel)) (j2 0 (by decide))
  obtain ⟨y, ⟨y21, y22, y23, y24, y31, y32, y33, y34, y35⟩, y90, y91, y92, y94⟩ := zy_of c21 c22 c23 c24 c31 c32 c33 c34 c35 (adK 0) (adV 0) t92
  have hK : va_K D vwCl (zT y) s := ⟨hD, fun k q hq => by
    match k, hq with
    | 0, hq => cases hq; rw [y21]; exact ⟨a21, b21⟩
    | 1, hq => cases hq; rw [y22]; exact ⟨a22, b22⟩
    | 2, hq => cases hq; rw [y23]; exact ⟨a23, b23⟩
    | 3, hq => cases hq; rw [y24]; exact ⟨a24, b24⟩
    | 4, hq => cases hq; rw [y31]; exact ⟨a31, b31⟩
    | 5, hq => cases hq; rw [y32]; exact ⟨a32, b32⟩
    | 6, hq => cases hq; rw [y33]; exact ⟨a33, b33⟩
    | 7, hq => cases hq; rw [y34]; exact ⟨a34, b34⟩
    | 8, hq => cases hq; rw [y35]; exact ⟨a35, b35⟩
    | k + 9, hq => simp [zT] at hq⟩
  have u1 : d35 = c23 := Option.some.inj (e35.symm.trans b23)
  have u2 : d34 = c22 := Option.some.inj (e34.symm.trans b22)
  have hArr : zArr y s := ⟨⟨⟨k35, by rw [y35]; exact f35, by rw [y23, ← u1]; exact g35⟩, k34, by rw [y34]; exact f34, by rw [y22, ← u2]; exact g34⟩, hoz, hoi⟩
  have hJ : zJdk y s.heap.size s s.heap := by
    refine ⟨⟨?_, ?_⟩, ?_, ⟨?_, ?_⟩, ?_⟩
    · rw [y92]
      exact va_Zref (hts _ (by decide +kernel)) (hts _ (by decide +kernel)) i1 hA
    · rw [y92]
      exact i3
    · exact va_Zof (hts _ (by decide +kernel)) (hts _ (by decide +kernel)) (va_eqt (hfl (.eq (.static "java/lang/String" "COMPACT_STRINGS" "Z") (.int 1)) (by decide +kernel))) hA
    · rw [y90]
      exact j4
    · rw [y90, y91]
      exact j3
    · exact va_Fw.of (hts _ (by decide +kernel)) (hts _ (by decide +kernel)) (hts _ (by decide +kernel)) (hts _ (by decide +kernel)) (hts _ (by decide +kernel))
  exact ⟨D, y, y94, hK, vx_Zqof (hts _ (by decide +kernel)) (hts _ (by decide +kernel)) (hfl _ (by decide +kernel)) hA, vx_Zqof (hts _ (by decide +kernel)) (hts _ (by decide +kernel)) (hfl _ (by decide +kernel)) hA, fun w hw => va_any (by have := zNw_ok w hw; simp only [Bool.and_eq_true] at this; exact this.2) (hts w (zNw_in w hw)), fun q hq => by
    obtain ⟨a, -, -, -, h1, -⟩ := Cond.exactly_spec (args := #[Value.ref b]) (first := s) (o := none) (s := s) (idx := []) (t := .string q.1 q.2.1) (cls := "java/lang/String") (hfl _ (zStr_ex q hq))
    exact ⟨a, vk_R.of (hts _ (zStr_in q hq)) h1⟩, fun E hE E' hE' hn => va_Nc.of (hfl _ (zNc_in E hE E' hE' hn)), fun C hC => va_AO.of (hts _ (zAo_in C hC)), hArr, hJ⟩
