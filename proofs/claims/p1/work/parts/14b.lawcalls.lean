/-! the law's calls: a method with a table; the row of one long put beside the pool while the reference is called -/
theorem zD_of {A : Nat → Prop} {L : List Nat} {f : Nat → va_E} (hn : L.Nodup) (hA : ∀ a ∈ L, A a) : va_D A (va_pl L f) := by
  refine ⟨fun i j p q hp hq e => ?_, fun k q hk => ?_⟩
  · unfold va_pl at hp hq
    rw [List.getElem?_map] at hp hq
    obtain ⟨a, ha, rfl⟩ := Option.map_eq_some_iff.mp hp
    obtain ⟨a2, ha2, rfl⟩ := Option.map_eq_some_iff.mp hq
    obtain ⟨h1, h2⟩ := List.getElem?_eq_some_iff.mp ha
    obtain ⟨h3, h4⟩ := List.getElem?_eq_some_iff.mp ha2
    have e1 : a = a2 := e
    rcases Nat.lt_trichotomy i j with h | h | h
    · exact absurd (h2.trans (e1.trans h4.symm)) (List.pairwise_iff_getElem.mp hn i j h1 h3 h)
    · exact h
    · exact absurd (h4.trans (e1.symm.trans h2.symm)) (List.pairwise_iff_getElem.mp hn j i h3 h1 h)
  · unfold va_pl at hk
    rw [List.getElem?_map] at hk
    obtain ⟨a, ha, rfl⟩ := Option.map_eq_some_iff.mp hk
    exact hA a (List.mem_of_getElem? ha)
theorem zpl_at {L : List Nat} {f : Nat → va_E} {i : Nat} (hi : i < L.length) : (va_pl L f)[i]? = some (L[i], f L[i]) := by
  unfold va_pl
  rw [List.getElem?_map, List.getElem?_eq_getElem hi]
  rfl
theorem zD_nd {A : Nat → Prop} {L : List Nat} {f : Nat → va_E} (h : va_D A (va_pl L f)) : L.Nodup := List.pairwise_iff_getElem.mpr fun i j hi hj hij e => by
  have := h.1 i j _ _ (zpl_at hi) (zpl_at hj) e
  omega
theorem zD_A {A : Nat → Prop} {L : List Nat} {f : Nat → va_E} {a : Nat} (h : va_D A (va_pl L f)) (ha : a ∈ L) : A a := by
  obtain ⟨i, hi, rfl⟩ := List.getElem_of_mem ha
  exact h.2 i _ (zpl_at hi)
theorem zpl_cons {L : List Nat} {f : Nat → va_E} {o : Nat} {e : va_E} (h : o ∉ L) : [(o, e)] ++ va_pl L f = va_pl (o :: L) (va_up f o e) := by
  unfold va_pl
  rw [List.map_cons, va_up_self, List.singleton_append]
  congr 1
  exact List.map_congr_left fun a ha => by rw [va_up_ne _ _ (fun e => h (by rw [← e]; exact ha))]
theorem zarr_1 (cA : ClassId) {f g : Nat → Int64} (h : f 0 = g 0) : vp_cell cA (1, .inr (.inl f)) = vp_cell cA (1, .inr (.inl g)) := by
  show arrV cA 1 (fun j => .long (f j)) = arrV cA 1 (fun j => .long (g j))
  unfold arrV
  congr 1
  apply congrArg
  funext i
  have e : i.val = 0 := by omega
  rw [e]
  show Value.long (f 0) = Value.long (g 0)
  rw [h]
section ZLAW
variable {p : Program} {l : Launch} {e : Env} {R : Room} {s : State} {m : MethodId} {args : Array Value} {below : List Frame} {meth : Method} {c : Code} {H : Heap} {locs : List Loc} {cells slots : Nat} {Q : State → Prop}
variable {cc : ByteArray} {pc nL : Nat} {ls : Array Slot} {rest st0 : List Value} {D : va_G} {y : Nat → ClassId} {base a : Nat} {S : zS} {Ts : List Cond} {own : String}
theorem zcSW_i (C : CallFix p m c cc nL s args Ts own) (hw : zW D y base S s H locs) {y0 : MethodName} {bytes : ByteArray} {maxL index mc ms : Nat} {ret : Option FieldType} {hh : List (Nat × Nat × Nat × Nat)} {ws ws' : List Cond} {rm : Room} {post : Int32 → zS → Prop} {As : List Value} {n9 : Nat}
    (hM : zMi l y0 ws rm As D y base S post mc ms) (hG : GoodIn Ts (va_wsS own index y0 ws)) (hws : ws = Cond.codeWith y0 bytes maxL ret hh :: ws') (hd : y0.cls ≠ "java/lang/invoke/MethodHandle" ∧ y0.cls ≠ "java/lang/invoke/VarHandle" ∧ (parseMethodDescriptor y0.desc).map (fun d => d.parameters.length) = some n9) (hR : (rm.cells = mc ∧ rm.slots = ms) ∧ rm.frames + 1 ≤ R.frames ∧ 8 + (maxL + 11) + rm.locals ≤ R.locals)
    (hn9 : As.length = n9) (hls : ls.size = nL) (hst : st0 = As.reverse ++ rest) (hcat : (rest.map fun v => v.category).sum ≤ 8) (hf : cells + mc ≤ R.cells ∧ slots + ms ≤ R.slots) (hdg : decode cc pc = .ok (.invokestatic index, 3))
    (kk : ∀ (r : Int32) (S' : zS) (H1 : Heap) (locs1 : List Loc), post r S' → zW D y base S' s H1 locs1 → W p l e R s m args below meth c H1 locs1 (cells + mc) (slots + ms) Q (F0 m (pc + 3) ls (.int r :: rest))) : W p l e R s m args below meth c H locs cells slots Q (F0 m pc ls st0) :=
  va_calli (vx_runSW (hh := hh) (bytes := bytes) (maxL := maxL) (ret := ret) (As := As) (rest := rest) C hM (vx_cwSW n9 C.2.2.2.2 hG hws hR.1.1 hR.1.2 hd hR.2) (zpS hw As) rfl hn9 hls hst (lv_room hcat) hdg hf) hw.2.2.1 (fun _ _ h => h) (fun _ h => h) (fun r u t H1 locs1 ht _ hp hB _ _ hS => kk r u H1 locs1 hp (zOut hw ht hB hS))
theorem zcV_f (C : CallFix p m c cc nL s args Ts own) (hw : zW D y base S s H locs) {y0 : MethodName} {Cn : String} {T : u_T} {N : Nat} {bytes : ByteArray} {maxL index mc ms b k : Nat} {ret : Option FieldType} {ws ws' : List Cond} {rm : Room} {post : UInt32 → zS → Prop} {As : List Value} {n9 : Nat}
    (hM : zMfl l y0 ws rm (.ref b :: As) D y base S post mc ms) (hG : GoodIn Ts (wsV own index Cn y0 ws)) (hws : ws = Cond.code y0 bytes maxL ret :: ws') (hd : y0.cls = Cn ∧ y0.cls ≠ "java/lang/invoke/MethodHandle" ∧ y0.cls ≠ "java/lang/invoke/VarHandle" ∧ (parseMethodDescriptor y0.desc).map (fun d => d.parameters.length) = some n9) (hR : (rm.cells = mc ∧ rm.slots = ms) ∧ rm.frames + 1 ≤ R.frames ∧ 8 + (maxL + 11) + rm.locals ≤ R.locals)
    (hk : zK S b = k) (h0 : 0 < k ∧ k < 21) (hc : vwCl[k - 1]? = some (Cn, T, N)) (hn9 : As.length = n9) (hls : ls.size = nL) (hst : st0 = As.reverse ++ .ref b :: rest) (hcat : (rest.map fun v => v.category).sum ≤ 8) (hf : cells + mc ≤ R.cells ∧ slots + ms ≤ R.slots) (hdg : decode cc pc = .ok (.invokevirtual index, 3))
    (kk : ∀ (r : UInt32) (S' : zS) (H1 : Heap) (locs1 : List Loc), post r S' → zW D y base S' s H1 locs1 → W p l e R s m args below meth c H1 locs1 (cells + mc) (slots + ms) Q (F0 m (pc + 3) ls (.float r :: rest))) : W p l e R s m args below meth c H locs cells slots Q (F0 m pc ls st0) :=
  va_callf (va_runV (As := As) (rest := rest) C hM (cwV n9 C.2.2.2.2 hG hws hR.1.1 hR.1.2 hd hR.2) (zpV hw hk h0.1 h0.2 hc As) rfl hn9 hls hst (lv_room hcat) hdg hf) hw.2.2.1 (fun _ _ h => h) (fun _ h => h) (fun r u t H1 locs1 ht _ hp hB _ _ hS => kk r u H1 locs1 hp (zOut hw ht hB hS))
theorem zcV_d (C : CallFix p m c cc nL s args Ts own) (hw : zW D y base S s H locs) {y0 : MethodName} {Cn : String} {T : u_T} {N : Nat} {bytes : ByteArray} {maxL index mc ms b k : Nat} {ret : Option FieldType} {ws ws' : List Cond} {rm : Room} {post : UInt64 → zS → Prop} {As : List Value} {n9 : Nat}
    (hM : zMdb l y0 ws rm (.ref b :: As) D y base S post mc ms) (hG : GoodIn Ts (wsV own index Cn y0 ws)) (hws : ws = Cond.code y0 bytes maxL ret :: ws') (hd : y0.cls = Cn ∧ y0.cls ≠ "java/lang/invoke/MethodHandle" ∧ y0.cls ≠ "java/lang/invoke/VarHandle" ∧ (parseMethodDescriptor y0.desc).map (fun d => d.parameters.length) = some n9) (hR : (rm.cells = mc ∧ rm.slots = ms) ∧ rm.frames + 1 ≤ R.frames ∧ 8 + (maxL + 11) + rm.locals ≤ R.locals)
    (hk : zK S b = k) (h0 : 0 < k ∧ k < 21) (hc : vwCl[k - 1]? = some (Cn, T, N)) (hn9 : As.length = n9) (hls : ls.size = nL) (hst : st0 = As.reverse ++ .ref b :: rest) (hcat : (rest.map fun v => v.category).sum ≤ 8) (hf : cells + mc ≤ R.cells ∧ slots + ms ≤ R.slots) (hdg : decode cc pc = .ok (.invokevirtual index, 3))
    (kk : ∀ (r : UInt64) (S' : zS) (H1 : Heap) (locs1 : List Loc), post r S' → zW D y base S' s H1 locs1 → W p l e R s m args below meth c H1 locs1 (cells + mc) (slots + ms) Q (F0 m (pc + 3) ls (.double r :: rest))) : W p l e R s m args below meth c H locs cells slots Q (F0 m pc ls st0) :=
  va_calld (va_runV (As := As) (rest := rest) C hM (cwV n9 C.2.2.2.2 hG hws hR.1.1 hR.1.2 hd hR.2) (zpV hw hk h0.1 h0.2 hc As) rfl hn9 hls hst (lv_room hcat) hdg hf) hw.2.2.1 (fun _ _ h => h) (fun _ h => h) (fun r u t H1 locs1 ht _ hp hB _ _ hS => kk r u H1 locs1 hp (zOut hw ht hB hS))
/-- the pool without the thing at o (nor any of a kind that there is not) -/
def zdl (S : zS) (o : Nat) : zS := (fun a => if a = o then 0 else if 90 ≤ S.1 a then 0 else S.1 a, S.2)
theorem zdl_K {S : zS} {o a k : Nat} (h : zK S a = k) (hk : k ≠ 24) (h9 : k < 90) (ho : zK S o = 24) : zK (zdl S o) a = k := by
  show (if a = o then 0 else if 90 ≤ zK S a then 0 else zK S a) = k
  rw [if_neg (fun e => hk (by rw [← h, e, ho])), if_neg (by omega)]
  exact h
theorem zE_dl {y y' : Nat → ClassId} {S : zS} {o a : Nat} (h : a ≠ o) (h9 : zK S a < 90) (hy : ∀ k, k < 90 → y' k = y k) : zE y' (zdl S o) a = zE y S a := by
  have e : zE y (zdl S o) a = zE y S a := zE_eq (by
    show (if a = o then 0 else if 90 ≤ zK S a then 0 else zK S a) = zK S a
    rw [if_neg h, if_neg (by omega)]) (fun _ => rfl) (fun _ => rfl) rfl (fun _ => rfl) rfl rfl
  rw [← e]
  have hk : zK (zdl S o) a < 90 := by
    show (if a = o then 0 else if 90 ≤ zK S a then 0 else zK S a) < 90
    rw [if_neg h, if_neg (by omega)]
    exact h9
  unfold zE
  rw [hy _ hk, hy 24 (by decide)]
def zyo (y : Nat → ClassId) (o n : Nat) : Nat → ClassId := fun k => if k = 94 then 1 else if k = 95 then o else if k = 96 then n else y k
theorem zW_out (hw : zW D y base S s H locs) (hy : y 94 = 0) {o : Nat} (hk : zK S o = 24) (hn : zN S o = 1) : ∃ y' : Nat → ClassId, y' 92 = y 92 ∧ y' 94 ≠ 0 ∧ y' 95 = o ∧ Int64.ofNat (y' 96) = zJ S o 0 ∧ zW D y' base (zdl S o) s H locs := by
  obtain ⟨n, hn9⟩ : ∃ n : Nat, Int64.ofNat n = zJ S o 0 := ⟨(zJ S o 0).toBitVec.toNat, by
    apply Int64.toBitVec_inj.mp
    show BitVec.ofNat 64 (zJ S o 0).toBitVec.toNat = _
    rw [BitVec.ofNat_toNat, BitVec.setWidth_eq]⟩
  obtain ⟨L, hL, hP, hD⟩ := hw.2.1
  refine ⟨zyo y o n, rfl, (by decide : (1 : Nat) ≠ 0), rfl, hn9, hw.1, ?_, hw.2.2⟩
  have hX0 : zXo y = [] := if_pos hy
  have hX1 : zXo (zyo y o n) = [(o, .inl (y 24, 1, .inr (.inl (fun _ => Int64.ofNat n))))] := if_neg (by decide : ¬ (1 : Nat) = 0)
  have hoL : o ∈ L := hL o (by rw [hk]; decide)
  rw [hX0, List.nil_append] at hP hD
  have hF : ∀ a, a ∈ L.filter (fun a => decide (a ≠ o ∧ zK S a < 90)) ↔ a ∈ L ∧ a ≠ o ∧ zK S a < 90 := fun a => by rw [List.mem_filter, decide_eq_true_eq]
  have hE : ∀ a, a ∈ L.filter (fun a => decide (a ≠ o ∧ zK S a < 90)) → zE (zyo y o n) (zdl S o) a = zE y S a := fun a ha => zE_dl ((hF a).mp ha).2.1 ((hF a).mp ha).2.2 (fun k hk => by
    show (if k = 94 then 1 else if k = 95 then o else if k = 96 then n else y k) = y k
    rw [if_neg (by omega), if_neg (by omega), if_neg (by omega)])
  obtain ⟨k9, hk9⟩ := va_pl_get (X := []) (f := zE y S) hoL
  rw [List.nil_append, zE_j hk, hn] at hk9
  refine ⟨L.filter (fun a => decide (a ≠ o ∧ zK S a < 90)), fun a ha => ?_, ?_, ?_⟩
  · have ha2 : (if a = o then 0 else if 90 ≤ zK S a then 0 else zK S a) ≠ 0 := ha
    by_cases h1 : a = o
    · rw [if_pos h1] at ha2
      exact absurd rfl ha2
    · rw [if_neg h1] at ha2
      by_cases h2 : 90 ≤ zK S a
      · rw [if_pos h2] at ha2
        exact absurd rfl ha2
      · rw [if_neg h2] at ha2
        exact (hF a).mpr ⟨hL a ha2, h1, by omega⟩
  · intro k q hq
    rw [hX1] at hq
    rcases List.mem_append.mp (List.mem_of_getElem? hq) with h | h
    · rw [List.mem_singleton] at h
      subst h
      have g : H[o]? = some (vp_cell (y 24) (1, .inr (.inl (zJ S o)))) := hP k9 (o, .inl (y 24, 1, .inr (.inl (zJ S o)))) hk9
      show H[o]? = some (vp_cell (y 24) (1, .inr (.inl (fun _ => Int64.ofNat n))))
      rw [g]
      exact congrArg some (zarr_1 (y 24) (by rw [hn9]))
    · obtain ⟨a9, ha9, rfl⟩ := List.mem_map.mp h
      rw [hE a9 ha9]
      obtain ⟨k8, hk8⟩ := List.getElem?_of_mem (show (a9, zE y S a9) ∈ va_pl L (zE y S) from List.mem_map.mpr ⟨a9, ((hF a9).mp ha9).1, rfl⟩)
      exact hP k8 _ hk8
  · rw [hX1, zpl_cons (fun h => ((hF o).mp h).2.1 rfl)]
    refine zD_of (List.nodup_cons.mpr ⟨fun h => ((hF o).mp h).2.1 rfl, List.Pairwise.filter _ (zD_nd hD)⟩) (fun a9 ha9 => ?_)
    rcases List.mem_cons.mp ha9 with e | e
    · rw [e]
      exact zD_A hD hoL
    · exact zD_A hD ((hF a9).mp e).1
end ZLAW
section ZLAW2
variable {p : Program} {l : Launch} {e : Env} {R : Room} {s : State} {m : MethodId} {args : Array Value} {below : List Frame} {meth : Method} {c : Code} {H : Heap} {locs : List Loc} {cells slots : Nat} {Q : State → Prop}
variable {cc : ByteArray} {pc nL : Nat} {ls : Array Slot} {rest st0 : List Value} {D : va_G} {y : Nat → ClassId} {base a : Nat} {S : zS} {Ts : List Cond} {own : String}
theorem zaldX (C : CallFix p m c cc nL s args Ts own) (hw : zW D y base S s H locs) (hy : y 94 ≠ 0) {o : Nat} (ho : y 95 = o) (hdg : decode cc pc = .ok (.laload, 1))
    (kk : W p l e R s m args below meth c H locs cells slots Q (F0 m (pc + 1) ls (.long (Int64.ofNat (y 96)) :: rest))) : W p l e R s m args below meth c H locs cells slots Q (F0 m pc ls (.int 0 :: .ref o :: rest)) := by
  subst ho
  obtain ⟨L, hL, hP, hD⟩ := hw.2.1
  have hX1 : zXo y = [(y 95, .inl (y 24, 1, .inr (.inl (fun _ => Int64.ofNat (y 96)))))] := if_neg hy
  have h0 : (zXo y ++ va_pl L (zE y S))[0]? = some (y 95, .inl (y 24, 1, .inr (.inl (fun _ => Int64.ofNat (y 96))))) := by rw [hX1]; rfl
  exact va_lald C.1 C.2.1 hw.1.1 hP 0 3 h0 rfl (zin_of (N := 1) (by decide) (by decide) (by decide)) hdg kk
theorem zrdl {x y0 : Int64} (h : y0 = x) {g : List Value} (kk : W p l e R s m args below meth c H locs cells slots Q (F0 m pc ls (.long x :: g))) : W p l e R s m args below meth c H locs cells slots Q (F0 m pc ls (.long y0 :: g)) := by
  rw [h]
  exact kk
theorem zsld (C : CallFix p m c cc nL s args Ts own) (hw : zW D y base S s H locs) {bs L : Nat} {xs : Nat → Int32} (hXs : va_X bs L xs s s.heap) (hbl : bs < s.heap.size) (hbs : base = s.heap.size) {i v : Int32} (hin : vp_in i L) (hv : xs i.toNatClampNeg = v) (hdg : decode cc pc = .ok (.iaload, 1))
    (kk : W p l e R s m args below meth c H locs cells slots Q (F0 m (pc + 1) ls (.int v :: rest))) : W p l e R s m args below meth c H locs cells slots Q (F0 m pc ls (.int i :: .ref bs :: rest)) := by
  subst hv
  subst hbs
  exact va_sld C.1 C.2.1 hXs hbl (Nat.not_le.mpr hbl) hw.2.2.1 hin hdg kk
end ZLAW2
def zbo (v : Int32) : Int32 := if v = 0 then 0 else 1
theorem zbo_01 (v : Int32) : zbo v = 0 ∨ zbo v = 1 := by
  unfold zbo
  split
  · exact Or.inl rfl
  · exact Or.inr rfl
theorem zbo_0 {v : Int32} (h : v = 0) : (0 : Int32) = zbo v := by
  unfold zbo
  rw [if_pos h]
theorem zbo_1 {v : Int32} (h : ¬ v = 0) : (1 : Int32) = zbo v := by
  unfold zbo
  rw [if_neg h]
theorem zCls.ref {S S1 : zS} {b : Nat → Nat} {e0 : Nat} (h : zCls S S1) (hM : zMd S b) (h0 : zMd0 S b) (hF : zQ S 49 (b 4) = some e0 ∧ zQ S 49 (b 5) = some e0) : zMd S1 b ∧ zMd0 S1 b ∧ zQ S1 49 (b 4) = some e0 ∧ zQ S1 49 (b 5) = some e0 := by
  have k4 := h (b 4) (by rw [hM.2.2.2.2.2.2.2.2.2.2.2.2.2.1]; decide)
  have k5 := h (b 5) (by rw [hM.2.2.2.2.2.2.2.2.2.2.2.2.2.2.1]; decide)
  exact ⟨zMd.cls h hM, zMd0.cls h hM h0, (k4.2.2.2.2.2 49 (Or.inl (by decide))).2.trans hF.1, (k5.2.2.2.2.2 49 (Or.inl (by decide))).2.trans hF.2⟩
theorem zCo.ref {S S1 : zS} {b : Nat → Nat} {o e0 : Nat} (h : zCo S S1 o) (hM : zMd S b) (h0 : zMd0 S b) (hF : zQ S 49 (b 4) = some e0 ∧ zQ S 49 (b 5) = some e0) : zMd S1 b ∧ zMd0 S1 b ∧ zQ S1 49 (b 4) = some e0 ∧ zQ S1 49 (b 5) = some e0 := by
  obtain ⟨S2, hc, hS⟩ := h
  have g := hc.ref hM h0 hF
  rcases hS with rfl | ⟨f, rfl⟩
  · exact g
  · exact g
theorem zCo.o {S S1 : zS} {o : Nat} (h : zCo S S1 o) (hk : zK S o = 24) (hn : zN S o = 1) : zK S1 o = 24 ∧ zN S1 o = 1 := by
  obtain ⟨S2, hc, hS⟩ := h
  have g := hc.o hk hn
  rcases hS with rfl | ⟨f, rfl⟩
  · exact g
  · exact g
theorem zMd.dl {S : zS} {b : Nat → Nat} {o : Nat} (hM : zMd S b) (ho : zK S o = 24) : zMd (zdl S o) b := by
  obtain ⟨a1, a2, a3, a4, a5, a6, a7, a8, a9, a10, a11, a12, a13, a14, a15, a16, a17, a18, a19, a20, a21⟩ := hM
  exact ⟨zdl_K a1 (by decide) (by decide) ho, a2, a3, a4, a5, a6, a7, zdl_K a8 (by decide) (by decide) ho, a9, zdl_K a10 (by decide) (by decide) ho, a11, zdl_K a12 (by decide) (by decide) ho, a13, zdl_K a14 (by decide) (by decide) ho, zdl_K a15 (by decide) (by decide) ho, zdl_K a16 (by decide) (by decide) ho, a17, fun i hi => ⟨(a18 i hi).1, zdl_K (a18 i hi).2.1 (by decide) (by decide) ho, (a18 i hi).2.2⟩, a19, fun i hi => ⟨(a20 i hi).1, zdl_K (a20 i hi).2.1 (by decide) (by decide) ho, (a20 i hi).2.2⟩, fun i hi => ⟨(a21 i hi).1, zdl_K (a21 i hi).2.1 (by decide) (by decide) ho, (a21 i hi).2.2⟩⟩
theorem kd_run_ne (p q : Int32) : ¬ kd_run p q = 0 := by
  unfold kd_run
  split <;> decide
/-- the law's end, from where a case leaves off -/
def zEnd (p : Program) (l : Launch) (e : Env) (s : State) (m : MethodId) (bs : Nat) (below : List Frame) (meth : Method) (c : Code) (base : Nat) : Prop := ∀ (H : Heap) (locs : List Loc) (ls : Array Slot) (k n : Nat), k ≤ 600002 → n ≤ 7302232 → va_S (zA base) s.heap H locs → lv_has ls 9 [(5, .int 0), (0, .ref bs)] → W p l e room_1 s m #[Value.ref bs] below meth c H locs k n (lw_Z below #[Value.ref bs] s) (F0 m 2892 ls [])
