/-! capture: two new rows, of which nothing is ever but 0 -/
section ZSB
variable {p : Program} {l : Launch} {e : Env} {R : Room} {s : State} {m : MethodId} {args : Array Value} {below : List Frame} {meth : Method} {c : Code} {H : Heap} {locs : List Loc} {cells slots : Nat} {Q : State → Prop}
variable {cc : ByteArray} {pc nL : Nat} {ls : Array Slot} {rest : List Value} {D : va_G} {y : Nat → ClassId} {base a : Nat} {S : zS} {Ts : List Cond} {own : String}
theorem zastB (C : CallFix p m c cc nL s args Ts own) (hw : zW D y base S s H locs) {v n : Nat} (hk : zK S a = 34) (hv : zK S v = 22) (hn : zN S a = n) {i : Int32} (hin : vp_in i n) (hdg : decode cc pc = .ok (.aastore, 1))
    (kk : ∀ (H1 : Heap) (locs1 : List Loc), zW D y base (zsP S a (va_up (zP S a) i.toNatClampNeg (some v))) s H1 locs1 → W p l e R s m args below meth c H1 locs1 cells slots Q (F0 m (pc + 1) ls rest)) : W p l e R s m args below meth c H locs cells slots Q (F0 m pc ls (.ref v :: .int i :: .ref a :: rest)) := by
  subst hn
  obtain ⟨L, hL, hP, hD⟩ := hw.2.1
  have haL := hL a (by omega)
  obtain ⟨k9, hk9⟩ := va_pl_get (X := zXo y) (f := zE y S) haL
  obtain ⟨k8, hk8⟩ := va_pl_get (X := zXo y) (f := zE y S) (hL v (by omega))
  have hk7 := hk9
  rw [zE_p hk (by omega)] at hk7
  rw [zE_r hv (by omega) (by omega)] at hk8
  have hlt : i.toNatClampNeg < zN S a := Nat.not_le.mp fun q => hin (Or.inr q)
  have h0 : ¬ i < 0 := fun q => hin (Or.inl q)
  obtain ⟨⟨-, ⟨kA, k1, k2⟩⟩, -⟩ := hw.1.2.2.2.2.2.2.2.1
  obtain ⟨kC, hkC, -⟩ := Vm.findClass_spec (hw.1.1.2 1 _ rfl).2
  refine W.aast C.1 C.2.1 (hP k9 _ hk7) (fun q h => by cases h) (fun h => by cases h) k1 k2 rfl hkC ⟨h0, by show _ < (arrV _ _ _).slots.size; rw [arrV_size]; exact hlt⟩ (hP k8 _ hk8) (fun q h => by cases h) hkC (va_asg _ _) rfl rfl hdg fun H1 e z oq => ?_
  refine kk H1 _ ⟨hw.1, zH.set hL haL rfl (hP.set hD hk7 (e := .inl (y 34, zN S a, .inr (.inr (.inr (.inr (va_up (zP S a) i.toNatClampNeg (some v))))))) ?_ oq) hD hk9 (zE_sP _ hk (by omega)), hw.2.2.1.put z oq (hD.2 k9 _ hk7), hw.2.2.2⟩
  show H1[a]? = some (vp_cell _ _)
  rw [e]
  rw [vp_cell_q, vp_cell_q, arrV_store]
  congr 2
  funext q
  by_cases hq : q = i.toNatClampNeg
  · subst hq
    simp [updV, va_up, va_rf]
  · simp [updV, va_up, hq]
end ZSB
def zCa (S0 S : zS) (v w N : Nat) : Prop := zGv S0 S v ∧ zK S v = 22 ∧ zN S v = N ∧ zK S w = 23 ∧ zN S w = 4 ∧ (∀ j, zR S 23 w j = 0) ∧ (∀ j, zR S 22 v j = 0)
theorem zCa.lev {S0 S : zS} {v w N : Nat} (h : zCa S0 S v w N) (hw : zK S0 w = 0) (j : Nat) : zCa S0 (zsR S 23 w (upd (zR S 23 w) j (vp_nar .boolean 0))) v w N := by
  obtain ⟨h1, h2, h3, h4, h5, h6, h7⟩ := h
  refine ⟨h1.tn zGv.R hw, h2, h3, h4, h5, fun i => ?_, fun i => (congrFun (zR_t (by decide) rfl) i).trans (h7 i)⟩
  rw [zR_s]
  by_cases e : i = j
  · rw [e, pk_us]
    rfl
  · rw [pk_un e]
    exact h6 i
theorem zCa.made {S0 S : zS} {v w N : Nat} (h : zCa S0 S v w N) (j : Nat) : zCa S0 (zsR S 22 v (upd (zR S 22 v) j 0)) v w N := by
  obtain ⟨h1, h2, h3, h4, h5, h6, h7⟩ := h
  refine ⟨h1.tr zGv.R, h2, h3, h4, h5, fun i => (congrFun (zR_t (by decide) rfl) i).trans (h6 i), fun i => ?_⟩
  rw [zR_s]
  by_cases e : i = j
  · rw [e, pk_us]
  · rw [pk_un e]
    exact h7 i
theorem zCa.begin {S : zS} {v w b1 N : Nat} (hv : zK S v = 0) (hw : zK (znR S v 22 N (fun _ => 0)) w = 0) (hb : ∀ j, zR (znR S v 22 N (fun _ => 0)) 23 b1 j = 0) : zCa S (znR (znR S v 22 N (fun _ => 0)) w 23 4 (zR (znR S v 22 N (fun _ => 0)) 23 b1)) v w N ∧ zK S w = 0 := by
  have hvw : v ≠ w := fun e => by
    rw [← e, zK_nRs] at hw
    exact absurd hw (by decide)
  refine ⟨⟨(zGv.nR hv).tr (zGv.nR hw), zK_nR hvw (zK_nRs _ _ _ _ _), zN_nR hvw (zN_nRs _ _ _ _ _), zK_nRs _ _ _ _ _, zN_nRs _ _ _ _ _, fun j => ?_, fun j => ?_⟩, ?_⟩
  · exact (congrFun (zR_nRs _ _ _ _ _) j).trans (hb j)
  · exact (congrFun (zR_nR (k := 23) (n := 4) hvw (zR_nRs S v 22 N (fun _ => 0))) j)
  · have e : zK (znR S v 22 N (fun _ => 0)) w = zK S w := zK_nR (Ne.symm hvw) rfl
    rw [← e]
    exact hw
theorem zcapb {p1 p2 : Int32} {A k : Nat} (h1 : 0 ≤ p1 ∧ p1 ≤ 9999) (h2 : 1 ≤ p2 ∧ p2 ≤ 99) (hk : k < A) (hA : A ≤ 400) (h : ¬ 9999 < p1 + (nI A - 1) * p2) : ∃ T : Nat, T ≤ 9999 ∧ p1 + nI k * p2 = nI T := by
  obtain ⟨B, hB, rfl⟩ := nI_of2 (x := p1) (M := 9999) (n := 9999) rfl (by grind) h1.2
  obtain ⟨C, hC, rfl⟩ := nI_of2 (x := p2) (M := 99) (n := 99) rfl (by grind) h2.2
  have hm : (A - 1) * C ≤ 399 * 99 := Nat.mul_le_mul (by omega) hC
  have hm2 : k * C ≤ (A - 1) * C := Nat.mul_le_mul_right C (by omega)
  rw [show (nI A - 1 : Int32) = nI (A - 1) from pk_sub (b := 1) (by omega), pk_mul, nI_add, show (9999 : Int32) = nI 9999 from rfl, nI_ltI (by omega) (by omega)] at h
  exact ⟨B + k * C, by omega, by rw [pk_mul, nI_add]⟩
