section ZST
variable {p : Program} {l : Launch} {e : Env} {R : Room} {s : State} {m : MethodId} {args : Array Value} {below : List Frame} {meth : Method} {c : Code} {H : Heap} {locs : List Loc} {cells slots : Nat} {Q : State → Prop}
variable {cc : ByteArray} {pc nL : Nat} {ls : Array Slot} {rest st0 : List Value} {D : va_G} {y : Nat → ClassId} {base a : Nat} {S : zS} {Ts : List Cond} {own : String}
theorem zast_C (C : CallFix p m c cc nL s args Ts own) (hw : zW D y base S s H locs) (hk : zK S a = 21) {i x : Int32} {n : Nat} (hn : zN S a = n) (hin : vp_in i n) (hdg : decode cc pc = .ok (.castore, 1)) (kk : ∀ (H1 : Heap) (locs1 : List Loc), zW D y base (zsR S 21 a (upd (zR S 21 a) i.toNatClampNeg (vp_nar .char x))) s H1 locs1 → W p l e R s m args below meth c H1 locs1 cells slots Q (F0 m (pc + 1) ls rest)) : W p l e R s m args below meth c H locs cells slots Q (F0 m pc ls (.int x :: .int i :: .ref a :: rest)) := by
  subst hn
  obtain ⟨L, hL, hP, hD⟩ := hw.2.1
  have haL := hL a (by omega)
  obtain ⟨k9, hk9⟩ := va_pl_get (X := zXo y) (f := zE y S) haL
  have hk8 := hk9
  rw [zE_r hk (by omega) (by omega)] at hk8
  exact va_cast C.1 C.2.1 hw.1.1 hP hD hw.2.2.1 k9 0 hk8 rfl hin hdg (fun H1 locs1 hP1 hD1 hS1 => kk H1 locs1 ⟨hw.1, zH.set hL haL rfl hP1 hD hk9 (zE_sR _ hk (by omega) (by omega)), hS1, hw.2.2.2⟩)
end ZST
