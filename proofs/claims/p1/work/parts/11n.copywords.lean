/-- the copies of the flips, as they are made: q the new array, f its rows -/
def zCp (S S2 : zS) (q : Nat) (f : Nat → Nat) (i : Nat) : Prop := zK S2 q = 35 ∧ zN S2 q = 4 ∧ zGv S S2 q ∧ zK S q = 0 ∧ (∀ j, j < i → zP S2 q j = some (f j) ∧ zK S2 (f j) = 23 ∧ zN S2 (f j) = 10000 ∧ ∀ t, zR S2 23 (f j) t = 0)
theorem zCp.step {S S2 : zS} {q q20 w i : Nat} {f : Nat → Nat} (h : zCp S S2 q f i) (hw : ∀ t, zR S2 23 w t = 0) (k20 : zK S2 q20 = 0) : zCp S (zsP (znR S2 q20 23 10000 (zR S2 23 w)) q (va_up (zP (znR S2 q20 23 10000 (zR S2 23 w)) q) i (some q20))) q (fun m => if m = i then q20 else f m) (i + 1) := by
  obtain ⟨a1, a2, a3, a4, a5⟩ := h
  have hq : q ≠ q20 := zne k20 (by rw [a1]; decide)
  refine ⟨zK_nR (n := 10000) (f := zR S2 23 w) (k := 23) hq a1, zN_nR (n := 10000) (f := zR S2 23 w) (k := 23) hq a2, (a3.tr (zGv.nR k20)).tr zGv.P, a4, fun j hj => ?_⟩
  dsimp only
  by_cases e : j = i
  · subst e
    rw [if_pos rfl]
    refine ⟨by rw [zP_s, va_up_self], zK_nRs S2 q20 23 10000 (zR S2 23 w), zN_nRs S2 q20 23 10000 (zR S2 23 w), fun t => ?_⟩
    have := congrFun (zR_nRs S2 q20 23 10000 (zR S2 23 w)) t
    exact this.trans (hw t)
  · rw [if_neg e]
    obtain ⟨b1, b2, b3, b4⟩ := a5 j (by omega)
    have hf : f j ≠ q20 := zne k20 (by rw [b2]; decide)
    refine ⟨by rw [zP_s, va_up_ne _ _ e]; exact b1, zK_nR (n := 10000) (f := zR S2 23 w) (k := 23) hf b2, zN_nR (n := 10000) (f := zR S2 23 w) (k := 23) hf b3, fun t => ?_⟩
    have := congrFun (zR_nR (S := S2) (k := 23) (k' := 23) (n := 10000) (f := zR S2 23 w) hf rfl) t
    exact this.trans (b4 t)
