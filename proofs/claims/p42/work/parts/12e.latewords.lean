/-- if all is sent by the last tick, the level stays as it is there -/
theorem zSp.late {S0 S : zS} {w sn n k : Nat} {b : Bool} {P : Int → Bool} {cur : Int32} {lo nxt : Int} (hs : zSp S0 S w sn b P cur lo nxt n) (hn : n ≤ 64) (hk : zI S 164 w = nI k) (hk64 : k ≤ 64) (h : ∀ j, j < k → zR S 22 sn j ≤ 9999) {t : Int} (ht : 9999 ≤ t) : P t = P 9999 := by
  obtain ⟨-, -, -, -, k', g5, g6, g7, -⟩ := hs
  have hkk : k' = k := (nI_eq (by omega) (by omega)).mp (g6.symm.trans hk)
  subst hkk
  have h2 : ∀ j, j < k' → (zR S 22 sn j).toInt ≤ 9999 := fun j hj => by
    have := h j hj
    rw [Int32.le_iff_toInt_le] at this
    exact this
  rw [g7.2 t, g7.2 9999, zcu_all (fun j hj => Int.le_trans (h2 j hj) ht), zcu_all h2]
/-- what a sender that comes too late leaves -/
abbrev zLate (S S1 : zS) (a : Nat → Nat) : Prop := zFr S S1 (fun t _ => t = 163 ∨ t = 164) (fun k x => k = 22 ∧ ∃ i, i < 4 ∧ x = a (30 + i))
