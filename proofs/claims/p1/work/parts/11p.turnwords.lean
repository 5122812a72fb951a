theorem zvn (x : Int32) : vp_nar .boolean (zno x) = zno x := by
  rcases zno_01 x with h | h <;> rw [h] <;> rfl
/-- a turn in one row makes the flips of any row one more at most -/
theorem zcu_le (S : zS) (w a k n : Nat) (v : Int32) : zct (zon (zR (zsR S 23 w (upd (zR S 23 w) k v)) 23 a)) n ≤ zct (zon (zR S 23 a)) n + 1 := by
  by_cases e : a = w
  · subst e
    rw [zR_s]
    exact (zct_up_le _ _ _ _).1
  · rw [show zR (zsR S 23 w (upd (zR S 23 w) k v)) 23 a = zR S 23 a from zR_a e rfl]
    exact Nat.le_succ _
