theorem zz_test1 (a b c : Int32) (h : a < b) (h2 : b ≤ c) : a < c := by grind
theorem zz_test2 (a : Int32) (h : ¬ a < 0) (h2 : ¬ 4 ≤ a) : a = 0 ∨ a = 1 ∨ a = 2 ∨ a = 3 := by grind
theorem zz_test3 (a b : Int32) (h : 0 ≤ a) (h2 : a ≤ 9999) (h3 : 1 ≤ b) (h4 : b ≤ 99) : 0 ≤ a + b := by grind
theorem zz_test4 (a b : Int32) (h : 0 ≤ a) (h2 : a ≤ 9999) (h3 : 1 ≤ b) (h4 : b ≤ 99) : ¬ (a + b = a) := by grind
theorem zz_test5 (a : Int32) (h : 0 ≤ a) (h2 : a < 4) : vp_in a 4 := by rw [vp_in_iff]; grind
theorem zz_test6 (a : Int32) (h : 0 ≤ a) (h2 : a < 4) : 0 ≤ a.toInt ∧ a.toInt < 4 := by grind
theorem zz_test7 (a : Int32) (h : 0 ≤ a) (h2 : a < 4) : 0 ≤ a.toInt64 ∧ a.toInt64 ≤ 3 := by grind
theorem zz_test8 (a : Int32) (h : 0 ≤ a) (h2 : a < 4) : a.toNatClampNeg < 4 := by grind
theorem zz_test9 (n : Nat) (h : n < 300) : nI n < 300 := by unfold nI; grind
