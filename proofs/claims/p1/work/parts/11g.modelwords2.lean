theorem zMd0.i {S : zS} {b : Nat → Nat} {x : Nat} {v : Int32} (h : zMd0 S b) : zMd0 (zsI S 240 x v) b := by
  obtain ⟨z1, z2, z3, z4, z5, z6, z7⟩ := h
  exact ⟨zI_t (by decide) z1, zI_t (by decide) z2, zI_t (by decide) z3, zI_t (by decide) z4, zI_t (by decide) z5, z6, z7⟩
theorem zmany0 {S : zS} {w : Nat} (h : ∀ j, zR S 23 w j = 0) : nI (zct (zon (zR S 23 w)) 10000) = 0 := by
  rw [zct_none (fun j _ => by rw [decide_eq_true_eq]; exact fun q => q (h j))]
  rfl
theorem zmany1 {S : zS} {w : Nat} {p v : Int32} (h : ∀ j, zR S 23 w j = 0) (hp : 0 ≤ p ∧ p ≤ 9999) (hv : ¬ v = 0) : nI (zct (zon (zR (zsR S 23 w (upd (zR S 23 w) p.toNatClampNeg v)) 23 w)) 10000) = 1 := by
  obtain ⟨A, hA, rfl⟩ := z_9999 hp
  rw [zR_s, nI_clamp (by omega), zct_up_new hv (h A) 10000 hA, zct_none (fun j _ => by rw [decide_eq_true_eq]; exact fun q => q (h j))]
  rfl
theorem zblk2 {p d : Int32} (hp : ¬ p < 0) (hd : 0 ≤ d ∧ d ≤ 9) : 0 ≤ lg_cmp (p.toInt64 * ((1 : Int32) <<< (d &&& 31)).toInt64) ((0 : Int32).toInt64) := by
  obtain ⟨A, hA, rfl⟩ := nI_of hp
  obtain ⟨j, hj, rfl⟩ := nI_of2 (x := d) (M := 9) (n := 9) rfl (by grind) hd.2
  have hs : ∀ j, j < 10 → ((1 : Int32) <<< (nI j &&& 31)) = nI (2 ^ j) := by decide +kernel
  have h2 : 2 ^ j ≤ 2 ^ 9 := Nat.pow_le_pow_right (by decide) hj
  have h3 : A * 2 ^ j ≤ 2 ^ 31 * 2 ^ 9 := Nat.mul_le_mul (by omega) h2
  rw [lg_cmp_ge, hs j (by omega), nI_l hA, nI_l (by omega), show (0 : Int32).toInt64 = lN 0 from rfl, show lN A * lN (2 ^ j) = lN (A * 2 ^ j) from (Int64.ofNat_mul A (2 ^ j)).symm, pk_lLE (by decide) (by omega)]
  exact Nat.zero_le _
