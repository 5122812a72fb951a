theorem zmany2 {S : zS} {w : Nat} {p1 p2 : Int32} (hz : ∀ j, zR S 23 w j = 0) (h1 : 0 ≤ p1 ∧ p1 ≤ 9999) (h2 : 1 ≤ p2 ∧ p2 ≤ 99) (h3 : p1 + p2 ≤ 9999) : nI (zct (zon (zR (zsR (zsR S 23 w (upd (zR S 23 w) p1.toNatClampNeg (zno (zR S 23 w p1.toNatClampNeg)))) 23 w (upd (zR (zsR S 23 w (upd (zR S 23 w) p1.toNatClampNeg (zno (zR S 23 w p1.toNatClampNeg)))) 23 w) (p1 + p2).toNatClampNeg (zno (zR (zsR S 23 w (upd (zR S 23 w) p1.toNatClampNeg (zno (zR S 23 w p1.toNatClampNeg)))) 23 w (p1 + p2).toNatClampNeg)))) 23 w)) 10000) = 2 := by
  obtain ⟨A, hA, rfl⟩ := z_9999 h1
  obtain ⟨B, hB, rfl⟩ := nI_of2 (x := p2) (M := 99) (n := 99) rfl (by grind) h2.2
  have hB1 : 1 ≤ B := by
    have := h2.1
    rw [Int32.le_iff_toInt_le, nI_toInt (by omega)] at this
    have h1 : (1 : Int32).toInt = 1 := rfl
    omega
  have hAB : A + B < 10000 := by
    rw [nI_add, Int32.le_iff_toInt_le, nI_toInt (by omega)] at h3
    have h1 : (9999 : Int32).toInt = 9999 := rfl
    omega
  have e1 : zR (zsR S 23 w (upd (zR S 23 w) (nI A).toNatClampNeg (zno (zR S 23 w (nI A).toNatClampNeg)))) 23 w = upd (zR S 23 w) A 1 := by
    rw [zR_s, nI_clamp (by omega), hz]
    rfl
  rw [zR_s, e1, nI_add, nI_clamp (by omega), pk_un (by omega), hz, show zno 0 = 1 from rfl, zct_up_new (by decide) (by rw [pk_un (by omega)]; exact hz _) 10000 hAB, zct_up_new (by decide) (hz A) 10000 hA, zct_none (fun j _ => by rw [decide_eq_true_eq]; exact fun q => q (hz j))]
  rfl
