/-! the class's word of a serial byte and the reference's levels -/
theorem zser_n : ∀ v, v < 256 → zbv (zsw (nI v) 110) (nI 0) = 0 ∧ (∀ k, k < 8 → zbv (zsw (nI v) 110) (nI (k + 1)) = zbv (nI v) (nI k)) ∧ zbv (zsw (nI v) 110) (nI 9) = 1 := by decide +kernel
/-- the reference's level of parity: is the number of highs odd, as even was asked for -/
def zpl (v par : Int32) : Int32 := if (if zbc v - zbc v / 2 * 2 = 1 then (1 : Int32) else 0) = (if par = 101 then (1 : Int32) else 0) then 1 else 0
theorem zser_e : ∀ v, v < 256 → zbv (zsw (nI v) 101) (nI 0) = 0 ∧ (∀ k, k < 8 → zbv (zsw (nI v) 101) (nI (k + 1)) = zbv (nI v) (nI k)) ∧ zbv (zsw (nI v) 101) (nI 9) = zpl (nI v) 101 ∧ zbv (zsw (nI v) 101) (nI 10) = 1 := by decide +kernel
theorem zser_o : ∀ v, v < 256 → zbv (zsw (nI v) 111) (nI 0) = 0 ∧ (∀ k, k < 8 → zbv (zsw (nI v) 111) (nI (k + 1)) = zbv (nI v) (nI k)) ∧ zbv (zsw (nI v) 111) (nI 9) = zpl (nI v) 111 ∧ zbv (zsw (nI v) 111) (nI 10) = 1 := by decide +kernel
