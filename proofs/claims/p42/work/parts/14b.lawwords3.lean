/-! words of two and four -/
theorem zd0_t {r : Nat} (hr : r < 2 ^ 30) (h : nI r = 0) : zb (decide (r = 0) = true) = 1 := by
  have e : r = 0 := (nI_eq (b := 0) (by omega) (by decide)).mp h
  subst e
  rfl
theorem zd0_f {r : Nat} (h : ¬ nI r = 0) : zb (decide (r = 0) = true) = 0 := by
  by_cases e : r = 0
  · subst e
    exact absurd rfl h
  · rw [decide_eq_false e]
    rfl
theorem zdp_f {r : Nat} (hr : r < 2 ^ 30) (h : nI r ≤ 0) : zb (decide (0 < r) = true) = 0 := by
  have e : ¬ 0 < r := by
    rw [Int32.le_iff_toInt_le, nI_toInt (by omega)] at h
    have h0 : (0 : Int32).toInt = 0 := rfl
    rw [h0] at h
    omega
  rw [decide_eq_false e]
  rfl
theorem zdp_t {r : Nat} (h : ¬ nI r ≤ 0) : zb (decide (0 < r) = true) = 1 := by
  have e : 0 < r := by
    rcases Nat.eq_zero_or_pos r with q | q
    · subst q
      exact absurd (Int32.le_refl 0) h
    · exact q
  rw [decide_eq_true e]
  rfl
theorem zrm4 : ∀ x, x < 8 → nI x - nI x / 4 * 4 = nI (x % 4) := by decide +kernel
theorem zx2 (p : Bool) : xor true (xor true p) = p := by cases p <;> rfl
theorem zx2f (p : Bool) : xor false (xor false p) = p := by cases p <;> rfl
theorem zx2b (b p : Bool) : xor b (xor b p) = p := by cases b <;> cases p <;> rfl
theorem zmC_b : ∀ j, j < 56 → zmC j ≤ 60 := by decide +kernel
theorem zmD_b : ∀ j, j < 30 → zmD j ≤ 60 := by decide +kernel
theorem zsamT {hf m : Nat} (h9 : hf < 10) (hm : m ≤ 60) : ztk (nI hf) (nI hf) m = nI ((m + 1) * hf) ∧ (m + 1) * hf < 2 ^ 31 := by
  have : (m + 1) * hf ≤ 61 * 9 := Nat.mul_le_mul (by omega) (by omega)
  refine ⟨?_, by omega⟩
  rw [ztk_nI, Nat.add_mul, Nat.one_mul, Nat.add_comm]
theorem zsamC {hf i : Nat} (h1 : 1 ≤ hf) (h9 : hf < 10) : zpt 1 zlC (fun j => ztk (nI hf) (nI hf) (zmC j)) 56 ((0 + i * hf : Nat) : Int) = zcw i := by
  rw [Nat.zero_add]
  exact zpt_u h1 (fun j hj => zsamT h9 (zmC_b j hj))
theorem zsamD {W : Int32} {hf i : Nat} (h1 : 1 ≤ hf) (h9 : hf < 10) : zpt 1 (zlD W) (fun j => ztk (nI hf) (nI hf) (zmD j)) 30 ((0 + i * hf : Nat) : Int) = zdw W i := by
  rw [Nat.zero_add]
  exact zpt_u h1 (fun j hj => zsamT h9 (zmD_b j hj))
theorem zOb.ans {S : zS} {a : Nat → Nat} {F : Nat → Int → Bool} {N : Nat → Nat} {A1 A2 p q : Int32} {rg : Nat → Int32} {ns : Nat} {L : List zNt} (h : zOb S a F N A1 A2 rg ns L) : zOb (zsI (zsI S 182 (a 0) p) 183 (a 0) q) a F N p q rg ns L := by
  obtain ⟨hX, h2, h3, h4, h5, h6, h7, h8, h9, h10⟩ := h
  have e : ∀ t c, t ≠ 182 → t ≠ 183 → zI (zsI (zsI S 182 (a 0) p) 183 (a 0) q) t c = zI S t c := fun t c g1 g2 => zI_t g2 (zI_t g1 rfl)
  refine ⟨zX.fix (zFix.I.tr zFix.I) hX, zNts.fix (zFix.I.tr zFix.I) h2, fun w hw => ?_, (e _ _ (by decide) (by decide)).trans h4, zI_t (by decide) (zI_s _ _ _ _), zI_s _ _ _ _, h7, (e _ _ (by decide) (by decide)).trans h8, h9.eq (e _ _ (by decide) (by decide)) rfl rfl, ?_⟩
  · obtain ⟨g1, g2, g3, g4⟩ := h3 w hw
    have e1 : zI (zsI (zsI S 182 (a 0) p) 183 (a 0) q) 160 (a (10 + w)) = zI S 160 (a (10 + w)) := e _ _ (by decide) (by decide)
    refine ⟨by rw [e1]; exact g1, g2.eq (e _ _ (by decide) (by decide)) rfl, g3, fun t => ?_⟩
    rw [zlv.eq e1 rfl]
    exact g4 t
  · obtain ⟨n1, n2, n3⟩ := h10
    exact ⟨(e _ _ (by decide) (by decide)).trans n1, n2, n3⟩
theorem zad2 (ad : Nat) (rd : Bool) : nI (2 * ad) + zb (rd = true) = nI (ad * 2 + (if rd = true then 1 else 0)) := by
  cases rd
  · rw [show zb (false = true) = nI 0 from rfl, nI_add, if_neg (by decide)]
    exact congrArg nI (by omega)
  · rw [show zb (true = true) = nI 1 from rfl, nI_add, if_pos rfl]
    exact congrArg nI (by omega)
theorem zfch (b : Bool) : narrow .char (.int (if b = true then (45 : Int32) else 110)) = .int (if b = true then (45 : Int32) else 110) := by cases b <;> decide
/-- the register that two wires set -/
theorem zreg {ad ri v : Nat} (rd a1 a2 : Bool) (hri : ri < 16) : (zyR v a2 2 (zyW ri a2 1 (zyW (ad * 2 + (if rd = true then 1 else 0)) a1 0 false)) ((ad * 2 + (if rd = true then 1 else 0)) / 2) (ri % 16) (fun _ => 0)) (ad * 16 + ri) = if rd = false ∧ a1 = true ∧ a2 = true then nI v else 0 := by
  have hR : (ad * 2 + (if rd = true then 1 else 0)) / 2 = ad := by
    cases rd
    · show (ad * 2 + 0) / 2 = ad
      omega
    · show (ad * 2 + 1) / 2 = ad
      omega
  have hM : decide ((ad * 2 + (if rd = true then 1 else 0)) % 2 = 0) = !rd := by
    cases rd
    · exact decide_eq_true (show (ad * 2 + 0) % 2 = 0 by omega)
    · exact decide_eq_false (show ¬ (ad * 2 + 1) % 2 = 0 by omega)
  have w0 : zyW (ad * 2 + (if rd = true then 1 else 0)) a1 0 false = (a1 && !rd) := by
    unfold zyW
    rw [if_pos rfl, hM]
  have w1 : ∀ x, zyW ri a2 1 x = (x && a2) := fun x => by
    unfold zyW
    rw [if_neg (by decide), if_pos rfl]
  unfold zyR
  rw [w0, w1, hR]
  by_cases h : rd = false ∧ a1 = true ∧ a2 = true
  · obtain ⟨rfl, rfl, rfl⟩ := h
    rw [if_pos ⟨rfl, rfl, rfl⟩, if_pos ⟨rfl, rfl, rfl⟩, Nat.mod_eq_of_lt hri, pk_us]
  · rw [if_neg h, if_neg (fun g => h (by revert g; cases rd <;> cases a1 <;> cases a2 <;> decide))]
/-- both captures, the notes' begins and ends: what isSound looks at -/
theorem zsnd {S : zS} {a : Nat → Nat} {mm : Nat} {M : Nat → Nat → Bool} (h0 : zCp S (a (40 + 0)) (a (50 + 0)) mm M) (h41 : zI S 64 (a 41) = 0) : ∀ i, i < 2 → zCp S (a (40 + i)) (a (50 + i)) (if i = 0 then mm else 0) M := fun i hi => by
  rcases (show i = 0 ∨ i = 1 by omega) with rfl | rfl
  · exact h0
  · exact ⟨h41, Nat.zero_le 400, fun w j _ g => absurd g (Nat.not_lt_zero _)⟩
theorem zNo.be {S : zS} {t k b e v f : Nat} {L : List zNt} (h : zNo S t k b e v f L) (g : ∀ (j : Nat) (x : zNt), L[j]? = some x → x.2.1 ≤ x.2.2.1) : ∀ j, j < L.length → zR S 22 b j ≤ zR S 22 e j := fun j hj => by
  obtain ⟨-, h2, h3, -, -⟩ := h.2.2 j L[j] (List.getElem?_eq_getElem hj)
  rw [h2, h3]
  exact g j _ (List.getElem?_eq_getElem hj)
theorem zNo.bb {S : zS} {t k b e v f : Nat} {L : List zNt} (h : zNo S t k b e v f L) (g : ∀ (j : Nat) (x y : zNt), L[j]? = some x → L[j + 1]? = some y → x.2.1 ≤ y.2.1) : ∀ j, j + 1 < L.length → zR S 22 b j ≤ zR S 22 b (j + 1) := fun j hj => by
  obtain ⟨-, h2, -⟩ := h.2.2 j L[j] (List.getElem?_eq_getElem (by omega))
  obtain ⟨-, h3, -⟩ := h.2.2 (j + 1) L[j + 1] (List.getElem?_eq_getElem hj)
  rw [h2, h3]
  exact g j _ _ (List.getElem?_eq_getElem (by omega)) (List.getElem?_eq_getElem hj)
/-- two wires tell five notes: begins and ends -/
theorem zfive_be {x1 x2 x3 : zNt} (h1 : x1.2.1 ≤ x1.2.2.1) (h2 : x2.2.1 ≤ x2.2.2.1) (h3 : x3.2.1 ≤ x3.2.2.1) (j : Nat) (x : zNt) (h : [((83, nI 1, nI 1, 0, 45) : zNt), x1, x2, x3, (69, nI 58, nI 58, 0, 45)][j]? = some x) : x.2.1 ≤ x.2.2.1 := by
  match j, h with
  | 0, h => cases h; exact Int32.le_refl _
  | 1, h => cases h; exact h1
  | 2, h => cases h; exact h2
  | 3, h => cases h; exact h3
  | 4, h => cases h; exact Int32.le_refl _
  | n + 5, h => cases h
theorem zfive_bb {x1 x2 x3 : zNt} (h1 : nI 1 ≤ x1.2.1) (h2 : x1.2.1 ≤ x2.2.1) (h3 : x2.2.1 ≤ x3.2.1) (h4 : x3.2.1 ≤ nI 58) (j : Nat) (x y : zNt) (h : [((83, nI 1, nI 1, 0, 45) : zNt), x1, x2, x3, (69, nI 58, nI 58, 0, 45)][j]? = some x) (g : [((83, nI 1, nI 1, 0, 45) : zNt), x1, x2, x3, (69, nI 58, nI 58, 0, 45)][j + 1]? = some y) : x.2.1 ≤ y.2.1 := by
  match j, h, g with
  | 0, h, g => cases h; cases g; exact h1
  | 1, h, g => cases h; cases g; exact h2
  | 2, h, g => cases h; cases g; exact h3
  | 3, h, g => cases h; cases g; exact h4
  | n + 4, h, g => cases g
/-! four wires -/
theorem zge2_zb : ∀ md, md < 4 → zge2 (nI md) = zb (decide (2 ≤ md) = true) := by decide +kernel
theorem zge2_d : ∀ md, md < 4 → decide (zge2 (nI md) = 1) = decide (2 ≤ md) := by decide +kernel
theorem zmd_t {md : Nat} (h4 : md < 4) (h : nI md < 2) : zb (decide (2 ≤ md) = true) = 0 := by
  have : ∀ md, md < 4 → nI md < 2 → zb (decide (2 ≤ md) = true) = 0 := by decide +kernel
  exact this md h4 h
theorem zmd_f {md : Nat} (h4 : md < 4) (h : ¬ nI md < 2) : zb (decide (2 ≤ md) = true) = 1 := by
  have : ∀ md, md < 4 → ¬ nI md < 2 → zb (decide (2 ≤ md) = true) = 1 := by decide +kernel
  exact this md h4 h
theorem zmL_b : ∀ j, j < 2 → zmL j ≤ 60 := by decide +kernel
theorem zmGb60 : ∀ lt : Int32, ∀ j, j < 9 → zmG lt j ≤ 60 := fun lt j hj => by
  unfold zmG
  split
  · split <;> omega
  · decide
theorem zsamF {md hf i : Nat} (h1 : 1 ≤ hf) (h9 : hf < 10) : zpt (zge2 (nI md)) (zlF (zge2 (nI md))) (fun j => ztk (nI hf) (nI hf) (j + 1)) 16 ((0 + i * hf : Nat) : Int) = zcw4 md i := by
  rw [Nat.zero_add]
  exact zpt_u h1 (fun j hj => zsamT h9 (by omega))
theorem zsamG {md v hf i : Nat} (h1 : 1 ≤ hf) (h9 : hf < 10) : zpt 0 (zlG (nI v)) (fun j => ztk (nI hf) (nI hf) (zmG (zlt2 (nI md)) j)) 9 ((0 + i * hf : Nat) : Int) = zdw4 md v i := by
  rw [Nat.zero_add]
  exact zpt_u h1 (fun j hj => zsamT h9 (zmGb60 _ j hj))
theorem zsamL {hf i : Nat} (h1 : 1 ≤ hf) (h9 : hf < 10) : zpt 1 zlL (fun j => ztk (nI hf) (nI hf) (zmL j)) 2 ((0 + i * hf : Nat) : Int) = zsw4 i := by
  rw [Nat.zero_add]
  exact zpt_u h1 (fun j hj => zsamT h9 (zmL_b j hj))
theorem zone_be {x1 : zNt} (h1 : x1.2.1 ≤ x1.2.2.1) (j : Nat) (x : zNt) (h : [x1][j]? = some x) : x.2.1 ≤ x.2.2.1 := by
  match j, h with
  | 0, h => cases h; exact h1
  | n + 1, h => cases h
theorem zone_bb {x1 : zNt} (j : Nat) (x y : zNt) (_ : [x1][j]? = some x) (g : [x1][j + 1]? = some y) : x.2.1 ≤ y.2.1 := by
  cases g
theorem zfb_le : ∀ md, md < 4 → nI (zfb md) ≤ nI (zfb md + 14) := by decide +kernel
