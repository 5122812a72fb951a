/-! what the reference sends over its wires: the object of Sending, the levels last sent, whether all went well, and how many were told -/
def zSe (S : zS) (q m0 rw sn : Nat) (f : Nat → Nat) (A : Int32) (lev : Nat → Int32) (G : Prop) (n : Nat) : Prop :=
  (zK S q = 13 ∧ zQ S 208 q = some rw ∧ zQ S 209 q = some sn ∧ zQ S 212 q = some m0 ∧ zK S m0 = 15 ∧ zI S 243 m0 = 0 ∧ zI S 244 m0 = 1 ∧ zI S 245 m0 = 1 ∧ zI S 210 q = A ∧ zK S rw = 35 ∧ zN S rw = 4 ∧ zK S sn = 23 ∧ zN S sn = 4) ∧ ((zI S 211 q = 0 ∨ zI S 211 q = 1) ∧ (¬ zI S 211 q = 0 ↔ G)) ∧ (∀ j, j < 4 → zR S 23 sn j = lev j) ∧ (∀ j, j < 4 → zP S rw j = some (f j) ∧ zK S (f j) = 23 ∧ zN S (f j) = 10000 ∧ f j ≠ sn ∧ zct (zon (zR S 23 (f j))) 10000 ≤ n)
/-- what telling leaves as it is -/
def zFs (S S1 : zS) : Prop := zK S1 = zK S ∧ zN S1 = zN S ∧ zQ S1 = zQ S ∧ zP S1 = zP S ∧ (∀ a, zR S1 22 a = zR S 22 a)
theorem zFs.tr {S S1 S2 : zS} (h : zFs S S1) (h2 : zFs S1 S2) : zFs S S2 := ⟨h2.1.trans h.1, h2.2.1.trans h.2.1, h2.2.2.1.trans h.2.2.1, h2.2.2.2.1.trans h.2.2.2.1, fun a => (h2.2.2.2.2 a).trans (h.2.2.2.2 a)⟩
theorem zSe_tell {S S1 : zS} {q m0 rw sn : Nat} {f : Nat → Nat} {A p0 p1 p2 : Int32} {lev : Nat → Int32} {G : Prop} {n : Nat} (hE : zSe S q m0 rw sn f A lev G n) (hp : 0 ≤ p0 ∧ p0 ≤ 3)
    (hpost : (lev p0.toNatClampNeg = p2 ∧ S1 = S) ∨ (¬ lev p0.toNatClampNeg = p2 ∧ ∃ S2 : zS, ((A + p1 ≤ 9999 ∧ S2 = zsR S 23 (f p0.toNatClampNeg) (upd (zR S 23 (f p0.toNatClampNeg)) (A + p1).toNatClampNeg (zno (zR S 23 (f p0.toNatClampNeg) (A + p1).toNatClampNeg)))) ∨ (¬ A + p1 ≤ 9999 ∧ S2 = S)) ∧ S1 = zsR (zsI S2 211 q (if A + p1 ≤ 9999 then zI S 211 q else 0)) 23 sn (upd (zR S 23 sn) p0.toNatClampNeg p2))) :
    zSe S1 q m0 rw sn f A (fun j => if j = p0.toNatClampNeg then p2 else lev j) (G ∧ (p2 = lev p0.toNatClampNeg ∨ A + p1 ≤ 9999)) (n + 1) ∧ zFs S S1 := by
  obtain ⟨⟨a1, a2, a3, a4, a5, a6, a7, a8, a9, a10, a11, a12, a13⟩, ⟨hg1, hg2⟩, hl, hf⟩ := hE
  rcases hpost with ⟨e, rfl⟩ | ⟨e, S2, h2, rfl⟩
  · refine ⟨⟨⟨a1, a2, a3, a4, a5, a6, a7, a8, a9, a10, a11, a12, a13⟩, ⟨hg1, ?_⟩, fun j hj => ?_, fun j hj => ?_⟩, rfl, rfl, rfl, rfl, fun _ => rfl⟩
    · rw [hg2]
      exact ⟨fun h => ⟨h, Or.inl e.symm⟩, fun h => h.1⟩
    · show _ = (if j = p0.toNatClampNeg then p2 else lev j)
      by_cases hjp : j = p0.toNatClampNeg
      · rw [if_pos hjp, hjp, hl _ (z_cl4 hp), e]
      · rw [if_neg hjp]
        exact hl j hj
    · obtain ⟨b1, b2, b3, b4, b5⟩ := hf j hj
      exact ⟨b1, b2, b3, b4, Nat.le_succ_of_le b5⟩
  · have hD : zK S2 = zK S ∧ zQ S2 = zQ S ∧ zN S2 = zN S ∧ zP S2 = zP S ∧ zI S2 = zI S ∧ (∀ a, zR S2 22 a = zR S 22 a) ∧ (∀ a, a = sn → zR S2 23 a = zR S 23 a) ∧ (∀ a, zct (zon (zR S2 23 a)) 10000 ≤ zct (zon (zR S 23 a)) 10000 + 1) := by
      rcases h2 with ⟨_, e9⟩ | ⟨_, e9⟩ <;> rw [e9]
      · exact ⟨rfl, rfl, rfl, rfl, rfl, fun a => zR_t (by decide) rfl, fun a ha => zR_a (by rw [ha]; exact Ne.symm (hf _ (z_cl4 hp)).2.2.2.1) rfl, fun a => zcu_le _ _ _ _ _ _⟩
      · exact ⟨rfl, rfl, rfl, rfl, rfl, fun a => rfl, fun a ha => rfl, fun a => Nat.le_succ _⟩
    obtain ⟨d1, d2, d3, d4, d5, d6, d7, d8⟩ := hD
    have hI : ∀ t a, t ≠ 211 → zI (zsR (zsI S2 211 q (if A + p1 ≤ 9999 then zI S 211 q else 0)) 23 sn (upd (zR S 23 sn) p0.toNatClampNeg p2)) t a = zI S t a := fun t a h => zI_t h (congrFun (congrFun d5 t) a)
    have hIg : zI (zsR (zsI S2 211 q (if A + p1 ≤ 9999 then zI S 211 q else 0)) 23 sn (upd (zR S 23 sn) p0.toNatClampNeg p2)) 211 q = (if A + p1 ≤ 9999 then zI S 211 q else 0) := (show zI (zsI S2 211 q (if A + p1 ≤ 9999 then zI S 211 q else 0)) 211 q = _ from zI_s _ _ _ _)
    refine ⟨⟨⟨(congrFun d1 _).trans a1, (congrFun (congrFun d2 _) _).trans a2, (congrFun (congrFun d2 _) _).trans a3, (congrFun (congrFun d2 _) _).trans a4, (congrFun d1 _).trans a5, (hI _ _ (by decide)).trans a6, (hI _ _ (by decide)).trans a7, (hI _ _ (by decide)).trans a8, (hI _ _ (by decide)).trans a9, (congrFun d1 _).trans a10, (congrFun d3 _).trans a11, (congrFun d1 _).trans a12, (congrFun d3 _).trans a13⟩, ?_, fun j hj => ?_, fun j hj => ?_⟩, d1, d3, d2, d4, fun a => ?_⟩
    · rw [hIg]
      by_cases h9 : A + p1 ≤ 9999
      · rw [if_pos h9]
        exact ⟨hg1, hg2.trans ⟨fun h => ⟨h, Or.inr h9⟩, fun h => h.1⟩⟩
      · rw [if_neg h9]
        exact ⟨Or.inl rfl, ⟨fun h => absurd rfl h, fun h => by rcases h.2 with h | h; exact absurd h.symm e; exact absurd h h9⟩⟩
    · show zR (zsR (zsI S2 211 q (if A + p1 ≤ 9999 then zI S 211 q else 0)) 23 sn (upd (zR S 23 sn) p0.toNatClampNeg p2)) 23 sn j = (if j = p0.toNatClampNeg then p2 else lev j)
      rw [zR_s]
      by_cases hjp : j = p0.toNatClampNeg
      · rw [if_pos hjp, hjp, pk_us]
      · rw [if_neg hjp, pk_un hjp]
        exact hl j hj
    · obtain ⟨b1, b2, b3, b4, b5⟩ := hf j hj
      refine ⟨(congrFun (congrFun d4 _) _).trans b1, (congrFun d1 _).trans b2, (congrFun d3 _).trans b3, b4, ?_⟩
      have hr : zR (zsR (zsI S2 211 q (if A + p1 ≤ 9999 then zI S 211 q else 0)) 23 sn (upd (zR S 23 sn) p0.toNatClampNeg p2)) 23 (f j) = zR S2 23 (f j) := zR_a b4 rfl
      rw [hr]
      exact Nat.le_trans (d8 _) (Nat.succ_le_succ b5)
    · exact (zR_t (by decide) rfl).trans (d6 a)
/-- a level put among those last sent, with no tell -/
theorem zSe_put {S : zS} {q m0 rw sn : Nat} {f : Nat → Nat} {A p0 v : Int32} {lev : Nat → Int32} {G : Prop} {n : Nat} (hE : zSe S q m0 rw sn f A lev G n) (hv : v = 0 ∨ v = 1) :
    zSe (zsR S 23 sn (upd (zR S 23 sn) p0.toNatClampNeg (vp_nar .boolean v))) q m0 rw sn f A (fun j => if j = p0.toNatClampNeg then v else lev j) G n ∧ zFs S (zsR S 23 sn (upd (zR S 23 sn) p0.toNatClampNeg (vp_nar .boolean v))) := by
  obtain ⟨a, hg, hl, hf⟩ := hE
  refine ⟨⟨a, hg, fun j hj => ?_, fun j hj => ?_⟩, rfl, rfl, rfl, rfl, fun a => zR_t (by decide) rfl⟩
  · rw [zR_s, zvb hv]
    show _ = (if j = p0.toNatClampNeg then v else lev j)
    by_cases hjp : j = p0.toNatClampNeg
    · rw [if_pos hjp, hjp, pk_us]
    · rw [if_neg hjp, pk_un hjp]
      exact hl j hj
  · obtain ⟨b1, b2, b3, b4, b5⟩ := hf j hj
    refine ⟨b1, b2, b3, b4, ?_⟩
    have hr : zR (zsR S 23 sn (upd (zR S 23 sn) p0.toNatClampNeg (vp_nar .boolean v))) 23 (f j) = zR S 23 (f j) := zR_a b4 rfl
    rw [hr]
    exact b5
theorem zSe.weak {S : zS} {q m0 rw sn : Nat} {f : Nat → Nat} {A : Int32} {lev lev' : Nat → Int32} {G G' : Prop} {n n' : Nat} (hE : zSe S q m0 rw sn f A lev G n) (hl : ∀ j, j < 4 → lev j = lev' j) (hG : G ↔ G') (hn : n ≤ n') : zSe S q m0 rw sn f A lev' G' n' :=
  ⟨hE.1, ⟨hE.2.1.1, hE.2.1.2.trans hG⟩, fun j hj => (hE.2.2.1 j hj).trans (hl j hj), fun j hj => ⟨(hE.2.2.2 j hj).1, (hE.2.2.2 j hj).2.1, (hE.2.2.2 j hj).2.2.1, (hE.2.2.2 j hj).2.2.2.1, Nat.le_trans (hE.2.2.2 j hj).2.2.2.2 hn⟩⟩
theorem ztk_nn {p h : Int32} {m : Nat} (hp : 0 ≤ p ∧ p ≤ 9999) (hh : 1 ≤ h ∧ h ≤ 50) (hm : m ≤ 63) : 0 ≤ p + nI m * h := by
  rw [Int32.le_iff_toInt_le]
  have h1 : (p + nI m * h).toInt = znx p h m := ztk_i hp hh hm
  have h2 := znx_le (p := p) (m := 0) (m' := m) hh.1 (Nat.zero_le m)
  rw [znx_0] at h2
  have h3 := hp.1
  rw [Int32.le_iff_toInt_le] at h3
  omega
theorem zlS_01 {v par : Int32} (n : Nat) : zlS v par n = 0 ∨ zlS v par n = 1 := by
  cases n with
  | zero => exact Or.inr rfl
  | succ j => exact zbv_01 _ _
theorem zser_all {v par : Int32} (hv : 0 ≤ v ∧ v ≤ 255) (hp : par = 110 ∨ par = 101 ∨ par = 111) : zlS v par 1 = 0 ∧ (∀ k, k < 8 → zlS v par (k + 2) = zbv v (nI k)) ∧ (par = 110 → zlS v par 10 = 1) ∧ (¬ par = 110 → zlS v par 10 = zpl v par ∧ zlS v par 11 = 1) := by
  obtain ⟨A, hA, rfl⟩ := nI_of2 (x := v) (M := 255) (n := 255) rfl (by grind) hv.2
  rcases hp with rfl | rfl | rfl
  · have h := zser_n A (by omega)
    exact ⟨h.1, h.2.1, fun _ => h.2.2, fun q => absurd rfl q⟩
  · have h := zser_e A (by omega)
    exact ⟨h.1, h.2.1, fun q => absurd q (by decide), fun _ => ⟨h.2.2.1, h.2.2.2⟩⟩
  · have h := zser_o A (by omega)
    exact ⟨h.1, h.2.1, fun q => absurd q (by decide), fun _ => ⟨h.2.2.1, h.2.2.2⟩⟩
/-- one wire's next level -/
theorem zSe_one {S S1 : zS} {q m0 rw sn : Nat} {f : Nat → Nat} {A p0 p1 p2 : Int32} {L t : Nat → Int32} {k : Nat} (hE : zSe S q m0 rw sn f A (fun j => if j = p0.toNatClampNeg then L k else 0) (zgd L t k) k) (hp : 0 ≤ p0 ∧ p0 ≤ 3) (hv : p2 = L (k + 1)) (ht : A + p1 = t k)
    (hpost : ((if p0.toNatClampNeg = p0.toNatClampNeg then L k else 0) = p2 ∧ S1 = S) ∨ (¬ (if p0.toNatClampNeg = p0.toNatClampNeg then L k else 0) = p2 ∧ ∃ S2 : zS, ((A + p1 ≤ 9999 ∧ S2 = zsR S 23 (f p0.toNatClampNeg) (upd (zR S 23 (f p0.toNatClampNeg)) (A + p1).toNatClampNeg (zno (zR S 23 (f p0.toNatClampNeg) (A + p1).toNatClampNeg)))) ∨ (¬ A + p1 ≤ 9999 ∧ S2 = S)) ∧ S1 = zsR (zsI S2 211 q (if A + p1 ≤ 9999 then zI S 211 q else 0)) 23 sn (upd (zR S 23 sn) p0.toNatClampNeg p2))) :
    zSe S1 q m0 rw sn f A (fun j => if j = p0.toNatClampNeg then L (k + 1) else 0) (zgd L t (k + 1)) (k + 1) ∧ zFs S S1 := by
  have h := zSe_tell hE hp hpost
  refine ⟨h.1.weak (fun j _ => ?_) ?_ (Nat.le_refl _), h.2⟩
  · by_cases h9 : j = p0.toNatClampNeg
    · show (if j = p0.toNatClampNeg then p2 else if j = p0.toNatClampNeg then L k else 0) = _
      rw [if_pos h9, if_pos h9, hv]
    · show (if j = p0.toNatClampNeg then p2 else if j = p0.toNatClampNeg then L k else 0) = _
      rw [if_neg h9, if_neg h9, if_neg h9]
  · refine Iff.trans ?_ (zgd_s L t k)
    show (_ ∧ (p2 = (if p0.toNatClampNeg = p0.toNatClampNeg then L k else 0) ∨ A + p1 ≤ 9999)) ↔ _
    rw [if_pos rfl, hv, ht]
/-- the rows as 'ends' wants them -/
theorem zSe.ends {S : zS} {q m0 rw sn : Nat} {f : Nat → Nat} {A : Int32} {lev : Nat → Int32} {G : Prop} {n : Nat} (hE : zSe S q m0 rw sn f A lev G n) (hn : n ≤ 300) : ∀ j, j < 4 → zP S rw j = some (f j) ∧ zK S (f j) = 23 ∧ zN S (f j) = 10000 ∧ zct (zon (zR S 23 (f j))) 10000 ≤ 300 := fun j hj => ⟨(hE.2.2.2 j hj).1, (hE.2.2.2 j hj).2.1, (hE.2.2.2 j hj).2.2.1, Nat.le_trans (hE.2.2.2 j hj).2.2.2.2 hn⟩
theorem zend {g kd K r v : Int32} {G : Prop} (hg : ¬ g = 0 ↔ G) (hk : (G → kd = 0) ∧ (¬ G → kd = 3)) (h1 : K = if g = 0 then 3 else 0) (h2 : ¬ g = 0 → r = v) : K = kd ∧ (kd = 0 → r = v) := by
  by_cases h : g = 0
  · rw [if_pos h] at h1
    have e := hk.2 (fun q => hg.mpr q h)
    exact ⟨h1.trans e.symm, fun q => absurd (e.symm.trans q) (by decide)⟩
  · rw [if_neg h] at h1
    exact ⟨h1.trans (hk.1 (hg.mp h)).symm, fun _ => h2 h⟩
theorem kdg_serial {p0 p1 p2 p3 p4 : Int32} (h0 : 0 ≤ p0 ∧ p0 ≤ 3) (h1 : 0 ≤ p1 ∧ p1 ≤ 255) (h2 : 0 ≤ p2 ∧ p2 ≤ 9999) (h3 : 2 ≤ p3 ∧ p3 ≤ 50) (h4 : p4 = 110 ∨ p4 = 101 ∨ p4 = 111) : (zgd (zlS p1 p4) (ztk p2 p3) (zsbN p4) → kd_serial p0 p1 p2 p3 p4 = 0) ∧ (¬ zgd (zlS p1 p4) (ztk p2 p3) (zsbN p4) → kd_serial p0 p1 p2 p3 p4 = 3) := by
  have e : kd_serial p0 p1 p2 p3 p4 = if zgd (zlS p1 p4) (ztk p2 p3) (zsbN p4) then 0 else 3 := by
    unfold kd_serial
    rw [if_neg (fun q => q h0), if_neg (fun q => q ⟨h1, h2, h3, h4⟩)]
  rw [e]
  exact ⟨fun q => if_pos q, fun q => if_neg q⟩
theorem zpl_t {v par od e : Int32} (hod : od = if zbc v - zbc v / 2 * 2 = 1 then (1 : Int32) else 0) (he : (if par = 101 then (1 : Int32) else 0) = e) (h : od = e) : 1 = zpl v par := by
  unfold zpl
  rw [← hod, he, if_pos h]
theorem zpl_f {v par od e : Int32} (hod : od = if zbc v - zbc v / 2 * 2 = 1 then (1 : Int32) else 0) (he : (if par = 101 then (1 : Int32) else 0) = e) (h : ¬ od = e) : 0 = zpl v par := by
  unfold zpl
  rw [← hod, he, if_neg h]
