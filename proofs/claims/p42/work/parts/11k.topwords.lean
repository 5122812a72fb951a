/-! only what is new may be another -/
def zGw (S S1 : zS) : Prop := ∀ b, zK S b ≠ 0 → zK S1 b = zK S b ∧ zN S1 b = zN S b ∧ zP S1 b = zP S b ∧ (∀ k, zR S1 k b = zR S k b) ∧ ∀ t, zI S1 t b = zI S t b ∧ zQ S1 t b = zQ S t b
theorem zGw.rf {S : zS} : zGw S S := fun _ _ => ⟨rfl, rfl, rfl, fun _ => rfl, fun _ => ⟨rfl, rfl⟩⟩
theorem zGw.tr {S S1 S2 : zS} (h : zGw S S1) (h2 : zGw S1 S2) : zGw S S2 := fun b hb => by
  obtain ⟨a1, a2, a3, a4, a5⟩ := h b hb
  obtain ⟨b1, b2, b3, b4, b5⟩ := h2 b (by rw [a1]; exact hb)
  exact ⟨b1.trans a1, b2.trans a2, b3.trans a3, fun k => (b4 k).trans (a4 k), fun t => ⟨(b5 t).1.trans (a5 t).1, (b5 t).2.trans (a5 t).2⟩⟩
theorem zGw.nO {S : zS} {q k : Nat} (h : zK S q = 0) : zGw S (znO S q k) := fun b hb => ⟨zK_nO (zne h hb) rfl, rfl, rfl, fun _ => rfl, fun _ => ⟨zI_nO (zne h hb) rfl, zQ_nO (zne h hb) rfl⟩⟩
theorem zGw.Q {S S1 : zS} {q t : Nat} {v : Option Nat} (h : zGw S S1) (hq : zK S q = 0) : zGw S (zsQ S1 t q v) := fun b hb => by
  obtain ⟨a1, a2, a3, a4, a5⟩ := h b hb
  exact ⟨a1, a2, a3, a4, fun t' => ⟨(a5 t').1, zQ_a (zne hq hb) (a5 t').2⟩⟩
theorem zGw.nR {S : zS} {q k n : Nat} {f : Nat → Int32} (h : zK S q = 0) : zGw S (znR S q k n f) := fun b hb => ⟨zK_nR (zne h hb) rfl, zN_nR (zne h hb) rfl, rfl, fun _ => zR_nR (zne h hb) rfl, fun _ => ⟨rfl, rfl⟩⟩
theorem zGw.R {S S1 : zS} {q k : Nat} {f : Nat → Int32} (h : zGw S S1) (hq : zK S q = 0) : zGw S (zsR S1 k q f) := fun b hb => by
  obtain ⟨a1, a2, a3, a4, a5⟩ := h b hb
  exact ⟨a1, a2, a3, fun k' => zR_a (zne hq hb) (a4 k'), a5⟩
theorem zK_gw {S S1 : zS} {b k : Nat} (g : zGw S S1) (h : zK S b = k) (hk : k ≠ 0) : zK S1 b = k := (g b (by rw [h]; exact hk)).1.trans h
theorem zWire.gw {S S1 : zS} {w tk sn : Nat} (g : zGw S S1) (h : zWire S w tk sn) : zWire S1 w tk sn := by
  obtain ⟨h1, h2, h3, h4, h5, h6, h7, h8⟩ := h
  have gw := g w (by rw [h1]; decide)
  have gt := g tk (by rw [h4]; decide)
  have gs := g sn (by rw [h6]; decide)
  exact ⟨gw.1.trans h1, (gw.2.2.2.2 162).2.trans h2, (gw.2.2.2.2 165).2.trans h3, gt.1.trans h4, gt.2.1.trans h5, gs.1.trans h6, gs.2.1.trans h7, h8⟩
theorem zCap.gw {S S1 : zS} {c lv : Nat} (g : zGw S S1) (h : zCap S c lv) : zCap S1 c lv := by
  obtain ⟨h1, h2, h3, h4⟩ := h
  have gc := g c (by rw [h1]; decide)
  have gl := g lv (by rw [h3]; decide)
  exact ⟨gc.1.trans h1, (gc.2.2.2.2 65).2.trans h2, gl.1.trans h3, gl.2.1.trans h4⟩
theorem zDev.gw {S S1 : zS} {d r : Nat} (g : zGw S S1) (h : zDev S d r) : zDev S1 d r := by
  obtain ⟨h1, h2, h3, h4⟩ := h
  have gc := g d (by rw [h1]; decide)
  have gl := g r (by rw [h3]; decide)
  exact ⟨gc.1.trans h1, (gc.2.2.2.2 80).2.trans h2, gl.1.trans h3, gl.2.1.trans h4⟩
theorem zTrg.gw {S S1 : zS} {t k n m : Nat} (g : zGw S S1) (h : zTrg S t k n m) : zTrg S1 t k n m := by
  obtain ⟨h1, h2, h3, h4, h5, h6, h7, h8, h9, h10⟩ := h
  have gt := g t (by rw [h1]; decide)
  have gk := g k (by rw [h5]; decide)
  have gn := g n (by rw [h7]; decide)
  have gm := g m (by rw [h9]; decide)
  exact ⟨gt.1.trans h1, (gt.2.2.2.2 129).2.trans h2, (gt.2.2.2.2 130).2.trans h3, (gt.2.2.2.2 131).2.trans h4, gk.1.trans h5, gk.2.1.trans h6, gn.1.trans h7, gn.2.1.trans h8, gm.1.trans h9, gm.2.1.trans h10⟩
theorem zNts.gw {S S1 : zS} {t k b e v f : Nat} (g : zGw S S1) (h : zNts S t k b e v f) : zNts S1 t k b e v f := by
  obtain ⟨h1, h2, h3, h4, h5, h6, h7, h8, h9, h10, h11, h12, h13, h14, h15, h16⟩ := h
  have gt := g t (by rw [h1]; decide)
  have gk := g k (by rw [h7]; decide)
  have gb := g b (by rw [h9]; decide)
  have ge := g e (by rw [h11]; decide)
  have gv := g v (by rw [h13]; decide)
  have gf := g f (by rw [h15]; decide)
  exact ⟨gt.1.trans h1, (gt.2.2.2.2 113).2.trans h2, (gt.2.2.2.2 114).2.trans h3, (gt.2.2.2.2 115).2.trans h4, (gt.2.2.2.2 116).2.trans h5, (gt.2.2.2.2 117).2.trans h6, gk.1.trans h7, gk.2.1.trans h8, gb.1.trans h9, gb.2.1.trans h10, ge.1.trans h11, ge.2.1.trans h12, gv.1.trans h13, gv.2.1.trans h14, gf.1.trans h15, gf.2.1.trans h16⟩
theorem zX.gw {S S1 : zS} {a : Nat → Nat} (g : zGw S S1) (h : zX S a) : zX S1 a := by
  obtain ⟨h1, h2, h3, h4, h5, h6, h7, h8, h9, h10, h11, h12, h13, h14, h15, h16⟩ := h
  have g0 := g (a 0) (by rw [h1]; decide)
  have g1 := g (a 1) (by rw [h7]; decide)
  have g2 := g (a 2) (by rw [h9]; decide)
  have g4 := g (a 4) (by rw [h11]; decide)
  refine ⟨g0.1.trans h1, (g0.2.2.2.2 176).2.trans h2, (g0.2.2.2.2 177).2.trans h3, (g0.2.2.2.2 178).2.trans h4, (g0.2.2.2.2 179).2.trans h5, (g0.2.2.2.2 180).2.trans h6, g1.1.trans h7, g1.2.1.trans h8, g2.1.trans h9, g2.2.1.trans h10, g4.1.trans h11, h12.gw g, h13.gw g, fun i hi => ?_, h15, fun i hi => ?_⟩
  · rw [g1.2.2.1]
    exact ⟨(h14 i hi).1, (h14 i hi).2.gw g⟩
  · rw [g2.2.2.1]
    exact ⟨(h16 i hi).1, (h16 i hi).2.gw g⟩
theorem zNo.gw {S S1 : zS} {t k b e v f : Nat} {L : List zNt} (g : zGw S S1) (hN : zNts S t k b e v f) (h : zNo S t k b e v f L) : zNo S1 t k b e v f L := by
  obtain ⟨h1, h2, h3, h4, h5, h6, h7, h8, h9, h10, h11, h12, h13, h14, h15, h16⟩ := hN
  obtain ⟨n1, n2, n3⟩ := h
  have gt := g t (by rw [h1]; decide)
  have gk := g k (by rw [h7]; decide)
  have gb := g b (by rw [h9]; decide)
  have ge := g e (by rw [h11]; decide)
  have gv := g v (by rw [h13]; decide)
  have gf := g f (by rw [h15]; decide)
  refine ⟨(gt.2.2.2.2 112).1.trans n1, n2, fun j x hx => ?_⟩
  rw [gk.2.2.2.1, gb.2.2.2.1, ge.2.2.2.1, gv.2.2.2.1, gf.2.2.2.1]
  exact n3 j x hx
/-! a capture is taken -/
theorem zRk.cp {S : zS} {w tk lv c n : Nat} {f : Nat → Int32} {v : Int32} (h : zRk S w tk n) (hne : tk ≠ lv) : zRk (zsI (zsR S 22 lv f) 64 c v) w tk n := by
  have e : zR (zsI (zsR S 22 lv f) 64 c v) 22 tk = zR S 22 tk := zR_a hne rfl
  unfold zRk
  rw [e]
  exact ⟨zI_t (by decide) h.1, h.2⟩
theorem zlv.cp {S : zS} {w tk lv c n : Nat} {f : Nat → Int32} {v : Int32} {t : Int} (hne : tk ≠ lv) : zlv (zsI (zsR S 22 lv f) 64 c v) w tk n t = zlv S w tk n t := by
  have e : zR (zsI (zsR S 22 lv f) 64 c v) 22 tk = zR S 22 tk := zR_a hne rfl
  have e2 : zI (zsI (zsR S 22 lv f) 64 c v) 160 w = zI S 160 w := zI_t (by decide) rfl
  unfold zlv
  rw [e, e2]
theorem zcap_s {S : zS} {old : Nat → Int32} {lv c mm i : Nat} {L : Nat → Nat → Bool} {L' : Nat → Bool} {v : Int32} (hL : ∀ j, L' j = L i j) : zsR (zsI (zsR S 22 lv (zcg4 old L mm i)) 64 c v) 22 lv (zsg (zR (zsI (zsR S 22 lv (zcg4 old L mm i)) 64 c v) 22 lv) ((1 : Int32) <<< (nI i &&& 31)) L' mm) = zsI (zsR S 22 lv (zcg4 old L mm (i + 1))) 64 c v := by
  have e : L' = L i := funext hL
  subst e
  show zsI (zsR (zsR S 22 lv (zcg4 old L mm i)) 22 lv (zsg (zR (zsR S 22 lv (zcg4 old L mm i)) 22 lv) ((1 : Int32) <<< (nI i &&& 31)) (L i) mm)) 64 c v = _
  rw [zR_s, zsR_zsR]
  rfl
theorem zct_pos {p : Nat → Bool} {j : Nat} (hp : p j = true) : ∀ {n : Nat}, j < n → 0 < zct p n
  | 0, h => absurd h (Nat.not_lt_zero j)
  | n + 1, h => by
    rw [zct_s]
    by_cases e : j = n
    · subst e
      rw [if_pos hp]
      omega
    · have := zct_pos (p := p) hp (n := n) (by omega)
      omega
theorem zcap_e {S : zS} {old : Nat → Int32} {lv c mm : Nat} {L : Nat → Nat → Bool} (hmm : 1 ≤ mm ∧ mm ≤ 400) : (∃ k, nI (zct (fun j => decide (¬ zR (zsI (zsR S 22 lv (zcg4 old L mm 4)) 64 c (nI mm)) 22 lv (j + 1) = zR (zsI (zsR S 22 lv (zcg4 old L mm 4)) 64 c (nI mm)) 22 lv j)) (mm - 1)) = nI k ∧ k ≤ 400 ∧ ((∃ w j, w < 4 ∧ j + 1 < mm ∧ ¬ L w (j + 1) = L w j) → 0 < k)) ∧ zCp (zsI (zsR S 22 lv (zcg4 old L mm 4)) 64 c (nI mm)) c lv mm L ∧ zFr S (zsI (zsR S 22 lv (zcg4 old L mm 4)) 64 c (nI mm)) (fun t x => t = 64 ∧ x = c) (fun k x => k = 22 ∧ x = lv) := by
  have e : zR (zsI (zsR S 22 lv (zcg4 old L mm 4)) 64 c (nI mm)) 22 lv = zcg4 old L mm 4 := zR_s _ _ _ _
  refine ⟨⟨_, rfl, Nat.le_trans (zct_le _ _) (by omega), ?_⟩, ⟨zI_s _ _ _ _, hmm.2, fun w i hw hi => ?_⟩, (zFr.R ⟨rfl, rfl⟩).tr (zFr.I ⟨rfl, rfl⟩)⟩
  · rintro ⟨w, j, hw, hj, hne⟩
    rw [e]
    have hne2 : ¬ zcg4 old L mm 4 (j + 1) = zcg4 old L mm 4 j := fun g => hne (by
      have h1 := zcg4_at (old := old) (L := L) hmm.2 hj hw
      have h2 := zcg4_at (old := old) (L := L) (j := j) hmm.2 (by omega) hw
      rw [g, h2] at h1
      cases q : L w (j + 1) <;> cases q2 : L w j
      · rfl
      · rw [q, q2] at h1
        exact absurd (h1.mp rfl) (by decide)
      · rw [q, q2] at h1
        exact absurd (h1.mpr rfl) (by decide)
      · rfl)
    exact zct_pos (j := j) (decide_eq_true hne2) (by omega)
  · rw [e]
    exact zcg4_at hmm.2 hi hw
/-- a decoder leaves the object and its captures as they were -/
def zDc (S S1 : zS) (a : Nat → Nat) : Prop := zX S1 a ∧ zNts S1 (a 4) (a 60) (a 61) (a 62) (a 63) (a 64) ∧ ∀ i, i < 2 → zI S1 64 (a (40 + i)) = zI S 64 (a (40 + i)) ∧ zR S1 22 (a (50 + i)) = zR S 22 (a (50 + i))
theorem zDc.cp {S S1 : zS} {a : Nat → Nat} (h : zDc S S1 a) {q mm : Nat} {M : Nat → Nat → Bool} (hq : q < 2) (hM : zCp S (a (40 + q)) (a (50 + q)) mm M) : zCp S1 (a (40 + q)) (a (50 + q)) mm M := by
  obtain ⟨h1, h2⟩ := h.2.2 q hq
  unfold zCp
  rw [h1, h2]
  exact hM
theorem zDc.tr {S S1 S2 : zS} {a : Nat → Nat} (h : zDc S S1 a) (h2 : zDc S1 S2 a) : zDc S S2 a := ⟨h2.1, h2.2.1, fun i hi => ⟨(h2.2.2 i hi).1.trans (h.2.2 i hi).1, (h2.2.2 i hi).2.trans (h.2.2 i hi).2⟩⟩
theorem zDc.fr {S S1 : zS} {a : Nat → Nat} {TI TR : Nat → Nat → Prop} (hX : zX S a) (hN : zNts S (a 4) (a 60) (a 61) (a 62) (a 63) (a 64)) (h : zFr S S1 TI TR) (h1 : ∀ i, i < 2 → ¬ TI 64 (a (40 + i))) (h2 : ∀ i, i < 2 → ¬ TR 22 (a (50 + i))) : zDc S S1 a := ⟨zX.fix h.1 hX, zNts.fix h.1 hN, fun i hi => ⟨h.2.1 _ _ (h1 i hi), h.2.2.1 _ _ (h2 i hi)⟩⟩
theorem zDc.gw {S S1 : zS} {a : Nat → Nat} (hX : zX S a) (hN : zNts S (a 4) (a 60) (a 61) (a 62) (a 63) (a 64)) (g : zGw S S1) : zDc S S1 a := ⟨zX.gw g hX, zNts.gw g hN, fun i hi => by
  obtain ⟨-, -, -, -, -, -, -, -, -, -, -, -, -, -, -, hc⟩ := hX
  obtain ⟨k1, -, k3, -⟩ := (hc i hi).2
  exact ⟨((g _ (by rw [k1]; decide)).2.2.2.2 64).1, (g _ (by rw [k3]; decide)).2.2.2.1 22⟩⟩
theorem zNR.cap {a : Nat → Nat} (hD : zDs a) : ∀ i, i < 2 → ¬ zNR (a 60) (a 61) (a 62) (a 63) (a 64) 22 (a (50 + i)) := fun i hi g => by
  rcases g with ⟨g, -⟩ | ⟨-, g⟩
  · exact absurd g (by decide)
  · rcases g with g | g | g
    · exact hD _ (zr50 i hi) 61 (by decide) (by omega) g
    · exact hD _ (zr50 i hi) 62 (by decide) (by omega) g
    · exact hD _ (zr50 i hi) 63 (by decide) (by omega) g
theorem zWR.cap {a : Nat → Nat} (hD : zDs a) : ∀ i, i < 2 → ¬ zWR (a 60) (a 61) (a 62) (a 63) (a 64) (a 6) 22 (a (50 + i)) := fun i hi g => by
  rcases g with ⟨g, -⟩ | ⟨-, g⟩
  · exact absurd g (by decide)
  · rcases g with g | g | g | g
    · exact hD _ (zr50 i hi) 61 (by decide) (by omega) g
    · exact hD _ (zr50 i hi) 62 (by decide) (by omega) g
    · exact hD _ (zr50 i hi) 63 (by decide) (by omega) g
    · exact hD _ (zr50 i hi) 6 (by decide) (by omega) g
theorem zNR.wr {k b e v f rg : Nat} : ∀ t x, zNR k b e v f t x → zWR k b e v f rg t x := fun _ _ g => g.imp (fun g => g) (fun g => ⟨g.1, g.2.imp (fun g => g) (fun g => g.imp (fun g => g) Or.inl)⟩)
theorem zNR.a6 {a : Nat → Nat} (hD : zDs a) : ¬ zNR (a 60) (a 61) (a 62) (a 63) (a 64) 22 (a 6) := fun g => by
  rcases g with ⟨g, -⟩ | ⟨-, g⟩
  · exact absurd g (by decide)
  · rcases g with g | g | g
    · exact hD 6 (by decide) 61 (by decide) (by decide) g
    · exact hD 6 (by decide) 62 (by decide) (by decide) g
    · exact hD 6 (by decide) 63 (by decide) (by decide) g
def zsm4 (N : Nat → Nat) : Nat → Nat
  | 0 => 0
  | i + 1 => zsm4 N i + N i
