set_option maxHeartbeats 4000000 in
set_option maxRecDepth 100000 in
/-- X0_has -/
theorem c_X0_has (l : Launch) (D : va_G) (y : Nat → ClassId) (base : Nat) (S : zS) (c0 : Nat) (lv : Nat) (p0 : Int32) (hC : zCap S c0 lv) : zMi l yX0_has wsX0_has ({ frames := 0, cells := 0, slots := 0, locals := 0 }) [.ref c0, .int p0] D y base S (fun (r : Int32) (S1 : zS) => r = zb (0 ≤ p0 ∧ p0 < zI S 64 c0 ∧ p0 < 400) ∧ S1 = S) 0 0 := by
  refine zMet_of (cc := cX0_has) (maxL := 2) (ret := (some .boolean)) (own := RX0) (by decide +kernel) rfl rfl (Nat.le_of_ble_eq_true rfl) ?_
  intro p e s m args below meth c ls C hr hlocks hnm hw hl
  have hx := C.1
  have hb := C.2.1
  have hown := C.2.2.2.1
  have hts := C.2.2.2.2
  have hl : lv_has ls 2 [(0, .ref c0), (1, .int p0)] := hl
  have in_X0 : ∀ w ∈ wsX00, w ∈ wsX0_has := by decide +kernel
  refine lv_iload_n hx hb dX0_has_0 rfl (lv_at hl 1 rfl) ?_
  refine lv_if_lt (tgt := 25) hx hb dX0_has_1 (by decide) (fun c1 => ?_) (fun c1 => ?_)
  · refine lv_iconst (v := 0) hx hb dX0_has_25 (by decide) ?_
    exact zri C hw hr hlocks (by decide) ⟨zb_f (by grind), rfl⟩ ⟨Nat.le_of_ble_eq_true rfl, Nat.le_of_ble_eq_true rfl⟩ dX0_has_26
  · refine lv_iload_n hx hb dX0_has_4 rfl (lv_at hl 1 rfl) ?_
    refine lv_aload_n hx hb dX0_has_5 rfl (lv_at hl 0 rfl) ?_
    refine g_Cap_count (a := c0) (v := (zI S 64 c0)) C hw hC.1 in_X0 (by decide +kernel) rfl dX0_has_6 ?_
    refine lv_icmp_ge (tgt := 25) hx hb dX0_has_9 (by decide) (fun c9 => ?_) (fun c9 => ?_)
    · refine lv_iconst (v := 0) hx hb dX0_has_25 (by decide) ?_
      exact zri C hw hr hlocks (by decide) ⟨zb_f (by grind), rfl⟩ ⟨Nat.le_of_ble_eq_true rfl, Nat.le_of_ble_eq_true rfl⟩ dX0_has_26
    · refine lv_iload_n hx hb dX0_has_12 rfl (lv_at hl 1 rfl) ?_
      refine lv_aload_n hx hb dX0_has_13 rfl (lv_at hl 0 rfl) ?_
      refine g_Cap_levels (a := c0) (v := lv) C hw hC.1 in_X0 (by decide +kernel) hC.2.1 dX0_has_14 ?_
      refine zalen (a := lv) (v := 400) C hw hC.2.2.1 (by decide) (t0 := 1) rfl (zlen hC.2.2.2 rfl) dX0_has_17 ?_
      refine lv_icmp_ge (tgt := 25) hx hb dX0_has_18 (by decide) (fun c18 => ?_) (fun c18 => ?_)
      · refine lv_iconst (v := 0) hx hb dX0_has_25 (by decide) ?_
        exact zri C hw hr hlocks (by decide) ⟨zb_f (by grind), rfl⟩ ⟨Nat.le_of_ble_eq_true rfl, Nat.le_of_ble_eq_true rfl⟩ dX0_has_26
      · refine lv_iconst (v := 1) hx hb dX0_has_21 (by decide) ?_
        refine lv_goto (tgt := 26) hx hb dX0_has_22 (by decide) ?_
        exact zri C hw hr hlocks (by decide) ⟨zb_t (by grind), rfl⟩ ⟨Nat.le_of_ble_eq_true rfl, Nat.le_of_ble_eq_true rfl⟩ dX0_has_26

set_option maxHeartbeats 4000000 in
set_option maxRecDepth 100000 in
/-- X0_levelsAt -/
theorem c_X0_levelsAt (l : Launch) (D : va_G) (y : Nat → ClassId) (base : Nat) (S : zS) (c0 : Nat) (lv : Nat) (p0 : Int32) (hC : zCap S c0 lv) : zMi l yX0_levelsAt wsX0_levelsAt ({ frames := 1, cells := 0, slots := 0, locals := 21 }) [.ref c0, .int p0] D y base S (fun (r : Int32) (S1 : zS) => (((0 ≤ p0 ∧ p0 < zI S 64 c0 ∧ p0 < 400) ∧ r = zR S 22 lv p0.toNatClampNeg) ∨ (¬ (0 ≤ p0 ∧ p0 < zI S 64 c0 ∧ p0 < 400) ∧ r = 0)) ∧ S1 = S) 0 0 := by
  refine zMet_of (cc := cX0_levelsAt) (maxL := 2) (ret := (some .int)) (own := RX0) (by decide +kernel) rfl rfl (Nat.le_of_ble_eq_true rfl) ?_
  intro p e s m args below meth c ls C hr hlocks hnm hw hl
  have hx := C.1
  have hb := C.2.1
  have hown := C.2.2.2.1
  have hts := C.2.2.2.2
  have hl : lv_has ls 2 [(0, .ref c0), (1, .int p0)] := hl
  have in_X0 : ∀ w ∈ wsX00, w ∈ wsX0_levelsAt := by decide +kernel
  refine lv_aload_n hx hb dX0_levelsAt_0 rfl (lv_at hl 0 rfl) ?_
  refine lv_iload_n hx hb dX0_levelsAt_1 rfl (lv_at hl 1 rfl) ?_
  refine zcV_i (As := [.int p0]) (rest := []) (n9 := 1) (b := c0) C hw (c_X0_has l D y base S c0 lv p0 hC) gX0_levelsAt_X0_has rfl (by decide +kernel) ⟨⟨rfl, rfl⟩, Nat.le_of_ble_eq_true rfl, Nat.le_of_ble_eq_true rfl⟩ hC.1 ⟨by decide, by decide⟩ rfl rfl hl.1 rfl (Nat.le_of_ble_eq_true rfl) ⟨Nat.le_of_ble_eq_true rfl, Nat.le_of_ble_eq_true rfl⟩ dX0_levelsAt_2 (fun r2 S2 H locs hp2 hw => ?_)
  obtain ⟨rfl, hS9⟩ := hp2
  have hS9 := hS9.symm
  subst hS9
  refine lv_if_eq (tgt := 17) hx hb dX0_levelsAt_5 (by decide) (fun c5 => ?_) (fun c5 => ?_)
  · replace c5 := zb0.mp c5
    refine lv_iconst (v := 0) hx hb dX0_levelsAt_17 (by decide) ?_
    exact zri C hw hr hlocks rfl ⟨Or.inr ⟨c5, rfl⟩, rfl⟩ ⟨Nat.le_of_ble_eq_true rfl, Nat.le_of_ble_eq_true rfl⟩ dX0_levelsAt_18
  · replace c5 := zb1.mp c5
    refine lv_aload_n hx hb dX0_levelsAt_8 rfl (lv_at hl 0 rfl) ?_
    refine g_Cap_levels (a := c0) (v := lv) C hw hC.1 in_X0 (by decide +kernel) hC.2.1 dX0_levelsAt_9 ?_
    refine lv_iload_n hx hb dX0_levelsAt_12 rfl (lv_at hl 1 rfl) ?_
    refine zald_I (a := lv) C hw hC.2.2.1 hC.2.2.2 (zin_of (N := 400) (by decide) c5.1 c5.2.2) dX0_levelsAt_13 ?_
    refine lv_goto (tgt := 18) hx hb dX0_levelsAt_14 (by decide) ?_
    exact zri C hw hr hlocks rfl ⟨Or.inl ⟨c5, rfl⟩, rfl⟩ ⟨Nat.le_of_ble_eq_true rfl, Nat.le_of_ble_eq_true rfl⟩ dX0_levelsAt_18

set_option maxHeartbeats 4000000 in
set_option maxRecDepth 100000 in
/-- X0_changeCount -/
theorem c_X0_changeCount (l : Launch) (D : va_G) (y : Nat → ClassId) (base : Nat) (S : zS) (c0 : Nat) (lv : Nat) (hC : zCap S c0 lv) (hz : ∀ j, zR S 22 lv j = 0) : zMi l yX0_changeCount wsX0_changeCount ({ frames := 2, cells := 0, slots := 0, locals := 42 }) [.ref c0] D y base S (fun (r : Int32) (S1 : zS) => r = 0 ∧ S1 = S) 0 0 := by
  refine zMet_of (cc := cX0_changeCount) (maxL := 3) (ret := (some .int)) (own := RX0) (by decide +kernel) rfl rfl (Nat.le_of_ble_eq_true rfl) ?_
  intro p e s m args below meth c ls C hr hlocks hnm hw hl
  have hx := C.1
  have hb := C.2.1
  have hown := C.2.2.2.1
  have hts := C.2.2.2.2
  have hl : lv_has ls 3 [(0, .ref c0)] := hl
  have in_X0 : ∀ w ∈ wsX00, w ∈ wsX0_changeCount := by decide +kernel
  refine lv_iconst (v := 0) hx hb dX0_changeCount_0 (by decide) ?_
  refine lv_istore_n (lv' := [(1, .int 0), (0, .ref c0)]) hx hb dX0_changeCount_1 rfl hl (by decide) rfl (fun ls hl => ?_)
  refine lv_iconst (v := 1) hx hb dX0_changeCount_2 (by decide) ?_
  refine lv_istore_n (lv' := [(2, .int 1), (1, .int 0), (0, .ref c0)]) hx hb dX0_changeCount_3 rfl hl (by decide) rfl (fun ls hl => ?_)
  have lp_2 : ∀ (n9 : Nat) (i : Nat) (H : Heap) (locs : List Loc) (ls : Array Slot), 2147483648 - i < n9 → (1 ≤ i ∧ i < 2147483648) → zW D y base S s H locs → lv_has ls 3 [(2, .int (nI i)), (1, .int 0), (0, .ref c0)] → W p l e (headSpec wsX0_changeCount ({ frames := 2, cells := 0, slots := 0, locals := 42 })).room s m args below meth c H locs 0 0 (MQ below (va_Qi (fun (r : Int32) (S1 : zS) => r = 0 ∧ S1 = S) (zPost D y base) (zA base)) args s 0 0 (zA base)) (F0 m 4 ls []) := by
    intro n9
    induction n9 with
    | zero =>
      intro i H locs ls hn9
      exact absurd hn9 (Nat.not_lt_zero _)
    | succ n9 ih_1 =>
      intro i H locs ls hn9 hi hw hl
      refine lv_iload_n hx hb dX0_changeCount_4 rfl (lv_at hl 0 rfl) ?_
      refine lv_aload_n hx hb dX0_changeCount_5 rfl (lv_at hl 2 rfl) ?_
      refine g_Cap_count (a := c0) (v := (zI S 64 c0)) C hw hC.1 in_X0 (by decide +kernel) rfl dX0_changeCount_6 ?_
      refine lv_icmp_ge (tgt := 36) hx hb dX0_changeCount_9 (by decide) (fun c9 => ?_) (fun c9 => ?_)
      · refine lv_iload_n hx hb dX0_changeCount_36 rfl (lv_at hl 1 rfl) ?_
        exact zri C hw hr hlocks rfl (by first | exact ⟨rfl, rfl⟩ | exact rfl | (refine ⟨?_, rfl⟩; grind) | grind) ⟨Nat.le_of_ble_eq_true rfl, Nat.le_of_ble_eq_true rfl⟩ dX0_changeCount_37
      · have hlt9 : i + 1 < 2147483648 := by have h1 := z_cl_lt c9 (i := i) (by omega); have h2 := z_cl31 (zI S 64 c0); omega
        refine lv_aload_n hx hb dX0_changeCount_12 rfl (lv_at hl 2 rfl) ?_
        refine lv_iload_n hx hb dX0_changeCount_13 rfl (lv_at hl 0 rfl) ?_
        refine zcV_i (As := [.int (nI i)]) (rest := []) (n9 := 1) (b := c0) C hw (c_X0_levelsAt l D y base S c0 lv (nI i) hC) gX0_changeCount_X0_levelsAt rfl (by decide +kernel) ⟨⟨rfl, rfl⟩, Nat.le_of_ble_eq_true rfl, Nat.le_of_ble_eq_true rfl⟩ hC.1 ⟨by decide, by decide⟩ rfl rfl hl.1 rfl (Nat.le_of_ble_eq_true rfl) ⟨Nat.le_of_ble_eq_true rfl, Nat.le_of_ble_eq_true rfl⟩ dX0_changeCount_14 (fun r14 S14 H locs hp14 hw => ?_)
        obtain ⟨hp14, hS9⟩ := hp14
        have hS9 := hS9.symm
        subst hS9
        refine lv_aload_n hx hb dX0_changeCount_17 rfl (lv_at hl 2 rfl) ?_
        refine lv_iload_n hx hb dX0_changeCount_18 rfl (lv_at hl 0 rfl) ?_
        refine lv_iconst (v := 1) hx hb dX0_changeCount_19 (by decide) ?_
        refine lv_isub hx hb dX0_changeCount_20 ?_
        refine zcV_i (As := [.int ((nI i) - 1)]) (rest := [.int r14]) (n9 := 1) (b := c0) C hw (c_X0_levelsAt l D y base S c0 lv ((nI i) - 1) hC) gX0_changeCount_X0_levelsAt rfl (by decide +kernel) ⟨⟨rfl, rfl⟩, Nat.le_of_ble_eq_true rfl, Nat.le_of_ble_eq_true rfl⟩ hC.1 ⟨by decide, by decide⟩ rfl rfl hl.1 rfl (Nat.le_of_ble_eq_true rfl) ⟨Nat.le_of_ble_eq_true rfl, Nat.le_of_ble_eq_true rfl⟩ dX0_changeCount_21 (fun r21 S21 H locs hp21 hw => ?_)
        obtain ⟨hp21, hS9⟩ := hp21
        have hS9 := hS9.symm
        subst hS9
        refine lv_icmp_eq (tgt := 30) hx hb dX0_changeCount_24 (by decide) (fun c24 => ?_) (fun c24 => (show False from (by rcases hp14 with ⟨_, h⟩ | ⟨_, h⟩ <;> rcases hp21 with ⟨_, h2⟩ | ⟨_, h2⟩ <;> (apply c24; rw [h, h2]; try rw [hz]; try rw [hz]))).elim)
        refine lv_iinc (v := (nI (i + 1))) (lv' := [(2, .int (nI (i + 1))), (1, .int 0), (0, .ref c0)]) hx hb dX0_changeCount_30 hl (k := 0) rfl (nI_1 _) (by decide) rfl (fun ls hl => ?_)
        refine lv_goto (tgt := 4) hx hb dX0_changeCount_33 (by decide) ?_
        exact ih_1 (i + 1) _ _ _ (by omega) (by have := hlt9; omega) hw (lv_sub hl [0, 1, 2] rfl)
  exact lp_2 _ 1 _ _ _ (Nat.lt_succ_self _) (by omega) hw (lv_sub hl [0, 1, 2] rfl)

set_option maxHeartbeats 4000000 in
set_option maxRecDepth 100000 in
/-- J7_fill_53178 -/
theorem c_J7_fill_53178 (l : Launch) (D : va_G) (y : Nat → ClassId) (base : Nat) (S : zS) (a0 : Nat) (p0 : Int32) (n : Nat) (hk : zK S a0 = 22) (hn : zN S a0 = n) (hn3 : n < 2 ^ 31) : zMv l yJ7_fill_53178 wsJ7_fill_53178 ({ frames := 0, cells := 0, slots := 0, locals := 0 }) [.ref a0, .int p0] D y base S (fun (S1 : zS) => S1 = zsR S 22 a0 (fun j => if j < n then p0 else zR S 22 a0 j)) 0 0 := by
  refine zMet_of (cc := cJ7_fill_53178) (maxL := 4) (ret := none) (own := RJ7) (by decide +kernel) rfl rfl (Nat.le_of_ble_eq_true rfl) ?_
  intro p e s m args below meth c ls C hr hlocks hnm hw hl
  have hx := C.1
  have hb := C.2.1
  have hown := C.2.2.2.1
  have hts := C.2.2.2.2
  have hl : lv_has ls 4 [(0, .ref a0), (1, .int p0)] := hl
  refine lv_iconst (v := 0) hx hb dJ7_fill_53178_0 (by decide) ?_
  refine lv_istore_n (lv' := [(2, .int 0), (0, .ref a0), (1, .int p0)]) hx hb dJ7_fill_53178_1 rfl hl (by decide) rfl (fun ls hl => ?_)
  refine lv_aload_n hx hb dJ7_fill_53178_2 rfl (lv_at hl 1 rfl) ?_
  refine zalen (a := a0) (v := (nI n)) C hw hk (by decide) (t0 := 1) rfl (zlen hn rfl) dJ7_fill_53178_3 ?_
  refine lv_istore_n (lv' := [(3, .int (nI n)), (2, .int 0), (0, .ref a0), (1, .int p0)]) hx hb dJ7_fill_53178_4 rfl hl (by decide) rfl (fun ls hl => ?_)
  rw [← zsR_self S 22 a0] at hw
  have lp_2 : ∀ (n9 : Nat) (i : Nat) (g : Nat → Int32) (H : Heap) (locs : List Loc) (ls : Array Slot), n - i < n9 → (i ≤ n) → (∀ j, g j = if j < i then p0 else zR S 22 a0 j) → zW D y base (zsR S 22 a0 g) s H locs → lv_has ls 4 [(2, .int (nI i)), (3, .int (nI n)), (0, .ref a0), (1, .int p0)] → W p l e (headSpec wsJ7_fill_53178 ({ frames := 0, cells := 0, slots := 0, locals := 0 })).room s m args below meth c H locs 0 0 (MQ below (va_Qv (fun (S1 : zS) => S1 = zsR S 22 a0 (fun j => if j < n then p0 else zR S 22 a0 j)) (zPost D y base) (zA base)) args s 0 0 (zA base)) (F0 m 5 ls []) := by
    intro n9
    induction n9 with
    | zero =>
      intro i g H locs ls hn9
      exact absurd hn9 (Nat.not_lt_zero _)
    | succ n9 ih_1 =>
      intro i g H locs ls hn9 hi hg hw hl
      refine lv_iload_n hx hb dJ7_fill_53178_5 rfl (lv_at hl 0 rfl) ?_
      refine lv_iload_n hx hb dJ7_fill_53178_6 rfl (lv_at hl 1 rfl) ?_
      refine lv_icmp_ge (tgt := 20) hx hb dJ7_fill_53178_7 (by decide) (fun c7 => ?_) (fun c7 => ?_)
      · exact zrv C hw hr hlocks (by rw [show g = (fun j => if j < n then p0 else zR S 22 a0 j) from (funext fun j => by rw [hg, show i = n by have := z_ge (n := n) c7 (by omega) (by omega); omega])]) ⟨Nat.le_of_ble_eq_true rfl, Nat.le_of_ble_eq_true rfl⟩ dJ7_fill_53178_20
      · refine lv_aload_n hx hb dJ7_fill_53178_10 rfl (lv_at hl 2 rfl) ?_
        refine lv_iload_n hx hb dJ7_fill_53178_11 rfl (lv_at hl 0 rfl) ?_
        refine lv_iload_n hx hb dJ7_fill_53178_12 rfl (lv_at hl 3 rfl) ?_
        refine zast_I (a := a0) C hw hk hn (vp_in_nI (z_lt (n := n) c7 (by omega) (by omega)) (by omega)) dJ7_fill_53178_13 (fun H locs hw => ?_)
        refine lv_iinc (v := (nI (i + 1))) (lv' := [(2, .int (nI (i + 1))), (3, .int (nI n)), (0, .ref a0), (1, .int p0)]) hx hb dJ7_fill_53178_14 hl (k := 0) rfl (nI_1 _) (by decide) rfl (fun ls hl => ?_)
        refine lv_goto (tgt := 5) hx hb dJ7_fill_53178_17 (by decide) ?_
        rw [zR_s, zsR_zsR, nI_clamp (by omega)] at hw
        exact ih_1 (i + 1) (upd g i p0) _ _ _ (by have := z_lt (n := n) c7 (by omega) (by omega); omega) (by have := z_lt (n := n) c7 (by omega) (by omega); omega) (by intro j; by_cases e : j = i; subst e; rw [pk_us, if_pos (by omega)]; rw [pk_un e, hg]; by_cases h : j < i; rw [if_pos h, if_pos (by omega)]; rw [if_neg h, if_neg (by omega)]) hw (lv_sub hl [0, 1, 2, 3] rfl)
  exact lp_2 _ 0 (zR S 22 a0) _ _ _ (Nat.lt_succ_self _) (Nat.zero_le _) (fun j => by rw [if_neg (Nat.not_lt_zero _)]) hw (lv_sub hl [1, 0, 2, 3] rfl)

set_option maxHeartbeats 4000000 in
set_option maxRecDepth 100000 in
/-- X0_runCount -/
theorem c_X0_runCount (l : Launch) (D : va_G) (y : Nat → ClassId) (base : Nat) (S : zS) (c0 : Nat) (lv : Nat) (p0 : Int32) (hC : zCap S c0 lv) (hc0 : zI S 64 c0 = 0) : zMi l yX0_runCount wsX0_runCount ({ frames := 0, cells := 0, slots := 0, locals := 0 }) [.ref c0, .int p0] D y base S (fun (r : Int32) (S1 : zS) => r = 0 ∧ S1 = S) 0 0 := by
  refine zMet_of (cc := cX0_runCount) (maxL := 4) (ret := (some .int)) (own := RX0) (by decide +kernel) rfl rfl (Nat.le_of_ble_eq_true rfl) ?_
  intro p e s m args below meth c ls C hr hlocks hnm hw hl
  have hx := C.1
  have hb := C.2.1
  have hown := C.2.2.2.1
  have hts := C.2.2.2.2
  have hl : lv_has ls 4 [(0, .ref c0), (1, .int p0)] := hl
  have in_X0 : ∀ w ∈ wsX00, w ∈ wsX0_runCount := by decide +kernel
  refine lv_aload_n hx hb dX0_runCount_0 rfl (lv_at hl 0 rfl) ?_
  refine g_Cap_count (a := c0) (v := 0) C hw hC.1 in_X0 (by decide +kernel) hc0 dX0_runCount_1 ?_
  refine lv_if_le (tgt := 11) hx hb dX0_runCount_4 (by decide) (fun _ => ?_) (fun c4 => absurd c4 (by decide))
  refine lv_iconst (v := 0) hx hb dX0_runCount_11 (by decide) ?_
  refine lv_istore_n (lv' := [(2, .int 0), (0, .ref c0), (1, .int p0)]) hx hb dX0_runCount_12 rfl hl (by decide) rfl (fun ls hl => ?_)
  refine lv_iconst (v := 1) hx hb dX0_runCount_13 (by decide) ?_
  refine lv_istore_n (lv' := [(3, .int 1), (2, .int 0), (0, .ref c0), (1, .int p0)]) hx hb dX0_runCount_14 rfl hl (by decide) rfl (fun ls hl => ?_)
  refine lv_iload_n hx hb dX0_runCount_15 rfl (lv_at hl 0 rfl) ?_
  refine lv_aload_n hx hb dX0_runCount_16 rfl (lv_at hl 2 rfl) ?_
  refine g_Cap_count (a := c0) (v := 0) C hw hC.1 in_X0 (by decide +kernel) hc0 dX0_runCount_17 ?_
  refine lv_icmp_ge (tgt := 41) hx hb dX0_runCount_20 (by decide) (fun _ => ?_) (fun c20 => absurd c20 (by decide))
  refine lv_iload_n hx hb dX0_runCount_41 rfl (lv_at hl 1 rfl) ?_
  exact zri C hw hr hlocks rfl (by first | exact ⟨rfl, rfl⟩ | exact rfl | (refine ⟨?_, rfl⟩; grind) | grind) ⟨Nat.le_of_ble_eq_true rfl, Nat.le_of_ble_eq_true rfl⟩ dX0_runCount_42

set_option maxHeartbeats 4000000 in
set_option maxRecDepth 100000 in
/-- X0_runLength -/
theorem c_X0_runLength (l : Launch) (D : va_G) (y : Nat → ClassId) (base : Nat) (S : zS) (c0 : Nat) (lv : Nat) (p0 : Int32) (p1 : Int32) (hC : zCap S c0 lv) (hc0 : zI S 64 c0 = 0) : zMi l yX0_runLength wsX0_runLength ({ frames := 0, cells := 0, slots := 0, locals := 0 }) [.ref c0, .int p0, .int p1] D y base S (fun (r : Int32) (S1 : zS) => r = 0 ∧ S1 = S) 0 0 := by
  refine zMet_of (cc := cX0_runLength) (maxL := 6) (ret := (some .int)) (own := RX0) (by decide +kernel) rfl rfl (Nat.le_of_ble_eq_true rfl) ?_
  intro p e s m args below meth c ls C hr hlocks hnm hw hl
  have hx := C.1
  have hb := C.2.1
  have hown := C.2.2.2.1
  have hts := C.2.2.2.2
  have hl : lv_has ls 6 [(0, .ref c0), (1, .int p0), (2, .int p1)] := hl
  have in_X0 : ∀ w ∈ wsX00, w ∈ wsX0_runLength := by decide +kernel
  refine lv_iconst (v := 0) hx hb dX0_runLength_0 (by decide) ?_
  refine lv_istore_n (lv' := [(3, .int 0), (0, .ref c0), (1, .int p0), (2, .int p1)]) hx hb dX0_runLength_1 rfl hl (by decide) rfl (fun ls hl => ?_)
  refine lv_iconst (v := 0) hx hb dX0_runLength_2 (by decide) ?_
  refine lv_istore (lv' := [(4, .int 0), (3, .int 0), (0, .ref c0), (1, .int p0), (2, .int p1)]) hx hb dX0_runLength_3 hl (by decide) rfl (fun ls hl => ?_)
  refine lv_iconst (v := 0) hx hb dX0_runLength_5 (by decide) ?_
  refine lv_istore (lv' := [(5, .int 0), (4, .int 0), (3, .int 0), (0, .ref c0), (1, .int p0), (2, .int p1)]) hx hb dX0_runLength_6 hl (by decide) rfl (fun ls hl => ?_)
  refine lv_iload hx hb dX0_runLength_8 (lv_at hl 0 rfl) ?_
  refine lv_aload_n hx hb dX0_runLength_10 rfl (lv_at hl 3 rfl) ?_
  refine g_Cap_count (a := c0) (v := 0) C hw hC.1 in_X0 (by decide +kernel) hc0 dX0_runLength_11 ?_
  refine lv_icmp_ge (tgt := 44) hx hb dX0_runLength_14 (by decide) (fun _ => ?_) (fun c14 => absurd c14 (by decide))
  refine lv_iload hx hb dX0_runLength_44 (lv_at hl 1 rfl) ?_
  exact zri C hw hr hlocks rfl (by first | exact ⟨rfl, rfl⟩ | exact rfl | (refine ⟨?_, rfl⟩; grind) | grind) ⟨Nat.le_of_ble_eq_true rfl, Nat.le_of_ble_eq_true rfl⟩ dX0_runLength_46

set_option maxHeartbeats 4000000 in
set_option maxRecDepth 100000 in
/-- X0_shortestInner -/
theorem c_X0_shortestInner (l : Launch) (D : va_G) (y : Nat → ClassId) (base : Nat) (S : zS) (c0 : Nat) (lv : Nat) (p0 : Int32) (hC : zCap S c0 lv) (hc0 : zI S 64 c0 = 0) : zMi l yX0_shortestInner wsX0_shortestInner ({ frames := 0, cells := 0, slots := 0, locals := 0 }) [.ref c0, .int p0] D y base S (fun (r : Int32) (S1 : zS) => r = 0 ∧ S1 = S) 0 0 := by
  refine zMet_of (cc := cX0_shortestInner) (maxL := 6) (ret := (some .int)) (own := RX0) (by decide +kernel) rfl rfl (Nat.le_of_ble_eq_true rfl) ?_
  intro p e s m args below meth c ls C hr hlocks hnm hw hl
  have hx := C.1
  have hb := C.2.1
  have hown := C.2.2.2.1
  have hts := C.2.2.2.2
  have hl : lv_has ls 6 [(0, .ref c0), (1, .int p0)] := hl
  have in_X0 : ∀ w ∈ wsX00, w ∈ wsX0_shortestInner := by decide +kernel
  refine lv_iconst (v := 0) hx hb dX0_shortestInner_0 (by decide) ?_
  refine lv_istore_n (lv' := [(2, .int 0), (0, .ref c0), (1, .int p0)]) hx hb dX0_shortestInner_1 rfl hl (by decide) rfl (fun ls hl => ?_)
  refine lv_iconst (v := 0) hx hb dX0_shortestInner_2 (by decide) ?_
  refine lv_istore_n (lv' := [(3, .int 0), (2, .int 0), (0, .ref c0), (1, .int p0)]) hx hb dX0_shortestInner_3 rfl hl (by decide) rfl (fun ls hl => ?_)
  refine lv_iconst (v := 1) hx hb dX0_shortestInner_4 (by decide) ?_
  refine lv_istore (lv' := [(4, .int 1), (3, .int 0), (2, .int 0), (0, .ref c0), (1, .int p0)]) hx hb dX0_shortestInner_5 hl (by decide) rfl (fun ls hl => ?_)
  refine lv_iload hx hb dX0_shortestInner_7 (lv_at hl 0 rfl) ?_
  refine lv_aload_n hx hb dX0_shortestInner_9 rfl (lv_at hl 3 rfl) ?_
  refine g_Cap_count (a := c0) (v := 0) C hw hC.1 in_X0 (by decide +kernel) hc0 dX0_shortestInner_10 ?_
  refine lv_icmp_ge (tgt := 58) hx hb dX0_shortestInner_13 (by decide) (fun _ => ?_) (fun c13 => absurd c13 (by decide))
  refine lv_iload_n hx hb dX0_shortestInner_58 rfl (lv_at hl 2 rfl) ?_
  exact zri C hw hr hlocks rfl (by first | exact ⟨rfl, rfl⟩ | exact rfl | (refine ⟨?_, rfl⟩; grind) | grind) ⟨Nat.le_of_ble_eq_true rfl, Nat.le_of_ble_eq_true rfl⟩ dX0_shortestInner_59

set_option maxHeartbeats 4000000 in
set_option maxRecDepth 100000 in
/-- X0_blockCount -/
theorem c_X0_blockCount (l : Launch) (D : va_G) (y : Nat → ClassId) (base : Nat) (S : zS) (c0 : Nat) (lv : Nat) (p0 : Int32) (hC : zCap S c0 lv) (hc0 : zI S 64 c0 = 0) (hp : 0 ≤ p0 ∧ p0 ≤ 9) : zMi l yX0_blockCount wsX0_blockCount ({ frames := 0, cells := 0, slots := 0, locals := 0 }) [.ref c0, .int p0] D y base S (fun (r : Int32) (S1 : zS) => r = 0 ∧ S1 = S) 0 0 := by
  refine zMet_of (cc := cX0_blockCount) (maxL := 2) (ret := (some .int)) (own := RX0) (by decide +kernel) rfl rfl (Nat.le_of_ble_eq_true rfl) ?_
  intro p e s m args below meth c ls C hr hlocks hnm hw hl
  have hx := C.1
  have hb := C.2.1
  have hown := C.2.2.2.1
  have hts := C.2.2.2.2
  have hl : lv_has ls 2 [(0, .ref c0), (1, .int p0)] := hl
  have in_X0 : ∀ w ∈ wsX00, w ∈ wsX0_blockCount := by decide +kernel
  refine lv_aload_n hx hb dX0_blockCount_0 rfl (lv_at hl 0 rfl) ?_
  refine g_Cap_count (a := c0) (v := 0) C hw hC.1 in_X0 (by decide +kernel) hc0 dX0_blockCount_1 ?_
  refine lv_iconst (v := 1) hx hb dX0_blockCount_4 (by decide) ?_
  refine lv_iload_n hx hb dX0_blockCount_5 rfl (lv_at hl 1 rfl) ?_
  refine lv_ishl hx hb dX0_blockCount_6 ?_
  refine lv_iadd hx hb dX0_blockCount_7 ?_
  refine lv_iconst (v := 1) hx hb dX0_blockCount_8 (by decide) ?_
  refine lv_isub hx hb dX0_blockCount_9 ?_
  refine lv_iload_n hx hb dX0_blockCount_10 rfl (lv_at hl 1 rfl) ?_
  refine lv_ishr hx hb dX0_blockCount_11 ?_
  exact zri C hw hr hlocks rfl ⟨zblk hp, rfl⟩ ⟨Nat.le_of_ble_eq_true rfl, Nat.le_of_ble_eq_true rfl⟩ dX0_blockCount_12

set_option maxHeartbeats 4000000 in
set_option maxRecDepth 100000 in
/-- X0_areRunsWhole -/
theorem c_X0_areRunsWhole (l : Launch) (D : va_G) (y : Nat → ClassId) (base : Nat) (S : zS) (c0 : Nat) (lv : Nat) (p0 : Int32) (hC : zCap S c0 lv) (hc0 : zI S 64 c0 = 0) : zMi l yX0_areRunsWhole wsX0_areRunsWhole ({ frames := 0, cells := 0, slots := 0, locals := 0 }) [.ref c0, .int p0] D y base S (fun (r : Int32) (S1 : zS) => r = 1 ∧ S1 = S) 0 0 := by
  refine zMet_of (cc := cX0_areRunsWhole) (maxL := 5) (ret := (some .boolean)) (own := RX0) (by decide +kernel) rfl rfl (Nat.le_of_ble_eq_true rfl) ?_
  intro p e s m args below meth c ls C hr hlocks hnm hw hl
  have hx := C.1
  have hb := C.2.1
  have hown := C.2.2.2.1
  have hts := C.2.2.2.2
  have hl : lv_has ls 5 [(0, .ref c0), (1, .int p0)] := hl
  have in_X0 : ∀ w ∈ wsX00, w ∈ wsX0_areRunsWhole := by decide +kernel
  refine lv_iconst (v := 0) hx hb dX0_areRunsWhole_0 (by decide) ?_
  refine lv_istore_n (lv' := [(2, .int 0), (0, .ref c0), (1, .int p0)]) hx hb dX0_areRunsWhole_1 rfl hl (by decide) rfl (fun ls hl => ?_)
  refine lv_iconst (v := 0) hx hb dX0_areRunsWhole_2 (by decide) ?_
  refine lv_istore_n (lv' := [(3, .int 0), (2, .int 0), (0, .ref c0), (1, .int p0)]) hx hb dX0_areRunsWhole_3 rfl hl (by decide) rfl (fun ls hl => ?_)
  refine lv_iconst (v := 1) hx hb dX0_areRunsWhole_4 (by decide) ?_
  refine lv_istore (lv' := [(4, .int 1), (3, .int 0), (2, .int 0), (0, .ref c0), (1, .int p0)]) hx hb dX0_areRunsWhole_5 hl (by decide) rfl (fun ls hl => ?_)
  refine lv_iload hx hb dX0_areRunsWhole_7 (lv_at hl 0 rfl) ?_
  refine lv_aload_n hx hb dX0_areRunsWhole_9 rfl (lv_at hl 3 rfl) ?_
  refine g_Cap_count (a := c0) (v := 0) C hw hC.1 in_X0 (by decide +kernel) hc0 dX0_areRunsWhole_10 ?_
  refine lv_icmp_ge (tgt := 42) hx hb dX0_areRunsWhole_13 (by decide) (fun _ => ?_) (fun c13 => absurd c13 (by decide))
  refine lv_iload_n hx hb dX0_areRunsWhole_42 rfl (lv_at hl 2 rfl) ?_
  refine lv_aload_n hx hb dX0_areRunsWhole_43 rfl (lv_at hl 3 rfl) ?_
  refine g_Cap_count (a := c0) (v := 0) C hw hC.1 in_X0 (by decide +kernel) hc0 dX0_areRunsWhole_44 ?_
  refine lv_iload_n hx hb dX0_areRunsWhole_47 rfl (lv_at hl 1 rfl) ?_
  refine lv_isub hx hb dX0_areRunsWhole_48 ?_
  refine zrd (x := 0) (by decide) ?_
  refine lv_iadd hx hb dX0_areRunsWhole_49 ?_
  refine zrd (x := 0) (by decide) ?_
  refine lv_aload_n hx hb dX0_areRunsWhole_50 rfl (lv_at hl 3 rfl) ?_
  refine g_Cap_count (a := c0) (v := 0) C hw hC.1 in_X0 (by decide +kernel) hc0 dX0_areRunsWhole_51 ?_
  refine lv_icmp_ne (tgt := 61) hx hb dX0_areRunsWhole_54 (by decide) (fun c54 => absurd c54 (by decide)) (fun _ => ?_)
  refine lv_iconst (v := 1) hx hb dX0_areRunsWhole_57 (by decide) ?_
  refine lv_goto (tgt := 62) hx hb dX0_areRunsWhole_58 (by decide) ?_
  exact zri C hw hr hlocks (by decide) (by first | exact ⟨rfl, rfl⟩ | exact rfl | (refine ⟨?_, rfl⟩; grind) | grind) ⟨Nat.le_of_ble_eq_true rfl, Nat.le_of_ble_eq_true rfl⟩ dX0_areRunsWhole_62

set_option maxHeartbeats 4000000 in
set_option maxRecDepth 100000 in
/-- X0_areChangesSeenBy -/
theorem c_X0_areChangesSeenBy (l : Launch) (D : va_G) (y : Nat → ClassId) (base : Nat) (S : zS) (c0 : Nat) (lv : Nat) (p0 : Int32) (p1 : Int32) (hC : zCap S c0 lv) (hc0 : zI S 64 c0 = 0) : zMi l yX0_areChangesSeenBy wsX0_areChangesSeenBy ({ frames := 0, cells := 0, slots := 0, locals := 0 }) [.ref c0, .int p0, .int p1] D y base S (fun (r : Int32) (S1 : zS) => r = 1 ∧ S1 = S) 0 0 := by
  refine zMet_of (cc := cX0_areChangesSeenBy) (maxL := 6) (ret := (some .boolean)) (own := RX0) (by decide +kernel) rfl rfl (Nat.le_of_ble_eq_true rfl) ?_
  intro p e s m args below meth c ls C hr hlocks hnm hw hl
  have hx := C.1
  have hb := C.2.1
  have hown := C.2.2.2.1
  have hts := C.2.2.2.2
  have hl : lv_has ls 6 [(0, .ref c0), (1, .int p0), (2, .int p1)] := hl
  have in_X0 : ∀ w ∈ wsX00, w ∈ wsX0_areChangesSeenBy := by decide +kernel
  refine lv_iconst (v := 1) hx hb dX0_areChangesSeenBy_0 (by decide) ?_
  refine lv_iload_n hx hb dX0_areChangesSeenBy_1 rfl (lv_at hl 2 rfl) ?_
  refine lv_ishl hx hb dX0_areChangesSeenBy_2 ?_
  refine lv_iconst (v := 1) hx hb dX0_areChangesSeenBy_3 (by decide) ?_
  refine lv_isub hx hb dX0_areChangesSeenBy_4 ?_
  refine lv_topi (fun x5 ex5 => ?_)
  refine lv_istore_n (lv' := [(3, .int x5), (0, .ref c0), (1, .int p0), (2, .int p1)]) hx hb dX0_areChangesSeenBy_5 rfl hl (by decide) rfl (fun ls hl => ?_)
  refine lv_bipush (v := 120) hx hb dX0_areChangesSeenBy_6 (by decide) ?_
  refine lv_istore (lv' := [(4, .int 120), (3, .int x5), (0, .ref c0), (1, .int p0), (2, .int p1)]) hx hb dX0_areChangesSeenBy_8 hl (by decide) rfl (fun ls hl => ?_)
  refine lv_iconst (v := 0) hx hb dX0_areChangesSeenBy_10 (by decide) ?_
  refine lv_istore (lv' := [(5, .int 0), (4, .int 120), (3, .int x5), (0, .ref c0), (1, .int p0), (2, .int p1)]) hx hb dX0_areChangesSeenBy_11 hl (by decide) rfl (fun ls hl => ?_)
  refine lv_iload hx hb dX0_areChangesSeenBy_13 (lv_at hl 0 rfl) ?_
  refine lv_aload_n hx hb dX0_areChangesSeenBy_15 rfl (lv_at hl 3 rfl) ?_
  refine g_Cap_count (a := c0) (v := 0) C hw hC.1 in_X0 (by decide +kernel) hc0 dX0_areChangesSeenBy_16 ?_
  refine lv_icmp_ge (tgt := 66) hx hb dX0_areChangesSeenBy_19 (by decide) (fun _ => ?_) (fun c19 => absurd c19 (by decide))
  refine lv_iconst (v := 1) hx hb dX0_areChangesSeenBy_66 (by decide) ?_
  exact zri C hw hr hlocks (by decide) (by first | exact ⟨rfl, rfl⟩ | exact rfl | (refine ⟨?_, rfl⟩; grind) | grind) ⟨Nat.le_of_ble_eq_true rfl, Nat.le_of_ble_eq_true rfl⟩ dX0_areChangesSeenBy_67

set_option maxHeartbeats 4000000 in
set_option maxRecDepth 100000 in
/-- X0_areChangesSeen -/
theorem c_X0_areChangesSeen (l : Launch) (D : va_G) (y : Nat → ClassId) (base : Nat) (S : zS) (c0 : Nat) (lv : Nat) (p0 : Int32) (hC : zCap S c0 lv) (hc0 : zI S 64 c0 = 0) : zMi l yX0_areChangesSeen wsX0_areChangesSeen ({ frames := 1, cells := 0, slots := 0, locals := 25 }) [.ref c0, .int p0] D y base S (fun (r : Int32) (S1 : zS) => r = 1 ∧ S1 = S) 0 0 := by
  refine zMet_of (cc := cX0_areChangesSeen) (maxL := 3) (ret := (some .boolean)) (own := RX0) (by decide +kernel) rfl rfl (Nat.le_of_ble_eq_true rfl) ?_
  intro p e s m args below meth c ls C hr hlocks hnm hw hl
  have hx := C.1
  have hb := C.2.1
  have hown := C.2.2.2.1
  have hts := C.2.2.2.2
  have hl : lv_has ls 3 [(0, .ref c0), (1, .int p0)] := hl
  refine lv_iconst (v := 0) hx hb dX0_areChangesSeen_0 (by decide) ?_
  refine lv_istore_n (lv' := [(2, .int 0), (0, .ref c0), (1, .int p0)]) hx hb dX0_areChangesSeen_1 rfl hl (by decide) rfl (fun ls hl => ?_)
  refine lv_iload_n hx hb dX0_areChangesSeen_2 rfl (lv_at hl 0 rfl) ?_
  refine lv_bipush (v := 9) hx hb dX0_areChangesSeen_3 (by decide) ?_
  refine lv_icmp_gt (tgt := 25) hx hb dX0_areChangesSeen_5 (by decide) (fun c5 => absurd c5 (by decide)) (fun _ => ?_)
  refine lv_aload_n hx hb dX0_areChangesSeen_8 rfl (lv_at hl 1 rfl) ?_
  refine lv_iload_n hx hb dX0_areChangesSeen_9 rfl (lv_at hl 2 rfl) ?_
  refine lv_iload_n hx hb dX0_areChangesSeen_10 rfl (lv_at hl 0 rfl) ?_
  refine zcV_i (As := [.int p0, .int 0]) (rest := []) (n9 := 2) (b := c0) C hw (c_X0_areChangesSeenBy l D y base S c0 lv p0 0 hC (by first | assumption | decide | grind)) gX0_areChangesSeen_X0_areChangesSeenBy rfl (by decide +kernel) ⟨⟨rfl, rfl⟩, Nat.le_of_ble_eq_true rfl, Nat.le_of_ble_eq_true rfl⟩ hC.1 ⟨by decide, by decide⟩ rfl rfl hl.1 rfl (Nat.le_of_ble_eq_true rfl) ⟨Nat.le_of_ble_eq_true rfl, Nat.le_of_ble_eq_true rfl⟩ dX0_areChangesSeen_11 (fun r11 S11 H locs hp11 hw => ?_)
  obtain ⟨rfl, hS9⟩ := hp11
  have hS9 := hS9.symm
  subst hS9
  refine lv_if_ne (tgt := 19) hx hb dX0_areChangesSeen_14 (by decide) (fun _ => ?_) (fun c14 => absurd c14 (by decide))
  refine lv_iinc (v := 1) (lv' := [(2, .int 1), (0, .ref c0), (1, .int p0)]) hx hb dX0_areChangesSeen_19 hl (k := 0) rfl (by decide) (by decide) rfl (fun ls hl => ?_)
  refine lv_goto (tgt := 2) hx hb dX0_areChangesSeen_22 (by decide) ?_
  refine lv_iload_n hx hb dX0_areChangesSeen_2 rfl (lv_at hl 0 rfl) ?_
  refine lv_bipush (v := 9) hx hb dX0_areChangesSeen_3 (by decide) ?_
  refine lv_icmp_gt (tgt := 25) hx hb dX0_areChangesSeen_5 (by decide) (fun c5 => absurd c5 (by decide)) (fun _ => ?_)
  refine lv_aload_n hx hb dX0_areChangesSeen_8 rfl (lv_at hl 1 rfl) ?_
  refine lv_iload_n hx hb dX0_areChangesSeen_9 rfl (lv_at hl 2 rfl) ?_
  refine lv_iload_n hx hb dX0_areChangesSeen_10 rfl (lv_at hl 0 rfl) ?_
  refine zcV_i (As := [.int p0, .int 1]) (rest := []) (n9 := 2) (b := c0) C hw (c_X0_areChangesSeenBy l D y base S c0 lv p0 1 hC (by first | assumption | decide | grind)) gX0_areChangesSeen_X0_areChangesSeenBy rfl (by decide +kernel) ⟨⟨rfl, rfl⟩, Nat.le_of_ble_eq_true rfl, Nat.le_of_ble_eq_true rfl⟩ hC.1 ⟨by decide, by decide⟩ rfl rfl hl.1 rfl (Nat.le_of_ble_eq_true rfl) ⟨Nat.le_of_ble_eq_true rfl, Nat.le_of_ble_eq_true rfl⟩ dX0_areChangesSeen_11 (fun r11 S11 H locs hp11 hw => ?_)
  obtain ⟨rfl, hS9⟩ := hp11
  have hS9 := hS9.symm
  subst hS9
  refine lv_if_ne (tgt := 19) hx hb dX0_areChangesSeen_14 (by decide) (fun _ => ?_) (fun c14 => absurd c14 (by decide))
  refine lv_iinc (v := 2) (lv' := [(2, .int 2), (0, .ref c0), (1, .int p0)]) hx hb dX0_areChangesSeen_19 hl (k := 0) rfl (by decide) (by decide) rfl (fun ls hl => ?_)
  refine lv_goto (tgt := 2) hx hb dX0_areChangesSeen_22 (by decide) ?_
  refine lv_iload_n hx hb dX0_areChangesSeen_2 rfl (lv_at hl 0 rfl) ?_
  refine lv_bipush (v := 9) hx hb dX0_areChangesSeen_3 (by decide) ?_
  refine lv_icmp_gt (tgt := 25) hx hb dX0_areChangesSeen_5 (by decide) (fun c5 => absurd c5 (by decide)) (fun _ => ?_)
  refine lv_aload_n hx hb dX0_areChangesSeen_8 rfl (lv_at hl 1 rfl) ?_
  refine lv_iload_n hx hb dX0_areChangesSeen_9 rfl (lv_at hl 2 rfl) ?_
  refine lv_iload_n hx hb dX0_areChangesSeen_10 rfl (lv_at hl 0 rfl) ?_
  refine zcV_i (As := [.int p0, .int 2]) (rest := []) (n9 := 2) (b := c0) C hw (c_X0_areChangesSeenBy l D y base S c0 lv p0 2 hC (by first | assumption | decide | grind)) gX0_areChangesSeen_X0_areChangesSeenBy rfl (by decide +kernel) ⟨⟨rfl, rfl⟩, Nat.le_of_ble_eq_true rfl, Nat.le_of_ble_eq_true rfl⟩ hC.1 ⟨by decide, by decide⟩ rfl rfl hl.1 rfl (Nat.le_of_ble_eq_true rfl) ⟨Nat.le_of_ble_eq_true rfl, Nat.le_of_ble_eq_true rfl⟩ dX0_areChangesSeen_11 (fun r11 S11 H locs hp11 hw => ?_)
  obtain ⟨rfl, hS9⟩ := hp11
  have hS9 := hS9.symm
  subst hS9
  refine lv_if_ne (tgt := 19) hx hb dX0_areChangesSeen_14 (by decide) (fun _ => ?_) (fun c14 => absurd c14 (by decide))
  refine lv_iinc (v := 3) (lv' := [(2, .int 3), (0, .ref c0), (1, .int p0)]) hx hb dX0_areChangesSeen_19 hl (k := 0) rfl (by decide) (by decide) rfl (fun ls hl => ?_)
  refine lv_goto (tgt := 2) hx hb dX0_areChangesSeen_22 (by decide) ?_
  refine lv_iload_n hx hb dX0_areChangesSeen_2 rfl (lv_at hl 0 rfl) ?_
  refine lv_bipush (v := 9) hx hb dX0_areChangesSeen_3 (by decide) ?_
  refine lv_icmp_gt (tgt := 25) hx hb dX0_areChangesSeen_5 (by decide) (fun c5 => absurd c5 (by decide)) (fun _ => ?_)
  refine lv_aload_n hx hb dX0_areChangesSeen_8 rfl (lv_at hl 1 rfl) ?_
  refine lv_iload_n hx hb dX0_areChangesSeen_9 rfl (lv_at hl 2 rfl) ?_
  refine lv_iload_n hx hb dX0_areChangesSeen_10 rfl (lv_at hl 0 rfl) ?_
  refine zcV_i (As := [.int p0, .int 3]) (rest := []) (n9 := 2) (b := c0) C hw (c_X0_areChangesSeenBy l D y base S c0 lv p0 3 hC (by first | assumption | decide | grind)) gX0_areChangesSeen_X0_areChangesSeenBy rfl (by decide +kernel) ⟨⟨rfl, rfl⟩, Nat.le_of_ble_eq_true rfl, Nat.le_of_ble_eq_true rfl⟩ hC.1 ⟨by decide, by decide⟩ rfl rfl hl.1 rfl (Nat.le_of_ble_eq_true rfl) ⟨Nat.le_of_ble_eq_true rfl, Nat.le_of_ble_eq_true rfl⟩ dX0_areChangesSeen_11 (fun r11 S11 H locs hp11 hw => ?_)
  obtain ⟨rfl, hS9⟩ := hp11
  have hS9 := hS9.symm
  subst hS9
  refine lv_if_ne (tgt := 19) hx hb dX0_areChangesSeen_14 (by decide) (fun _ => ?_) (fun c14 => absurd c14 (by decide))
  refine lv_iinc (v := 4) (lv' := [(2, .int 4), (0, .ref c0), (1, .int p0)]) hx hb dX0_areChangesSeen_19 hl (k := 0) rfl (by decide) (by decide) rfl (fun ls hl => ?_)
  refine lv_goto (tgt := 2) hx hb dX0_areChangesSeen_22 (by decide) ?_
  refine lv_iload_n hx hb dX0_areChangesSeen_2 rfl (lv_at hl 0 rfl) ?_
  refine lv_bipush (v := 9) hx hb dX0_areChangesSeen_3 (by decide) ?_
  refine lv_icmp_gt (tgt := 25) hx hb dX0_areChangesSeen_5 (by decide) (fun c5 => absurd c5 (by decide)) (fun _ => ?_)
  refine lv_aload_n hx hb dX0_areChangesSeen_8 rfl (lv_at hl 1 rfl) ?_
  refine lv_iload_n hx hb dX0_areChangesSeen_9 rfl (lv_at hl 2 rfl) ?_
  refine lv_iload_n hx hb dX0_areChangesSeen_10 rfl (lv_at hl 0 rfl) ?_
  refine zcV_i (As := [.int p0, .int 4]) (rest := []) (n9 := 2) (b := c0) C hw (c_X0_areChangesSeenBy l D y base S c0 lv p0 4 hC (by first | assumption | decide | grind)) gX0_areChangesSeen_X0_areChangesSeenBy rfl (by decide +kernel) ⟨⟨rfl, rfl⟩, Nat.le_of_ble_eq_true rfl, Nat.le_of_ble_eq_true rfl⟩ hC.1 ⟨by decide, by decide⟩ rfl rfl hl.1 rfl (Nat.le_of_ble_eq_true rfl) ⟨Nat.le_of_ble_eq_true rfl, Nat.le_of_ble_eq_true rfl⟩ dX0_areChangesSeen_11 (fun r11 S11 H locs hp11 hw => ?_)
  obtain ⟨rfl, hS9⟩ := hp11
  have hS9 := hS9.symm
  subst hS9
  refine lv_if_ne (tgt := 19) hx hb dX0_areChangesSeen_14 (by decide) (fun _ => ?_) (fun c14 => absurd c14 (by decide))
  refine lv_iinc (v := 5) (lv' := [(2, .int 5), (0, .ref c0), (1, .int p0)]) hx hb dX0_areChangesSeen_19 hl (k := 0) rfl (by decide) (by decide) rfl (fun ls hl => ?_)
  refine lv_goto (tgt := 2) hx hb dX0_areChangesSeen_22 (by decide) ?_
  refine lv_iload_n hx hb dX0_areChangesSeen_2 rfl (lv_at hl 0 rfl) ?_
  refine lv_bipush (v := 9) hx hb dX0_areChangesSeen_3 (by decide) ?_
  refine lv_icmp_gt (tgt := 25) hx hb dX0_areChangesSeen_5 (by decide) (fun c5 => absurd c5 (by decide)) (fun _ => ?_)
  refine lv_aload_n hx hb dX0_areChangesSeen_8 rfl (lv_at hl 1 rfl) ?_
  refine lv_iload_n hx hb dX0_areChangesSeen_9 rfl (lv_at hl 2 rfl) ?_
  refine lv_iload_n hx hb dX0_areChangesSeen_10 rfl (lv_at hl 0 rfl) ?_
  refine zcV_i (As := [.int p0, .int 5]) (rest := []) (n9 := 2) (b := c0) C hw (c_X0_areChangesSeenBy l D y base S c0 lv p0 5 hC (by first | assumption | decide | grind)) gX0_areChangesSeen_X0_areChangesSeenBy rfl (by decide +kernel) ⟨⟨rfl, rfl⟩, Nat.le_of_ble_eq_true rfl, Nat.le_of_ble_eq_true rfl⟩ hC.1 ⟨by decide, by decide⟩ rfl rfl hl.1 rfl (Nat.le_of_ble_eq_true rfl) ⟨Nat.le_of_ble_eq_true rfl, Nat.le_of_ble_eq_true rfl⟩ dX0_areChangesSeen_11 (fun r11 S11 H locs hp11 hw => ?_)
  obtain ⟨rfl, hS9⟩ := hp11
  have hS9 := hS9.symm
  subst hS9
  refine lv_if_ne (tgt := 19) hx hb dX0_areChangesSeen_14 (by decide) (fun _ => ?_) (fun c14 => absurd c14 (by decide))
  refine lv_iinc (v := 6) (lv' := [(2, .int 6), (0, .ref c0), (1, .int p0)]) hx hb dX0_areChangesSeen_19 hl (k := 0) rfl (by decide) (by decide) rfl (fun ls hl => ?_)
  refine lv_goto (tgt := 2) hx hb dX0_areChangesSeen_22 (by decide) ?_
  refine lv_iload_n hx hb dX0_areChangesSeen_2 rfl (lv_at hl 0 rfl) ?_
  refine lv_bipush (v := 9) hx hb dX0_areChangesSeen_3 (by decide) ?_
  refine lv_icmp_gt (tgt := 25) hx hb dX0_areChangesSeen_5 (by decide) (fun c5 => absurd c5 (by decide)) (fun _ => ?_)
  refine lv_aload_n hx hb dX0_areChangesSeen_8 rfl (lv_at hl 1 rfl) ?_
  refine lv_iload_n hx hb dX0_areChangesSeen_9 rfl (lv_at hl 2 rfl) ?_
  refine lv_iload_n hx hb dX0_areChangesSeen_10 rfl (lv_at hl 0 rfl) ?_
  refine zcV_i (As := [.int p0, .int 6]) (rest := []) (n9 := 2) (b := c0) C hw (c_X0_areChangesSeenBy l D y base S c0 lv p0 6 hC (by first | assumption | decide | grind)) gX0_areChangesSeen_X0_areChangesSeenBy rfl (by decide +kernel) ⟨⟨rfl, rfl⟩, Nat.le_of_ble_eq_true rfl, Nat.le_of_ble_eq_true rfl⟩ hC.1 ⟨by decide, by decide⟩ rfl rfl hl.1 rfl (Nat.le_of_ble_eq_true rfl) ⟨Nat.le_of_ble_eq_true rfl, Nat.le_of_ble_eq_true rfl⟩ dX0_areChangesSeen_11 (fun r11 S11 H locs hp11 hw => ?_)
  obtain ⟨rfl, hS9⟩ := hp11
  have hS9 := hS9.symm
  subst hS9
  refine lv_if_ne (tgt := 19) hx hb dX0_areChangesSeen_14 (by decide) (fun _ => ?_) (fun c14 => absurd c14 (by decide))
  refine lv_iinc (v := 7) (lv' := [(2, .int 7), (0, .ref c0), (1, .int p0)]) hx hb dX0_areChangesSeen_19 hl (k := 0) rfl (by decide) (by decide) rfl (fun ls hl => ?_)
  refine lv_goto (tgt := 2) hx hb dX0_areChangesSeen_22 (by decide) ?_
  refine lv_iload_n hx hb dX0_areChangesSeen_2 rfl (lv_at hl 0 rfl) ?_
  refine lv_bipush (v := 9) hx hb dX0_areChangesSeen_3 (by decide) ?_
  refine lv_icmp_gt (tgt := 25) hx hb dX0_areChangesSeen_5 (by decide) (fun c5 => absurd c5 (by decide)) (fun _ => ?_)
  refine lv_aload_n hx hb dX0_areChangesSeen_8 rfl (lv_at hl 1 rfl) ?_
  refine lv_iload_n hx hb dX0_areChangesSeen_9 rfl (lv_at hl 2 rfl) ?_
  refine lv_iload_n hx hb dX0_areChangesSeen_10 rfl (lv_at hl 0 rfl) ?_
  refine zcV_i (As := [.int p0, .int 7]) (rest := []) (n9 := 2) (b := c0) C hw (c_X0_areChangesSeenBy l D y base S c0 lv p0 7 hC (by first | assumption | decide | grind)) gX0_areChangesSeen_X0_areChangesSeenBy rfl (by decide +kernel) ⟨⟨rfl, rfl⟩, Nat.le_of_ble_eq_true rfl, Nat.le_of_ble_eq_true rfl⟩ hC.1 ⟨by decide, by decide⟩ rfl rfl hl.1 rfl (Nat.le_of_ble_eq_true rfl) ⟨Nat.le_of_ble_eq_true rfl, Nat.le_of_ble_eq_true rfl⟩ dX0_areChangesSeen_11 (fun r11 S11 H locs hp11 hw => ?_)
  obtain ⟨rfl, hS9⟩ := hp11
  have hS9 := hS9.symm
  subst hS9
  refine lv_if_ne (tgt := 19) hx hb dX0_areChangesSeen_14 (by decide) (fun _ => ?_) (fun c14 => absurd c14 (by decide))
  refine lv_iinc (v := 8) (lv' := [(2, .int 8), (0, .ref c0), (1, .int p0)]) hx hb dX0_areChangesSeen_19 hl (k := 0) rfl (by decide) (by decide) rfl (fun ls hl => ?_)
  refine lv_goto (tgt := 2) hx hb dX0_areChangesSeen_22 (by decide) ?_
  refine lv_iload_n hx hb dX0_areChangesSeen_2 rfl (lv_at hl 0 rfl) ?_
  refine lv_bipush (v := 9) hx hb dX0_areChangesSeen_3 (by decide) ?_
  refine lv_icmp_gt (tgt := 25) hx hb dX0_areChangesSeen_5 (by decide) (fun c5 => absurd c5 (by decide)) (fun _ => ?_)
  refine lv_aload_n hx hb dX0_areChangesSeen_8 rfl (lv_at hl 1 rfl) ?_
  refine lv_iload_n hx hb dX0_areChangesSeen_9 rfl (lv_at hl 2 rfl) ?_
  refine lv_iload_n hx hb dX0_areChangesSeen_10 rfl (lv_at hl 0 rfl) ?_
  refine zcV_i (As := [.int p0, .int 8]) (rest := []) (n9 := 2) (b := c0) C hw (c_X0_areChangesSeenBy l D y base S c0 lv p0 8 hC (by first | assumption | decide | grind)) gX0_areChangesSeen_X0_areChangesSeenBy rfl (by decide +kernel) ⟨⟨rfl, rfl⟩, Nat.le_of_ble_eq_true rfl, Nat.le_of_ble_eq_true rfl⟩ hC.1 ⟨by decide, by decide⟩ rfl rfl hl.1 rfl (Nat.le_of_ble_eq_true rfl) ⟨Nat.le_of_ble_eq_true rfl, Nat.le_of_ble_eq_true rfl⟩ dX0_areChangesSeen_11 (fun r11 S11 H locs hp11 hw => ?_)
  obtain ⟨rfl, hS9⟩ := hp11
  have hS9 := hS9.symm
  subst hS9
  refine lv_if_ne (tgt := 19) hx hb dX0_areChangesSeen_14 (by decide) (fun _ => ?_) (fun c14 => absurd c14 (by decide))
  refine lv_iinc (v := 9) (lv' := [(2, .int 9), (0, .ref c0), (1, .int p0)]) hx hb dX0_areChangesSeen_19 hl (k := 0) rfl (by decide) (by decide) rfl (fun ls hl => ?_)
  refine lv_goto (tgt := 2) hx hb dX0_areChangesSeen_22 (by decide) ?_
  refine lv_iload_n hx hb dX0_areChangesSeen_2 rfl (lv_at hl 0 rfl) ?_
  refine lv_bipush (v := 9) hx hb dX0_areChangesSeen_3 (by decide) ?_
  refine lv_icmp_gt (tgt := 25) hx hb dX0_areChangesSeen_5 (by decide) (fun c5 => absurd c5 (by decide)) (fun _ => ?_)
  refine lv_aload_n hx hb dX0_areChangesSeen_8 rfl (lv_at hl 1 rfl) ?_
  refine lv_iload_n hx hb dX0_areChangesSeen_9 rfl (lv_at hl 2 rfl) ?_
  refine lv_iload_n hx hb dX0_areChangesSeen_10 rfl (lv_at hl 0 rfl) ?_
  refine zcV_i (As := [.int p0, .int 9]) (rest := []) (n9 := 2) (b := c0) C hw (c_X0_areChangesSeenBy l D y base S c0 lv p0 9 hC (by first | assumption | decide | grind)) gX0_areChangesSeen_X0_areChangesSeenBy rfl (by decide +kernel) ⟨⟨rfl, rfl⟩, Nat.le_of_ble_eq_true rfl, Nat.le_of_ble_eq_true rfl⟩ hC.1 ⟨by decide, by decide⟩ rfl rfl hl.1 rfl (Nat.le_of_ble_eq_true rfl) ⟨Nat.le_of_ble_eq_true rfl, Nat.le_of_ble_eq_true rfl⟩ dX0_areChangesSeen_11 (fun r11 S11 H locs hp11 hw => ?_)
  obtain ⟨rfl, hS9⟩ := hp11
  have hS9 := hS9.symm
  subst hS9
  refine lv_if_ne (tgt := 19) hx hb dX0_areChangesSeen_14 (by decide) (fun _ => ?_) (fun c14 => absurd c14 (by decide))
  refine lv_iinc (v := 10) (lv' := [(2, .int 10), (0, .ref c0), (1, .int p0)]) hx hb dX0_areChangesSeen_19 hl (k := 0) rfl (by decide) (by decide) rfl (fun ls hl => ?_)
  refine lv_goto (tgt := 2) hx hb dX0_areChangesSeen_22 (by decide) ?_
  refine lv_iload_n hx hb dX0_areChangesSeen_2 rfl (lv_at hl 0 rfl) ?_
  refine lv_bipush (v := 9) hx hb dX0_areChangesSeen_3 (by decide) ?_
  refine lv_icmp_gt (tgt := 25) hx hb dX0_areChangesSeen_5 (by decide) (fun _ => ?_) (fun c5 => absurd c5 (by decide))
  refine lv_iconst (v := 1) hx hb dX0_areChangesSeen_25 (by decide) ?_
  exact zri C hw hr hlocks (by decide) (by first | exact ⟨rfl, rfl⟩ | exact rfl | (refine ⟨?_, rfl⟩; grind) | grind) ⟨Nat.le_of_ble_eq_true rfl, Nat.le_of_ble_eq_true rfl⟩ dX0_areChangesSeen_26

set_option maxHeartbeats 4000000 in
set_option maxRecDepth 100000 in
/-- X3_pairCount -/
theorem c_X3_pairCount (l : Launch) (D : va_G) (y : Nat → ClassId) (base : Nat) (S : zS) (t0 : Nat) (p0 : Int32) (p1 : Int32) (ht : zK S t0 = 7) (ht0 : zI S 112 t0 = 0) : zMi l yX3_pairCount wsX3_pairCount ({ frames := 0, cells := 0, slots := 0, locals := 0 }) [.ref t0, .int p0, .int p1] D y base S (fun (r : Int32) (S1 : zS) => r = 0 ∧ S1 = S) 0 0 := by
  refine zMet_of (cc := cX3_pairCount) (maxL := 6) (ret := (some .int)) (own := RX3) (by decide +kernel) rfl rfl (Nat.le_of_ble_eq_true rfl) ?_
  intro p e s m args below meth c ls C hr hlocks hnm hw hl
  have hx := C.1
  have hb := C.2.1
  have hown := C.2.2.2.1
  have hts := C.2.2.2.2
  have hl : lv_has ls 6 [(0, .ref t0), (1, .int p0), (2, .int p1)] := hl
  have in_X3 : ∀ w ∈ wsX30, w ∈ wsX3_pairCount := by decide +kernel
  refine lv_iconst (v := 0) hx hb dX3_pairCount_0 (by decide) ?_
  refine lv_istore_n (lv' := [(3, .int 0), (0, .ref t0), (1, .int p0), (2, .int p1)]) hx hb dX3_pairCount_1 rfl hl (by decide) rfl (fun ls hl => ?_)
  refine lv_iconst (v := (-1)) hx hb dX3_pairCount_2 (by decide) ?_
  refine lv_istore (lv' := [(4, .int (-1)), (3, .int 0), (0, .ref t0), (1, .int p0), (2, .int p1)]) hx hb dX3_pairCount_3 hl (by decide) rfl (fun ls hl => ?_)
  refine lv_iconst (v := 0) hx hb dX3_pairCount_5 (by decide) ?_
  refine lv_istore (lv' := [(5, .int 0), (4, .int (-1)), (3, .int 0), (0, .ref t0), (1, .int p0), (2, .int p1)]) hx hb dX3_pairCount_6 hl (by decide) rfl (fun ls hl => ?_)
  refine lv_iload hx hb dX3_pairCount_8 (lv_at hl 0 rfl) ?_
  refine lv_aload_n hx hb dX3_pairCount_10 rfl (lv_at hl 3 rfl) ?_
  refine g_Notes_count (a := t0) (v := 0) C hw ht in_X3 (by decide +kernel) ht0 dX3_pairCount_11 ?_
  refine lv_icmp_ge (tgt := 84) hx hb dX3_pairCount_14 (by decide) (fun _ => ?_) (fun c14 => absurd c14 (by decide))
  refine lv_iload_n hx hb dX3_pairCount_84 rfl (lv_at hl 2 rfl) ?_
  exact zri C hw hr hlocks rfl (by first | exact ⟨rfl, rfl⟩ | exact rfl | (refine ⟨?_, rfl⟩; grind) | grind) ⟨Nat.le_of_ble_eq_true rfl, Nat.le_of_ble_eq_true rfl⟩ dX3_pairCount_85

set_option maxHeartbeats 4000000 in
set_option maxRecDepth 100000 in
/-- X3_areInOrder -/
theorem c_X3_areInOrder (l : Launch) (D : va_G) (y : Nat → ClassId) (base : Nat) (S : zS) (t0 : Nat) (ht : zK S t0 = 7) (ht0 : zI S 112 t0 = 0) : zMi l yX3_areInOrder wsX3_areInOrder ({ frames := 0, cells := 0, slots := 0, locals := 0 }) [.ref t0] D y base S (fun (r : Int32) (S1 : zS) => r = 1 ∧ S1 = S) 0 0 := by
  refine zMet_of (cc := cX3_areInOrder) (maxL := 2) (ret := (some .boolean)) (own := RX3) (by decide +kernel) rfl rfl (Nat.le_of_ble_eq_true rfl) ?_
  intro p e s m args below meth c ls C hr hlocks hnm hw hl
  have hx := C.1
  have hb := C.2.1
  have hown := C.2.2.2.1
  have hts := C.2.2.2.2
  have hl : lv_has ls 2 [(0, .ref t0)] := hl
  have in_X3 : ∀ w ∈ wsX30, w ∈ wsX3_areInOrder := by decide +kernel
  refine lv_iconst (v := 0) hx hb dX3_areInOrder_0 (by decide) ?_
  refine lv_istore_n (lv' := [(1, .int 0), (0, .ref t0)]) hx hb dX3_areInOrder_1 rfl hl (by decide) rfl (fun ls hl => ?_)
  refine lv_iload_n hx hb dX3_areInOrder_2 rfl (lv_at hl 0 rfl) ?_
  refine lv_aload_n hx hb dX3_areInOrder_3 rfl (lv_at hl 1 rfl) ?_
  refine g_Notes_count (a := t0) (v := 0) C hw ht in_X3 (by decide +kernel) ht0 dX3_areInOrder_4 ?_
  refine lv_icmp_ge (tgt := 61) hx hb dX3_areInOrder_7 (by decide) (fun _ => ?_) (fun c7 => absurd c7 (by decide))
  refine lv_iconst (v := 1) hx hb dX3_areInOrder_61 (by decide) ?_
  exact zri C hw hr hlocks (by decide) (by first | exact ⟨rfl, rfl⟩ | exact rfl | (refine ⟨?_, rfl⟩; grind) | grind) ⟨Nat.le_of_ble_eq_true rfl, Nat.le_of_ble_eq_true rfl⟩ dX3_areInOrder_62

set_option maxHeartbeats 4000000 in
set_option maxRecDepth 100000 in
/-- X1_read -/
theorem c_X1_read (l : Launch) (D : va_G) (y : Nat → ClassId) (base : Nat) (S : zS) (d0 : Nat) (rg : Nat) (p0 : Int32) (p1 : Int32) (hD0 : zDev S d0 rg) (hz : ∀ j, zR S 22 rg j = 0) : zMi l yX1_read wsX1_read ({ frames := 0, cells := 0, slots := 0, locals := 0 }) [.ref d0, .int p0, .int p1] D y base S (fun (r : Int32) (S1 : zS) => r = 0 ∧ S1 = S) 0 0 := by
  refine zMet_of (cc := cX1_read) (maxL := 4) (ret := (some .int)) (own := RX1) (by decide +kernel) rfl rfl (Nat.le_of_ble_eq_true rfl) ?_
  intro p e s m args below meth c ls C hr hlocks hnm hw hl
  have hx := C.1
  have hb := C.2.1
  have hown := C.2.2.2.1
  have hts := C.2.2.2.2
  have hl : lv_has ls 4 [(0, .ref d0), (1, .int p0), (2, .int p1)] := hl
  have in_X1 : ∀ w ∈ wsX10, w ∈ wsX1_read := by decide +kernel
  refine lv_iload_n hx hb dX1_read_0 rfl (lv_at hl 1 rfl) ?_
  refine lv_bipush (v := 16) hx hb dX1_read_1 (by decide) ?_
  refine lv_imul hx hb dX1_read_3 ?_
  refine lv_iload_n hx hb dX1_read_4 rfl (lv_at hl 2 rfl) ?_
  refine lv_iadd hx hb dX1_read_5 ?_
  refine lv_topi (fun x6 ex6 => ?_)
  refine lv_istore_n (lv' := [(3, .int x6), (0, .ref d0), (1, .int p0), (2, .int p1)]) hx hb dX1_read_6 rfl hl (by decide) rfl (fun ls hl => ?_)
  refine lv_iload_n hx hb dX1_read_7 rfl (lv_at hl 0 rfl) ?_
  refine lv_if_lt (tgt := 29) hx hb dX1_read_8 (by decide) (fun c8 => ?_) (fun c8 => ?_)
  · refine lv_iconst (v := 0) hx hb dX1_read_29 (by decide) ?_
    exact zri C hw hr hlocks rfl ⟨rfl, rfl⟩ ⟨Nat.le_of_ble_eq_true rfl, Nat.le_of_ble_eq_true rfl⟩ dX1_read_30
  · refine lv_iload_n hx hb dX1_read_11 rfl (lv_at hl 0 rfl) ?_
    refine lv_aload_n hx hb dX1_read_12 rfl (lv_at hl 1 rfl) ?_
    refine g_Dev_registers (a := d0) (v := rg) C hw hD0.1 in_X1 (by decide +kernel) hD0.2.1 dX1_read_13 ?_
    refine zalen (a := rg) (v := 2048) C hw hD0.2.2.1 (by decide) (t0 := 1) rfl (zlen hD0.2.2.2 rfl) dX1_read_16 ?_
    refine lv_icmp_ge (tgt := 29) hx hb dX1_read_17 (by decide) (fun c17 => ?_) (fun c17 => ?_)
    · refine lv_iconst (v := 0) hx hb dX1_read_29 (by decide) ?_
      exact zri C hw hr hlocks rfl ⟨rfl, rfl⟩ ⟨Nat.le_of_ble_eq_true rfl, Nat.le_of_ble_eq_true rfl⟩ dX1_read_30
    · refine lv_aload_n hx hb dX1_read_20 rfl (lv_at hl 1 rfl) ?_
      refine g_Dev_registers (a := d0) (v := rg) C hw hD0.1 in_X1 (by decide +kernel) hD0.2.1 dX1_read_21 ?_
      refine lv_iload_n hx hb dX1_read_24 rfl (lv_at hl 0 rfl) ?_
      refine zald_I (a := rg) C hw hD0.2.2.1 hD0.2.2.2 (zin_of (N := 2048) (by decide) (by grind) (by grind)) dX1_read_25 ?_
      refine lv_goto (tgt := 30) hx hb dX1_read_26 (by decide) ?_
      exact zri C hw hr hlocks rfl ⟨hz _, rfl⟩ ⟨Nat.le_of_ble_eq_true rfl, Nat.le_of_ble_eq_true rfl⟩ dX1_read_30

set_option maxHeartbeats 4000000 in
set_option maxRecDepth 100000 in
/-- X4_addStep -/
theorem c_X4_addStep (l : Launch) (D : va_G) (y : Nat → ClassId) (base : Nat) (S : zS) (t0 : Nat) (k1 : Nat) (k2 : Nat) (k3 : Nat) (p0 : Int32) (p1 : Int32) (p2 : Int32) (hT : zTrg S t0 k1 k2 k3) (ht0 : zI S 128 t0 = 0) : zMv l yX4_addStep wsX4_addStep ({ frames := 0, cells := 0, slots := 0, locals := 0 }) [.ref t0, .int p0, .int p1, .int p2] D y base S (fun (S1 : zS) => zCls S S1 ∧ zI S1 128 t0 = 1 ∧ zFix S S1) 0 0 := by
  refine zMet_of (cc := cX4_addStep) (maxL := 4) (ret := none) (own := RX4) (by decide +kernel) rfl rfl (Nat.le_of_ble_eq_true rfl) ?_
  intro p e s m args below meth c ls C hr hlocks hnm hw hl
  have hx := C.1
  have hb := C.2.1
  have hown := C.2.2.2.1
  have hts := C.2.2.2.2
  have hl : lv_has ls 4 [(0, .ref t0), (1, .int p0), (2, .int p1), (3, .int p2)] := hl
  have in_X4 : ∀ w ∈ wsX40, w ∈ wsX4_addStep := by decide +kernel
  refine lv_aload_n hx hb dX4_addStep_0 rfl (lv_at hl 0 rfl) ?_
  refine g_Trig_count (a := t0) (v := 0) C hw hT.1 in_X4 (by decide +kernel) ht0 dX4_addStep_1 ?_
  refine lv_if_lt (tgt := 16) hx hb dX4_addStep_4 (by decide) (fun c4 => absurd c4 (by decide)) (fun _ => ?_)
  refine lv_aload_n hx hb dX4_addStep_7 rfl (lv_at hl 0 rfl) ?_
  refine g_Trig_count (a := t0) (v := 0) C hw hT.1 in_X4 (by decide +kernel) ht0 dX4_addStep_8 ?_
  refine lv_bipush (v := 6) hx hb dX4_addStep_11 (by decide) ?_
  refine lv_icmp_lt (tgt := 17) hx hb dX4_addStep_13 (by decide) (fun _ => ?_) (fun c13 => absurd c13 (by decide))
  refine lv_aload_n hx hb dX4_addStep_17 rfl (lv_at hl 0 rfl) ?_
  refine g_Trig_kinds (a := t0) (v := k1) C hw hT.1 in_X4 (by decide +kernel) hT.2.1 dX4_addStep_18 ?_
  refine lv_aload_n hx hb dX4_addStep_21 rfl (lv_at hl 0 rfl) ?_
  refine g_Trig_count (a := t0) (v := 0) C hw hT.1 in_X4 (by decide +kernel) ht0 dX4_addStep_22 ?_
  refine lv_iload_n hx hb dX4_addStep_25 rfl (lv_at hl 1 rfl) ?_
  refine zast_C (a := k1) C hw hT.2.2.2.2.1 hT.2.2.2.2.2.1 (zin_of (N := 6) (by decide) (by grind) (by grind)) dX4_addStep_26 (fun H locs hw => ?_)
  refine lv_aload_n hx hb dX4_addStep_27 rfl (lv_at hl 0 rfl) ?_
  refine g_Trig_lines (a := t0) (v := k2) C hw hT.1 in_X4 (by decide +kernel) hT.2.2.1 dX4_addStep_28 ?_
  refine lv_aload_n hx hb dX4_addStep_31 rfl (lv_at hl 0 rfl) ?_
  refine g_Trig_count (a := t0) (v := 0) C hw hT.1 in_X4 (by decide +kernel) ht0 dX4_addStep_32 ?_
  refine lv_iload_n hx hb dX4_addStep_35 rfl (lv_at hl 2 rfl) ?_
  refine zast_I (a := k2) C hw hT.2.2.2.2.2.2.1 hT.2.2.2.2.2.2.2.1 (zin_of (N := 6) (by decide) (by grind) (by grind)) dX4_addStep_36 (fun H locs hw => ?_)
  refine lv_aload_n hx hb dX4_addStep_37 rfl (lv_at hl 0 rfl) ?_
  refine g_Trig_numbers (a := t0) (v := k3) C hw hT.1 in_X4 (by decide +kernel) hT.2.2.2.1 dX4_addStep_38 ?_
  refine lv_aload_n hx hb dX4_addStep_41 rfl (lv_at hl 0 rfl) ?_
  refine g_Trig_count (a := t0) (v := 0) C hw hT.1 in_X4 (by decide +kernel) ht0 dX4_addStep_42 ?_
  refine lv_iload_n hx hb dX4_addStep_45 rfl (lv_at hl 3 rfl) ?_
  refine zast_I (a := k3) C hw hT.2.2.2.2.2.2.2.2.1 hT.2.2.2.2.2.2.2.2.2 (zin_of (N := 6) (by decide) (by grind) (by grind)) dX4_addStep_46 (fun H locs hw => ?_)
  refine lv_aload_n hx hb dX4_addStep_47 rfl (lv_at hl 0 rfl) ?_
  refine lv_dup hx hb dX4_addStep_48 rfl ?_
  refine g_Trig_count (a := t0) (v := 0) C hw hT.1 in_X4 (by decide +kernel) ht0 dX4_addStep_49 ?_
  refine lv_iconst (v := 1) hx hb dX4_addStep_52 (by decide) ?_
  refine lv_iadd hx hb dX4_addStep_53 ?_
  refine zrd (x := 1) (by decide) ?_
  refine p_Trig_count (a := t0) (v := 1) C hw hT.1 in_X4 (by decide +kernel) dX4_addStep_54 (fun H locs hw => ?_)
  exact zrv C hw hr hlocks ⟨(zCls.R (by decide)).tr ((zCls.R (by decide)).tr ((zCls.R (by decide)).tr (zCls.I (by decide)))), zI_s _ _ _ _, ⟨rfl, rfl, rfl, rfl⟩⟩ ⟨Nat.le_of_ble_eq_true rfl, Nat.le_of_ble_eq_true rfl⟩ dX4_addStep_57
