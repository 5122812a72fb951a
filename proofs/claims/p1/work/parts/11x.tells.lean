set_option maxHeartbeats 4000000 in
set_option maxRecDepth 100000 in
/-- X9_tells -/
theorem c_X9_tells (l : Launch) (D : va_G) (y : Nat → ClassId) (base : Nat) (S : zS) (q : Nat) (m0 : Nat) (rw9 : Nat) (sn : Nat) (w0 : Nat) (A : Int32) (g : Int32) (cur : Int32) (p0 : Int32) (p1 : Int32) (p2 : Int32) (hq : zK S q = 13) (h208 : zQ S 208 q = some rw9) (h209 : zQ S 209 q = some sn) (h212 : zQ S 212 q = some m0) (hm : zK S m0 = 15) (h243 : zI S 243 m0 = 0) (h210 : zI S 210 q = A) (h211 : zI S 211 q = g) (hg : g = 0 ∨ g = 1) (hr0 : zK S rw9 = 35) (hr1 : zN S rw9 = 4) (hs0 : zK S sn = 23) (hs1 : zN S sn = 4) (hcur : zR S 23 sn p0.toNatClampNeg = cur) (hp : 0 ≤ p0 ∧ p0 ≤ 3) (he : zP S rw9 p0.toNatClampNeg = some w0) (hw0 : zK S w0 = 23) (hw1 : zN S w0 = 10000) (hws : w0 ≠ sn) (hz : p2 = 0 ∨ p2 = 1) (hA : 0 ≤ A + p1) : zMv l yX9_tells wsX9_tells ({ frames := 1, cells := 0, slots := 0, locals := 22 }) [.ref q, .int p0, .int p1, .int p2] D y base S (fun (S1 : zS) => (cur = p2 ∧ S1 = S) ∨ (¬ cur = p2 ∧ ∃ S2 : zS, ((A + p1 ≤ 9999 ∧ S2 = zsR S 23 w0 (upd (zR S 23 w0) (A + p1).toNatClampNeg (zno (zR S 23 w0 (A + p1).toNatClampNeg)))) ∨ (¬ A + p1 ≤ 9999 ∧ S2 = S)) ∧ S1 = zsR (zsI S2 211 q (if A + p1 ≤ 9999 then g else 0)) 23 sn (upd (zR S 23 sn) p0.toNatClampNeg p2))) 0 0 := by
  refine zMet_of (cc := cX9_tells) (maxL := 4) (ret := none) (own := RX9) (by decide +kernel) rfl rfl (Nat.le_of_ble_eq_true rfl) ?_
  intro p e s m args below meth c ls C hr hlocks hnm hw hl
  have hx := C.1
  have hb := C.2.1
  have hown := C.2.2.2.1
  have hts := C.2.2.2.2
  have hl : lv_has ls 4 [(0, .ref q), (1, .int p0), (2, .int p1), (3, .int p2)] := hl
  have in_X9 : ∀ w ∈ wsX90, w ∈ wsX9_tells := by decide +kernel
  refine lv_aload_n hx hb dX9_tells_0 rfl (lv_at hl 0 rfl) ?_
  refine g_Send_sent (a := q) (v := sn) C hw hq in_X9 (by decide +kernel) h209 dX9_tells_1 ?_
  refine lv_iload_n hx hb dX9_tells_4 rfl (lv_at hl 1 rfl) ?_
  refine zald_Z (a := sn) C hw hs0 hs1 (zin_of (N := 4) (by decide) (by grind) (by grind)) dX9_tells_5 ?_
  refine zrd (x := cur) hcur ?_
  refine lv_iload_n hx hb dX9_tells_6 rfl (lv_at hl 3 rfl) ?_
  refine lv_icmp_eq (tgt := 56) hx hb dX9_tells_7 (by decide) (fun c7 => ?_) (fun c7 => ?_)
  · exact zrv C hw hr hlocks (Or.inl ⟨c7, rfl⟩) ⟨Nat.le_of_ble_eq_true rfl, Nat.le_of_ble_eq_true rfl⟩ dX9_tells_56
  · refine lv_aload_n hx hb dX9_tells_10 rfl (lv_at hl 0 rfl) ?_
    refine lv_aload_n hx hb dX9_tells_11 rfl (lv_at hl 0 rfl) ?_
    refine g_Send_rows (a := q) (v := rw9) C hw hq in_X9 (by decide +kernel) h208 dX9_tells_12 ?_
    refine lv_iload_n hx hb dX9_tells_15 rfl (lv_at hl 1 rfl) ?_
    refine lv_aload_n hx hb dX9_tells_16 rfl (lv_at hl 0 rfl) ?_
    refine g_Send_this_0 (a := q) (v := m0) C hw hq in_X9 (by decide +kernel) h212 dX9_tells_17 ?_
    refine lv_aload_n hx hb dX9_tells_20 rfl (lv_at hl 0 rfl) ?_
    refine g_Send_at (a := q) (v := A) C hw hq in_X9 (by decide +kernel) h210 dX9_tells_21 ?_
    refine lv_iload_n hx hb dX9_tells_24 rfl (lv_at hl 2 rfl) ?_
    refine zcVN_i (As := [.int A, .int p1]) (rest := [.int p0, .ref rw9, .ref q]) (n9 := 2) (host := "ProbehallModel") (b := m0) C hw (c_X11_drifted l D y base S m0 A p1 hm h243) gX9_tells_X11_drifted_n35 (by decide +kernel) (by decide +kernel) (by decide +kernel) (by decide +kernel) rfl (by decide +kernel) ⟨⟨rfl, rfl⟩, Nat.le_of_ble_eq_true rfl, Nat.le_of_ble_eq_true rfl⟩ hm ⟨by decide, by decide⟩ rfl rfl hl.1 rfl (Nat.le_of_ble_eq_true rfl) ⟨Nat.le_of_ble_eq_true rfl, Nat.le_of_ble_eq_true rfl⟩ dX9_tells_25 (fun r25 S25 H locs hp25 hw => ?_)
    obtain ⟨rfl, hS9⟩ := hp25
    have hS9 := hS9.symm
    subst hS9
    refine zcSN_i (As := [.ref rw9, .int p0, .int (A + p1)]) (rest := [.ref q]) (n9 := 3) (host := "ProbehallModel") C hw (c_X11_turns l D y base S rw9 w0 p0 (A + p1) hr0 hr1 hp he hw0 hw1 hA) gX9_tells_X11_turns_n39 (by decide +kernel) (by decide +kernel) (by decide +kernel) rfl (by decide +kernel) ⟨⟨rfl, rfl⟩, Nat.le_of_ble_eq_true rfl, Nat.le_of_ble_eq_true rfl⟩ rfl hl.1 rfl (Nat.le_of_ble_eq_true rfl) ⟨Nat.le_of_ble_eq_true rfl, Nat.le_of_ble_eq_true rfl⟩ dX9_tells_28 (fun r28 S28 H locs hp28 hw => ?_)
    have hD : zK S28 = zK S ∧ zQ S28 = zQ S ∧ zN S28 = zN S ∧ zP S28 = zP S ∧ zI S28 = zI S ∧ zR S28 23 sn = zR S 23 sn := by rcases hp28 with ⟨_, _, e9⟩ | ⟨_, _, e9⟩; rw [e9]; exact ⟨rfl, rfl, rfl, rfl, rfl, zR_a (Ne.symm hws) rfl⟩; rw [e9]; exact ⟨rfl, rfl, rfl, rfl, rfl, rfl⟩
    refine lv_if_eq (tgt := 45) hx hb dX9_tells_31 (by decide) (fun c31 => ?_) (fun c31 => ?_)
    · refine lv_iconst (v := 0) hx hb dX9_tells_45 (by decide) ?_
      refine p_Send_isGood (a := q) (v := 0) C hw ((congrFun hD.1 q).trans hq) in_X9 (by decide +kernel) (by decide) dX9_tells_46 (fun H locs hw => ?_)
      refine lv_aload_n hx hb dX9_tells_49 rfl (lv_at hl 0 rfl) ?_
      refine g_Send_sent (a := q) (v := sn) C hw ((congrFun hD.1 q).trans hq) in_X9 (by decide +kernel) ((congrFun (congrFun hD.2.1 209) q).trans h209) dX9_tells_50 ?_
      refine lv_iload_n hx hb dX9_tells_53 rfl (lv_at hl 1 rfl) ?_
      refine lv_iload_n hx hb dX9_tells_54 rfl (lv_at hl 3 rfl) ?_
      refine zast_Z (a := sn) C hw ((congrFun hD.1 sn).trans hs0) ((congrFun hD.2.2.1 sn).trans hs1) (zin_of (N := 4) (by decide) (by grind) (by grind)) dX9_tells_55 (fun H locs hw => ?_)
      exact zrv C hw hr hlocks (Or.inr ⟨c7, S28, by rcases hp28 with ⟨g1, _, g3⟩ | ⟨g1, _, g3⟩; exact Or.inl ⟨g1, g3⟩; exact Or.inr ⟨g1, g3⟩, by have eV : (0 : Int32) = (if A + p1 ≤ 9999 then g else 0) := (by rcases hp28 with ⟨g1, g2, -⟩ | ⟨g1, g2, -⟩ <;> grind); show zsR (zsI S28 211 q 0) 23 sn (upd (zR S28 23 sn) _ (vp_nar .boolean p2)) = _; rw [zvb hz, hD.2.2.2.2.2, ← eV]⟩) ⟨Nat.le_of_ble_eq_true rfl, Nat.le_of_ble_eq_true rfl⟩ dX9_tells_56
    · refine lv_aload_n hx hb dX9_tells_34 rfl (lv_at hl 0 rfl) ?_
      refine g_Send_isGood (a := q) (v := g) C hw ((congrFun hD.1 q).trans hq) in_X9 (by decide +kernel) ((congrFun (congrFun hD.2.2.2.2.1 211) q).trans h211) dX9_tells_35 ?_
      refine lv_if_eq (tgt := 45) hx hb dX9_tells_38 (by decide) (fun c38 => ?_) (fun c38 => ?_)
      · refine lv_iconst (v := 0) hx hb dX9_tells_45 (by decide) ?_
        refine p_Send_isGood (a := q) (v := 0) C hw ((congrFun hD.1 q).trans hq) in_X9 (by decide +kernel) (by decide) dX9_tells_46 (fun H locs hw => ?_)
        refine lv_aload_n hx hb dX9_tells_49 rfl (lv_at hl 0 rfl) ?_
        refine g_Send_sent (a := q) (v := sn) C hw ((congrFun hD.1 q).trans hq) in_X9 (by decide +kernel) ((congrFun (congrFun hD.2.1 209) q).trans h209) dX9_tells_50 ?_
        refine lv_iload_n hx hb dX9_tells_53 rfl (lv_at hl 1 rfl) ?_
        refine lv_iload_n hx hb dX9_tells_54 rfl (lv_at hl 3 rfl) ?_
        refine zast_Z (a := sn) C hw ((congrFun hD.1 sn).trans hs0) ((congrFun hD.2.2.1 sn).trans hs1) (zin_of (N := 4) (by decide) (by grind) (by grind)) dX9_tells_55 (fun H locs hw => ?_)
        exact zrv C hw hr hlocks (Or.inr ⟨c7, S28, by rcases hp28 with ⟨g1, _, g3⟩ | ⟨g1, _, g3⟩; exact Or.inl ⟨g1, g3⟩; exact Or.inr ⟨g1, g3⟩, by have eV : (0 : Int32) = (if A + p1 ≤ 9999 then g else 0) := (by rcases hp28 with ⟨g1, g2, -⟩ | ⟨g1, g2, -⟩ <;> grind); show zsR (zsI S28 211 q 0) 23 sn (upd (zR S28 23 sn) _ (vp_nar .boolean p2)) = _; rw [zvb hz, hD.2.2.2.2.2, ← eV]⟩) ⟨Nat.le_of_ble_eq_true rfl, Nat.le_of_ble_eq_true rfl⟩ dX9_tells_56
      · refine lv_iconst (v := 1) hx hb dX9_tells_41 (by decide) ?_
        refine lv_goto (tgt := 46) hx hb dX9_tells_42 (by decide) ?_
        refine p_Send_isGood (a := q) (v := 1) C hw ((congrFun hD.1 q).trans hq) in_X9 (by decide +kernel) (by decide) dX9_tells_46 (fun H locs hw => ?_)
        refine lv_aload_n hx hb dX9_tells_49 rfl (lv_at hl 0 rfl) ?_
        refine g_Send_sent (a := q) (v := sn) C hw ((congrFun hD.1 q).trans hq) in_X9 (by decide +kernel) ((congrFun (congrFun hD.2.1 209) q).trans h209) dX9_tells_50 ?_
        refine lv_iload_n hx hb dX9_tells_53 rfl (lv_at hl 1 rfl) ?_
        refine lv_iload_n hx hb dX9_tells_54 rfl (lv_at hl 3 rfl) ?_
        refine zast_Z (a := sn) C hw ((congrFun hD.1 sn).trans hs0) ((congrFun hD.2.2.1 sn).trans hs1) (zin_of (N := 4) (by decide) (by grind) (by grind)) dX9_tells_55 (fun H locs hw => ?_)
        exact zrv C hw hr hlocks (Or.inr ⟨c7, S28, by rcases hp28 with ⟨g1, _, g3⟩ | ⟨g1, _, g3⟩; exact Or.inl ⟨g1, g3⟩; exact Or.inr ⟨g1, g3⟩, by have eV : (1 : Int32) = (if A + p1 ≤ 9999 then g else 0) := (by rcases hp28 with ⟨g1, g2, -⟩ | ⟨g1, g2, -⟩ <;> grind); show zsR (zsI S28 211 q 1) 23 sn (upd (zR S28 23 sn) _ (vp_nar .boolean p2)) = _; rw [zvb hz, hD.2.2.2.2.2, ← eV]⟩) ⟨Nat.le_of_ble_eq_true rfl, Nat.le_of_ble_eq_true rfl⟩ dX9_tells_56

