set_option maxHeartbeats 4000000 in
set_option maxRecDepth 100000 in
/-- X9_ends -/
theorem c_X9_ends (l : Launch) (D : va_G) (y : Nat → ClassId) (base : Nat) (S : zS) (q : Nat) (m0 : Nat) (rw9 : Nat) (f : Nat → Nat) (A : Int32) (g : Int32) (p0 : Int32) (hq : zK S q = 13) (h208 : zQ S 208 q = some rw9) (h212 : zQ S 212 q = some m0) (hm : zK S m0 = 15) (h243 : zI S 243 m0 = 0) (h210 : zI S 210 q = A) (h211 : zI S 211 q = g) (hr0 : zK S rw9 = 35) (hr1 : zN S rw9 = 4) (hf : ∀ j, j < 4 → zP S rw9 j = some (f j) ∧ zK S (f j) = 23 ∧ zN S (f j) = 10000 ∧ zct (zon (zR S 23 (f j))) 10000 ≤ 300) : zMi l yX9_ends wsX9_ends ({ frames := 1, cells := 0, slots := 0, locals := 30 }) [.ref q, .int p0] D y base S (fun (r : Int32) (S1 : zS) => zK S1 m0 = 15 ∧ zI S1 240 m0 = (if g = 0 then 3 else 0) ∧ (¬ g = 0 → r = A + p0)) 0 0 := by
  refine zMet_of (cc := cX9_ends) (maxL := 2) (ret := (some .int)) (own := RX9) (by decide +kernel) rfl rfl (Nat.le_of_ble_eq_true rfl) ?_
  intro p e s m args below meth c ls C hr hlocks hnm hw hl
  have hx := C.1
  have hb := C.2.1
  have hown := C.2.2.2.1
  have hts := C.2.2.2.2
  have hl : lv_has ls 2 [(0, .ref q), (1, .int p0)] := hl
  have in_X11 : ∀ w ∈ wsX110, w ∈ wsX9_ends := by decide +kernel
  have in_X9 : ∀ w ∈ wsX90, w ∈ wsX9_ends := by decide +kernel
  refine lv_aload_n hx hb dX9_ends_0 rfl (lv_at hl 0 rfl) ?_
  refine g_Send_this_0 (a := q) (v := m0) C hw hq in_X9 (by decide +kernel) h212 dX9_ends_1 ?_
  refine lv_aload_n hx hb dX9_ends_4 rfl (lv_at hl 0 rfl) ?_
  refine g_Send_isGood (a := q) (v := g) C hw hq in_X9 (by decide +kernel) h211 dX9_ends_5 ?_
  refine lv_if_eq (tgt := 25) hx hb dX9_ends_8 (by decide) (fun c8 => ?_) (fun c8 => ?_)
  · refine lv_iconst (v := 3) hx hb dX9_ends_25 (by decide) ?_
    refine zputNI (a := m0) (k := 15) (j := 0) (v := 3) (ref := "ProbehallModel") (host := "ProbehallModel") (Cn := RX11) (T := TX11) (N := 10) C hw hm (by decide) (by decide) rfl in_X11 tyX11 tyX11_ok nmX11 rfl (by decide) (by decide +kernel) (fun _ h => h) rfl (ty := tyX11 0) rfl rfl rfl dX9_ends_26 (fun H locs hw => ?_)
    refine lv_aload_n hx hb dX9_ends_29 rfl (lv_at hl 0 rfl) ?_
    refine g_Send_this_0 (a := q) (v := m0) C hw hq in_X9 (by decide +kernel) h212 dX9_ends_30 ?_
    refine zgetN (a := m0) (k := 15) (j := 0) (b := false) (v := .int 3) (ref := "ProbehallModel") (host := "ProbehallModel") (Cn := RX11) (T := TX11) (N := 10) C hw hm (by decide) (by decide) rfl in_X11 rfl (by decide) (by decide +kernel) (fun _ h => h) (show Value.int (zI (zsI S 240 m0 3) 240 m0) = .int 3 by rw [show zI (zsI S 240 m0 3) 240 m0 = 3 from (zI_s S 240 m0 3)]) dX9_ends_33 ?_
    refine lv_if_le (tgt := 41) hx hb dX9_ends_36 (by decide) (fun c36 => absurd c36 (by decide)) (fun _ => ?_)
    refine lv_iconst (v := 0) hx hb dX9_ends_39 (by decide) ?_
    exact zri C hw hr hlocks rfl ⟨hm, ((zI_s S 240 m0 3)).trans (by grind), (fun h9 => by first | rfl | exact absurd (by assumption) h9)⟩ ⟨Nat.le_of_ble_eq_true rfl, Nat.le_of_ble_eq_true rfl⟩ dX9_ends_40
  · refine lv_aload_n hx hb dX9_ends_11 rfl (lv_at hl 0 rfl) ?_
    refine g_Send_rows (a := q) (v := rw9) C hw hq in_X9 (by decide +kernel) h208 dX9_ends_12 ?_
    refine zcSN_i (As := [.ref rw9]) (rest := [.ref m0]) (n9 := 1) (host := "ProbehallModel") C hw (c_X11_areFew l D y base S rw9 f hr0 hr1 hf) gX9_ends_X11_areFew_n43 (by decide +kernel) (by decide +kernel) (by decide +kernel) rfl (by decide +kernel) ⟨⟨rfl, rfl⟩, Nat.le_of_ble_eq_true rfl, Nat.le_of_ble_eq_true rfl⟩ rfl hl.1 rfl (Nat.le_of_ble_eq_true rfl) ⟨Nat.le_of_ble_eq_true rfl, Nat.le_of_ble_eq_true rfl⟩ dX9_ends_15 (fun r15 S15 H locs hp15 hw => ?_)
    obtain ⟨rfl, hS9⟩ := hp15
    have hS9 := hS9.symm
    subst hS9
    refine lv_if_eq (tgt := 25) hx hb dX9_ends_18 (by decide) (fun c18 => absurd c18 (by decide)) (fun _ => ?_)
    refine lv_iconst (v := 0) hx hb dX9_ends_21 (by decide) ?_
    refine lv_goto (tgt := 26) hx hb dX9_ends_22 (by decide) ?_
    refine zputNI (a := m0) (k := 15) (j := 0) (v := 0) (ref := "ProbehallModel") (host := "ProbehallModel") (Cn := RX11) (T := TX11) (N := 10) C hw hm (by decide) (by decide) rfl in_X11 tyX11 tyX11_ok nmX11 rfl (by decide) (by decide +kernel) (fun _ h => h) rfl (ty := tyX11 0) rfl rfl rfl dX9_ends_26 (fun H locs hw => ?_)
    refine lv_aload_n hx hb dX9_ends_29 rfl (lv_at hl 0 rfl) ?_
    refine g_Send_this_0 (a := q) (v := m0) C hw hq in_X9 (by decide +kernel) h212 dX9_ends_30 ?_
    refine zgetN (a := m0) (k := 15) (j := 0) (b := false) (v := .int 0) (ref := "ProbehallModel") (host := "ProbehallModel") (Cn := RX11) (T := TX11) (N := 10) C hw hm (by decide) (by decide) rfl in_X11 rfl (by decide) (by decide +kernel) (fun _ h => h) (show Value.int (zI (zsI S 240 m0 0) 240 m0) = .int 0 by rw [show zI (zsI S 240 m0 0) 240 m0 = 0 from (zI_s S 240 m0 0)]) dX9_ends_33 ?_
    refine lv_if_le (tgt := 41) hx hb dX9_ends_36 (by decide) (fun _ => ?_) (fun c36 => absurd c36 (by decide))
    refine lv_aload_n hx hb dX9_ends_41 rfl (lv_at hl 0 rfl) ?_
    refine g_Send_this_0 (a := q) (v := m0) C hw hq in_X9 (by decide +kernel) h212 dX9_ends_42 ?_
    refine lv_aload_n hx hb dX9_ends_45 rfl (lv_at hl 0 rfl) ?_
    refine g_Send_rows (a := q) (v := rw9) C hw hq in_X9 (by decide +kernel) h208 dX9_ends_46 ?_
    refine zputNQ (a := m0) (k := 15) (j := 2) (v := rw9) (ref := "ProbehallModel") (host := "ProbehallModel") (Cn := RX11) (T := TX11) (N := 10) C hw hm (by decide) (by decide) rfl in_X11 tyX11 tyX11_ok nmX11 rfl (by decide) (by decide +kernel) (fun _ h => h) rfl (ty := tyX11 2) rfl rfl rfl dX9_ends_49 (fun H locs hw => ?_)
    refine lv_aload_n hx hb dX9_ends_52 rfl (lv_at hl 0 rfl) ?_
    refine g_Send_this_0 (a := q) (v := m0) C hw hq in_X9 (by decide +kernel) (zQ_t (S := (zsI S 240 m0 0)) (t := 242) (a := m0) (v := some rw9) (t' := 212) (a' := q) (u := some m0) (by decide) h212) dX9_ends_53 ?_
    refine lv_aload_n hx hb dX9_ends_56 rfl (lv_at hl 0 rfl) ?_
    refine g_Send_at (a := q) (v := A) C hw hq in_X9 (by decide +kernel) (zI_t (S := S) (t := 240) (a := m0) (v := 0) (t' := 210) (a' := q) (u := A) (by decide) h210) dX9_ends_57 ?_
    refine lv_iload_n hx hb dX9_ends_60 rfl (lv_at hl 1 rfl) ?_
    refine zcVN_i (As := [.int A, .int p0]) (rest := []) (n9 := 2) (host := "ProbehallModel") (b := m0) C hw (c_X11_drifted l D y base (zsQ (zsI S 240 m0 0) 242 m0 (some rw9)) m0 A p0 hm (zI_t (S := S) (t := 240) (a := m0) (v := 0) (t' := 243) (a' := m0) (u := 0) (by decide) h243)) gX9_ends_X11_drifted_n35 (by decide +kernel) (by decide +kernel) (by decide +kernel) (by decide +kernel) rfl (by decide +kernel) ⟨⟨rfl, rfl⟩, Nat.le_of_ble_eq_true rfl, Nat.le_of_ble_eq_true rfl⟩ hm ⟨by decide, by decide⟩ rfl rfl hl.1 rfl (Nat.le_of_ble_eq_true rfl) ⟨Nat.le_of_ble_eq_true rfl, Nat.le_of_ble_eq_true rfl⟩ dX9_ends_61 (fun r61 S61 H locs hp61 hw => ?_)
    obtain ⟨rfl, hS9⟩ := hp61
    have hS9 := hS9.symm
    subst hS9
    exact zri C hw hr hlocks rfl ⟨hm, ((zI_s S 240 m0 0)).trans (by grind), (fun h9 => by first | rfl | exact absurd (by assumption) h9)⟩ ⟨Nat.le_of_ble_eq_true rfl, Nat.le_of_ble_eq_true rfl⟩ dX9_ends_64

