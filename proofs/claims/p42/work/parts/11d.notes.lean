set_option maxHeartbeats 4000000 in
set_option maxRecDepth 100000 in
/-- X3_tell -/
theorem c_X3_tell (l : Launch) (D : va_G) (y : Nat → ClassId) (base : Nat) (S : zS) (t0 : Nat) (k1 : Nat) (k2 : Nat) (k3 : Nat) (k4 : Nat) (k5 : Nat) (p0 : Int32) (p1 : Int32) (p2 : Int32) (p3 : Int32) (p4 : Int32) (L : List zNt) (hNt : zNts S t0 k1 k2 k3 k4 k5) (hNo : zNo S t0 k1 k2 k3 k4 k5 L) (hNd : zNd k1 k2 k3 k4 k5) (hLl : L.length < 200) (hch : vp_nar .char p0 = p0) (hcf : vp_nar .char p4 = p4) : zMv l yX3_tell wsX3_tell ({ frames := 0, cells := 0, slots := 0, locals := 0 }) [.ref t0, .int p0, .int p1, .int p2, .int p3, .int p4] D y base S (fun (S1 : zS) => zNo S1 t0 k1 k2 k3 k4 k5 (L ++ [(p0, p1, p2, p3, p4)]) ∧ zFr S S1 (zNI t0) (zNR k1 k2 k3 k4 k5)) 0 0 := by
  refine zMet_of (cc := cX3_tell) (maxL := 6) (ret := none) (own := RX3) (by decide +kernel) rfl rfl (Nat.le_of_ble_eq_true rfl) ?_
  intro p e s m args below meth c ls C hr hlocks hnm hw hl
  have hx := C.1
  have hb := C.2.1
  have hown := C.2.2.2.1
  have hts := C.2.2.2.2
  have hl : lv_has ls 6 [(0, .ref t0), (1, .int p0), (2, .int p1), (3, .int p2), (4, .int p3), (5, .int p4)] := hl
  have in_X3 : ∀ w ∈ wsX30, w ∈ wsX3_tell := by decide +kernel
  refine lv_aload_n hx hb dX3_tell_0 rfl (lv_at hl 0 rfl) ?_
  refine g_Notes_count (a := t0) (v := (nI L.length)) C hw hNt.1 in_X3 (by decide +kernel) hNo.1 dX3_tell_1 ?_
  refine lv_if_lt (tgt := 17) hx hb dX3_tell_4 (by decide) (fun c4 => (show False from nI_pos (by omega) c4).elim) (fun c4 => ?_)
  refine lv_aload_n hx hb dX3_tell_7 rfl (lv_at hl 0 rfl) ?_
  refine g_Notes_count (a := t0) (v := (nI L.length)) C hw hNt.1 in_X3 (by decide +kernel) hNo.1 dX3_tell_8 ?_
  refine lv_sipush (v := 200) hx hb dX3_tell_11 (by decide) ?_
  refine lv_icmp_lt (tgt := 18) hx hb dX3_tell_14 (by decide) (fun c14 => ?_) (fun c14 => (show False from c14 (nI_lt (b := 200) (by omega) (by decide))).elim)
  refine lv_aload_n hx hb dX3_tell_18 rfl (lv_at hl 0 rfl) ?_
  refine g_Notes_kinds (a := t0) (v := k1) C hw hNt.1 in_X3 (by decide +kernel) hNt.2.1 dX3_tell_19 ?_
  refine lv_aload_n hx hb dX3_tell_22 rfl (lv_at hl 0 rfl) ?_
  refine g_Notes_count (a := t0) (v := (nI L.length)) C hw hNt.1 in_X3 (by decide +kernel) hNo.1 dX3_tell_23 ?_
  refine lv_iload_n hx hb dX3_tell_26 rfl (lv_at hl 1 rfl) ?_
  refine zast_C (a := k1) C hw hNt.2.2.2.2.2.2.1 hNt.2.2.2.2.2.2.2.1 (vp_in_nI (by omega) (by decide)) dX3_tell_27 (fun H locs hw => ?_)
  refine lv_aload_n hx hb dX3_tell_28 rfl (lv_at hl 0 rfl) ?_
  refine g_Notes_begins (a := t0) (v := k2) C hw hNt.1 in_X3 (by decide +kernel) hNt.2.2.1 dX3_tell_29 ?_
  refine lv_aload_n hx hb dX3_tell_32 rfl (lv_at hl 0 rfl) ?_
  refine g_Notes_count (a := t0) (v := (nI L.length)) C hw hNt.1 in_X3 (by decide +kernel) hNo.1 dX3_tell_33 ?_
  refine lv_iload_n hx hb dX3_tell_36 rfl (lv_at hl 2 rfl) ?_
  refine zast_I (a := k2) C hw hNt.2.2.2.2.2.2.2.2.1 hNt.2.2.2.2.2.2.2.2.2.1 (vp_in_nI (by omega) (by decide)) dX3_tell_37 (fun H locs hw => ?_)
  refine lv_aload_n hx hb dX3_tell_38 rfl (lv_at hl 0 rfl) ?_
  refine g_Notes_ends (a := t0) (v := k3) C hw hNt.1 in_X3 (by decide +kernel) hNt.2.2.2.1 dX3_tell_39 ?_
  refine lv_aload_n hx hb dX3_tell_42 rfl (lv_at hl 0 rfl) ?_
  refine g_Notes_count (a := t0) (v := (nI L.length)) C hw hNt.1 in_X3 (by decide +kernel) hNo.1 dX3_tell_43 ?_
  refine lv_iload_n hx hb dX3_tell_46 rfl (lv_at hl 3 rfl) ?_
  refine zast_I (a := k3) C hw hNt.2.2.2.2.2.2.2.2.2.2.1 hNt.2.2.2.2.2.2.2.2.2.2.2.1 (vp_in_nI (by omega) (by decide)) dX3_tell_47 (fun H locs hw => ?_)
  refine lv_aload_n hx hb dX3_tell_48 rfl (lv_at hl 0 rfl) ?_
  refine g_Notes_values (a := t0) (v := k4) C hw hNt.1 in_X3 (by decide +kernel) hNt.2.2.2.2.1 dX3_tell_49 ?_
  refine lv_aload_n hx hb dX3_tell_52 rfl (lv_at hl 0 rfl) ?_
  refine g_Notes_count (a := t0) (v := (nI L.length)) C hw hNt.1 in_X3 (by decide +kernel) hNo.1 dX3_tell_53 ?_
  refine lv_iload hx hb dX3_tell_56 (lv_at hl 4 rfl) ?_
  refine zast_I (a := k4) C hw hNt.2.2.2.2.2.2.2.2.2.2.2.2.1 hNt.2.2.2.2.2.2.2.2.2.2.2.2.2.1 (vp_in_nI (by omega) (by decide)) dX3_tell_58 (fun H locs hw => ?_)
  refine lv_aload_n hx hb dX3_tell_59 rfl (lv_at hl 0 rfl) ?_
  refine g_Notes_faults (a := t0) (v := k5) C hw hNt.1 in_X3 (by decide +kernel) hNt.2.2.2.2.2.1 dX3_tell_60 ?_
  refine lv_aload_n hx hb dX3_tell_63 rfl (lv_at hl 0 rfl) ?_
  refine g_Notes_count (a := t0) (v := (nI L.length)) C hw hNt.1 in_X3 (by decide +kernel) hNo.1 dX3_tell_64 ?_
  refine lv_iload hx hb dX3_tell_67 (lv_at hl 5 rfl) ?_
  refine zast_C (a := k5) C hw hNt.2.2.2.2.2.2.2.2.2.2.2.2.2.2.1 hNt.2.2.2.2.2.2.2.2.2.2.2.2.2.2.2 (vp_in_nI (by omega) (by decide)) dX3_tell_69 (fun H locs hw => ?_)
  refine lv_aload_n hx hb dX3_tell_70 rfl (lv_at hl 0 rfl) ?_
  refine lv_dup hx hb dX3_tell_71 rfl ?_
  refine g_Notes_count (a := t0) (v := (nI L.length)) C hw hNt.1 in_X3 (by decide +kernel) hNo.1 dX3_tell_72 ?_
  refine lv_iconst (v := 1) hx hb dX3_tell_75 (by decide) ?_
  refine lv_iadd hx hb dX3_tell_76 ?_
  refine lv_topi (fun x77 ex77 => ?_)
  refine p_Notes_count (a := t0) (v := x77) C hw hNt.1 in_X3 (by decide +kernel) dX3_tell_77 (fun H locs hw => ?_)
  exact zrv C hw hr hlocks (zNo.tell (p0, p1, p2, p3, p4) hNo hNd hLl (nI_clamp (by omega)) hch hcf (ex77.trans (nI_1 _)) rfl rfl rfl rfl rfl rfl) ⟨Nat.le_of_ble_eq_true rfl, Nat.le_of_ble_eq_true rfl⟩ dX3_tell_80

set_option maxHeartbeats 4000000 in
set_option maxRecDepth 100000 in
/-- X3_pairCount -/
theorem c_X3_pairCount_2 (l : Launch) (D : va_G) (y : Nat → ClassId) (base : Nat) (S : zS) (t0 : Nat) (k1 : Nat) (k2 : Nat) (k3 : Nat) (k4 : Nat) (k5 : Nat) (p0 : Int32) (p1 : Int32) (x0 : zNt) (x1 : zNt) (hNt : zNts S t0 k1 k2 k3 k4 k5) (hNo : zNo S t0 k1 k2 k3 k4 k5 [x0, x1]) (hx0 : x0.1 = 66 ∧ x0.2.2.2.1 = p0) (hx1 : x1.1 = 66 ∧ x1.2.2.2.1 = p1) (hp0 : 0 ≤ p0) : zMi l yX3_pairCount wsX3_pairCount ({ frames := 0, cells := 0, slots := 0, locals := 0 }) [.ref t0, .int p0, .int p1] D y base S (fun (r : Int32) (S1 : zS) => r = 1 ∧ S1 = S) 0 0 := by
  refine zMet_of (cc := cX3_pairCount) (maxL := 6) (ret := (some .int)) (own := RX3) (by decide +kernel) rfl rfl (Nat.le_of_ble_eq_true rfl) ?_
  intro p e s m args below meth c ls C hr hlocks hnm hw hl
  have hx := C.1
  have hb := C.2.1
  have hown := C.2.2.2.1
  have hts := C.2.2.2.2
  have hl : lv_has ls 6 [(0, .ref t0), (1, .int p0), (2, .int p1)] := hl
  have in_X3 : ∀ w ∈ wsX30, w ∈ wsX3_pairCount := by decide +kernel
  have hr0 := hNo.2.2 0 x0 rfl
  have hr1 := hNo.2.2 1 x1 rfl
  have hk9 : ∀ j, j < 2 → zR S 21 k1 j = 66 := by intro j hj; rcases (show j = 0 ∨ j = 1 by omega) with rfl | rfl; exact hr0.1.trans hx0.1; exact hr1.1.trans hx1.1
  refine lv_iconst (v := 0) hx hb dX3_pairCount_0 (by decide) ?_
  refine lv_istore_n (lv' := [(3, .int 0), (0, .ref t0), (1, .int p0), (2, .int p1)]) hx hb dX3_pairCount_1 rfl hl (by decide) rfl (fun ls hl => ?_)
  refine lv_iconst (v := (-1)) hx hb dX3_pairCount_2 (by decide) ?_
  refine lv_istore (lv' := [(4, .int (-1)), (3, .int 0), (0, .ref t0), (1, .int p0), (2, .int p1)]) hx hb dX3_pairCount_3 hl (by decide) rfl (fun ls hl => ?_)
  refine lv_iconst (v := 0) hx hb dX3_pairCount_5 (by decide) ?_
  refine lv_istore (lv' := [(5, .int 0), (4, .int (-1)), (3, .int 0), (0, .ref t0), (1, .int p0), (2, .int p1)]) hx hb dX3_pairCount_6 hl (by decide) rfl (fun ls hl => ?_)
  have lp_2 : ∀ (n9 : Nat) (i : Nat) (n : Int32) (q : Int32) (H : Heap) (locs : List Loc) (ls : Array Slot), 3 - i < n9 → ((i = 0 ∧ n = 0 ∧ q = -1) ∨ (i = 1 ∧ n = 0 ∧ q = p0) ∨ (i = 2 ∧ n = 1)) → zW D y base S s H locs → lv_has ls 6 [(5, .int (nI i)), (3, .int n), (4, .int q), (0, .ref t0), (1, .int p0), (2, .int p1)] → W p l e (headSpec wsX3_pairCount ({ frames := 0, cells := 0, slots := 0, locals := 0 })).room s m args below meth c H locs 0 0 (MQ below (va_Qi (fun (r : Int32) (S1 : zS) => r = 1 ∧ S1 = S) (zPost D y base) (zA base)) args s 0 0 (zA base)) (F0 m 8 ls []) := by
    intro n9
    induction n9 with
    | zero =>
      intro i n q H locs ls hn9
      exact absurd hn9 (Nat.not_lt_zero _)
    | succ n9 ih_1 =>
      intro i n q H locs ls hn9 hi hw hl
      refine lv_iload hx hb dX3_pairCount_8 (lv_at hl 0 rfl) ?_
      refine lv_aload_n hx hb dX3_pairCount_10 rfl (lv_at hl 3 rfl) ?_
      refine g_Notes_count (a := t0) (v := (nI 2)) C hw hNt.1 in_X3 (by decide +kernel) hNo.1 dX3_pairCount_11 ?_
      refine lv_icmp_ge (tgt := 84) hx hb dX3_pairCount_14 (by decide) (fun c14 => ?_) (fun c14 => ?_)
      · refine lv_iload_n hx hb dX3_pairCount_84 rfl (lv_at hl 1 rfl) ?_
        exact zri C hw hr hlocks rfl ⟨(by have hi2 := z_ge (n := 2) c14 (by omega) (by omega); grind), rfl⟩ ⟨Nat.le_of_ble_eq_true rfl, Nat.le_of_ble_eq_true rfl⟩ dX3_pairCount_85
      · have hi2 := z_lt (n := 2) c14 (by omega) (by omega)
        refine lv_iload hx hb dX3_pairCount_17 (lv_at hl 0 rfl) ?_
        refine lv_sipush (v := 200) hx hb dX3_pairCount_19 (by decide) ?_
        refine lv_icmp_ge (tgt := 84) hx hb dX3_pairCount_22 (by decide) (fun c22 => (show False from (by have := z_ge (n := 200) c22 (by omega) (by omega); omega)).elim) (fun c22 => ?_)
        refine lv_aload_n hx hb dX3_pairCount_25 rfl (lv_at hl 3 rfl) ?_
        refine g_Notes_kinds (a := t0) (v := k1) C hw hNt.1 in_X3 (by decide +kernel) hNt.2.1 dX3_pairCount_26 ?_
        refine lv_iload hx hb dX3_pairCount_29 (lv_at hl 0 rfl) ?_
        refine zald_C (a := k1) C hw hNt.2.2.2.2.2.2.1 hNt.2.2.2.2.2.2.2.1 (vp_in_nI (by omega) (by decide)) dX3_pairCount_31 ?_
        refine lv_bipush (v := 83) hx hb dX3_pairCount_32 (by decide) ?_
        refine lv_icmp_eq (tgt := 78) hx hb dX3_pairCount_34 (by decide) (fun c34 => (show False from (by rw [nI_clamp (by omega), hk9 i hi2] at c34; exact absurd c34 (by decide))).elim) (fun c34 => ?_)
        refine lv_aload_n hx hb dX3_pairCount_37 rfl (lv_at hl 3 rfl) ?_
        refine g_Notes_kinds (a := t0) (v := k1) C hw hNt.1 in_X3 (by decide +kernel) hNt.2.1 dX3_pairCount_38 ?_
        refine lv_iload hx hb dX3_pairCount_41 (lv_at hl 0 rfl) ?_
        refine zald_C (a := k1) C hw hNt.2.2.2.2.2.2.1 hNt.2.2.2.2.2.2.2.1 (vp_in_nI (by omega) (by decide)) dX3_pairCount_43 ?_
        refine lv_bipush (v := 69) hx hb dX3_pairCount_44 (by decide) ?_
        refine lv_icmp_eq (tgt := 78) hx hb dX3_pairCount_46 (by decide) (fun c46 => (show False from (by rw [nI_clamp (by omega), hk9 i hi2] at c46; exact absurd c46 (by decide))).elim) (fun c46 => ?_)
        refine lv_iload hx hb dX3_pairCount_49 (lv_at hl 2 rfl) ?_
        refine lv_iload_n hx hb dX3_pairCount_51 rfl (lv_at hl 4 rfl) ?_
        refine lv_icmp_ne (tgt := 69) hx hb dX3_pairCount_52 (by decide) (fun c52 => ?_) (fun c52 => ?_)
        · refine lv_aload_n hx hb dX3_pairCount_69 rfl (lv_at hl 3 rfl) ?_
          refine g_Notes_values (a := t0) (v := k4) C hw hNt.1 in_X3 (by decide +kernel) hNt.2.2.2.2.1 dX3_pairCount_70 ?_
          refine lv_iload hx hb dX3_pairCount_73 (lv_at hl 0 rfl) ?_
          refine zald_I (a := k4) C hw hNt.2.2.2.2.2.2.2.2.2.2.2.2.1 hNt.2.2.2.2.2.2.2.2.2.2.2.2.2.1 (vp_in_nI (by omega) (by decide)) dX3_pairCount_75 ?_
          refine zrd (x := (zR S 22 k4 i)) (by rw [nI_clamp (by omega)]) ?_
          refine lv_istore (lv' := [(4, .int (zR S 22 k4 i)), (5, .int (nI i)), (3, .int n), (0, .ref t0), (1, .int p0), (2, .int p1)]) hx hb dX3_pairCount_76 hl (by decide) rfl (fun ls hl => ?_)
          refine lv_iinc (v := (nI (i + 1))) (lv' := [(5, .int (nI (i + 1))), (4, .int (zR S 22 k4 i)), (3, .int n), (0, .ref t0), (1, .int p0), (2, .int p1)]) hx hb dX3_pairCount_78 hl (k := 1) rfl (nI_1 _) (by decide) rfl (fun ls hl => ?_)
          refine lv_goto (tgt := 8) hx hb dX3_pairCount_81 (by decide) ?_
          exact ih_1 (i + 1) n (zR S 22 k4 i) _ _ _ (by omega) (by grind) hw (lv_sub hl [0, 2, 1, 3, 4, 5] rfl)
        · refine lv_aload_n hx hb dX3_pairCount_55 rfl (lv_at hl 3 rfl) ?_
          refine g_Notes_values (a := t0) (v := k4) C hw hNt.1 in_X3 (by decide +kernel) hNt.2.2.2.2.1 dX3_pairCount_56 ?_
          refine lv_iload hx hb dX3_pairCount_59 (lv_at hl 0 rfl) ?_
          refine zald_I (a := k4) C hw hNt.2.2.2.2.2.2.2.2.2.2.2.2.1 hNt.2.2.2.2.2.2.2.2.2.2.2.2.2.1 (vp_in_nI (by omega) (by decide)) dX3_pairCount_61 ?_
          refine zrd (x := (zR S 22 k4 i)) (by rw [nI_clamp (by omega)]) ?_
          refine lv_iload_n hx hb dX3_pairCount_62 rfl (lv_at hl 5 rfl) ?_
          refine lv_icmp_ne (tgt := 69) hx hb dX3_pairCount_63 (by decide) (fun c63 => ?_) (fun c63 => ?_)
          · refine lv_aload_n hx hb dX3_pairCount_69 rfl (lv_at hl 3 rfl) ?_
            refine g_Notes_values (a := t0) (v := k4) C hw hNt.1 in_X3 (by decide +kernel) hNt.2.2.2.2.1 dX3_pairCount_70 ?_
            refine lv_iload hx hb dX3_pairCount_73 (lv_at hl 0 rfl) ?_
            refine zald_I (a := k4) C hw hNt.2.2.2.2.2.2.2.2.2.2.2.2.1 hNt.2.2.2.2.2.2.2.2.2.2.2.2.2.1 (vp_in_nI (by omega) (by decide)) dX3_pairCount_75 ?_
            refine zrd (x := (zR S 22 k4 i)) (by rw [nI_clamp (by omega)]) ?_
            refine lv_istore (lv' := [(4, .int (zR S 22 k4 i)), (5, .int (nI i)), (3, .int n), (0, .ref t0), (1, .int p0), (2, .int p1)]) hx hb dX3_pairCount_76 hl (by decide) rfl (fun ls hl => ?_)
            refine lv_iinc (v := (nI (i + 1))) (lv' := [(5, .int (nI (i + 1))), (4, .int (zR S 22 k4 i)), (3, .int n), (0, .ref t0), (1, .int p0), (2, .int p1)]) hx hb dX3_pairCount_78 hl (k := 1) rfl (nI_1 _) (by decide) rfl (fun ls hl => ?_)
            refine lv_goto (tgt := 8) hx hb dX3_pairCount_81 (by decide) ?_
            exact ih_1 (i + 1) n (zR S 22 k4 i) _ _ _ (by omega) (by grind) hw (lv_sub hl [0, 2, 1, 3, 4, 5] rfl)
          · refine lv_iinc (v := (n + 1)) (lv' := [(3, .int (n + 1)), (5, .int (nI i)), (4, .int q), (0, .ref t0), (1, .int p0), (2, .int p1)]) hx hb dX3_pairCount_66 hl (k := 1) rfl rfl (by decide) rfl (fun ls hl => ?_)
            refine lv_aload_n hx hb dX3_pairCount_69 rfl (lv_at hl 3 rfl) ?_
            refine g_Notes_values (a := t0) (v := k4) C hw hNt.1 in_X3 (by decide +kernel) hNt.2.2.2.2.1 dX3_pairCount_70 ?_
            refine lv_iload hx hb dX3_pairCount_73 (lv_at hl 1 rfl) ?_
            refine zald_I (a := k4) C hw hNt.2.2.2.2.2.2.2.2.2.2.2.2.1 hNt.2.2.2.2.2.2.2.2.2.2.2.2.2.1 (vp_in_nI (by omega) (by decide)) dX3_pairCount_75 ?_
            refine zrd (x := (zR S 22 k4 i)) (by rw [nI_clamp (by omega)]) ?_
            refine lv_istore (lv' := [(4, .int (zR S 22 k4 i)), (3, .int (n + 1)), (5, .int (nI i)), (0, .ref t0), (1, .int p0), (2, .int p1)]) hx hb dX3_pairCount_76 hl (by decide) rfl (fun ls hl => ?_)
            refine lv_iinc (v := (nI (i + 1))) (lv' := [(5, .int (nI (i + 1))), (4, .int (zR S 22 k4 i)), (3, .int (n + 1)), (0, .ref t0), (1, .int p0), (2, .int p1)]) hx hb dX3_pairCount_78 hl (k := 2) rfl (nI_1 _) (by decide) rfl (fun ls hl => ?_)
            refine lv_goto (tgt := 8) hx hb dX3_pairCount_81 (by decide) ?_
            exact ih_1 (i + 1) (n + 1) (zR S 22 k4 i) _ _ _ (by omega) (by grind) hw (lv_sub hl [0, 2, 1, 3, 4, 5] rfl)
  exact lp_2 _ 0 0 (-1) _ _ _ (Nat.lt_succ_self _) (Or.inl ⟨rfl, rfl, rfl⟩) hw (lv_sub hl [0, 2, 1, 3, 4, 5] rfl)

set_option maxHeartbeats 4000000 in
set_option maxRecDepth 100000 in
/-- X3_areInOrder -/
theorem c_X3_areInOrder_g (l : Launch) (D : va_G) (y : Nat → ClassId) (base : Nat) (S : zS) (t0 : Nat) (k1 : Nat) (k2 : Nat) (k3 : Nat) (k4 : Nat) (k5 : Nat) (L : List zNt) (hNt : zNts S t0 k1 k2 k3 k4 k5) (hNo : zNo S t0 k1 k2 k3 k4 k5 L) (hbe : ∀ j, j < L.length → zR S 22 k2 j ≤ zR S 22 k3 j) (hbb : ∀ j, j + 1 < L.length → zR S 22 k2 j ≤ zR S 22 k2 (j + 1)) : zMi l yX3_areInOrder wsX3_areInOrder ({ frames := 0, cells := 0, slots := 0, locals := 0 }) [.ref t0] D y base S (fun (r : Int32) (S1 : zS) => r = 1 ∧ S1 = S) 0 0 := by
  refine zMet_of (cc := cX3_areInOrder) (maxL := 2) (ret := (some .boolean)) (own := RX3) (by decide +kernel) rfl rfl (Nat.le_of_ble_eq_true rfl) ?_
  intro p e s m args below meth c ls C hr hlocks hnm hw hl
  have hx := C.1
  have hb := C.2.1
  have hown := C.2.2.2.1
  have hts := C.2.2.2.2
  have hl : lv_has ls 2 [(0, .ref t0)] := hl
  have in_X3 : ∀ w ∈ wsX30, w ∈ wsX3_areInOrder := by decide +kernel
  have hL2 := hNo.2.1
  refine lv_iconst (v := 0) hx hb dX3_areInOrder_0 (by decide) ?_
  refine lv_istore_n (lv' := [(1, .int 0), (0, .ref t0)]) hx hb dX3_areInOrder_1 rfl hl (by decide) rfl (fun ls hl => ?_)
  have lp_2 : ∀ (n9 : Nat) (i : Nat) (H : Heap) (locs : List Loc) (ls : Array Slot), 201 - i < n9 → (i ≤ L.length) → zW D y base S s H locs → lv_has ls 2 [(1, .int (nI i)), (0, .ref t0)] → W p l e (headSpec wsX3_areInOrder ({ frames := 0, cells := 0, slots := 0, locals := 0 })).room s m args below meth c H locs 0 0 (MQ below (va_Qi (fun (r : Int32) (S1 : zS) => r = 1 ∧ S1 = S) (zPost D y base) (zA base)) args s 0 0 (zA base)) (F0 m 2 ls []) := by
    intro n9
    induction n9 with
    | zero =>
      intro i H locs ls hn9
      exact absurd hn9 (Nat.not_lt_zero _)
    | succ n9 ih_1 =>
      intro i H locs ls hn9 hi hw hl
      refine lv_iload_n hx hb dX3_areInOrder_2 rfl (lv_at hl 0 rfl) ?_
      refine lv_aload_n hx hb dX3_areInOrder_3 rfl (lv_at hl 1 rfl) ?_
      refine g_Notes_count (a := t0) (v := (nI L.length)) C hw hNt.1 in_X3 (by decide +kernel) hNo.1 dX3_areInOrder_4 ?_
      refine lv_icmp_ge (tgt := 61) hx hb dX3_areInOrder_7 (by decide) (fun c7 => ?_) (fun c7 => ?_)
      · refine lv_iconst (v := 1) hx hb dX3_areInOrder_61 (by decide) ?_
        exact zri C hw hr hlocks (by decide) (by first | exact ⟨rfl, rfl⟩ | exact rfl | (refine ⟨?_, rfl⟩; grind) | grind) ⟨Nat.le_of_ble_eq_true rfl, Nat.le_of_ble_eq_true rfl⟩ dX3_areInOrder_62
      · refine lv_iload_n hx hb dX3_areInOrder_10 rfl (lv_at hl 0 rfl) ?_
        refine lv_sipush (v := 200) hx hb dX3_areInOrder_11 (by decide) ?_
        refine lv_icmp_ge (tgt := 61) hx hb dX3_areInOrder_14 (by decide) (fun c14 => (show False from (by have := z_lt (n := L.length) c7 (by omega) (by omega); have := z_ge (n := 200) c14 (by omega) (by omega); omega)).elim) (fun c14 => ?_)
        have hi2 := z_lt (n := L.length) c7 (by omega) (by omega)
        refine lv_aload_n hx hb dX3_areInOrder_17 rfl (lv_at hl 1 rfl) ?_
        refine g_Notes_begins (a := t0) (v := k2) C hw hNt.1 in_X3 (by decide +kernel) hNt.2.2.1 dX3_areInOrder_18 ?_
        refine lv_iload_n hx hb dX3_areInOrder_21 rfl (lv_at hl 0 rfl) ?_
        refine zald_I (a := k2) C hw hNt.2.2.2.2.2.2.2.2.1 hNt.2.2.2.2.2.2.2.2.2.1 (vp_in_nI (by omega) (by decide)) dX3_areInOrder_22 ?_
        refine lv_aload_n hx hb dX3_areInOrder_23 rfl (lv_at hl 1 rfl) ?_
        refine g_Notes_ends (a := t0) (v := k3) C hw hNt.1 in_X3 (by decide +kernel) hNt.2.2.2.1 dX3_areInOrder_24 ?_
        refine lv_iload_n hx hb dX3_areInOrder_27 rfl (lv_at hl 0 rfl) ?_
        refine zald_I (a := k3) C hw hNt.2.2.2.2.2.2.2.2.2.2.1 hNt.2.2.2.2.2.2.2.2.2.2.2.1 (vp_in_nI (by omega) (by decide)) dX3_areInOrder_28 ?_
        refine lv_icmp_gt (tgt := 53) hx hb dX3_areInOrder_29 (by decide) (fun c29 => (show False from (by rw [nI_clamp (by omega)] at c29; exact (Int32.not_lt.mpr (hbe i hi2)) c29)).elim) (fun c29 => ?_)
        refine lv_iload_n hx hb dX3_areInOrder_32 rfl (lv_at hl 0 rfl) ?_
        refine lv_if_le (tgt := 55) hx hb dX3_areInOrder_33 (by decide) (fun c33 => ?_) (fun c33 => ?_)
        · refine lv_iinc (v := (nI (i + 1))) (lv' := [(1, .int (nI (i + 1))), (0, .ref t0)]) hx hb dX3_areInOrder_55 hl (k := 0) rfl (nI_1 _) (by decide) rfl (fun ls hl => ?_)
          refine lv_goto (tgt := 2) hx hb dX3_areInOrder_58 (by decide) ?_
          exact ih_1 (i + 1) _ _ _ (by omega) (by omega) hw (lv_sub hl [0, 1] rfl)
        · have hpos : 0 < i := by rcases Nat.eq_zero_or_pos i with q | q; subst q; exact absurd (by decide) c33; exact q
          refine lv_aload_n hx hb dX3_areInOrder_36 rfl (lv_at hl 1 rfl) ?_
          refine g_Notes_begins (a := t0) (v := k2) C hw hNt.1 in_X3 (by decide +kernel) hNt.2.2.1 dX3_areInOrder_37 ?_
          refine lv_iload_n hx hb dX3_areInOrder_40 rfl (lv_at hl 0 rfl) ?_
          refine zald_I (a := k2) C hw hNt.2.2.2.2.2.2.2.2.1 hNt.2.2.2.2.2.2.2.2.2.1 (vp_in_nI (by omega) (by decide)) dX3_areInOrder_41 ?_
          refine lv_aload_n hx hb dX3_areInOrder_42 rfl (lv_at hl 1 rfl) ?_
          refine g_Notes_begins (a := t0) (v := k2) C hw hNt.1 in_X3 (by decide +kernel) hNt.2.2.1 dX3_areInOrder_43 ?_
          refine lv_iload_n hx hb dX3_areInOrder_46 rfl (lv_at hl 0 rfl) ?_
          refine lv_iconst (v := 1) hx hb dX3_areInOrder_47 (by decide) ?_
          refine lv_isub hx hb dX3_areInOrder_48 ?_
          refine zrd (x := (nI (i - 1))) (pk_sub (b := 1) (by omega)) ?_
          refine zald_I (a := k2) C hw hNt.2.2.2.2.2.2.2.2.1 hNt.2.2.2.2.2.2.2.2.2.1 (vp_in_nI (by omega) (by decide)) dX3_areInOrder_49 ?_
          refine lv_icmp_ge (tgt := 55) hx hb dX3_areInOrder_50 (by decide) (fun c50 => ?_) (fun c50 => (show False from (by apply c50; rw [nI_clamp (by omega), nI_clamp (by omega)]; have := hbb (i - 1) (by omega); rw [show i - 1 + 1 = i by omega] at this; exact this)).elim)
          refine lv_iinc (v := (nI (i + 1))) (lv' := [(1, .int (nI (i + 1))), (0, .ref t0)]) hx hb dX3_areInOrder_55 hl (k := 0) rfl (nI_1 _) (by decide) rfl (fun ls hl => ?_)
          refine lv_goto (tgt := 2) hx hb dX3_areInOrder_58 (by decide) ?_
          exact ih_1 (i + 1) _ _ _ (by omega) (by omega) hw (lv_sub hl [0, 1] rfl)
  exact lp_2 _ 0 _ _ _ (Nat.lt_succ_self _) (Nat.zero_le _) hw (lv_sub hl [0, 1] rfl)

set_option maxHeartbeats 4000000 in
set_option maxRecDepth 100000 in
/-- X1_read -/
theorem c_X1_read_g (l : Launch) (D : va_G) (y : Nat → ClassId) (base : Nat) (S : zS) (d0 : Nat) (rg : Nat) (ad : Nat) (tg : Nat) (hDv : zDev S d0 rg) (had : ad < 128) (htg : tg < 16) : zMi l yX1_read wsX1_read ({ frames := 0, cells := 0, slots := 0, locals := 0 }) [.ref d0, .int (nI ad), .int (nI tg)] D y base S (fun (r : Int32) (S1 : zS) => r = zR S 22 rg (ad * 16 + tg) ∧ S1 = S) 0 0 := by
  refine zMet_of (cc := cX1_read) (maxL := 4) (ret := (some .int)) (own := RX1) (by decide +kernel) rfl rfl (Nat.le_of_ble_eq_true rfl) ?_
  intro p e s m args below meth c ls C hr hlocks hnm hw hl
  have hx := C.1
  have hb := C.2.1
  have hown := C.2.2.2.1
  have hts := C.2.2.2.2
  have hl : lv_has ls 4 [(0, .ref d0), (1, .int (nI ad)), (2, .int (nI tg))] := hl
  have in_X1 : ∀ w ∈ wsX10, w ∈ wsX1_read := by decide +kernel
  refine lv_iload_n hx hb dX1_read_0 rfl (lv_at hl 1 rfl) ?_
  refine lv_bipush (v := 16) hx hb dX1_read_1 (by decide) ?_
  refine lv_imul hx hb dX1_read_3 ?_
  refine lv_iload_n hx hb dX1_read_4 rfl (lv_at hl 2 rfl) ?_
  refine lv_iadd hx hb dX1_read_5 ?_
  refine zrd (x := (nI (ad * 16 + tg))) (by rw [show (16 : Int32) = nI 16 from rfl, pk_mul, nI_add]) ?_
  refine lv_istore_n (lv' := [(3, .int (nI (ad * 16 + tg))), (0, .ref d0), (1, .int (nI ad)), (2, .int (nI tg))]) hx hb dX1_read_6 rfl hl (by decide) rfl (fun ls hl => ?_)
  refine lv_iload_n hx hb dX1_read_7 rfl (lv_at hl 0 rfl) ?_
  refine lv_if_lt (tgt := 29) hx hb dX1_read_8 (by decide) (fun c8 => (show False from nI_pos (by omega) c8).elim) (fun c8 => ?_)
  refine lv_iload_n hx hb dX1_read_11 rfl (lv_at hl 0 rfl) ?_
  refine lv_aload_n hx hb dX1_read_12 rfl (lv_at hl 1 rfl) ?_
  refine g_Dev_registers (a := d0) (v := rg) C hw hDv.1 in_X1 (by decide +kernel) hDv.2.1 dX1_read_13 ?_
  refine zalen (a := rg) (v := 2048) C hw hDv.2.2.1 (by decide) (t0 := 1) rfl (zlen hDv.2.2.2 rfl) dX1_read_16 ?_
  refine lv_icmp_ge (tgt := 29) hx hb dX1_read_17 (by decide) (fun c17 => (show False from (by have := z_ge (n := 2048) c17 (by omega) (by omega); omega)).elim) (fun c17 => ?_)
  refine lv_aload_n hx hb dX1_read_20 rfl (lv_at hl 1 rfl) ?_
  refine g_Dev_registers (a := d0) (v := rg) C hw hDv.1 in_X1 (by decide +kernel) hDv.2.1 dX1_read_21 ?_
  refine lv_iload_n hx hb dX1_read_24 rfl (lv_at hl 0 rfl) ?_
  refine zald_I (a := rg) C hw hDv.2.2.1 hDv.2.2.2 (vp_in_nI (by omega) (by decide)) dX1_read_25 ?_
  refine lv_goto (tgt := 30) hx hb dX1_read_26 (by decide) ?_
  exact zri C hw hr hlocks rfl ⟨(by rw [nI_clamp (by omega)]), rfl⟩ ⟨Nat.le_of_ble_eq_true rfl, Nat.le_of_ble_eq_true rfl⟩ dX1_read_30

set_option maxHeartbeats 4000000 in
set_option maxRecDepth 100000 in
/-- X1_write -/
theorem c_X1_write (l : Launch) (D : va_G) (y : Nat → ClassId) (base : Nat) (S : zS) (d0 : Nat) (rg : Nat) (ad : Nat) (tg : Nat) (p2 : Int32) (hDv : zDev S d0 rg) (had : ad < 128) (htg : tg < 16) : zMv l yX1_write wsX1_write ({ frames := 0, cells := 0, slots := 0, locals := 0 }) [.ref d0, .int (nI ad), .int (nI tg), .int p2] D y base S (fun (S1 : zS) => S1 = zsR S 22 rg (upd (zR S 22 rg) (ad * 16 + tg) p2)) 0 0 := by
  refine zMet_of (cc := cX1_write) (maxL := 5) (ret := none) (own := RX1) (by decide +kernel) rfl rfl (Nat.le_of_ble_eq_true rfl) ?_
  intro p e s m args below meth c ls C hr hlocks hnm hw hl
  have hx := C.1
  have hb := C.2.1
  have hown := C.2.2.2.1
  have hts := C.2.2.2.2
  have hl : lv_has ls 5 [(0, .ref d0), (1, .int (nI ad)), (2, .int (nI tg)), (3, .int p2)] := hl
  have in_X1 : ∀ w ∈ wsX10, w ∈ wsX1_write := by decide +kernel
  refine lv_iload_n hx hb dX1_write_0 rfl (lv_at hl 1 rfl) ?_
  refine lv_bipush (v := 16) hx hb dX1_write_1 (by decide) ?_
  refine lv_imul hx hb dX1_write_3 ?_
  refine lv_iload_n hx hb dX1_write_4 rfl (lv_at hl 2 rfl) ?_
  refine lv_iadd hx hb dX1_write_5 ?_
  refine zrd (x := (nI (ad * 16 + tg))) (by rw [show (16 : Int32) = nI 16 from rfl, pk_mul, nI_add]) ?_
  refine lv_istore (lv' := [(4, .int (nI (ad * 16 + tg))), (0, .ref d0), (1, .int (nI ad)), (2, .int (nI tg)), (3, .int p2)]) hx hb dX1_write_6 hl (by decide) rfl (fun ls hl => ?_)
  refine lv_iload hx hb dX1_write_8 (lv_at hl 0 rfl) ?_
  refine lv_if_lt (tgt := 31) hx hb dX1_write_10 (by decide) (fun c10 => (show False from nI_pos (by omega) c10).elim) (fun c10 => ?_)
  refine lv_iload hx hb dX1_write_13 (lv_at hl 0 rfl) ?_
  refine lv_aload_n hx hb dX1_write_15 rfl (lv_at hl 1 rfl) ?_
  refine g_Dev_registers (a := d0) (v := rg) C hw hDv.1 in_X1 (by decide +kernel) hDv.2.1 dX1_write_16 ?_
  refine zalen (a := rg) (v := 2048) C hw hDv.2.2.1 (by decide) (t0 := 1) rfl (zlen hDv.2.2.2 rfl) dX1_write_19 ?_
  refine lv_icmp_ge (tgt := 31) hx hb dX1_write_20 (by decide) (fun c20 => (show False from (by have := z_ge (n := 2048) c20 (by omega) (by omega); omega)).elim) (fun c20 => ?_)
  refine lv_aload_n hx hb dX1_write_23 rfl (lv_at hl 1 rfl) ?_
  refine g_Dev_registers (a := d0) (v := rg) C hw hDv.1 in_X1 (by decide +kernel) hDv.2.1 dX1_write_24 ?_
  refine lv_iload hx hb dX1_write_27 (lv_at hl 0 rfl) ?_
  refine lv_iload_n hx hb dX1_write_29 rfl (lv_at hl 4 rfl) ?_
  refine zast_I (a := rg) C hw hDv.2.2.1 hDv.2.2.2 (vp_in_nI (by omega) (by decide)) dX1_write_30 (fun H locs hw => ?_)
  exact zrv C hw hr hlocks (by rw [nI_clamp (by omega)]) ⟨Nat.le_of_ble_eq_true rfl, Nat.le_of_ble_eq_true rfl⟩ dX1_write_31

set_option maxHeartbeats 4000000 in
set_option maxRecDepth 100000 in
/-- X4_addStep -/
theorem c_X4_addStep_t (l : Launch) (D : va_G) (y : Nat → ClassId) (base : Nat) (S : zS) (t0 : Nat) (k1 : Nat) (k2 : Nat) (k3 : Nat) (p1 : Int32) (p2 : Int32) (n : Nat) (hT : zTrg S t0 k1 k2 k3) (hSt : zSt S t0 k1 k3 p2 n) (hn6 : n < 6) (hk23 : k2 ≠ k3) : zMv l yX4_addStep wsX4_addStep ({ frames := 0, cells := 0, slots := 0, locals := 0 }) [.ref t0, .int 116, .int p1, .int p2] D y base S (fun (S1 : zS) => zSt S1 t0 k1 k3 p2 (n + 1) ∧ zFr S S1 (zTI t0) (zTR k1 k2 k3)) 0 0 := by
  refine zMet_of (cc := cX4_addStep) (maxL := 4) (ret := none) (own := RX4) (by decide +kernel) rfl rfl (Nat.le_of_ble_eq_true rfl) ?_
  intro p e s m args below meth c ls C hr hlocks hnm hw hl
  have hx := C.1
  have hb := C.2.1
  have hown := C.2.2.2.1
  have hts := C.2.2.2.2
  have hl : lv_has ls 4 [(0, .ref t0), (1, .int 116), (2, .int p1), (3, .int p2)] := hl
  have in_X4 : ∀ w ∈ wsX40, w ∈ wsX4_addStep := by decide +kernel
  refine lv_aload_n hx hb dX4_addStep_0 rfl (lv_at hl 0 rfl) ?_
  refine g_Trig_count (a := t0) (v := (nI n)) C hw hT.1 in_X4 (by decide +kernel) hSt.1 dX4_addStep_1 ?_
  refine lv_if_lt (tgt := 16) hx hb dX4_addStep_4 (by decide) (fun c4 => (show False from nI_pos (by omega) c4).elim) (fun c4 => ?_)
  refine lv_aload_n hx hb dX4_addStep_7 rfl (lv_at hl 0 rfl) ?_
  refine g_Trig_count (a := t0) (v := (nI n)) C hw hT.1 in_X4 (by decide +kernel) hSt.1 dX4_addStep_8 ?_
  refine lv_bipush (v := 6) hx hb dX4_addStep_11 (by decide) ?_
  refine lv_icmp_lt (tgt := 17) hx hb dX4_addStep_13 (by decide) (fun c13 => ?_) (fun c13 => (show False from c13 (nI_lt (b := 6) (by omega) (by decide))).elim)
  refine lv_aload_n hx hb dX4_addStep_17 rfl (lv_at hl 0 rfl) ?_
  refine g_Trig_kinds (a := t0) (v := k1) C hw hT.1 in_X4 (by decide +kernel) hT.2.1 dX4_addStep_18 ?_
  refine lv_aload_n hx hb dX4_addStep_21 rfl (lv_at hl 0 rfl) ?_
  refine g_Trig_count (a := t0) (v := (nI n)) C hw hT.1 in_X4 (by decide +kernel) hSt.1 dX4_addStep_22 ?_
  refine lv_iload_n hx hb dX4_addStep_25 rfl (lv_at hl 1 rfl) ?_
  refine zast_C (a := k1) C hw hT.2.2.2.2.1 hT.2.2.2.2.2.1 (vp_in_nI (by omega) (by decide)) dX4_addStep_26 (fun H locs hw => ?_)
  refine lv_aload_n hx hb dX4_addStep_27 rfl (lv_at hl 0 rfl) ?_
  refine g_Trig_lines (a := t0) (v := k2) C hw hT.1 in_X4 (by decide +kernel) hT.2.2.1 dX4_addStep_28 ?_
  refine lv_aload_n hx hb dX4_addStep_31 rfl (lv_at hl 0 rfl) ?_
  refine g_Trig_count (a := t0) (v := (nI n)) C hw hT.1 in_X4 (by decide +kernel) hSt.1 dX4_addStep_32 ?_
  refine lv_iload_n hx hb dX4_addStep_35 rfl (lv_at hl 2 rfl) ?_
  refine zast_I (a := k2) C hw hT.2.2.2.2.2.2.1 hT.2.2.2.2.2.2.2.1 (vp_in_nI (by omega) (by decide)) dX4_addStep_36 (fun H locs hw => ?_)
  refine lv_aload_n hx hb dX4_addStep_37 rfl (lv_at hl 0 rfl) ?_
  refine g_Trig_numbers (a := t0) (v := k3) C hw hT.1 in_X4 (by decide +kernel) hT.2.2.2.1 dX4_addStep_38 ?_
  refine lv_aload_n hx hb dX4_addStep_41 rfl (lv_at hl 0 rfl) ?_
  refine g_Trig_count (a := t0) (v := (nI n)) C hw hT.1 in_X4 (by decide +kernel) hSt.1 dX4_addStep_42 ?_
  refine lv_iload_n hx hb dX4_addStep_45 rfl (lv_at hl 3 rfl) ?_
  refine zast_I (a := k3) C hw hT.2.2.2.2.2.2.2.2.1 hT.2.2.2.2.2.2.2.2.2 (vp_in_nI (by omega) (by decide)) dX4_addStep_46 (fun H locs hw => ?_)
  refine lv_aload_n hx hb dX4_addStep_47 rfl (lv_at hl 0 rfl) ?_
  refine lv_dup hx hb dX4_addStep_48 rfl ?_
  refine g_Trig_count (a := t0) (v := (nI n)) C hw hT.1 in_X4 (by decide +kernel) hSt.1 dX4_addStep_49 ?_
  refine lv_iconst (v := 1) hx hb dX4_addStep_52 (by decide) ?_
  refine lv_iadd hx hb dX4_addStep_53 ?_
  refine lv_topi (fun x54 ex54 => ?_)
  refine p_Trig_count (a := t0) (v := x54) C hw hT.1 in_X4 (by decide +kernel) dX4_addStep_54 (fun H locs hw => ?_)
  exact zrv C hw hr hlocks (zSt.add hSt hk23 (nI_clamp (by omega)) (by decide) (ex54.trans (nI_1 _)) rfl rfl rfl rfl) ⟨Nat.le_of_ble_eq_true rfl, Nat.le_of_ble_eq_true rfl⟩ dX4_addStep_57

set_option maxHeartbeats 4000000 in
set_option maxRecDepth 100000 in
/-- X4_isHit -/
theorem c_X4_isHit_t (l : Launch) (D : va_G) (y : Nat → ClassId) (base : Nat) (S : zS) (c0 : Nat) (p0 : Int32) (p2 : Int32) (p3 : Int32)  : zMi l yX4_isHit wsX4_isHit ({ frames := 0, cells := 0, slots := 0, locals := 0 }) [.ref c0, .int p0, .int 116, .int p2, .int p3] D y base S (fun (r : Int32) (S1 : zS) => r = 1 ∧ S1 = S) 0 0 := by
  refine zMet_of (cc := cX4_isHit) (maxL := 5) (ret := (some .boolean)) (own := RX4) (by decide +kernel) rfl rfl (Nat.le_of_ble_eq_true rfl) ?_
  intro p e s m args below meth c ls C hr hlocks hnm hw hl
  have hx := C.1
  have hb := C.2.1
  have hown := C.2.2.2.1
  have hts := C.2.2.2.2
  have hl : lv_has ls 5 [(0, .ref c0), (1, .int p0), (2, .int 116), (3, .int p2), (4, .int p3)] := hl
  refine lv_iload_n hx hb dX4_isHit_0 rfl (lv_at hl 2 rfl) ?_
  refine lv_bipush (v := 114) hx hb dX4_isHit_1 (by decide) ?_
  refine lv_icmp_ne (tgt := 13) hx hb dX4_isHit_3 (by decide) (fun _ => ?_) (fun c3 => absurd c3 (by decide))
  refine lv_iload_n hx hb dX4_isHit_13 rfl (lv_at hl 2 rfl) ?_
  refine lv_bipush (v := 102) hx hb dX4_isHit_14 (by decide) ?_
  refine lv_icmp_ne (tgt := 26) hx hb dX4_isHit_16 (by decide) (fun _ => ?_) (fun c16 => absurd c16 (by decide))
  refine lv_iload_n hx hb dX4_isHit_26 rfl (lv_at hl 2 rfl) ?_
  refine lv_bipush (v := 104) hx hb dX4_isHit_27 (by decide) ?_
  refine lv_icmp_ne (tgt := 39) hx hb dX4_isHit_29 (by decide) (fun _ => ?_) (fun c29 => absurd c29 (by decide))
  refine lv_iload_n hx hb dX4_isHit_39 rfl (lv_at hl 2 rfl) ?_
  refine lv_bipush (v := 108) hx hb dX4_isHit_40 (by decide) ?_
  refine lv_icmp_ne (tgt := 60) hx hb dX4_isHit_42 (by decide) (fun _ => ?_) (fun c42 => absurd c42 (by decide))
  refine lv_iload_n hx hb dX4_isHit_60 rfl (lv_at hl 2 rfl) ?_
  refine lv_bipush (v := 116) hx hb dX4_isHit_61 (by decide) ?_
  refine lv_icmp_eq (tgt := 76) hx hb dX4_isHit_63 (by decide) (fun _ => ?_) (fun c63 => absurd c63 (by decide))
  refine lv_iconst (v := 1) hx hb dX4_isHit_76 (by decide) ?_
  refine lv_goto (tgt := 81) hx hb dX4_isHit_77 (by decide) ?_
  exact zri C hw hr hlocks (by decide) (by first | exact ⟨rfl, rfl⟩ | exact rfl | (refine ⟨?_, rfl⟩; grind) | grind) ⟨Nat.le_of_ble_eq_true rfl, Nat.le_of_ble_eq_true rfl⟩ dX4_isHit_81

set_option maxHeartbeats 4000000 in
set_option maxRecDepth 100000 in
/-- X4_stepMetIn -/
theorem c_X4_stepMetIn_t (l : Launch) (D : va_G) (y : Nat → ClassId) (base : Nat) (S : zS) (c0 : Nat) (lv : Nat) (fr : Nat) (p2 : Int32) (hC : zCap S c0 lv) (hm : zI S 64 c0 = nI 400) (hfr : fr ≤ 400) : zMi l yX4_stepMetIn wsX4_stepMetIn ({ frames := 1, cells := 0, slots := 0, locals := 24 }) [.ref c0, .int (nI fr), .int 116, .int p2, .int 400] D y base S (fun (r : Int32) (S1 : zS) => r = (if fr = 0 then 399 else -1) ∧ S1 = S) 0 0 := by
  refine zMet_of (cc := cX4_stepMetIn) (maxL := 9) (ret := (some .int)) (own := RX4) (by decide +kernel) rfl rfl (Nat.le_of_ble_eq_true rfl) ?_
  intro p e s m args below meth c ls C hr hlocks hnm hw hl
  have hx := C.1
  have hb := C.2.1
  have hown := C.2.2.2.1
  have hts := C.2.2.2.2
  have hl : lv_has ls 9 [(0, .ref c0), (1, .int (nI fr)), (2, .int 116), (3, .int p2), (4, .int 400)] := hl
  have in_X0 : ∀ w ∈ wsX00, w ∈ wsX4_stepMetIn := by decide +kernel
  refine lv_iload_n hx hb dX4_stepMetIn_0 rfl (lv_at hl 2 rfl) ?_
  refine lv_bipush (v := 104) hx hb dX4_stepMetIn_1 (by decide) ?_
  refine lv_icmp_eq (tgt := 12) hx hb dX4_stepMetIn_3 (by decide) (fun c3 => absurd c3 (by decide)) (fun _ => ?_)
  refine lv_iload_n hx hb dX4_stepMetIn_6 rfl (lv_at hl 2 rfl) ?_
  refine lv_bipush (v := 108) hx hb dX4_stepMetIn_7 (by decide) ?_
  refine lv_icmp_ne (tgt := 16) hx hb dX4_stepMetIn_9 (by decide) (fun _ => ?_) (fun c9 => absurd c9 (by decide))
  refine lv_iconst (v := 0) hx hb dX4_stepMetIn_16 (by decide) ?_
  refine lv_istore (lv' := [(5, .int 0), (0, .ref c0), (1, .int (nI fr)), (2, .int 116), (3, .int p2), (4, .int 400)]) hx hb dX4_stepMetIn_17 hl (by decide) rfl (fun ls hl => ?_)
  refine lv_iload_n hx hb dX4_stepMetIn_19 rfl (lv_at hl 3 rfl) ?_
  refine lv_bipush (v := 112) hx hb dX4_stepMetIn_20 (by decide) ?_
  refine lv_icmp_ne (tgt := 29) hx hb dX4_stepMetIn_22 (by decide) (fun _ => ?_) (fun c22 => absurd c22 (by decide))
  refine lv_iload hx hb dX4_stepMetIn_29 (lv_at hl 5 rfl) ?_
  refine lv_istore (lv' := [(6, .int 400), (5, .int 0), (0, .ref c0), (1, .int (nI fr)), (2, .int 116), (3, .int p2), (4, .int 400)]) hx hb dX4_stepMetIn_31 hl (by decide) rfl (fun ls hl => ?_)
  refine lv_iconst (v := 0) hx hb dX4_stepMetIn_33 (by decide) ?_
  refine lv_istore (lv' := [(7, .int 0), (6, .int 400), (5, .int 0), (0, .ref c0), (1, .int (nI fr)), (2, .int 116), (3, .int p2), (4, .int 400)]) hx hb dX4_stepMetIn_34 hl (by decide) rfl (fun ls hl => ?_)
  refine lv_iload_n hx hb dX4_stepMetIn_36 rfl (lv_at hl 4 rfl) ?_
  refine lv_istore (lv' := [(8, .int (nI fr)), (7, .int 0), (6, .int 400), (5, .int 0), (0, .ref c0), (1, .int (nI fr)), (2, .int 116), (3, .int p2), (4, .int 400)]) hx hb dX4_stepMetIn_37 hl (by decide) rfl (fun ls hl => ?_)
  have lp_2 : ∀ (n9 : Nat) (i : Nat) (k : Nat) (H : Heap) (locs : List Loc) (ls : Array Slot), 401 - i < n9 → (i = fr + k ∧ i ≤ 400 ∧ k < 400) → zW D y base S s H locs → lv_has ls 9 [(8, .int (nI i)), (7, .int (nI k)), (5, .int 0), (6, .int 400), (0, .ref c0), (1, .int (nI fr)), (2, .int 116), (3, .int p2), (4, .int 400)] → W p l e (headSpec wsX4_stepMetIn ({ frames := 1, cells := 0, slots := 0, locals := 24 })).room s m args below meth c H locs 0 0 (MQ below (va_Qi (fun (r : Int32) (S1 : zS) => r = (if fr = 0 then 399 else -1) ∧ S1 = S) (zPost D y base) (zA base)) args s 0 0 (zA base)) (F0 m 39 ls []) := by
    intro n9
    induction n9 with
    | zero =>
      intro i k H locs ls hn9
      exact absurd hn9 (Nat.not_lt_zero _)
    | succ n9 ih_1 =>
      intro i k H locs ls hn9 hi hw hl
      refine lv_iload hx hb dX4_stepMetIn_39 (lv_at hl 0 rfl) ?_
      refine lv_aload_n hx hb dX4_stepMetIn_41 rfl (lv_at hl 4 rfl) ?_
      refine g_Cap_count (a := c0) (v := (nI 400)) C hw hC.1 in_X0 (by decide +kernel) hm dX4_stepMetIn_42 ?_
      refine lv_icmp_ge (tgt := 91) hx hb dX4_stepMetIn_45 (by decide) (fun c45 => ?_) (fun c45 => ?_)
      · refine lv_iconst (v := (-1)) hx hb dX4_stepMetIn_91 (by decide) ?_
        exact zri C hw hr hlocks rfl ⟨(by have h9 := z_ge (n := 400) c45 (by omega) (by omega); rw [if_neg (by omega)]), rfl⟩ ⟨Nat.le_of_ble_eq_true rfl, Nat.le_of_ble_eq_true rfl⟩ dX4_stepMetIn_92
      · refine lv_aload_n hx hb dX4_stepMetIn_48 rfl (lv_at hl 4 rfl) ?_
        refine lv_iload hx hb dX4_stepMetIn_49 (lv_at hl 0 rfl) ?_
        refine lv_iload_n hx hb dX4_stepMetIn_51 rfl (lv_at hl 6 rfl) ?_
        refine lv_iload_n hx hb dX4_stepMetIn_52 rfl (lv_at hl 7 rfl) ?_
        refine lv_iload hx hb dX4_stepMetIn_53 (lv_at hl 8 rfl) ?_
        refine zcS_i (As := [.ref c0, .int (nI i), .int 116, .int p2, .int 400]) (rest := []) (n9 := 5) C hw (c_X4_isHit_t l D y base S c0 (nI i) p2 400 ) gX4_stepMetIn_X4_isHit rfl (by decide +kernel) ⟨⟨rfl, rfl⟩, Nat.le_of_ble_eq_true rfl, Nat.le_of_ble_eq_true rfl⟩ rfl hl.1 rfl (Nat.le_of_ble_eq_true rfl) ⟨Nat.le_of_ble_eq_true rfl, Nat.le_of_ble_eq_true rfl⟩ dX4_stepMetIn_55 (fun r55 S55 H locs hp55 hw => ?_)
        obtain ⟨rfl, hS9⟩ := hp55
        have hS9 := hS9.symm
        subst hS9
        refine lv_if_eq (tgt := 67) hx hb dX4_stepMetIn_58 (by decide) (fun c58 => absurd c58 (by decide)) (fun _ => ?_)
        refine lv_iinc (v := (nI (k + 1))) (lv' := [(7, .int (nI (k + 1))), (8, .int (nI i)), (5, .int 0), (6, .int 400), (0, .ref c0), (1, .int (nI fr)), (2, .int 116), (3, .int p2), (4, .int 400)]) hx hb dX4_stepMetIn_61 hl (k := 1) rfl (nI_1 _) (by decide) rfl (fun ls hl => ?_)
        refine lv_goto (tgt := 75) hx hb dX4_stepMetIn_64 (by decide) ?_
        refine lv_iload hx hb dX4_stepMetIn_75 (lv_at hl 0 rfl) ?_
        refine lv_iload hx hb dX4_stepMetIn_77 (lv_at hl 3 rfl) ?_
        refine lv_icmp_lt (tgt := 85) hx hb dX4_stepMetIn_79 (by decide) (fun c79 => ?_) (fun c79 => ?_)
        · refine lv_iinc (v := (nI (i + 1))) (lv' := [(8, .int (nI (i + 1))), (7, .int (nI (k + 1))), (5, .int 0), (6, .int 400), (0, .ref c0), (1, .int (nI fr)), (2, .int 116), (3, .int p2), (4, .int 400)]) hx hb dX4_stepMetIn_85 hl (k := 1) rfl (nI_1 _) (by decide) rfl (fun ls hl => ?_)
          refine lv_goto (tgt := 39) hx hb dX4_stepMetIn_88 (by decide) ?_
          exact ih_1 (i + 1) (k + 1) _ _ _ (by have := z_lt (n := 400) c45 (by omega) (by omega); omega) (by have := z_lt (n := 400) c45 (by omega) (by omega); have := c79; rw [show (400 : Int32) = nI 400 from rfl, nI_ltI (by omega) (by omega)] at this; omega) hw (lv_sub hl [0, 1, 2, 3, 4, 5, 6, 7, 8] rfl)
        · refine lv_iload hx hb dX4_stepMetIn_82 (lv_at hl 1 rfl) ?_
          exact zri C hw hr hlocks rfl ⟨(by have h9 := z_lt (n := 400) c45 (by omega) (by omega); have h8 := c79; rw [show (400 : Int32) = nI 400 from rfl, nI_ltI (by omega) (by omega)] at h8; rw [if_pos (by omega), show i = 399 by omega]; rfl), rfl⟩ ⟨Nat.le_of_ble_eq_true rfl, Nat.le_of_ble_eq_true rfl⟩ dX4_stepMetIn_84
  exact lp_2 _ fr 0 _ _ _ (Nat.lt_succ_self _) (by omega) hw (lv_sub hl [0, 1, 3, 2, 4, 5, 6, 7, 8] rfl)

set_option maxHeartbeats 4000000 in
set_option maxRecDepth 100000 in
/-- X4_metIn -/
theorem c_X4_metIn_t (l : Launch) (D : va_G) (y : Nat → ClassId) (base : Nat) (S : zS) (t0 : Nat) (k1 : Nat) (k2 : Nat) (k3 : Nat) (c0 : Nat) (lv : Nat) (n : Nat) (hT : zTrg S t0 k1 k2 k3) (hC : zCap S c0 lv) (hSt : zSt S t0 k1 k3 400 n) (hn1 : 1 ≤ n ∧ n ≤ 6) (hm : zI S 64 c0 = nI 400) : zMi l yX4_metIn wsX4_metIn ({ frames := 2, cells := 0, slots := 0, locals := 52 }) [.ref t0, .ref c0] D y base S (fun (r : Int32) (S1 : zS) => r = (if n = 1 then 399 else -1) ∧ S1 = S) 0 0 := by
  refine zMet_of (cc := cX4_metIn) (maxL := 4) (ret := (some .int)) (own := RX4) (by decide +kernel) rfl rfl (Nat.le_of_ble_eq_true rfl) ?_
  intro p e s m args below meth c ls C hr hlocks hnm hw hl
  have hx := C.1
  have hb := C.2.1
  have hown := C.2.2.2.1
  have hts := C.2.2.2.2
  have hl : lv_has ls 4 [(0, .ref t0), (1, .ref c0)] := hl
  have in_X4 : ∀ w ∈ wsX40, w ∈ wsX4_metIn := by decide +kernel
  refine lv_iconst (v := (-1)) hx hb dX4_metIn_0 (by decide) ?_
  refine lv_istore_n (lv' := [(2, .int (-1)), (0, .ref t0), (1, .ref c0)]) hx hb dX4_metIn_1 rfl hl (by decide) rfl (fun ls hl => ?_)
  refine lv_iconst (v := 0) hx hb dX4_metIn_2 (by decide) ?_
  refine lv_istore_n (lv' := [(3, .int 0), (2, .int (-1)), (0, .ref t0), (1, .ref c0)]) hx hb dX4_metIn_3 rfl hl (by decide) rfl (fun ls hl => ?_)
  have lp_2 : ∀ (n9 : Nat) (i : Nat) (q : Int32) (H : Heap) (locs : List Loc) (ls : Array Slot), 2 - i < n9 → ((i = 0 ∧ q = -1) ∨ (i = 1 ∧ q = 399)) → zW D y base S s H locs → lv_has ls 4 [(3, .int (nI i)), (2, .int q), (0, .ref t0), (1, .ref c0)] → W p l e (headSpec wsX4_metIn ({ frames := 2, cells := 0, slots := 0, locals := 52 })).room s m args below meth c H locs 0 0 (MQ below (va_Qi (fun (r : Int32) (S1 : zS) => r = (if n = 1 then 399 else -1) ∧ S1 = S) (zPost D y base) (zA base)) args s 0 0 (zA base)) (F0 m 4 ls []) := by
    intro n9
    induction n9 with
    | zero =>
      intro i q H locs ls hn9
      exact absurd hn9 (Nat.not_lt_zero _)
    | succ n9 ih_1 =>
      intro i q H locs ls hn9 hi hw hl
      refine lv_iload_n hx hb dX4_metIn_4 rfl (lv_at hl 0 rfl) ?_
      refine lv_aload_n hx hb dX4_metIn_5 rfl (lv_at hl 2 rfl) ?_
      refine g_Trig_count (a := t0) (v := (nI n)) C hw hT.1 in_X4 (by decide +kernel) hSt.1 dX4_metIn_6 ?_
      refine lv_icmp_ge (tgt := 56) hx hb dX4_metIn_9 (by decide) (fun c9 => ?_) (fun c9 => ?_)
      · refine lv_iload_n hx hb dX4_metIn_56 rfl (lv_at hl 1 rfl) ?_
        exact zri C hw hr hlocks rfl ⟨(by have h9 := z_ge (n := n) c9 (by omega) (by omega); rcases hi with ⟨rfl, -⟩ | ⟨rfl, rfl⟩; omega; rw [if_pos (by omega)]), rfl⟩ ⟨Nat.le_of_ble_eq_true rfl, Nat.le_of_ble_eq_true rfl⟩ dX4_metIn_57
      · refine lv_iload_n hx hb dX4_metIn_12 rfl (lv_at hl 0 rfl) ?_
        refine lv_bipush (v := 6) hx hb dX4_metIn_13 (by decide) ?_
        refine lv_icmp_ge (tgt := 56) hx hb dX4_metIn_15 (by decide) (fun c15 => (show False from (by have := z_ge (n := 6) c15 (by omega) (by omega); omega)).elim) (fun c15 => ?_)
        have hin := z_lt (n := n) c9 (by omega) (by omega)
        refine lv_aload_n hx hb dX4_metIn_18 rfl (lv_at hl 3 rfl) ?_
        refine lv_iload_n hx hb dX4_metIn_19 rfl (lv_at hl 1 rfl) ?_
        refine lv_iconst (v := 1) hx hb dX4_metIn_20 (by decide) ?_
        refine lv_iadd hx hb dX4_metIn_21 ?_
        refine zrd (x := (nI (i * 400))) (by rcases hi with ⟨rfl, rfl⟩ | ⟨rfl, rfl⟩ <;> decide) ?_
        refine lv_aload_n hx hb dX4_metIn_22 rfl (lv_at hl 2 rfl) ?_
        refine g_Trig_kinds (a := t0) (v := k1) C hw hT.1 in_X4 (by decide +kernel) hT.2.1 dX4_metIn_23 ?_
        refine lv_iload_n hx hb dX4_metIn_26 rfl (lv_at hl 0 rfl) ?_
        refine zald_C (a := k1) C hw hT.2.2.2.2.1 hT.2.2.2.2.2.1 (vp_in_nI (by omega) (by decide)) dX4_metIn_27 ?_
        refine zrd (x := 116) (by rw [nI_clamp (by omega)]; exact (hSt.2 i hin).1) ?_
        refine lv_aload_n hx hb dX4_metIn_28 rfl (lv_at hl 2 rfl) ?_
        refine g_Trig_lines (a := t0) (v := k2) C hw hT.1 in_X4 (by decide +kernel) hT.2.2.1 dX4_metIn_29 ?_
        refine lv_iload_n hx hb dX4_metIn_32 rfl (lv_at hl 0 rfl) ?_
        refine zald_I (a := k2) C hw hT.2.2.2.2.2.2.1 hT.2.2.2.2.2.2.2.1 (vp_in_nI (by omega) (by decide)) dX4_metIn_33 ?_
        refine lv_aload_n hx hb dX4_metIn_34 rfl (lv_at hl 2 rfl) ?_
        refine g_Trig_numbers (a := t0) (v := k3) C hw hT.1 in_X4 (by decide +kernel) hT.2.2.2.1 dX4_metIn_35 ?_
        refine lv_iload_n hx hb dX4_metIn_38 rfl (lv_at hl 0 rfl) ?_
        refine zald_I (a := k3) C hw hT.2.2.2.2.2.2.2.2.1 hT.2.2.2.2.2.2.2.2.2 (vp_in_nI (by omega) (by decide)) dX4_metIn_39 ?_
        refine zrd (x := 400) (by rw [nI_clamp (by omega)]; exact (hSt.2 i hin).2) ?_
        refine zcS_i (As := [.ref c0, .int (nI (i * 400)), .int 116, .int (zR S 22 k2 ((nI i)).toNatClampNeg), .int 400]) (rest := []) (n9 := 5) C hw (c_X4_stepMetIn_t l D y base S c0 lv (i * 400) (zR S 22 k2 ((nI i)).toNatClampNeg) hC hm (by omega)) gX4_metIn_X4_stepMetIn rfl (by decide +kernel) ⟨⟨rfl, rfl⟩, Nat.le_of_ble_eq_true rfl, Nat.le_of_ble_eq_true rfl⟩ rfl hl.1 rfl (Nat.le_of_ble_eq_true rfl) ⟨Nat.le_of_ble_eq_true rfl, Nat.le_of_ble_eq_true rfl⟩ dX4_metIn_40 (fun r40 S40 H locs hp40 hw => ?_)
        obtain ⟨rfl, hS9⟩ := hp40
        have hS9 := hS9.symm
        subst hS9
        refine lv_istore_n (lv' := [(2, .int ((if (i * 400) = 0 then 399 else -1))), (3, .int (nI i)), (0, .ref t0), (1, .ref c0)]) hx hb dX4_metIn_43 rfl hl (by decide) rfl (fun ls hl => ?_)
        refine lv_iload_n hx hb dX4_metIn_44 rfl (lv_at hl 0 rfl) ?_
        refine lv_if_ge (tgt := 50) hx hb dX4_metIn_45 (by decide) (fun c45 => ?_) (fun c45 => ?_)
        · refine lv_iinc (v := (nI (i + 1))) (lv' := [(3, .int (nI (i + 1))), (2, .int ((if (i * 400) = 0 then 399 else -1))), (0, .ref t0), (1, .ref c0)]) hx hb dX4_metIn_50 hl (k := 1) rfl (nI_1 _) (by decide) rfl (fun ls hl => ?_)
          refine lv_goto (tgt := 4) hx hb dX4_metIn_53 (by decide) ?_
          exact ih_1 (i + 1) ((if (i * 400) = 0 then 399 else -1)) _ _ _ (by rcases hi with ⟨rfl, -⟩ | ⟨rfl, -⟩; omega; exact absurd c45 (by decide)) (by rcases hi with ⟨rfl, -⟩ | ⟨rfl, -⟩; exact Or.inr ⟨rfl, by decide⟩; exact absurd c45 (by decide)) hw (lv_sub hl [0, 1, 2, 3] rfl)
        · refine lv_iconst (v := (-1)) hx hb dX4_metIn_48 (by decide) ?_
          exact zri C hw hr hlocks rfl ⟨(by rcases hi with ⟨rfl, -⟩ | ⟨rfl, -⟩; exact absurd (by decide) c45; rw [if_neg (by omega)]), rfl⟩ ⟨Nat.le_of_ble_eq_true rfl, Nat.le_of_ble_eq_true rfl⟩ dX4_metIn_49
  exact lp_2 _ 0 (-1) _ _ _ (Nat.lt_succ_self _) (Or.inl ⟨rfl, rfl⟩) hw (lv_sub hl [0, 1, 2, 3] rfl)

