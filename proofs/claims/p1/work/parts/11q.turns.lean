set_option maxHeartbeats 4000000 in
set_option maxRecDepth 100000 in
/-- X11_turns -/
theorem c_X11_turns (l : Launch) (D : va_G) (y : Nat → ClassId) (base : Nat) (S : zS) (r0 : Nat) (w0 : Nat) (p0 : Int32) (p1 : Int32) (hk : zK S r0 = 35) (hn : zN S r0 = 4) (hp : 0 ≤ p0 ∧ p0 ≤ 3) (he : zP S r0 p0.toNatClampNeg = some w0) (hw0 : zK S w0 = 23) (hw1 : zN S w0 = 10000) (hq : 0 ≤ p1) : zMi l yX11_turns wsX11_turns ({ frames := 0, cells := 0, slots := 0, locals := 0 }) [.ref r0, .int p0, .int p1] D y base S (fun (r : Int32) (S1 : zS) => (p1 ≤ 9999 ∧ r = 1 ∧ S1 = zsR S 23 w0 (upd (zR S 23 w0) p1.toNatClampNeg (zno (zR S 23 w0 p1.toNatClampNeg)))) ∨ (¬ p1 ≤ 9999 ∧ r = 0 ∧ S1 = S)) 0 0 := by
  refine zMet_of (cc := cX11_turns) (maxL := 3) (ret := (some .boolean)) (own := RX11) (by decide +kernel) rfl rfl (Nat.le_of_ble_eq_true rfl) ?_
  intro p e s m args below meth c ls C hr hlocks hnm hw hl
  have hx := C.1
  have hb := C.2.1
  have hown := C.2.2.2.1
  have hts := C.2.2.2.2
  have hl : lv_has ls 3 [(0, .ref r0), (1, .int p0), (2, .int p1)] := hl
  refine lv_iload_n hx hb dX11_turns_0 rfl (lv_at hl 2 rfl) ?_
  refine lv_sipush (v := 9999) hx hb dX11_turns_1 (by decide) ?_
  refine lv_icmp_le (tgt := 9) hx hb dX11_turns_4 (by decide) (fun c4 => ?_) (fun c4 => ?_)
  · refine lv_aload_n hx hb dX11_turns_9 rfl (lv_at hl 0 rfl) ?_
    refine lv_iload_n hx hb dX11_turns_10 rfl (lv_at hl 1 rfl) ?_
    refine zald_P (a := r0) (v := w0) C hw hk (by decide) (t0 := 8) rfl rfl hn (zin_of (N := 4) (by decide) (by grind) (by grind)) he dX11_turns_11 ?_
    refine lv_iload_n hx hb dX11_turns_12 rfl (lv_at hl 2 rfl) ?_
    refine lv_aload_n hx hb dX11_turns_13 rfl (lv_at hl 0 rfl) ?_
    refine lv_iload_n hx hb dX11_turns_14 rfl (lv_at hl 1 rfl) ?_
    refine zald_P (a := r0) (v := w0) C hw hk (by decide) (t0 := 8) rfl rfl hn (zin_of (N := 4) (by decide) (by grind) (by grind)) he dX11_turns_15 ?_
    refine lv_iload_n hx hb dX11_turns_16 rfl (lv_at hl 2 rfl) ?_
    refine zald_Z (a := w0) C hw hw0 hw1 (zin_of (N := 10000) (by decide) (by grind) (by grind)) dX11_turns_17 ?_
    refine lv_if_ne (tgt := 25) hx hb dX11_turns_18 (by decide) (fun c18 => ?_) (fun c18 => ?_)
    · refine lv_iconst (v := 0) hx hb dX11_turns_25 (by decide) ?_
      refine zrd (x := (zno (zR S 23 w0 p1.toNatClampNeg))) (by unfold zno; rw [if_neg c18]) ?_
      refine zast_Z (a := w0) C hw hw0 hw1 (zin_of (N := 10000) (by decide) (by grind) (by grind)) dX11_turns_26 (fun H locs hw => ?_)
      refine lv_iconst (v := 1) hx hb dX11_turns_27 (by decide) ?_
      exact zri C hw hr hlocks (by decide) (Or.inl ⟨c4, rfl, by rw [zvn]⟩) ⟨Nat.le_of_ble_eq_true rfl, Nat.le_of_ble_eq_true rfl⟩ dX11_turns_28
    · refine lv_iconst (v := 1) hx hb dX11_turns_21 (by decide) ?_
      refine zrd (x := (zno (zR S 23 w0 p1.toNatClampNeg))) (by unfold zno; rw [if_pos c18]) ?_
      refine lv_goto (tgt := 26) hx hb dX11_turns_22 (by decide) ?_
      refine zast_Z (a := w0) C hw hw0 hw1 (zin_of (N := 10000) (by decide) (by grind) (by grind)) dX11_turns_26 (fun H locs hw => ?_)
      refine lv_iconst (v := 1) hx hb dX11_turns_27 (by decide) ?_
      exact zri C hw hr hlocks (by decide) (Or.inl ⟨c4, rfl, by rw [zvn]⟩) ⟨Nat.le_of_ble_eq_true rfl, Nat.le_of_ble_eq_true rfl⟩ dX11_turns_28
  · refine lv_iconst (v := 0) hx hb dX11_turns_7 (by decide) ?_
    exact zri C hw hr hlocks (by decide) (Or.inr ⟨c4, rfl, rfl⟩) ⟨Nat.le_of_ble_eq_true rfl, Nat.le_of_ble_eq_true rfl⟩ dX11_turns_8

set_option maxHeartbeats 4000000 in
set_option maxRecDepth 100000 in
/-- X11_areFew -/
theorem c_X11_areFew (l : Launch) (D : va_G) (y : Nat → ClassId) (base : Nat) (S : zS) (r0 : Nat) (f : Nat → Nat) (hk : zK S r0 = 35) (hn : zN S r0 = 4) (hf : ∀ j, j < 4 → zP S r0 j = some (f j) ∧ zK S (f j) = 23 ∧ zN S (f j) = 10000 ∧ zct (zon (zR S 23 (f j))) 10000 ≤ 300) : zMi l yX11_areFew wsX11_areFew ({ frames := 0, cells := 0, slots := 0, locals := 0 }) [.ref r0] D y base S (fun (r : Int32) (S1 : zS) => r = 1 ∧ S1 = S) 0 0 := by
  refine zMet_of (cc := cX11_areFew) (maxL := 11) (ret := (some .boolean)) (own := RX11) (by decide +kernel) rfl rfl (Nat.le_of_ble_eq_true rfl) ?_
  intro p e s m args below meth c ls C hr hlocks hnm hw hl
  have hx := C.1
  have hb := C.2.1
  have hown := C.2.2.2.1
  have hts := C.2.2.2.2
  have hl : lv_has ls 11 [(0, .ref r0)] := hl
  refine lv_iconst (v := 1) hx hb dX11_areFew_0 (by decide) ?_
  refine lv_istore_n (lv' := [(1, .int 1), (0, .ref r0)]) hx hb dX11_areFew_1 rfl hl (by decide) rfl (fun ls hl => ?_)
  refine lv_aload_n hx hb dX11_areFew_2 rfl (lv_at hl 1 rfl) ?_
  refine lv_astore_n (lv' := [(2, .ref r0), (1, .int 1), (0, .ref r0)]) hx hb dX11_areFew_3 rfl hl (by decide) rfl (fun ls hl => ?_)
  refine lv_aload_n hx hb dX11_areFew_4 rfl (lv_at hl 0 rfl) ?_
  refine zalen (a := r0) (v := 4) C hw hk (by decide) (t0 := 8) rfl (zlen hn rfl) dX11_areFew_5 ?_
  refine lv_istore_n (lv' := [(3, .int 4), (2, .ref r0), (1, .int 1), (0, .ref r0)]) hx hb dX11_areFew_6 rfl hl (by decide) rfl (fun ls hl => ?_)
  refine lv_iconst (v := 0) hx hb dX11_areFew_7 (by decide) ?_
  refine lv_istore (lv' := [(4, .int 0), (3, .int 4), (2, .ref r0), (1, .int 1), (0, .ref r0)]) hx hb dX11_areFew_8 hl (by decide) rfl (fun ls hl => ?_)
  refine lv_iload hx hb dX11_areFew_10 (lv_at hl 0 rfl) ?_
  refine lv_iload_n hx hb dX11_areFew_12 rfl (lv_at hl 1 rfl) ?_
  refine lv_icmp_ge (tgt := 96) hx hb dX11_areFew_13 (by decide) (fun c13 => absurd c13 (by decide)) (fun _ => ?_)
  refine lv_aload_n hx hb dX11_areFew_16 rfl (lv_at hl 2 rfl) ?_
  refine lv_iload hx hb dX11_areFew_17 (lv_at hl 0 rfl) ?_
  obtain ⟨eP9, kW9, nW9, hc9⟩ := hf 0 (by decide)
  refine zald_P (a := r0) (v := (f 0)) C hw hk (by decide) (t0 := 8) rfl rfl hn (zin_of (N := 4) (by decide) (by grind) (by grind)) eP9 dX11_areFew_19 ?_
  refine lv_astore (lv' := [(5, .ref (f 0)), (4, .int 0), (3, .int 4), (2, .ref r0), (1, .int 1), (0, .ref r0)]) hx hb dX11_areFew_20 hl (by decide) rfl (fun ls hl => ?_)
  refine lv_iconst (v := 0) hx hb dX11_areFew_22 (by decide) ?_
  refine lv_istore (lv' := [(6, .int 0), (5, .ref (f 0)), (4, .int 0), (3, .int 4), (2, .ref r0), (1, .int 1), (0, .ref r0)]) hx hb dX11_areFew_23 hl (by decide) rfl (fun ls hl => ?_)
  refine lv_aload hx hb dX11_areFew_25 (lv_at hl 1 rfl) ?_
  refine lv_astore (lv' := [(7, .ref (f 0)), (6, .int 0), (5, .ref (f 0)), (4, .int 0), (3, .int 4), (2, .ref r0), (1, .int 1), (0, .ref r0)]) hx hb dX11_areFew_27 hl (by decide) rfl (fun ls hl => ?_)
  refine lv_aload hx hb dX11_areFew_29 (lv_at hl 0 rfl) ?_
  refine zalen (a := (f 0)) (v := 10000) C hw kW9 (by decide) (t0 := 2) rfl (zlen nW9 rfl) dX11_areFew_31 ?_
  refine lv_istore (lv' := [(8, .int 10000), (7, .ref (f 0)), (6, .int 0), (5, .ref (f 0)), (4, .int 0), (3, .int 4), (2, .ref r0), (1, .int 1), (0, .ref r0)]) hx hb dX11_areFew_32 hl (by decide) rfl (fun ls hl => ?_)
  refine lv_iconst (v := 0) hx hb dX11_areFew_34 (by decide) ?_
  refine lv_istore (lv' := [(9, .int 0), (8, .int 10000), (7, .ref (f 0)), (6, .int 0), (5, .ref (f 0)), (4, .int 0), (3, .int 4), (2, .ref r0), (1, .int 1), (0, .ref r0)]) hx hb dX11_areFew_35 hl (by decide) rfl (fun ls hl => ?_)
  have lp_2 : ∀ (n9 : Nat) (i : Nat) (H : Heap) (locs : List Loc) (ls : Array Slot), 10000 - i < n9 → (i ≤ 10000) → zW D y base S s H locs → lv_has ls 11 [(9, .int (nI i)), (6, .int (nI (zct (zon (zR S 23 (f 0))) i))), (1, .int 1), (2, .ref r0), (3, .int 4), (4, .int 0), (7, .ref (f 0)), (8, .int 10000)] → W p l e (headSpec wsX11_areFew ({ frames := 0, cells := 0, slots := 0, locals := 0 })).room s m args below meth c H locs 0 0 (MQ below (va_Qi (fun (r : Int32) (S1 : zS) => r = 1 ∧ S1 = S) (zPost D y base) (zA base)) args s 0 0 (zA base)) (F0 m 37 ls []) := by
    intro n9
    induction n9 with
    | zero =>
      intro i H locs ls hn9
      exact absurd hn9 (Nat.not_lt_zero _)
    | succ n9 ih_1 =>
      intro i H locs ls hn9 hi hw hl
      refine lv_iload hx hb dX11_areFew_37 (lv_at hl 0 rfl) ?_
      refine lv_iload hx hb dX11_areFew_39 (lv_at hl 7 rfl) ?_
      refine lv_icmp_ge (tgt := 72) hx hb dX11_areFew_41 (by decide) (fun c41 => ?_) (fun c41 => ?_)
      · have hie : i = 10000 := by have := z_ge (n := 10000) c41 (by omega) (by omega); omega
        refine lv_iload_n hx hb dX11_areFew_72 rfl (lv_at hl 2 rfl) ?_
        refine lv_if_eq (tgt := 88) hx hb dX11_areFew_73 (by decide) (fun c73 => absurd c73 (by decide)) (fun _ => ?_)
        refine lv_iload hx hb dX11_areFew_76 (lv_at hl 1 rfl) ?_
        refine lv_sipush (v := 300) hx hb dX11_areFew_78 (by decide) ?_
        refine lv_icmp_gt (tgt := 88) hx hb dX11_areFew_81 (by decide) (fun c81 => (show False from (by have h9 := c81; rw [hie, show (300 : Int32) = nI 300 from rfl, nI_ltI (by omega) (by omega)] at h9; omega)).elim) (fun c81 => ?_)
        refine lv_iconst (v := 1) hx hb dX11_areFew_84 (by decide) ?_
        refine lv_goto (tgt := 89) hx hb dX11_areFew_85 (by decide) ?_
        refine lv_istore_n (lv' := [(1, .int 1), (9, .int (nI i)), (6, .int (nI (zct (zon (zR S 23 (f 0))) i))), (2, .ref r0), (3, .int 4), (4, .int 0), (7, .ref (f 0)), (8, .int 10000)]) hx hb dX11_areFew_89 rfl hl (by decide) rfl (fun ls hl => ?_)
        refine lv_iinc (v := 1) (lv' := [(4, .int 1), (1, .int 1), (9, .int (nI i)), (6, .int (nI (zct (zon (zR S 23 (f 0))) i))), (2, .ref r0), (3, .int 4), (7, .ref (f 0)), (8, .int 10000)]) hx hb dX11_areFew_90 hl (k := 5) rfl (by decide) (by decide) rfl (fun ls hl => ?_)
        refine lv_goto (tgt := 10) hx hb dX11_areFew_93 (by decide) ?_
        refine lv_iload hx hb dX11_areFew_10 (lv_at hl 0 rfl) ?_
        refine lv_iload_n hx hb dX11_areFew_12 rfl (lv_at hl 5 rfl) ?_
        refine lv_icmp_ge (tgt := 96) hx hb dX11_areFew_13 (by decide) (fun c13 => absurd c13 (by decide)) (fun _ => ?_)
        refine lv_aload_n hx hb dX11_areFew_16 rfl (lv_at hl 4 rfl) ?_
        refine lv_iload hx hb dX11_areFew_17 (lv_at hl 0 rfl) ?_
        obtain ⟨eP9, kW9, nW9, hc9⟩ := hf 1 (by decide)
        refine zald_P (a := r0) (v := (f 1)) C hw hk (by decide) (t0 := 8) rfl rfl hn (zin_of (N := 4) (by decide) (by grind) (by grind)) eP9 dX11_areFew_19 ?_
        refine lv_astore (lv' := [(5, .ref (f 1)), (4, .int 1), (1, .int 1), (9, .int (nI i)), (6, .int (nI (zct (zon (zR S 23 (f 0))) i))), (2, .ref r0), (3, .int 4), (7, .ref (f 0)), (8, .int 10000)]) hx hb dX11_areFew_20 hl (by decide) rfl (fun ls hl => ?_)
        refine lv_iconst (v := 0) hx hb dX11_areFew_22 (by decide) ?_
        refine lv_istore (lv' := [(6, .int 0), (5, .ref (f 1)), (4, .int 1), (1, .int 1), (9, .int (nI i)), (2, .ref r0), (3, .int 4), (7, .ref (f 0)), (8, .int 10000)]) hx hb dX11_areFew_23 hl (by decide) rfl (fun ls hl => ?_)
        refine lv_aload hx hb dX11_areFew_25 (lv_at hl 1 rfl) ?_
        refine lv_astore (lv' := [(7, .ref (f 1)), (6, .int 0), (5, .ref (f 1)), (4, .int 1), (1, .int 1), (9, .int (nI i)), (2, .ref r0), (3, .int 4), (8, .int 10000)]) hx hb dX11_areFew_27 hl (by decide) rfl (fun ls hl => ?_)
        refine lv_aload hx hb dX11_areFew_29 (lv_at hl 0 rfl) ?_
        refine zalen (a := (f 1)) (v := 10000) C hw kW9 (by decide) (t0 := 2) rfl (zlen nW9 rfl) dX11_areFew_31 ?_
        refine lv_istore (lv' := [(8, .int 10000), (7, .ref (f 1)), (6, .int 0), (5, .ref (f 1)), (4, .int 1), (1, .int 1), (9, .int (nI i)), (2, .ref r0), (3, .int 4)]) hx hb dX11_areFew_32 hl (by decide) rfl (fun ls hl => ?_)
        refine lv_iconst (v := 0) hx hb dX11_areFew_34 (by decide) ?_
        refine lv_istore (lv' := [(9, .int 0), (8, .int 10000), (7, .ref (f 1)), (6, .int 0), (5, .ref (f 1)), (4, .int 1), (1, .int 1), (2, .ref r0), (3, .int 4)]) hx hb dX11_areFew_35 hl (by decide) rfl (fun ls hl => ?_)
        have lp_4 : ∀ (n9 : Nat) (i : Nat) (H : Heap) (locs : List Loc) (ls : Array Slot), 10000 - i < n9 → (i ≤ 10000) → zW D y base S s H locs → lv_has ls 11 [(9, .int (nI i)), (6, .int (nI (zct (zon (zR S 23 (f 1))) i))), (1, .int 1), (2, .ref r0), (3, .int 4), (4, .int 1), (7, .ref (f 1)), (8, .int 10000)] → W p l e (headSpec wsX11_areFew ({ frames := 0, cells := 0, slots := 0, locals := 0 })).room s m args below meth c H locs 0 0 (MQ below (va_Qi (fun (r : Int32) (S1 : zS) => r = 1 ∧ S1 = S) (zPost D y base) (zA base)) args s 0 0 (zA base)) (F0 m 37 ls []) := by
          intro n9
          induction n9 with
          | zero =>
            intro i H locs ls hn9
            exact absurd hn9 (Nat.not_lt_zero _)
          | succ n9 ih_3 =>
            intro i H locs ls hn9 hi hw hl
            refine lv_iload hx hb dX11_areFew_37 (lv_at hl 0 rfl) ?_
            refine lv_iload hx hb dX11_areFew_39 (lv_at hl 7 rfl) ?_
            refine lv_icmp_ge (tgt := 72) hx hb dX11_areFew_41 (by decide) (fun c41 => ?_) (fun c41 => ?_)
            · have hie : i = 10000 := by have := z_ge (n := 10000) c41 (by omega) (by omega); omega
              refine lv_iload_n hx hb dX11_areFew_72 rfl (lv_at hl 2 rfl) ?_
              refine lv_if_eq (tgt := 88) hx hb dX11_areFew_73 (by decide) (fun c73 => absurd c73 (by decide)) (fun _ => ?_)
              refine lv_iload hx hb dX11_areFew_76 (lv_at hl 1 rfl) ?_
              refine lv_sipush (v := 300) hx hb dX11_areFew_78 (by decide) ?_
              refine lv_icmp_gt (tgt := 88) hx hb dX11_areFew_81 (by decide) (fun c81 => (show False from (by have h9 := c81; rw [hie, show (300 : Int32) = nI 300 from rfl, nI_ltI (by omega) (by omega)] at h9; omega)).elim) (fun c81 => ?_)
              refine lv_iconst (v := 1) hx hb dX11_areFew_84 (by decide) ?_
              refine lv_goto (tgt := 89) hx hb dX11_areFew_85 (by decide) ?_
              refine lv_istore_n (lv' := [(1, .int 1), (9, .int (nI i)), (6, .int (nI (zct (zon (zR S 23 (f 1))) i))), (2, .ref r0), (3, .int 4), (4, .int 1), (7, .ref (f 1)), (8, .int 10000)]) hx hb dX11_areFew_89 rfl hl (by decide) rfl (fun ls hl => ?_)
              refine lv_iinc (v := 2) (lv' := [(4, .int 2), (1, .int 1), (9, .int (nI i)), (6, .int (nI (zct (zon (zR S 23 (f 1))) i))), (2, .ref r0), (3, .int 4), (7, .ref (f 1)), (8, .int 10000)]) hx hb dX11_areFew_90 hl (k := 5) rfl (by decide) (by decide) rfl (fun ls hl => ?_)
              refine lv_goto (tgt := 10) hx hb dX11_areFew_93 (by decide) ?_
              refine lv_iload hx hb dX11_areFew_10 (lv_at hl 0 rfl) ?_
              refine lv_iload_n hx hb dX11_areFew_12 rfl (lv_at hl 5 rfl) ?_
              refine lv_icmp_ge (tgt := 96) hx hb dX11_areFew_13 (by decide) (fun c13 => absurd c13 (by decide)) (fun _ => ?_)
              refine lv_aload_n hx hb dX11_areFew_16 rfl (lv_at hl 4 rfl) ?_
              refine lv_iload hx hb dX11_areFew_17 (lv_at hl 0 rfl) ?_
              obtain ⟨eP9, kW9, nW9, hc9⟩ := hf 2 (by decide)
              refine zald_P (a := r0) (v := (f 2)) C hw hk (by decide) (t0 := 8) rfl rfl hn (zin_of (N := 4) (by decide) (by grind) (by grind)) eP9 dX11_areFew_19 ?_
              refine lv_astore (lv' := [(5, .ref (f 2)), (4, .int 2), (1, .int 1), (9, .int (nI i)), (6, .int (nI (zct (zon (zR S 23 (f 1))) i))), (2, .ref r0), (3, .int 4), (7, .ref (f 1)), (8, .int 10000)]) hx hb dX11_areFew_20 hl (by decide) rfl (fun ls hl => ?_)
              refine lv_iconst (v := 0) hx hb dX11_areFew_22 (by decide) ?_
              refine lv_istore (lv' := [(6, .int 0), (5, .ref (f 2)), (4, .int 2), (1, .int 1), (9, .int (nI i)), (2, .ref r0), (3, .int 4), (7, .ref (f 1)), (8, .int 10000)]) hx hb dX11_areFew_23 hl (by decide) rfl (fun ls hl => ?_)
              refine lv_aload hx hb dX11_areFew_25 (lv_at hl 1 rfl) ?_
              refine lv_astore (lv' := [(7, .ref (f 2)), (6, .int 0), (5, .ref (f 2)), (4, .int 2), (1, .int 1), (9, .int (nI i)), (2, .ref r0), (3, .int 4), (8, .int 10000)]) hx hb dX11_areFew_27 hl (by decide) rfl (fun ls hl => ?_)
              refine lv_aload hx hb dX11_areFew_29 (lv_at hl 0 rfl) ?_
              refine zalen (a := (f 2)) (v := 10000) C hw kW9 (by decide) (t0 := 2) rfl (zlen nW9 rfl) dX11_areFew_31 ?_
              refine lv_istore (lv' := [(8, .int 10000), (7, .ref (f 2)), (6, .int 0), (5, .ref (f 2)), (4, .int 2), (1, .int 1), (9, .int (nI i)), (2, .ref r0), (3, .int 4)]) hx hb dX11_areFew_32 hl (by decide) rfl (fun ls hl => ?_)
              refine lv_iconst (v := 0) hx hb dX11_areFew_34 (by decide) ?_
              refine lv_istore (lv' := [(9, .int 0), (8, .int 10000), (7, .ref (f 2)), (6, .int 0), (5, .ref (f 2)), (4, .int 2), (1, .int 1), (2, .ref r0), (3, .int 4)]) hx hb dX11_areFew_35 hl (by decide) rfl (fun ls hl => ?_)
              have lp_6 : ∀ (n9 : Nat) (i : Nat) (H : Heap) (locs : List Loc) (ls : Array Slot), 10000 - i < n9 → (i ≤ 10000) → zW D y base S s H locs → lv_has ls 11 [(9, .int (nI i)), (6, .int (nI (zct (zon (zR S 23 (f 2))) i))), (1, .int 1), (2, .ref r0), (3, .int 4), (4, .int 2), (7, .ref (f 2)), (8, .int 10000)] → W p l e (headSpec wsX11_areFew ({ frames := 0, cells := 0, slots := 0, locals := 0 })).room s m args below meth c H locs 0 0 (MQ below (va_Qi (fun (r : Int32) (S1 : zS) => r = 1 ∧ S1 = S) (zPost D y base) (zA base)) args s 0 0 (zA base)) (F0 m 37 ls []) := by
                intro n9
                induction n9 with
                | zero =>
                  intro i H locs ls hn9
                  exact absurd hn9 (Nat.not_lt_zero _)
                | succ n9 ih_5 =>
                  intro i H locs ls hn9 hi hw hl
                  refine lv_iload hx hb dX11_areFew_37 (lv_at hl 0 rfl) ?_
                  refine lv_iload hx hb dX11_areFew_39 (lv_at hl 7 rfl) ?_
                  refine lv_icmp_ge (tgt := 72) hx hb dX11_areFew_41 (by decide) (fun c41 => ?_) (fun c41 => ?_)
                  · have hie : i = 10000 := by have := z_ge (n := 10000) c41 (by omega) (by omega); omega
                    refine lv_iload_n hx hb dX11_areFew_72 rfl (lv_at hl 2 rfl) ?_
                    refine lv_if_eq (tgt := 88) hx hb dX11_areFew_73 (by decide) (fun c73 => absurd c73 (by decide)) (fun _ => ?_)
                    refine lv_iload hx hb dX11_areFew_76 (lv_at hl 1 rfl) ?_
                    refine lv_sipush (v := 300) hx hb dX11_areFew_78 (by decide) ?_
                    refine lv_icmp_gt (tgt := 88) hx hb dX11_areFew_81 (by decide) (fun c81 => (show False from (by have h9 := c81; rw [hie, show (300 : Int32) = nI 300 from rfl, nI_ltI (by omega) (by omega)] at h9; omega)).elim) (fun c81 => ?_)
                    refine lv_iconst (v := 1) hx hb dX11_areFew_84 (by decide) ?_
                    refine lv_goto (tgt := 89) hx hb dX11_areFew_85 (by decide) ?_
                    refine lv_istore_n (lv' := [(1, .int 1), (9, .int (nI i)), (6, .int (nI (zct (zon (zR S 23 (f 2))) i))), (2, .ref r0), (3, .int 4), (4, .int 2), (7, .ref (f 2)), (8, .int 10000)]) hx hb dX11_areFew_89 rfl hl (by decide) rfl (fun ls hl => ?_)
                    refine lv_iinc (v := 3) (lv' := [(4, .int 3), (1, .int 1), (9, .int (nI i)), (6, .int (nI (zct (zon (zR S 23 (f 2))) i))), (2, .ref r0), (3, .int 4), (7, .ref (f 2)), (8, .int 10000)]) hx hb dX11_areFew_90 hl (k := 5) rfl (by decide) (by decide) rfl (fun ls hl => ?_)
                    refine lv_goto (tgt := 10) hx hb dX11_areFew_93 (by decide) ?_
                    refine lv_iload hx hb dX11_areFew_10 (lv_at hl 0 rfl) ?_
                    refine lv_iload_n hx hb dX11_areFew_12 rfl (lv_at hl 5 rfl) ?_
                    refine lv_icmp_ge (tgt := 96) hx hb dX11_areFew_13 (by decide) (fun c13 => absurd c13 (by decide)) (fun _ => ?_)
                    refine lv_aload_n hx hb dX11_areFew_16 rfl (lv_at hl 4 rfl) ?_
                    refine lv_iload hx hb dX11_areFew_17 (lv_at hl 0 rfl) ?_
                    obtain ⟨eP9, kW9, nW9, hc9⟩ := hf 3 (by decide)
                    refine zald_P (a := r0) (v := (f 3)) C hw hk (by decide) (t0 := 8) rfl rfl hn (zin_of (N := 4) (by decide) (by grind) (by grind)) eP9 dX11_areFew_19 ?_
                    refine lv_astore (lv' := [(5, .ref (f 3)), (4, .int 3), (1, .int 1), (9, .int (nI i)), (6, .int (nI (zct (zon (zR S 23 (f 2))) i))), (2, .ref r0), (3, .int 4), (7, .ref (f 2)), (8, .int 10000)]) hx hb dX11_areFew_20 hl (by decide) rfl (fun ls hl => ?_)
                    refine lv_iconst (v := 0) hx hb dX11_areFew_22 (by decide) ?_
                    refine lv_istore (lv' := [(6, .int 0), (5, .ref (f 3)), (4, .int 3), (1, .int 1), (9, .int (nI i)), (2, .ref r0), (3, .int 4), (7, .ref (f 2)), (8, .int 10000)]) hx hb dX11_areFew_23 hl (by decide) rfl (fun ls hl => ?_)
                    refine lv_aload hx hb dX11_areFew_25 (lv_at hl 1 rfl) ?_
                    refine lv_astore (lv' := [(7, .ref (f 3)), (6, .int 0), (5, .ref (f 3)), (4, .int 3), (1, .int 1), (9, .int (nI i)), (2, .ref r0), (3, .int 4), (8, .int 10000)]) hx hb dX11_areFew_27 hl (by decide) rfl (fun ls hl => ?_)
                    refine lv_aload hx hb dX11_areFew_29 (lv_at hl 0 rfl) ?_
                    refine zalen (a := (f 3)) (v := 10000) C hw kW9 (by decide) (t0 := 2) rfl (zlen nW9 rfl) dX11_areFew_31 ?_
                    refine lv_istore (lv' := [(8, .int 10000), (7, .ref (f 3)), (6, .int 0), (5, .ref (f 3)), (4, .int 3), (1, .int 1), (9, .int (nI i)), (2, .ref r0), (3, .int 4)]) hx hb dX11_areFew_32 hl (by decide) rfl (fun ls hl => ?_)
                    refine lv_iconst (v := 0) hx hb dX11_areFew_34 (by decide) ?_
                    refine lv_istore (lv' := [(9, .int 0), (8, .int 10000), (7, .ref (f 3)), (6, .int 0), (5, .ref (f 3)), (4, .int 3), (1, .int 1), (2, .ref r0), (3, .int 4)]) hx hb dX11_areFew_35 hl (by decide) rfl (fun ls hl => ?_)
                    have lp_8 : ∀ (n9 : Nat) (i : Nat) (H : Heap) (locs : List Loc) (ls : Array Slot), 10000 - i < n9 → (i ≤ 10000) → zW D y base S s H locs → lv_has ls 11 [(9, .int (nI i)), (6, .int (nI (zct (zon (zR S 23 (f 3))) i))), (1, .int 1), (2, .ref r0), (3, .int 4), (4, .int 3), (7, .ref (f 3)), (8, .int 10000)] → W p l e (headSpec wsX11_areFew ({ frames := 0, cells := 0, slots := 0, locals := 0 })).room s m args below meth c H locs 0 0 (MQ below (va_Qi (fun (r : Int32) (S1 : zS) => r = 1 ∧ S1 = S) (zPost D y base) (zA base)) args s 0 0 (zA base)) (F0 m 37 ls []) := by
                      intro n9
                      induction n9 with
                      | zero =>
                        intro i H locs ls hn9
                        exact absurd hn9 (Nat.not_lt_zero _)
                      | succ n9 ih_7 =>
                        intro i H locs ls hn9 hi hw hl
                        refine lv_iload hx hb dX11_areFew_37 (lv_at hl 0 rfl) ?_
                        refine lv_iload hx hb dX11_areFew_39 (lv_at hl 7 rfl) ?_
                        refine lv_icmp_ge (tgt := 72) hx hb dX11_areFew_41 (by decide) (fun c41 => ?_) (fun c41 => ?_)
                        · have hie : i = 10000 := by have := z_ge (n := 10000) c41 (by omega) (by omega); omega
                          refine lv_iload_n hx hb dX11_areFew_72 rfl (lv_at hl 2 rfl) ?_
                          refine lv_if_eq (tgt := 88) hx hb dX11_areFew_73 (by decide) (fun c73 => absurd c73 (by decide)) (fun _ => ?_)
                          refine lv_iload hx hb dX11_areFew_76 (lv_at hl 1 rfl) ?_
                          refine lv_sipush (v := 300) hx hb dX11_areFew_78 (by decide) ?_
                          refine lv_icmp_gt (tgt := 88) hx hb dX11_areFew_81 (by decide) (fun c81 => (show False from (by have h9 := c81; rw [hie, show (300 : Int32) = nI 300 from rfl, nI_ltI (by omega) (by omega)] at h9; omega)).elim) (fun c81 => ?_)
                          refine lv_iconst (v := 1) hx hb dX11_areFew_84 (by decide) ?_
                          refine lv_goto (tgt := 89) hx hb dX11_areFew_85 (by decide) ?_
                          refine lv_istore_n (lv' := [(1, .int 1), (9, .int (nI i)), (6, .int (nI (zct (zon (zR S 23 (f 3))) i))), (2, .ref r0), (3, .int 4), (4, .int 3), (7, .ref (f 3)), (8, .int 10000)]) hx hb dX11_areFew_89 rfl hl (by decide) rfl (fun ls hl => ?_)
                          refine lv_iinc (v := 4) (lv' := [(4, .int 4), (1, .int 1), (9, .int (nI i)), (6, .int (nI (zct (zon (zR S 23 (f 3))) i))), (2, .ref r0), (3, .int 4), (7, .ref (f 3)), (8, .int 10000)]) hx hb dX11_areFew_90 hl (k := 5) rfl (by decide) (by decide) rfl (fun ls hl => ?_)
                          refine lv_goto (tgt := 10) hx hb dX11_areFew_93 (by decide) ?_
                          refine lv_iload hx hb dX11_areFew_10 (lv_at hl 0 rfl) ?_
                          refine lv_iload_n hx hb dX11_areFew_12 rfl (lv_at hl 5 rfl) ?_
                          refine lv_icmp_ge (tgt := 96) hx hb dX11_areFew_13 (by decide) (fun _ => ?_) (fun c13 => absurd c13 (by decide))
                          refine lv_iload_n hx hb dX11_areFew_96 rfl (lv_at hl 1 rfl) ?_
                          exact zri C hw hr hlocks (by decide) ⟨rfl, rfl⟩ ⟨Nat.le_of_ble_eq_true rfl, Nat.le_of_ble_eq_true rfl⟩ dX11_areFew_97
                        · have hi9 := z_lt (n := 10000) c41 (by omega) (by omega)
                          refine lv_aload hx hb dX11_areFew_44 (lv_at hl 6 rfl) ?_
                          refine lv_iload hx hb dX11_areFew_46 (lv_at hl 0 rfl) ?_
                          refine zald_Z (a := (f 3)) C hw kW9 nW9 (vp_in_nI hi9 (by decide)) dX11_areFew_48 ?_
                          refine zrd (x := (zR S 23 (f 3) i)) (by rw [nI_clamp (by omega)]) ?_
                          refine lv_istore (lv' := [(10, .int (zR S 23 (f 3) i)), (9, .int (nI i)), (6, .int (nI (zct (zon (zR S 23 (f 3))) i))), (1, .int 1), (2, .ref r0), (3, .int 4), (4, .int 3), (7, .ref (f 3)), (8, .int 10000)]) hx hb dX11_areFew_49 hl (by decide) rfl (fun ls hl => ?_)
                          refine lv_iload hx hb dX11_areFew_51 (lv_at hl 2 rfl) ?_
                          refine lv_iload hx hb dX11_areFew_53 (lv_at hl 0 rfl) ?_
                          refine lv_if_eq (tgt := 62) hx hb dX11_areFew_55 (by decide) (fun c55 => ?_) (fun c55 => ?_)
                          · refine lv_iconst (v := 0) hx hb dX11_areFew_62 (by decide) ?_
                            refine lv_iadd hx hb dX11_areFew_63 ?_
                            refine zrd (x := (nI (zct (zon (zR S 23 (f 3))) (i + 1)))) (by first | (rw [zct_f (show ¬ zon (zR S 23 (f 3)) i = true by rw [decide_eq_true_eq]; exact fun q => q c55), Int32.add_zero]) | (rw [zct_t (show zon (zR S 23 (f 3)) i = true from decide_eq_true c55), nI_1])) ?_
                            refine lv_istore (lv' := [(6, .int (nI (zct (zon (zR S 23 (f 3))) (i + 1)))), (10, .int (zR S 23 (f 3) i)), (9, .int (nI i)), (1, .int 1), (2, .ref r0), (3, .int 4), (4, .int 3), (7, .ref (f 3)), (8, .int 10000)]) hx hb dX11_areFew_64 hl (by decide) rfl (fun ls hl => ?_)
                            refine lv_iinc (v := (nI (i + 1))) (lv' := [(9, .int (nI (i + 1))), (6, .int (nI (zct (zon (zR S 23 (f 3))) (i + 1)))), (10, .int (zR S 23 (f 3) i)), (1, .int 1), (2, .ref r0), (3, .int 4), (4, .int 3), (7, .ref (f 3)), (8, .int 10000)]) hx hb dX11_areFew_66 hl (k := 2) rfl (nI_1 _) (by decide) rfl (fun ls hl => ?_)
                            refine lv_goto (tgt := 37) hx hb dX11_areFew_69 (by decide) ?_
                            exact ih_7 (i + 1) _ _ _ (by omega) (by omega) hw (lv_sub hl [0, 1, 3, 4, 5, 6, 7, 8] rfl)
                          · refine lv_iconst (v := 1) hx hb dX11_areFew_58 (by decide) ?_
                            refine lv_goto (tgt := 63) hx hb dX11_areFew_59 (by decide) ?_
                            refine lv_iadd hx hb dX11_areFew_63 ?_
                            refine zrd (x := (nI (zct (zon (zR S 23 (f 3))) (i + 1)))) (by first | (rw [zct_f (show ¬ zon (zR S 23 (f 3)) i = true by rw [decide_eq_true_eq]; exact fun q => q c55), Int32.add_zero]) | (rw [zct_t (show zon (zR S 23 (f 3)) i = true from decide_eq_true c55), nI_1])) ?_
                            refine lv_istore (lv' := [(6, .int (nI (zct (zon (zR S 23 (f 3))) (i + 1)))), (10, .int (zR S 23 (f 3) i)), (9, .int (nI i)), (1, .int 1), (2, .ref r0), (3, .int 4), (4, .int 3), (7, .ref (f 3)), (8, .int 10000)]) hx hb dX11_areFew_64 hl (by decide) rfl (fun ls hl => ?_)
                            refine lv_iinc (v := (nI (i + 1))) (lv' := [(9, .int (nI (i + 1))), (6, .int (nI (zct (zon (zR S 23 (f 3))) (i + 1)))), (10, .int (zR S 23 (f 3) i)), (1, .int 1), (2, .ref r0), (3, .int 4), (4, .int 3), (7, .ref (f 3)), (8, .int 10000)]) hx hb dX11_areFew_66 hl (k := 2) rfl (nI_1 _) (by decide) rfl (fun ls hl => ?_)
                            refine lv_goto (tgt := 37) hx hb dX11_areFew_69 (by decide) ?_
                            exact ih_7 (i + 1) _ _ _ (by omega) (by omega) hw (lv_sub hl [0, 1, 3, 4, 5, 6, 7, 8] rfl)
                    exact lp_8 _ 0 _ _ _ (Nat.lt_succ_self _) (Nat.zero_le _) hw (lv_sub hl [0, 3, 6, 7, 8, 5, 2, 1] rfl)
                  · have hi9 := z_lt (n := 10000) c41 (by omega) (by omega)
                    refine lv_aload hx hb dX11_areFew_44 (lv_at hl 6 rfl) ?_
                    refine lv_iload hx hb dX11_areFew_46 (lv_at hl 0 rfl) ?_
                    refine zald_Z (a := (f 2)) C hw kW9 nW9 (vp_in_nI hi9 (by decide)) dX11_areFew_48 ?_
                    refine zrd (x := (zR S 23 (f 2) i)) (by rw [nI_clamp (by omega)]) ?_
                    refine lv_istore (lv' := [(10, .int (zR S 23 (f 2) i)), (9, .int (nI i)), (6, .int (nI (zct (zon (zR S 23 (f 2))) i))), (1, .int 1), (2, .ref r0), (3, .int 4), (4, .int 2), (7, .ref (f 2)), (8, .int 10000)]) hx hb dX11_areFew_49 hl (by decide) rfl (fun ls hl => ?_)
                    refine lv_iload hx hb dX11_areFew_51 (lv_at hl 2 rfl) ?_
                    refine lv_iload hx hb dX11_areFew_53 (lv_at hl 0 rfl) ?_
                    refine lv_if_eq (tgt := 62) hx hb dX11_areFew_55 (by decide) (fun c55 => ?_) (fun c55 => ?_)
                    · refine lv_iconst (v := 0) hx hb dX11_areFew_62 (by decide) ?_
                      refine lv_iadd hx hb dX11_areFew_63 ?_
                      refine zrd (x := (nI (zct (zon (zR S 23 (f 2))) (i + 1)))) (by first | (rw [zct_f (show ¬ zon (zR S 23 (f 2)) i = true by rw [decide_eq_true_eq]; exact fun q => q c55), Int32.add_zero]) | (rw [zct_t (show zon (zR S 23 (f 2)) i = true from decide_eq_true c55), nI_1])) ?_
                      refine lv_istore (lv' := [(6, .int (nI (zct (zon (zR S 23 (f 2))) (i + 1)))), (10, .int (zR S 23 (f 2) i)), (9, .int (nI i)), (1, .int 1), (2, .ref r0), (3, .int 4), (4, .int 2), (7, .ref (f 2)), (8, .int 10000)]) hx hb dX11_areFew_64 hl (by decide) rfl (fun ls hl => ?_)
                      refine lv_iinc (v := (nI (i + 1))) (lv' := [(9, .int (nI (i + 1))), (6, .int (nI (zct (zon (zR S 23 (f 2))) (i + 1)))), (10, .int (zR S 23 (f 2) i)), (1, .int 1), (2, .ref r0), (3, .int 4), (4, .int 2), (7, .ref (f 2)), (8, .int 10000)]) hx hb dX11_areFew_66 hl (k := 2) rfl (nI_1 _) (by decide) rfl (fun ls hl => ?_)
                      refine lv_goto (tgt := 37) hx hb dX11_areFew_69 (by decide) ?_
                      exact ih_5 (i + 1) _ _ _ (by omega) (by omega) hw (lv_sub hl [0, 1, 3, 4, 5, 6, 7, 8] rfl)
                    · refine lv_iconst (v := 1) hx hb dX11_areFew_58 (by decide) ?_
                      refine lv_goto (tgt := 63) hx hb dX11_areFew_59 (by decide) ?_
                      refine lv_iadd hx hb dX11_areFew_63 ?_
                      refine zrd (x := (nI (zct (zon (zR S 23 (f 2))) (i + 1)))) (by first | (rw [zct_f (show ¬ zon (zR S 23 (f 2)) i = true by rw [decide_eq_true_eq]; exact fun q => q c55), Int32.add_zero]) | (rw [zct_t (show zon (zR S 23 (f 2)) i = true from decide_eq_true c55), nI_1])) ?_
                      refine lv_istore (lv' := [(6, .int (nI (zct (zon (zR S 23 (f 2))) (i + 1)))), (10, .int (zR S 23 (f 2) i)), (9, .int (nI i)), (1, .int 1), (2, .ref r0), (3, .int 4), (4, .int 2), (7, .ref (f 2)), (8, .int 10000)]) hx hb dX11_areFew_64 hl (by decide) rfl (fun ls hl => ?_)
                      refine lv_iinc (v := (nI (i + 1))) (lv' := [(9, .int (nI (i + 1))), (6, .int (nI (zct (zon (zR S 23 (f 2))) (i + 1)))), (10, .int (zR S 23 (f 2) i)), (1, .int 1), (2, .ref r0), (3, .int 4), (4, .int 2), (7, .ref (f 2)), (8, .int 10000)]) hx hb dX11_areFew_66 hl (k := 2) rfl (nI_1 _) (by decide) rfl (fun ls hl => ?_)
                      refine lv_goto (tgt := 37) hx hb dX11_areFew_69 (by decide) ?_
                      exact ih_5 (i + 1) _ _ _ (by omega) (by omega) hw (lv_sub hl [0, 1, 3, 4, 5, 6, 7, 8] rfl)
              exact lp_6 _ 0 _ _ _ (Nat.lt_succ_self _) (Nat.zero_le _) hw (lv_sub hl [0, 3, 6, 7, 8, 5, 2, 1] rfl)
            · have hi9 := z_lt (n := 10000) c41 (by omega) (by omega)
              refine lv_aload hx hb dX11_areFew_44 (lv_at hl 6 rfl) ?_
              refine lv_iload hx hb dX11_areFew_46 (lv_at hl 0 rfl) ?_
              refine zald_Z (a := (f 1)) C hw kW9 nW9 (vp_in_nI hi9 (by decide)) dX11_areFew_48 ?_
              refine zrd (x := (zR S 23 (f 1) i)) (by rw [nI_clamp (by omega)]) ?_
              refine lv_istore (lv' := [(10, .int (zR S 23 (f 1) i)), (9, .int (nI i)), (6, .int (nI (zct (zon (zR S 23 (f 1))) i))), (1, .int 1), (2, .ref r0), (3, .int 4), (4, .int 1), (7, .ref (f 1)), (8, .int 10000)]) hx hb dX11_areFew_49 hl (by decide) rfl (fun ls hl => ?_)
              refine lv_iload hx hb dX11_areFew_51 (lv_at hl 2 rfl) ?_
              refine lv_iload hx hb dX11_areFew_53 (lv_at hl 0 rfl) ?_
              refine lv_if_eq (tgt := 62) hx hb dX11_areFew_55 (by decide) (fun c55 => ?_) (fun c55 => ?_)
              · refine lv_iconst (v := 0) hx hb dX11_areFew_62 (by decide) ?_
                refine lv_iadd hx hb dX11_areFew_63 ?_
                refine zrd (x := (nI (zct (zon (zR S 23 (f 1))) (i + 1)))) (by first | (rw [zct_f (show ¬ zon (zR S 23 (f 1)) i = true by rw [decide_eq_true_eq]; exact fun q => q c55), Int32.add_zero]) | (rw [zct_t (show zon (zR S 23 (f 1)) i = true from decide_eq_true c55), nI_1])) ?_
                refine lv_istore (lv' := [(6, .int (nI (zct (zon (zR S 23 (f 1))) (i + 1)))), (10, .int (zR S 23 (f 1) i)), (9, .int (nI i)), (1, .int 1), (2, .ref r0), (3, .int 4), (4, .int 1), (7, .ref (f 1)), (8, .int 10000)]) hx hb dX11_areFew_64 hl (by decide) rfl (fun ls hl => ?_)
                refine lv_iinc (v := (nI (i + 1))) (lv' := [(9, .int (nI (i + 1))), (6, .int (nI (zct (zon (zR S 23 (f 1))) (i + 1)))), (10, .int (zR S 23 (f 1) i)), (1, .int 1), (2, .ref r0), (3, .int 4), (4, .int 1), (7, .ref (f 1)), (8, .int 10000)]) hx hb dX11_areFew_66 hl (k := 2) rfl (nI_1 _) (by decide) rfl (fun ls hl => ?_)
                refine lv_goto (tgt := 37) hx hb dX11_areFew_69 (by decide) ?_
                exact ih_3 (i + 1) _ _ _ (by omega) (by omega) hw (lv_sub hl [0, 1, 3, 4, 5, 6, 7, 8] rfl)
              · refine lv_iconst (v := 1) hx hb dX11_areFew_58 (by decide) ?_
                refine lv_goto (tgt := 63) hx hb dX11_areFew_59 (by decide) ?_
                refine lv_iadd hx hb dX11_areFew_63 ?_
                refine zrd (x := (nI (zct (zon (zR S 23 (f 1))) (i + 1)))) (by first | (rw [zct_f (show ¬ zon (zR S 23 (f 1)) i = true by rw [decide_eq_true_eq]; exact fun q => q c55), Int32.add_zero]) | (rw [zct_t (show zon (zR S 23 (f 1)) i = true from decide_eq_true c55), nI_1])) ?_
                refine lv_istore (lv' := [(6, .int (nI (zct (zon (zR S 23 (f 1))) (i + 1)))), (10, .int (zR S 23 (f 1) i)), (9, .int (nI i)), (1, .int 1), (2, .ref r0), (3, .int 4), (4, .int 1), (7, .ref (f 1)), (8, .int 10000)]) hx hb dX11_areFew_64 hl (by decide) rfl (fun ls hl => ?_)
                refine lv_iinc (v := (nI (i + 1))) (lv' := [(9, .int (nI (i + 1))), (6, .int (nI (zct (zon (zR S 23 (f 1))) (i + 1)))), (10, .int (zR S 23 (f 1) i)), (1, .int 1), (2, .ref r0), (3, .int 4), (4, .int 1), (7, .ref (f 1)), (8, .int 10000)]) hx hb dX11_areFew_66 hl (k := 2) rfl (nI_1 _) (by decide) rfl (fun ls hl => ?_)
                refine lv_goto (tgt := 37) hx hb dX11_areFew_69 (by decide) ?_
                exact ih_3 (i + 1) _ _ _ (by omega) (by omega) hw (lv_sub hl [0, 1, 3, 4, 5, 6, 7, 8] rfl)
        exact lp_4 _ 0 _ _ _ (Nat.lt_succ_self _) (Nat.zero_le _) hw (lv_sub hl [0, 3, 6, 7, 8, 5, 2, 1] rfl)
      · have hi9 := z_lt (n := 10000) c41 (by omega) (by omega)
        refine lv_aload hx hb dX11_areFew_44 (lv_at hl 6 rfl) ?_
        refine lv_iload hx hb dX11_areFew_46 (lv_at hl 0 rfl) ?_
        refine zald_Z (a := (f 0)) C hw kW9 nW9 (vp_in_nI hi9 (by decide)) dX11_areFew_48 ?_
        refine zrd (x := (zR S 23 (f 0) i)) (by rw [nI_clamp (by omega)]) ?_
        refine lv_istore (lv' := [(10, .int (zR S 23 (f 0) i)), (9, .int (nI i)), (6, .int (nI (zct (zon (zR S 23 (f 0))) i))), (1, .int 1), (2, .ref r0), (3, .int 4), (4, .int 0), (7, .ref (f 0)), (8, .int 10000)]) hx hb dX11_areFew_49 hl (by decide) rfl (fun ls hl => ?_)
        refine lv_iload hx hb dX11_areFew_51 (lv_at hl 2 rfl) ?_
        refine lv_iload hx hb dX11_areFew_53 (lv_at hl 0 rfl) ?_
        refine lv_if_eq (tgt := 62) hx hb dX11_areFew_55 (by decide) (fun c55 => ?_) (fun c55 => ?_)
        · refine lv_iconst (v := 0) hx hb dX11_areFew_62 (by decide) ?_
          refine lv_iadd hx hb dX11_areFew_63 ?_
          refine zrd (x := (nI (zct (zon (zR S 23 (f 0))) (i + 1)))) (by first | (rw [zct_f (show ¬ zon (zR S 23 (f 0)) i = true by rw [decide_eq_true_eq]; exact fun q => q c55), Int32.add_zero]) | (rw [zct_t (show zon (zR S 23 (f 0)) i = true from decide_eq_true c55), nI_1])) ?_
          refine lv_istore (lv' := [(6, .int (nI (zct (zon (zR S 23 (f 0))) (i + 1)))), (10, .int (zR S 23 (f 0) i)), (9, .int (nI i)), (1, .int 1), (2, .ref r0), (3, .int 4), (4, .int 0), (7, .ref (f 0)), (8, .int 10000)]) hx hb dX11_areFew_64 hl (by decide) rfl (fun ls hl => ?_)
          refine lv_iinc (v := (nI (i + 1))) (lv' := [(9, .int (nI (i + 1))), (6, .int (nI (zct (zon (zR S 23 (f 0))) (i + 1)))), (10, .int (zR S 23 (f 0) i)), (1, .int 1), (2, .ref r0), (3, .int 4), (4, .int 0), (7, .ref (f 0)), (8, .int 10000)]) hx hb dX11_areFew_66 hl (k := 2) rfl (nI_1 _) (by decide) rfl (fun ls hl => ?_)
          refine lv_goto (tgt := 37) hx hb dX11_areFew_69 (by decide) ?_
          exact ih_1 (i + 1) _ _ _ (by omega) (by omega) hw (lv_sub hl [0, 1, 3, 4, 5, 6, 7, 8] rfl)
        · refine lv_iconst (v := 1) hx hb dX11_areFew_58 (by decide) ?_
          refine lv_goto (tgt := 63) hx hb dX11_areFew_59 (by decide) ?_
          refine lv_iadd hx hb dX11_areFew_63 ?_
          refine zrd (x := (nI (zct (zon (zR S 23 (f 0))) (i + 1)))) (by first | (rw [zct_f (show ¬ zon (zR S 23 (f 0)) i = true by rw [decide_eq_true_eq]; exact fun q => q c55), Int32.add_zero]) | (rw [zct_t (show zon (zR S 23 (f 0)) i = true from decide_eq_true c55), nI_1])) ?_
          refine lv_istore (lv' := [(6, .int (nI (zct (zon (zR S 23 (f 0))) (i + 1)))), (10, .int (zR S 23 (f 0) i)), (9, .int (nI i)), (1, .int 1), (2, .ref r0), (3, .int 4), (4, .int 0), (7, .ref (f 0)), (8, .int 10000)]) hx hb dX11_areFew_64 hl (by decide) rfl (fun ls hl => ?_)
          refine lv_iinc (v := (nI (i + 1))) (lv' := [(9, .int (nI (i + 1))), (6, .int (nI (zct (zon (zR S 23 (f 0))) (i + 1)))), (10, .int (zR S 23 (f 0) i)), (1, .int 1), (2, .ref r0), (3, .int 4), (4, .int 0), (7, .ref (f 0)), (8, .int 10000)]) hx hb dX11_areFew_66 hl (k := 2) rfl (nI_1 _) (by decide) rfl (fun ls hl => ?_)
          refine lv_goto (tgt := 37) hx hb dX11_areFew_69 (by decide) ?_
          exact ih_1 (i + 1) _ _ _ (by omega) (by omega) hw (lv_sub hl [0, 1, 3, 4, 5, 6, 7, 8] rfl)
  exact lp_2 _ 0 _ _ _ (Nat.lt_succ_self _) (Nat.zero_le _) hw (lv_sub hl [0, 3, 8, 7, 6, 5, 2, 1] rfl)

