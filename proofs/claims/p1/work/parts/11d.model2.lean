set_option maxHeartbeats 4000000 in
set_option maxRecDepth 100000 in
/-- X11_many -/
theorem c_X11_many (l : Launch) (D : va_G) (y : Nat → ClassId) (base : Nat) (S : zS) (x0 : Nat) (f0 : Nat) (w0 : Nat) (p0 : Int32) (hk : zK S x0 = 15) (hq : zQ S 242 x0 = some f0) (hf : zK S f0 = 35) (hn : zN S f0 = 4) (hp : 0 ≤ p0 ∧ p0 ≤ 3) (he : zP S f0 p0.toNatClampNeg = some w0) (hw0 : zK S w0 = 23) (hw1 : zN S w0 = 10000) : zMi l yX11_many wsX11_many ({ frames := 0, cells := 0, slots := 0, locals := 0 }) [.ref x0, .int p0] D y base S (fun (r : Int32) (S1 : zS) => r = nI (zct (zon (zR S 23 w0)) 10000) ∧ S1 = S) 0 0 := by
  refine zMet_of (cc := cX11_many) (maxL := 7) (ret := (some .int)) (own := RX11) (by decide +kernel) rfl rfl (Nat.le_of_ble_eq_true rfl) ?_
  intro p e s m args below meth c ls C hr hlocks hnm hw hl
  have hx := C.1
  have hb := C.2.1
  have hown := C.2.2.2.1
  have hts := C.2.2.2.2
  have hl : lv_has ls 7 [(0, .ref x0), (1, .int p0)] := hl
  have in_X11 : ∀ w ∈ wsX110, w ∈ wsX11_many := by decide +kernel
  refine lv_iconst (v := 0) hx hb dX11_many_0 (by decide) ?_
  refine lv_istore_n (lv' := [(2, .int 0), (0, .ref x0), (1, .int p0)]) hx hb dX11_many_1 rfl hl (by decide) rfl (fun ls hl => ?_)
  refine lv_aload_n hx hb dX11_many_2 rfl (lv_at hl 1 rfl) ?_
  refine g_Mod_flips (a := x0) (v := f0) C hw hk in_X11 (by decide +kernel) hq dX11_many_3 ?_
  refine lv_iload_n hx hb dX11_many_6 rfl (lv_at hl 2 rfl) ?_
  refine zald_P (a := f0) (v := w0) C hw hf (by decide) (t0 := 8) rfl rfl hn (zin_of (N := 4) (by decide) (by grind) (by grind)) he dX11_many_7 ?_
  refine lv_astore_n (lv' := [(3, .ref w0), (2, .int 0), (0, .ref x0), (1, .int p0)]) hx hb dX11_many_8 rfl hl (by decide) rfl (fun ls hl => ?_)
  refine lv_aload_n hx hb dX11_many_9 rfl (lv_at hl 0 rfl) ?_
  refine zalen (a := w0) (v := 10000) C hw hw0 (by decide) (t0 := 2) rfl (zlen hw1 rfl) dX11_many_10 ?_
  refine lv_istore (lv' := [(4, .int 10000), (3, .ref w0), (2, .int 0), (0, .ref x0), (1, .int p0)]) hx hb dX11_many_11 hl (by decide) rfl (fun ls hl => ?_)
  refine lv_iconst (v := 0) hx hb dX11_many_13 (by decide) ?_
  refine lv_istore (lv' := [(5, .int 0), (4, .int 10000), (3, .ref w0), (2, .int 0), (0, .ref x0), (1, .int p0)]) hx hb dX11_many_14 hl (by decide) rfl (fun ls hl => ?_)
  have lp_2 : ∀ (n9 : Nat) (i : Nat) (H : Heap) (locs : List Loc) (ls : Array Slot), 10000 - i < n9 → (i ≤ 10000) → zW D y base S s H locs → lv_has ls 7 [(5, .int (nI i)), (2, .int (nI (zct (zon (zR S 23 w0)) i))), (3, .ref w0), (4, .int 10000), (0, .ref x0), (1, .int p0)] → W p l e (headSpec wsX11_many ({ frames := 0, cells := 0, slots := 0, locals := 0 })).room s m args below meth c H locs 0 0 (MQ below (va_Qi (fun (r : Int32) (S1 : zS) => r = nI (zct (zon (zR S 23 w0)) 10000) ∧ S1 = S) (zPost D y base) (zA base)) args s 0 0 (zA base)) (F0 m 16 ls []) := by
    intro n9
    induction n9 with
    | zero =>
      intro i H locs ls hn9
      exact absurd hn9 (Nat.not_lt_zero _)
    | succ n9 ih_1 =>
      intro i H locs ls hn9 hi hw hl
      refine lv_iload hx hb dX11_many_16 (lv_at hl 0 rfl) ?_
      refine lv_iload hx hb dX11_many_18 (lv_at hl 3 rfl) ?_
      refine lv_icmp_ge (tgt := 48) hx hb dX11_many_20 (by decide) (fun c20 => ?_) (fun c20 => ?_)
      · refine lv_iload_n hx hb dX11_many_48 rfl (lv_at hl 1 rfl) ?_
        exact zri C hw hr hlocks rfl ⟨by rw [show i = 10000 by have := z_ge (n := 10000) c20 (by omega) (by omega); omega], rfl⟩ ⟨Nat.le_of_ble_eq_true rfl, Nat.le_of_ble_eq_true rfl⟩ dX11_many_49
      · have hi9 := z_lt (n := 10000) c20 (by omega) (by omega)
        refine lv_aload_n hx hb dX11_many_23 rfl (lv_at hl 2 rfl) ?_
        refine lv_iload hx hb dX11_many_24 (lv_at hl 0 rfl) ?_
        refine zald_Z (a := w0) C hw hw0 hw1 (vp_in_nI hi9 (by decide)) dX11_many_26 ?_
        refine zrd (x := (zR S 23 w0 i)) (by rw [nI_clamp (by omega)]) ?_
        refine lv_istore (lv' := [(6, .int (zR S 23 w0 i)), (5, .int (nI i)), (2, .int (nI (zct (zon (zR S 23 w0)) i))), (3, .ref w0), (4, .int 10000), (0, .ref x0), (1, .int p0)]) hx hb dX11_many_27 hl (by decide) rfl (fun ls hl => ?_)
        refine lv_iload_n hx hb dX11_many_29 rfl (lv_at hl 2 rfl) ?_
        refine lv_iload hx hb dX11_many_30 (lv_at hl 0 rfl) ?_
        refine lv_if_eq (tgt := 39) hx hb dX11_many_32 (by decide) (fun c32 => ?_) (fun c32 => ?_)
        · refine lv_iconst (v := 0) hx hb dX11_many_39 (by decide) ?_
          refine lv_iadd hx hb dX11_many_40 ?_
          refine zrd (x := (nI (zct (zon (zR S 23 w0)) (i + 1)))) (by first | (rw [zct_f (show ¬ zon (zR S 23 w0) i = true by rw [decide_eq_true_eq]; exact fun q => q c32), Int32.add_zero]) | (rw [zct_t (show zon (zR S 23 w0) i = true from decide_eq_true c32), nI_1])) ?_
          refine lv_istore_n (lv' := [(2, .int (nI (zct (zon (zR S 23 w0)) (i + 1)))), (6, .int (zR S 23 w0 i)), (5, .int (nI i)), (3, .ref w0), (4, .int 10000), (0, .ref x0), (1, .int p0)]) hx hb dX11_many_41 rfl hl (by decide) rfl (fun ls hl => ?_)
          refine lv_iinc (v := (nI (i + 1))) (lv' := [(5, .int (nI (i + 1))), (2, .int (nI (zct (zon (zR S 23 w0)) (i + 1)))), (6, .int (zR S 23 w0 i)), (3, .ref w0), (4, .int 10000), (0, .ref x0), (1, .int p0)]) hx hb dX11_many_42 hl (k := 2) rfl (nI_1 _) (by decide) rfl (fun ls hl => ?_)
          refine lv_goto (tgt := 16) hx hb dX11_many_45 (by decide) ?_
          exact ih_1 (i + 1) _ _ _ (by omega) (by omega) hw (lv_sub hl [0, 1, 3, 4, 5, 6] rfl)
        · refine lv_iconst (v := 1) hx hb dX11_many_35 (by decide) ?_
          refine lv_goto (tgt := 40) hx hb dX11_many_36 (by decide) ?_
          refine lv_iadd hx hb dX11_many_40 ?_
          refine zrd (x := (nI (zct (zon (zR S 23 w0)) (i + 1)))) (by first | (rw [zct_f (show ¬ zon (zR S 23 w0) i = true by rw [decide_eq_true_eq]; exact fun q => q c32), Int32.add_zero]) | (rw [zct_t (show zon (zR S 23 w0) i = true from decide_eq_true c32), nI_1])) ?_
          refine lv_istore_n (lv' := [(2, .int (nI (zct (zon (zR S 23 w0)) (i + 1)))), (6, .int (zR S 23 w0 i)), (5, .int (nI i)), (3, .ref w0), (4, .int 10000), (0, .ref x0), (1, .int p0)]) hx hb dX11_many_41 rfl hl (by decide) rfl (fun ls hl => ?_)
          refine lv_iinc (v := (nI (i + 1))) (lv' := [(5, .int (nI (i + 1))), (2, .int (nI (zct (zon (zR S 23 w0)) (i + 1)))), (6, .int (zR S 23 w0 i)), (3, .ref w0), (4, .int 10000), (0, .ref x0), (1, .int p0)]) hx hb dX11_many_42 hl (k := 2) rfl (nI_1 _) (by decide) rfl (fun ls hl => ?_)
          refine lv_goto (tgt := 16) hx hb dX11_many_45 (by decide) ?_
          exact ih_1 (i + 1) _ _ _ (by omega) (by omega) hw (lv_sub hl [0, 1, 3, 4, 5, 6] rfl)
  exact lp_2 _ 0 _ _ _ (Nat.lt_succ_self _) (Nat.zero_le _) hw (lv_sub hl [0, 3, 2, 1, 4, 5] rfl)

set_option maxHeartbeats 4000000 in
set_option maxRecDepth 100000 in
/-- X11_levelOf -/
theorem c_X11_levelOf (l : Launch) (D : va_G) (y : Nat → ClassId) (base : Nat) (S : zS) (b : Nat → Nat) (p0 : Int32) (p1 : Int32) (hM : zMd S b) (hM0 : zMd0 S b) (hp : 0 ≤ p0 ∧ p0 ≤ 3) (hq : 0 ≤ p1 ∧ p1 ≤ 9999) : zMi l yX11_levelOf wsX11_levelOf ({ frames := 0, cells := 0, slots := 0, locals := 0 }) [.ref (b 0), .int p0, .int p1] D y base S (fun (r : Int32) (S1 : zS) => r = 0 ∧ S1 = S) 0 0 := by
  refine zMet_of (cc := cX11_levelOf) (maxL := 5) (ret := (some .boolean)) (own := RX11) (by decide +kernel) rfl rfl (Nat.le_of_ble_eq_true rfl) ?_
  intro p e s m args below meth c ls C hr hlocks hnm hw hl
  have hx := C.1
  have hb := C.2.1
  have hown := C.2.2.2.1
  have hts := C.2.2.2.2
  have hl : lv_has ls 5 [(0, .ref (b 0)), (1, .int p0), (2, .int p1)] := hl
  have in_X11 : ∀ w ∈ wsX110, w ∈ wsX11_levelOf := by decide +kernel
  refine lv_aload_n hx hb dX11_levelOf_0 rfl (lv_at hl 0 rfl) ?_
  refine g_Mod_idles (a := (b 0)) (v := (b 1)) C hw hM.1 in_X11 (by decide +kernel) hM.2.1 dX11_levelOf_1 ?_
  refine lv_iload_n hx hb dX11_levelOf_4 rfl (lv_at hl 1 rfl) ?_
  refine zald_Z (a := (b 1)) C hw hM.2.2.2.2.2.2.2.1 hM.2.2.2.2.2.2.2.2.1 (zin_of (N := 4) (by decide) (by grind) (by grind)) dX11_levelOf_5 ?_
  refine zrd (x := 0) (hM0.2.2.2.2.2.1 _) ?_
  refine lv_istore_n (lv' := [(3, .int 0), (0, .ref (b 0)), (1, .int p0), (2, .int p1)]) hx hb dX11_levelOf_6 rfl hl (by decide) rfl (fun ls hl => ?_)
  refine lv_iconst (v := 0) hx hb dX11_levelOf_7 (by decide) ?_
  refine lv_istore (lv' := [(4, .int 0), (3, .int 0), (0, .ref (b 0)), (1, .int p0), (2, .int p1)]) hx hb dX11_levelOf_8 hl (by decide) rfl (fun ls hl => ?_)
  have lp_2 : ∀ (n9 : Nat) (i : Nat) (H : Heap) (locs : List Loc) (ls : Array Slot), 10001 - i < n9 → (i ≤ 10000) → zW D y base S s H locs → lv_has ls 5 [(4, .int (nI i)), (3, .int 0), (0, .ref (b 0)), (1, .int p0), (2, .int p1)] → W p l e (headSpec wsX11_levelOf ({ frames := 0, cells := 0, slots := 0, locals := 0 })).room s m args below meth c H locs 0 0 (MQ below (va_Qi (fun (r : Int32) (S1 : zS) => r = 0 ∧ S1 = S) (zPost D y base) (zA base)) args s 0 0 (zA base)) (F0 m 10 ls []) := by
    intro n9
    induction n9 with
    | zero =>
      intro i H locs ls hn9
      exact absurd hn9 (Nat.not_lt_zero _)
    | succ n9 ih_1 =>
      intro i H locs ls hn9 hi hw hl
      refine lv_iload hx hb dX11_levelOf_10 (lv_at hl 0 rfl) ?_
      refine lv_iload_n hx hb dX11_levelOf_12 rfl (lv_at hl 4 rfl) ?_
      refine lv_icmp_gt (tgt := 41) hx hb dX11_levelOf_13 (by decide) (fun c13 => ?_) (fun c13 => ?_)
      · refine lv_iload_n hx hb dX11_levelOf_41 rfl (lv_at hl 1 rfl) ?_
        exact zri C hw hr hlocks (by decide) (by first | exact ⟨rfl, rfl⟩ | exact rfl | (refine ⟨?_, rfl⟩; grind) | grind) ⟨Nat.le_of_ble_eq_true rfl, Nat.le_of_ble_eq_true rfl⟩ dX11_levelOf_42
      · have hi9 : i < 10000 := by obtain ⟨A, hA, e⟩ := z_9999 hq; rw [e] at c13; rcases Nat.lt_or_ge A i with g | g; exact absurd (nI_lt g (by omega)) c13; omega
        refine lv_iload_n hx hb dX11_levelOf_16 rfl (lv_at hl 1 rfl) ?_
        refine lv_aload_n hx hb dX11_levelOf_17 rfl (lv_at hl 2 rfl) ?_
        refine g_Mod_flips (a := (b 0)) (v := (b 2)) C hw hM.1 in_X11 (by decide +kernel) hM.2.2.1 dX11_levelOf_18 ?_
        refine lv_iload_n hx hb dX11_levelOf_21 rfl (lv_at hl 3 rfl) ?_
        obtain ⟨w1, eP1, kW1, nW1, zW1, eW1⟩ := zMd_f hM hM0 (p := p0) hp
        refine zald_P (a := (b 2)) (v := w1) C hw hM.2.2.2.2.2.2.2.2.2.1 (by decide) (t0 := 8) rfl rfl hM.2.2.2.2.2.2.2.2.2.2.1 (zin_of (N := 4) (by decide) (by grind) (by grind)) eP1 dX11_levelOf_22 ?_
        refine lv_iload hx hb dX11_levelOf_23 (lv_at hl 0 rfl) ?_
        refine zald_Z (a := w1) C hw kW1 nW1 (vp_in_nI hi9 (by decide)) dX11_levelOf_25 ?_
        refine zrd (x := 0) (zW1 _) ?_
        refine lv_icmp_eq (tgt := 33) hx hb dX11_levelOf_26 (by decide) (fun _ => ?_) (fun c26 => absurd c26 (by decide))
        refine lv_iconst (v := 0) hx hb dX11_levelOf_33 (by decide) ?_
        refine lv_istore_n (lv' := [(3, .int 0), (4, .int (nI i)), (0, .ref (b 0)), (1, .int p0), (2, .int p1)]) hx hb dX11_levelOf_34 rfl hl (by decide) rfl (fun ls hl => ?_)
        refine lv_iinc (v := (nI (i + 1))) (lv' := [(4, .int (nI (i + 1))), (3, .int 0), (0, .ref (b 0)), (1, .int p0), (2, .int p1)]) hx hb dX11_levelOf_35 hl (k := 1) rfl (nI_1 _) (by decide) rfl (fun ls hl => ?_)
        refine lv_goto (tgt := 10) hx hb dX11_levelOf_38 (by decide) ?_
        exact ih_1 (i + 1) _ _ _ (by omega) (by omega) hw (lv_sub hl [0, 1, 2, 3, 4] rfl)
  exact lp_2 _ 0 _ _ _ (Nat.lt_succ_self _) (Nat.zero_le _) hw (lv_sub hl [0, 1, 2, 3, 4] rfl)

set_option maxHeartbeats 4000000 in
set_option maxRecDepth 100000 in
/-- X11_level -/
theorem c_X11_level (l : Launch) (D : va_G) (y : Nat → ClassId) (base : Nat) (S : zS) (b : Nat → Nat) (p0 : Int32) (p1 : Int32) (hM : zMd S b) (hM0 : zMd0 S b) : zMi l yX11_level wsX11_level ({ frames := 3, cells := 0, slots := 0, locals := 66 }) [.ref (b 0), .int p0, .int p1] D y base S (fun (r : Int32) (S1 : zS) => zK S1 (b 0) = 15 ∧ zI S1 240 (b 0) = kd_flip p0 p1 ∧ (kd_flip p0 p1 = 0 → r = 0)) 0 0 := by
  refine zMet_of (cc := cX11_level) (maxL := 3) (ret := (some .boolean)) (own := RX11) (by decide +kernel) rfl rfl (Nat.le_of_ble_eq_true rfl) ?_
  intro p e s m args below meth c ls C hr hlocks hnm hw hl
  have hx := C.1
  have hb := C.2.1
  have hown := C.2.2.2.1
  have hts := C.2.2.2.2
  have hl : lv_has ls 3 [(0, .ref (b 0)), (1, .int p0), (2, .int p1)] := hl
  have in_X11 : ∀ w ∈ wsX110, w ∈ wsX11_level := by decide +kernel
  refine lv_aload_n hx hb dX11_level_0 rfl (lv_at hl 0 rfl) ?_
  refine lv_iload_n hx hb dX11_level_1 rfl (lv_at hl 1 rfl) ?_
  refine zcV_i (As := [.int p0]) (rest := []) (n9 := 1) (b := (b 0)) C hw (c_X11_noWire l D y base S (b 0) p0 hM.1) gX11_level_X11_noWire rfl (by decide +kernel) ⟨⟨rfl, rfl⟩, Nat.le_of_ble_eq_true rfl, Nat.le_of_ble_eq_true rfl⟩ hM.1 ⟨by decide, by decide⟩ rfl rfl hl.1 rfl (Nat.le_of_ble_eq_true rfl) ⟨Nat.le_of_ble_eq_true rfl, Nat.le_of_ble_eq_true rfl⟩ dX11_level_2 (fun r2 S2 H locs hp2 hw => ?_)
  obtain ⟨rfl, rfl⟩ := hp2
  refine lv_if_eq (tgt := 10) hx hb dX11_level_5 (by decide) (fun c5 => ?_) (fun c5 => ?_)
  · replace c5 := zb0.mp c5
    refine lv_aload_n hx hb dX11_level_10 rfl (lv_at hl 0 rfl) ?_
    refine lv_iload_n hx hb dX11_level_11 rfl (lv_at hl 2 rfl) ?_
    refine lv_i2l (v := p1.toInt64) hx hb dX11_level_12 rfl ?_
    refine lv_lconst (v := ((0 : Int32).toInt64)) hx hb dX11_level_13 (by decide) ?_
    refine lv_ldc2 (own := RX11) (v := ((9999 : Int32).toInt64)) hx hb hown (hts (.constantLong RX11 60 (9999)) (by decide +kernel)) dX11_level_14 ?_
    refine zcS_i (As := [.long (p1.toInt64), .long ((0 : Int32).toInt64), .long ((9999 : Int32).toInt64)]) (rest := [.ref (b 0)]) (n9 := 3) C hw (c_X11_in l D y base (zsI S 240 (b 0) (zb (¬ (0 ≤ p0 ∧ p0 ≤ 3)))) p1 (0 : Int32) (9999 : Int32) ) gX11_level_X11_in rfl (by decide +kernel) ⟨⟨rfl, rfl⟩, Nat.le_of_ble_eq_true rfl, Nat.le_of_ble_eq_true rfl⟩ rfl hl.1 rfl (Nat.le_of_ble_eq_true rfl) ⟨Nat.le_of_ble_eq_true rfl, Nat.le_of_ble_eq_true rfl⟩ dX11_level_17 (fun r17 S17 H locs hp17 hw => ?_)
    obtain ⟨rfl, hS9⟩ := hp17
    have hS9 := hS9.symm
    subst hS9
    refine lv_if_eq (tgt := 27) hx hb dX11_level_20 (by decide) (fun c20 => ?_) (fun c20 => ?_)
    · replace c20 := zb0.mp c20
      refine lv_iconst (v := 2) hx hb dX11_level_27 (by decide) ?_
      refine p_Mod_thrown (a := (b 0)) (v := 2) C hw hM.1 in_X11 (by decide +kernel) dX11_level_28 (fun H locs hw => ?_)
      refine lv_aload_n hx hb dX11_level_31 rfl (lv_at hl 0 rfl) ?_
      refine g_Mod_thrown (a := (b 0)) (v := 2) C hw hM.1 in_X11 (by decide +kernel) (zI_s (zsI S 240 (b 0) (zb (¬ (0 ≤ p0 ∧ p0 ≤ 3)))) 240 (b 0) 2) dX11_level_32 ?_
      refine lv_if_ne (tgt := 51) hx hb dX11_level_35 (by decide) (fun _ => ?_) (fun c35 => absurd c35 (by decide))
      refine lv_iconst (v := 0) hx hb dX11_level_51 (by decide) ?_
      exact zri C hw hr hlocks (by decide) ⟨hM.1, ((zI_s (zsI S 240 (b 0) (zb (¬ (0 ≤ p0 ∧ p0 ≤ 3)))) 240 (b 0) 2)).trans (by unfold kd_flip; (try unfold zb); grind), (fun h9 => by first | rfl | (revert h9; unfold kd_flip; (try unfold zb); grind))⟩ ⟨Nat.le_of_ble_eq_true rfl, Nat.le_of_ble_eq_true rfl⟩ dX11_level_52
    · replace c20 := zb1.mp c20
      refine lv_iconst (v := 0) hx hb dX11_level_23 (by decide) ?_
      refine lv_goto (tgt := 28) hx hb dX11_level_24 (by decide) ?_
      refine p_Mod_thrown (a := (b 0)) (v := 0) C hw hM.1 in_X11 (by decide +kernel) dX11_level_28 (fun H locs hw => ?_)
      refine lv_aload_n hx hb dX11_level_31 rfl (lv_at hl 0 rfl) ?_
      refine g_Mod_thrown (a := (b 0)) (v := 0) C hw hM.1 in_X11 (by decide +kernel) (zI_s (zsI S 240 (b 0) (zb (¬ (0 ≤ p0 ∧ p0 ≤ 3)))) 240 (b 0) 0) dX11_level_32 ?_
      refine lv_if_ne (tgt := 51) hx hb dX11_level_35 (by decide) (fun c35 => absurd c35 (by decide)) (fun _ => ?_)
      refine lv_aload_n hx hb dX11_level_38 rfl (lv_at hl 0 rfl) ?_
      refine lv_iload_n hx hb dX11_level_39 rfl (lv_at hl 1 rfl) ?_
      refine lv_iload_n hx hb dX11_level_40 rfl (lv_at hl 2 rfl) ?_
      refine zcV_i (As := [.int p0, .int p1]) (rest := []) (n9 := 2) (b := (b 0)) C hw (c_X11_levelOf l D y base (zsI (zsI S 240 (b 0) (zb (¬ (0 ≤ p0 ∧ p0 ≤ 3)))) 240 (b 0) 0) b p0 p1 hM (by first | assumption | grind) (by first | assumption | grind) (by first | assumption | decide | grind)) gX11_level_X11_levelOf rfl (by decide +kernel) ⟨⟨rfl, rfl⟩, Nat.le_of_ble_eq_true rfl, Nat.le_of_ble_eq_true rfl⟩ hM.1 ⟨by decide, by decide⟩ rfl rfl hl.1 rfl (Nat.le_of_ble_eq_true rfl) ⟨Nat.le_of_ble_eq_true rfl, Nat.le_of_ble_eq_true rfl⟩ dX11_level_41 (fun r41 S41 H locs hp41 hw => ?_)
      obtain ⟨rfl, hS9⟩ := hp41
      have hS9 := hS9.symm
      subst hS9
      refine lv_if_eq (tgt := 51) hx hb dX11_level_44 (by decide) (fun _ => ?_) (fun c44 => absurd c44 (by decide))
      refine lv_iconst (v := 0) hx hb dX11_level_51 (by decide) ?_
      exact zri C hw hr hlocks (by decide) ⟨hM.1, ((zI_s (zsI S 240 (b 0) (zb (¬ (0 ≤ p0 ∧ p0 ≤ 3)))) 240 (b 0) 0)).trans (by unfold kd_flip; (try unfold zb); grind), (fun h9 => by first | rfl | (revert h9; unfold kd_flip; (try unfold zb); grind))⟩ ⟨Nat.le_of_ble_eq_true rfl, Nat.le_of_ble_eq_true rfl⟩ dX11_level_52
  · replace c5 := zb1.mp c5
    refine lv_iconst (v := 0) hx hb dX11_level_8 (by decide) ?_
    exact zri C hw hr hlocks (by decide) ⟨hM.1, ((zI_s S 240 (b 0) (zb (¬ (0 ≤ p0 ∧ p0 ≤ 3))))).trans (by unfold kd_flip; (try unfold zb); grind), (fun h9 => by first | rfl | (revert h9; unfold kd_flip; (try unfold zb); grind))⟩ ⟨Nat.le_of_ble_eq_true rfl, Nat.le_of_ble_eq_true rfl⟩ dX11_level_9

