set_option maxHeartbeats 4000000 in
set_option maxRecDepth 100000 in
/-- X11_turns -/
theorem c_X11_turns (l : Launch) (D : va_G) (y : Nat → ClassId) (base : Nat) (S : zS) (r0 : Nat) (w0 : Nat) (p0 : Int32) (p1 : Int32) (hk : zK S r0 = 35) (hn : zN S r0 = 4) (hp : 0 ≤ p0 ∧ p0 ≤ 3) (he : zP S r0 p0.toNatClampNeg = some w0) (hw0 : zK S w0 = 23) (hw1 : zN S w0 = 10000) (hq : 0 ≤ p1) : zMi l yX11_turns wsX11_turns ({ frames := 0, cells := 0, slots := 0, locals := 0 }) [.ref r0, .int p0, .int p1] D y base S (fun (r : Int32) (S1 : zS) => (p1 ≤ 9999 ∧ r = 1 ∧ S1 = zsR S 23 w0 (upd (zR S 23 w0) p1.toNatClampNeg (zno (zR S 23 w0 p1.toNatClampNeg)))) ∨ (¬ p1 ≤ 9999 ∧ r = 0 ∧ S1 = S)) 0 0 := by
  refine zMet_of (cc := cX11_turns) (maxL := 3) (ret := (some .boolean)) (own := RX11) (by decide +kernel) rfl rfl (Nat.le_of_ble_eq_true rfl) ?_
  intro p e s m args below meth c ls C hr hlocks hnm hw hl
  have hx := C.1
  have hb := C.2.1
  have hown := C.2.2.2.1
  have hts := C.2.2.2.2
  have hl : lv_has ls 3 [(0, .ref r0), (1, .int p0), (2, .int p1)] := hl
  refine lv_iload_n hx hb dX11_turns_0 rfl (lv_at hl 2 rfl) ?_
  refine lv_sipush (v := 9999) hx hb dX11_turns_1 (by decide) ?_
  refine lv_icmp_le (tgt := 9) hx hb dX11_turns_4 (by decide) (fun c4 => ?_) (fun c4 => ?_)
  · refine lv_aload_n hx hb dX11_turns_9 rfl (lv_at hl 0 rfl) ?_
    refine lv_iload_n hx hb dX11_turns_10 rfl (lv_at hl 1 rfl) ?_
    refine zald_P (a := r0) (v := w0) C hw hk (by decide) (t0 := 8) rfl rfl hn (zin_of (N := 4) (by decide) (by grind) (by grind)) he dX11_turns_11 ?_
    refine lv_iload_n hx hb dX11_turns_12 rfl (lv_at hl 2 rfl) ?_
    refine lv_aload_n hx hb dX11_turns_13 rfl (lv_at hl 0 rfl) ?_
    refine lv_iload_n hx hb dX11_turns_14 rfl (lv_at hl 1 rfl) ?_
    refine zald_P (a := r0) (v := w0) C hw hk (by decide) (t0 := 8) rfl rfl hn (zin_of (N := 4) (by decide) (by grind) (by grind)) he dX11_turns_15 ?_
    refine lv_iload_n hx hb dX11_turns_16 rfl (lv_at hl 2 rfl) ?_
    refine zald_Z (a := w0) C hw hw0 hw1 (zin_of (N := 10000) (by decide) (by grind) (by grind)) dX11_turns_17 ?_
    refine lv_if_ne (tgt := 25) hx hb dX11_turns_18 (by decide) (fun c18 => ?_) (fun c18 => ?_)
    · refine lv_iconst (v := 0) hx hb dX11_turns_25 (by decide) ?_
      refine zrd (x := (zno (zR S 23 w0 p1.toNatClampNeg))) (by unfold zno; rw [if_neg c18]) ?_
      refine zast_Z (a := w0) C hw hw0 hw1 (zin_of (N := 10000) (by decide) (by grind) (by grind)) dX11_turns_26 (fun H locs hw => ?_)
      refine lv_iconst (v := 1) hx hb dX11_turns_27 (by decide) ?_
      exact zri C hw hr hlocks (by decide) (Or.inl ⟨c4, rfl, by rw [zvn]⟩) ⟨Nat.le_of_ble_eq_true rfl, Nat.le_of_ble_eq_true rfl⟩ dX11_turns_28
    · refine lv_iconst (v := 1) hx hb dX11_turns_21 (by decide) ?_
      refine zrd (x := (zno (zR S 23 w0 p1.toNatClampNeg))) (by unfold zno; rw [if_pos c18]) ?_
      refine lv_goto (tgt := 26) hx hb dX11_turns_22 (by decide) ?_
      refine zast_Z (a := w0) C hw hw0 hw1 (zin_of (N := 10000) (by decide) (by grind) (by grind)) dX11_turns_26 (fun H locs hw => ?_)
      refine lv_iconst (v := 1) hx hb dX11_turns_27 (by decide) ?_
      exact zri C hw hr hlocks (by decide) (Or.inl ⟨c4, rfl, by rw [zvn]⟩) ⟨Nat.le_of_ble_eq_true rfl, Nat.le_of_ble_eq_true rfl⟩ dX11_turns_28
  · refine lv_iconst (v := 0) hx hb dX11_turns_7 (by decide) ?_
    exact zri C hw hr hlocks (by decide) (Or.inr ⟨c4, rfl, rfl⟩) ⟨Nat.le_of_ble_eq_true rfl, Nat.le_of_ble_eq_true rfl⟩ dX11_turns_8

