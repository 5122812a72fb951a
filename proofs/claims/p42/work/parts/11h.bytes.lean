set_option maxHeartbeats 4000000 in
set_option maxRecDepth 100000 in
/-- X2_takeBit -/
theorem c_X2_takeBit (l : Launch) (D : va_G) (y : Nat → ClassId) (base : Nat) (S : zS) (q0 : Nat) (t0 : Nat) (k1 : Nat) (k2 : Nat) (k3 : Nat) (k4 : Nat) (k5 : Nat) (bs : List Bool) (fb : Nat) (L : List zNt) (b : Bool) (i : Nat) (hNt : zNts S t0 k1 k2 k3 k4 k5) (hFw : zFw S q0 t0 bs fb) (hNo : zNo S t0 k1 k2 k3 k4 k5 L) (hNd : zNd k1 k2 k3 k4 k5) (hLl : L.length < 200) (hbl : bs.length < 8) : zMv l yX2_takeBit wsX2_takeBit ({ frames := 1, cells := 0, slots := 0, locals := 25 }) [.ref q0, .int (zb (b = true)), .int (nI i)] D y base S (fun (S1 : zS) => zFP S1 q0 t0 k1 k2 k3 k4 k5 (zFB b i (bs, fb, L)) ∧ zFr S S1 (zWI q0 t0) (zNR k1 k2 k3 k4 k5)) 0 0 := by
  refine zMet_of (cc := cX2_takeBit) (maxL := 3) (ret := none) (own := RX2) (by decide +kernel) rfl rfl (Nat.le_of_ble_eq_true rfl) ?_
  intro p e s m args below meth c ls C hr hlocks hnm hw hl
  have hx := C.1
  have hb := C.2.1
  have hown := C.2.2.2.1
  have hts := C.2.2.2.2
  have hl : lv_has ls 3 [(0, .ref q0), (1, .int (zb (b = true))), (2, .int (nI i))] := hl
  have in_X2 : ∀ w ∈ wsX20, w ∈ wsX2_takeBit := by decide +kernel
  refine lv_aload_n hx hb dX2_takeBit_0 rfl (lv_at hl 0 rfl) ?_
  refine g_Four_bits (a := q0) (v := (nI bs.length)) C hw hFw.1 in_X2 (by decide +kernel) hFw.2.2.1 dX2_takeBit_1 ?_
  refine lv_if_ne (tgt := 17) hx hb dX2_takeBit_4 (by decide) (fun c4 => ?_) (fun c4 => ?_)
  · have hbs : ¬ bs = [] := fun e => c4 (by rw [e]; rfl)
    have hw9 := hFw.2.2.2 hbs
    refine lv_aload_n hx hb dX2_takeBit_17 rfl (lv_at hl 0 rfl) ?_
    refine lv_aload_n hx hb dX2_takeBit_18 rfl (lv_at hl 0 rfl) ?_
    refine g_Four_word (a := q0) (v := (nI (zval bs))) C hw hFw.1 in_X2 (by decide +kernel) hw9.1 dX2_takeBit_19 ?_
    refine lv_iconst (v := 1) hx hb dX2_takeBit_22 (by decide) ?_
    refine lv_ishl hx hb dX2_takeBit_23 ?_
    refine lv_iload_n hx hb dX2_takeBit_24 rfl (lv_at hl 1 rfl) ?_
    have jn_1 : ∀ (xb_2 : Int32) (H : Heap) (locs : List Loc) (ls : Array Slot), zW D y base S s H locs → lv_has ls 3 [(0, .ref q0), (1, .int (zb (b = true))), (2, .int (nI i))] → ((b = true ∧ xb_2 = 1) ∨ (b = false ∧ xb_2 = 0)) → W p l e (headSpec wsX2_takeBit ({ frames := 1, cells := 0, slots := 0, locals := 25 })).room s m args below meth c H locs 0 0 (MQ below (va_Qv (fun (S1 : zS) => zFP S1 q0 t0 k1 k2 k3 k4 k5 (zFB b i (bs, fb, L)) ∧ zFr S S1 (zWI q0 t0) (zNR k1 k2 k3 k4 k5)) (zPost D y base) (zA base)) args s 0 0 (zA base)) (F0 m 33 ls [.int xb_2, .int ((nI (zval bs)) <<< (1 &&& 31)), .ref q0]) := by
      intro xb_2 H locs ls hw hl f_3
      have fbit := f_3
      refine lv_ior hx hb dX2_takeBit_33 ?_
      refine zrd (x := (nI (zval (b :: bs)))) (zbt b (by omega) rfl fbit) ?_
      refine p_Four_word (a := q0) (v := (nI (zval (b :: bs)))) C hw hFw.1 in_X2 (by decide +kernel) dX2_takeBit_34 (fun H locs hw => ?_)
      refine lv_aload_n hx hb dX2_takeBit_37 rfl (lv_at hl 0 rfl) ?_
      refine lv_dup hx hb dX2_takeBit_38 rfl ?_
      refine g_Four_bits (a := q0) (v := (nI bs.length)) C hw hFw.1 in_X2 (by decide +kernel) (zI_t (S := S) (t := 98) (a := q0) (v := (nI (zval (b :: bs)))) (t' := 97) (a' := q0) (u := (nI bs.length)) (by decide) hFw.2.2.1) dX2_takeBit_39 ?_
      refine lv_iconst (v := 1) hx hb dX2_takeBit_42 (by decide) ?_
      refine lv_iadd hx hb dX2_takeBit_43 ?_
      refine zrd (x := (nI (bs.length + 1))) (nI_1 _) ?_
      refine p_Four_bits (a := q0) (v := (nI (bs.length + 1))) C hw hFw.1 in_X2 (by decide +kernel) dX2_takeBit_44 (fun H locs hw => ?_)
      refine lv_aload_n hx hb dX2_takeBit_47 rfl (lv_at hl 0 rfl) ?_
      have hF9 : zFr S (zsI (zsI S 98 q0 (nI (zval (b :: bs)))) 97 q0 (nI (bs.length + 1))) (fun t a => t ≠ 112 ∧ a = q0) (fun _ _ => False) := ((zFr.I (TI := fun t a => t ≠ 112 ∧ a = q0) (TR := fun _ _ => False) ⟨by decide, rfl⟩).tr (zFr.I (TI := fun t a => t ≠ 112 ∧ a = q0) (TR := fun _ _ => False) ⟨by decide, rfl⟩))
      have hNo9 : zNo (zsI (zsI S 98 q0 (nI (zval (b :: bs)))) 97 q0 (nI (bs.length + 1))) t0 k1 k2 k3 k4 k5 L := hNo.fr hF9 (fun g => g.1 rfl) (fun g => g) (fun g => g) (fun g => g) (fun g => g) (fun g => g)
      have hF8 := hF9.mono (TI' := zWI q0 t0) (TR' := zNR k1 k2 k3 k4 k5) (fun _ _ g => Or.inl g.2) (fun _ _ g => g.elim)
      refine g_Four_bits (a := q0) (v := (nI (bs.length + 1))) C hw hFw.1 in_X2 (by decide +kernel) (zI_s (zsI S 98 q0 (nI (zval (b :: bs)))) 97 q0 (nI (bs.length + 1))) dX2_takeBit_48 ?_
      refine lv_bipush (v := 8) hx hb dX2_takeBit_51 (by decide) ?_
      refine lv_icmp_ne (tgt := 81) hx hb dX2_takeBit_53 (by decide) (fun c53 => ?_) (fun c53 => ?_)
      · exact zrv C hw hr hlocks (by have hnb : ¬ bs.length + 1 = 8 := fun e => c53 (by rw [e]; rfl); rw [zFB_n hnb]; exact ⟨⟨⟨hFw.1, hFw.2.1, (zI_s (zsI S 98 q0 (nI (zval (b :: bs)))) 97 q0 (nI (bs.length + 1))), (fun _ => ⟨(zI_t (S := (zsI S 98 q0 (nI (zval (b :: bs))))) (t := 97) (a := q0) (v := (nI (bs.length + 1))) (t' := 98) (a' := q0) (u := (nI (zval (b :: bs)))) (by decide) (zI_s S 98 q0 (nI (zval (b :: bs))))), (zI_t (S := (zsI S 98 q0 (nI (zval (b :: bs))))) (t := 97) (a := q0) (v := (nI (bs.length + 1))) (t' := 99) (a' := q0) (u := (nI (if bs = [] then i else fb))) (by decide) (zI_t (S := S) (t := 98) (a := q0) (v := (nI (zval (b :: bs)))) (t' := 99) (a' := q0) (u := (nI (if bs = [] then i else fb))) (by decide) (hw9.2.trans (by rw [if_neg hbs]))))⟩)⟩, hNo9⟩, hF8⟩) ⟨Nat.le_of_ble_eq_true rfl, Nat.le_of_ble_eq_true rfl⟩ dX2_takeBit_81
      · have hb8 : bs.length + 1 = 8 := (nI_eq (b := 8) (by omega) (by decide)).mp c53
        refine lv_aload_n hx hb dX2_takeBit_56 rfl (lv_at hl 0 rfl) ?_
        refine g_Four_notes (a := q0) (v := t0) C hw hFw.1 in_X2 (by decide +kernel) hFw.2.1 dX2_takeBit_57 ?_
        refine lv_bipush (v := 66) hx hb dX2_takeBit_60 (by decide) ?_
        refine lv_aload_n hx hb dX2_takeBit_62 rfl (lv_at hl 0 rfl) ?_
        refine g_Four_firstBit (a := q0) (v := (nI (if bs = [] then i else fb))) C hw hFw.1 in_X2 (by decide +kernel) (zI_t (S := (zsI S 98 q0 (nI (zval (b :: bs))))) (t := 97) (a := q0) (v := (nI (bs.length + 1))) (t' := 99) (a' := q0) (u := (nI (if bs = [] then i else fb))) (by decide) (zI_t (S := S) (t := 98) (a := q0) (v := (nI (zval (b :: bs)))) (t' := 99) (a' := q0) (u := (nI (if bs = [] then i else fb))) (by decide) (hw9.2.trans (by rw [if_neg hbs])))) dX2_takeBit_63 ?_
        refine lv_iload_n hx hb dX2_takeBit_66 rfl (lv_at hl 2 rfl) ?_
        refine lv_aload_n hx hb dX2_takeBit_67 rfl (lv_at hl 0 rfl) ?_
        refine g_Four_word (a := q0) (v := (nI (zval (b :: bs)))) C hw hFw.1 in_X2 (by decide +kernel) (zI_t (S := (zsI S 98 q0 (nI (zval (b :: bs))))) (t := 97) (a := q0) (v := (nI (bs.length + 1))) (t' := 98) (a' := q0) (u := (nI (zval (b :: bs)))) (by decide) (zI_s S 98 q0 (nI (zval (b :: bs))))) dX2_takeBit_68 ?_
        refine lv_bipush (v := 45) hx hb dX2_takeBit_71 (by decide) ?_
        refine zcV_v (As := [.int 66, .int (nI (if bs = [] then i else fb)), .int (nI i), .int (nI (zval (b :: bs))), .int 45]) (rest := []) (n9 := 5) (b := t0) C hw (c_X3_tell l D y base (zsI (zsI S 98 q0 (nI (zval (b :: bs)))) 97 q0 (nI (bs.length + 1))) t0 k1 k2 k3 k4 k5 66 (nI (if bs = [] then i else fb)) (nI i) (nI (zval (b :: bs))) 45 L hNt hNo9 hNd hLl (by decide) (by decide)) gX2_takeBit_X3_tell rfl (by decide +kernel) ⟨⟨rfl, rfl⟩, Nat.le_of_ble_eq_true rfl, Nat.le_of_ble_eq_true rfl⟩ hNt.1 ⟨by decide, by decide⟩ rfl rfl hl.1 rfl (Nat.le_of_ble_eq_true rfl) ⟨Nat.le_of_ble_eq_true rfl, Nat.le_of_ble_eq_true rfl⟩ dX2_takeBit_73 (fun S73 H locs hp73 hw => ?_)
        have hNt73 := zNts.fix hp73.2.1 hNt
        have hK73 : zK S73 q0 = 6 := (congrFun hp73.2.1.1 q0).trans hFw.1
        have hQ73_96 : zQ S73 96 q0 = some t0 := (congrFun (congrFun hp73.2.1.2.1 96) q0).trans hFw.2.1
        have hI73_99 : zI S73 99 q0 = (nI (if bs = [] then i else fb)) := (hp73.2.2.1 99 q0 (fun g => absurd g.1 (by decide))).trans (zI_t (S := (zsI S 98 q0 (nI (zval (b :: bs))))) (t := 97) (a := q0) (v := (nI (bs.length + 1))) (t' := 99) (a' := q0) (u := (nI (if bs = [] then i else fb))) (by decide) (zI_t (S := S) (t := 98) (a := q0) (v := (nI (zval (b :: bs)))) (t' := 99) (a' := q0) (u := (nI (if bs = [] then i else fb))) (by decide) (hw9.2.trans (by rw [if_neg hbs]))))
        have hI73_98 : zI S73 98 q0 = (nI (zval (b :: bs))) := (hp73.2.2.1 98 q0 (fun g => absurd g.1 (by decide))).trans (zI_t (S := (zsI S 98 q0 (nI (zval (b :: bs))))) (t := 97) (a := q0) (v := (nI (bs.length + 1))) (t' := 98) (a' := q0) (u := (nI (zval (b :: bs)))) (by decide) (zI_s S 98 q0 (nI (zval (b :: bs)))))
        have hI73_97 : zI S73 97 q0 = (nI (bs.length + 1)) := (hp73.2.2.1 97 q0 (fun g => absurd g.1 (by decide))).trans (zI_s (zsI S 98 q0 (nI (zval (b :: bs)))) 97 q0 (nI (bs.length + 1)))
        refine lv_aload_n hx hb dX2_takeBit_76 rfl (lv_at hl 0 rfl) ?_
        refine lv_iconst (v := 0) hx hb dX2_takeBit_77 (by decide) ?_
        refine p_Four_bits (a := q0) (v := 0) C hw hK73 in_X2 (by decide +kernel) dX2_takeBit_78 (fun H locs hw => ?_)
        exact zrv C hw hr hlocks (by rw [zFB_8 hb8]; exact ⟨⟨⟨hK73, hQ73_96, zI_s _ _ _ _, (fun h9 => absurd rfl h9)⟩, zNo.fr hp73.1 (zFr.I (TI := fun t _ => t ≠ 112) (TR := fun _ _ => False) (by decide)) (fun g => g rfl) (fun g => g) (fun g => g) (fun g => g) (fun g => g) (fun g => g)⟩, (hF8.tr (hp73.2.mono (fun _ _ g => Or.inr g) (fun _ _ g => g))).tr (zFr.I (Or.inl rfl))⟩) ⟨Nat.le_of_ble_eq_true rfl, Nat.le_of_ble_eq_true rfl⟩ dX2_takeBit_81
    refine lv_if_eq (tgt := 32) hx hb dX2_takeBit_25 (by decide) (fun c25 => ?_) (fun c25 => ?_)
    · replace c25 := zb0.mp c25
      refine lv_iconst (v := 0) hx hb dX2_takeBit_32 (by decide) ?_
      exact jn_1 0 _ _ _ hw (lv_sub hl [0, 1, 2] rfl) (by first | exact Or.inl ⟨c25, rfl⟩ | exact Or.inr ⟨Bool.eq_false_iff.mpr c25, rfl⟩)
    · replace c25 := zb1.mp c25
      refine lv_iconst (v := 1) hx hb dX2_takeBit_28 (by decide) ?_
      refine lv_goto (tgt := 33) hx hb dX2_takeBit_29 (by decide) ?_
      exact jn_1 1 _ _ _ hw (lv_sub hl [0, 1, 2] rfl) (by first | exact Or.inl ⟨c25, rfl⟩ | exact Or.inr ⟨Bool.eq_false_iff.mpr c25, rfl⟩)
  · refine lv_aload_n hx hb dX2_takeBit_7 rfl (lv_at hl 0 rfl) ?_
    refine lv_iload_n hx hb dX2_takeBit_8 rfl (lv_at hl 2 rfl) ?_
    refine p_Four_firstBit (a := q0) (v := (nI i)) C hw hFw.1 in_X2 (by decide +kernel) dX2_takeBit_9 (fun H locs hw => ?_)
    refine lv_aload_n hx hb dX2_takeBit_12 rfl (lv_at hl 0 rfl) ?_
    refine lv_iconst (v := 0) hx hb dX2_takeBit_13 (by decide) ?_
    refine p_Four_word (a := q0) (v := 0) C hw hFw.1 in_X2 (by decide +kernel) dX2_takeBit_14 (fun H locs hw => ?_)
    have hbs : bs = [] := List.eq_nil_of_length_eq_zero ((nI_eq (b := 0) (by omega) (by decide)).mp c4)
    refine lv_aload_n hx hb dX2_takeBit_17 rfl (lv_at hl 0 rfl) ?_
    refine lv_aload_n hx hb dX2_takeBit_18 rfl (lv_at hl 0 rfl) ?_
    refine g_Four_word (a := q0) (v := (nI (zval bs))) C hw hFw.1 in_X2 (by decide +kernel) (((zI_s (zsI S 99 q0 (nI i)) 98 q0 0)).trans (by rw [hbs]; rfl)) dX2_takeBit_19 ?_
    refine lv_iconst (v := 1) hx hb dX2_takeBit_22 (by decide) ?_
    refine lv_ishl hx hb dX2_takeBit_23 ?_
    refine lv_iload_n hx hb dX2_takeBit_24 rfl (lv_at hl 1 rfl) ?_
    have jn_4 : ∀ (xb_5 : Int32) (H : Heap) (locs : List Loc) (ls : Array Slot), zW D y base (zsI (zsI S 99 q0 (nI i)) 98 q0 0) s H locs → lv_has ls 3 [(0, .ref q0), (1, .int (zb (b = true))), (2, .int (nI i))] → ((b = true ∧ xb_5 = 1) ∨ (b = false ∧ xb_5 = 0)) → W p l e (headSpec wsX2_takeBit ({ frames := 1, cells := 0, slots := 0, locals := 25 })).room s m args below meth c H locs 0 0 (MQ below (va_Qv (fun (S1 : zS) => zFP S1 q0 t0 k1 k2 k3 k4 k5 (zFB b i (bs, fb, L)) ∧ zFr S S1 (zWI q0 t0) (zNR k1 k2 k3 k4 k5)) (zPost D y base) (zA base)) args s 0 0 (zA base)) (F0 m 33 ls [.int xb_5, .int ((nI (zval bs)) <<< (1 &&& 31)), .ref q0]) := by
      intro xb_5 H locs ls hw hl f_6
      have fbit := f_6
      refine lv_ior hx hb dX2_takeBit_33 ?_
      refine zrd (x := (nI (zval (b :: bs)))) (zbt b (by omega) rfl fbit) ?_
      refine p_Four_word (a := q0) (v := (nI (zval (b :: bs)))) C hw hFw.1 in_X2 (by decide +kernel) dX2_takeBit_34 (fun H locs hw => ?_)
      refine lv_aload_n hx hb dX2_takeBit_37 rfl (lv_at hl 0 rfl) ?_
      refine lv_dup hx hb dX2_takeBit_38 rfl ?_
      refine g_Four_bits (a := q0) (v := (nI bs.length)) C hw hFw.1 in_X2 (by decide +kernel) (zI_t (S := (zsI (zsI S 99 q0 (nI i)) 98 q0 0)) (t := 98) (a := q0) (v := (nI (zval (b :: bs)))) (t' := 97) (a' := q0) (u := (nI bs.length)) (by decide) (zI_t (S := (zsI S 99 q0 (nI i))) (t := 98) (a := q0) (v := 0) (t' := 97) (a' := q0) (u := (nI bs.length)) (by decide) (zI_t (S := S) (t := 99) (a := q0) (v := (nI i)) (t' := 97) (a' := q0) (u := (nI bs.length)) (by decide) hFw.2.2.1))) dX2_takeBit_39 ?_
      refine lv_iconst (v := 1) hx hb dX2_takeBit_42 (by decide) ?_
      refine lv_iadd hx hb dX2_takeBit_43 ?_
      refine zrd (x := (nI (bs.length + 1))) (nI_1 _) ?_
      refine p_Four_bits (a := q0) (v := (nI (bs.length + 1))) C hw hFw.1 in_X2 (by decide +kernel) dX2_takeBit_44 (fun H locs hw => ?_)
      refine lv_aload_n hx hb dX2_takeBit_47 rfl (lv_at hl 0 rfl) ?_
      have hF9 : zFr S (zsI (zsI (zsI (zsI S 99 q0 (nI i)) 98 q0 0) 98 q0 (nI (zval (b :: bs)))) 97 q0 (nI (bs.length + 1))) (fun t a => t ≠ 112 ∧ a = q0) (fun _ _ => False) := ((zFr.I (TI := fun t a => t ≠ 112 ∧ a = q0) (TR := fun _ _ => False) ⟨by decide, rfl⟩).tr ((zFr.I (TI := fun t a => t ≠ 112 ∧ a = q0) (TR := fun _ _ => False) ⟨by decide, rfl⟩).tr ((zFr.I (TI := fun t a => t ≠ 112 ∧ a = q0) (TR := fun _ _ => False) ⟨by decide, rfl⟩).tr (zFr.I (TI := fun t a => t ≠ 112 ∧ a = q0) (TR := fun _ _ => False) ⟨by decide, rfl⟩))))
      have hNo9 : zNo (zsI (zsI (zsI (zsI S 99 q0 (nI i)) 98 q0 0) 98 q0 (nI (zval (b :: bs)))) 97 q0 (nI (bs.length + 1))) t0 k1 k2 k3 k4 k5 L := hNo.fr hF9 (fun g => g.1 rfl) (fun g => g) (fun g => g) (fun g => g) (fun g => g) (fun g => g)
      have hF8 := hF9.mono (TI' := zWI q0 t0) (TR' := zNR k1 k2 k3 k4 k5) (fun _ _ g => Or.inl g.2) (fun _ _ g => g.elim)
      refine g_Four_bits (a := q0) (v := (nI (bs.length + 1))) C hw hFw.1 in_X2 (by decide +kernel) (zI_s (zsI (zsI (zsI S 99 q0 (nI i)) 98 q0 0) 98 q0 (nI (zval (b :: bs)))) 97 q0 (nI (bs.length + 1))) dX2_takeBit_48 ?_
      refine lv_bipush (v := 8) hx hb dX2_takeBit_51 (by decide) ?_
      refine lv_icmp_ne (tgt := 81) hx hb dX2_takeBit_53 (by decide) (fun c53 => ?_) (fun c53 => ?_)
      · exact zrv C hw hr hlocks (by have hnb : ¬ bs.length + 1 = 8 := fun e => c53 (by rw [e]; rfl); rw [zFB_n hnb]; exact ⟨⟨⟨hFw.1, hFw.2.1, (zI_s (zsI (zsI (zsI S 99 q0 (nI i)) 98 q0 0) 98 q0 (nI (zval (b :: bs)))) 97 q0 (nI (bs.length + 1))), (fun _ => ⟨(zI_t (S := (zsI (zsI (zsI S 99 q0 (nI i)) 98 q0 0) 98 q0 (nI (zval (b :: bs))))) (t := 97) (a := q0) (v := (nI (bs.length + 1))) (t' := 98) (a' := q0) (u := (nI (zval (b :: bs)))) (by decide) (zI_s (zsI (zsI S 99 q0 (nI i)) 98 q0 0) 98 q0 (nI (zval (b :: bs))))), (zI_t (S := (zsI (zsI (zsI S 99 q0 (nI i)) 98 q0 0) 98 q0 (nI (zval (b :: bs))))) (t := 97) (a := q0) (v := (nI (bs.length + 1))) (t' := 99) (a' := q0) (u := (nI (if bs = [] then i else fb))) (by decide) (zI_t (S := (zsI (zsI S 99 q0 (nI i)) 98 q0 0)) (t := 98) (a := q0) (v := (nI (zval (b :: bs)))) (t' := 99) (a' := q0) (u := (nI (if bs = [] then i else fb))) (by decide) (((zI_t (S := (zsI S 99 q0 (nI i))) (t := 98) (a := q0) (v := 0) (t' := 99) (a' := q0) (u := (nI i)) (by decide) (zI_s S 99 q0 (nI i)))).trans (by rw [if_pos hbs]))))⟩)⟩, hNo9⟩, hF8⟩) ⟨Nat.le_of_ble_eq_true rfl, Nat.le_of_ble_eq_true rfl⟩ dX2_takeBit_81
      · have hb8 : bs.length + 1 = 8 := (nI_eq (b := 8) (by omega) (by decide)).mp c53
        refine lv_aload_n hx hb dX2_takeBit_56 rfl (lv_at hl 0 rfl) ?_
        refine g_Four_notes (a := q0) (v := t0) C hw hFw.1 in_X2 (by decide +kernel) hFw.2.1 dX2_takeBit_57 ?_
        refine lv_bipush (v := 66) hx hb dX2_takeBit_60 (by decide) ?_
        refine lv_aload_n hx hb dX2_takeBit_62 rfl (lv_at hl 0 rfl) ?_
        refine g_Four_firstBit (a := q0) (v := (nI (if bs = [] then i else fb))) C hw hFw.1 in_X2 (by decide +kernel) (zI_t (S := (zsI (zsI (zsI S 99 q0 (nI i)) 98 q0 0) 98 q0 (nI (zval (b :: bs))))) (t := 97) (a := q0) (v := (nI (bs.length + 1))) (t' := 99) (a' := q0) (u := (nI (if bs = [] then i else fb))) (by decide) (zI_t (S := (zsI (zsI S 99 q0 (nI i)) 98 q0 0)) (t := 98) (a := q0) (v := (nI (zval (b :: bs)))) (t' := 99) (a' := q0) (u := (nI (if bs = [] then i else fb))) (by decide) (((zI_t (S := (zsI S 99 q0 (nI i))) (t := 98) (a := q0) (v := 0) (t' := 99) (a' := q0) (u := (nI i)) (by decide) (zI_s S 99 q0 (nI i)))).trans (by rw [if_pos hbs])))) dX2_takeBit_63 ?_
        refine lv_iload_n hx hb dX2_takeBit_66 rfl (lv_at hl 2 rfl) ?_
        refine lv_aload_n hx hb dX2_takeBit_67 rfl (lv_at hl 0 rfl) ?_
        refine g_Four_word (a := q0) (v := (nI (zval (b :: bs)))) C hw hFw.1 in_X2 (by decide +kernel) (zI_t (S := (zsI (zsI (zsI S 99 q0 (nI i)) 98 q0 0) 98 q0 (nI (zval (b :: bs))))) (t := 97) (a := q0) (v := (nI (bs.length + 1))) (t' := 98) (a' := q0) (u := (nI (zval (b :: bs)))) (by decide) (zI_s (zsI (zsI S 99 q0 (nI i)) 98 q0 0) 98 q0 (nI (zval (b :: bs))))) dX2_takeBit_68 ?_
        refine lv_bipush (v := 45) hx hb dX2_takeBit_71 (by decide) ?_
        refine zcV_v (As := [.int 66, .int (nI (if bs = [] then i else fb)), .int (nI i), .int (nI (zval (b :: bs))), .int 45]) (rest := []) (n9 := 5) (b := t0) C hw (c_X3_tell l D y base (zsI (zsI (zsI (zsI S 99 q0 (nI i)) 98 q0 0) 98 q0 (nI (zval (b :: bs)))) 97 q0 (nI (bs.length + 1))) t0 k1 k2 k3 k4 k5 66 (nI (if bs = [] then i else fb)) (nI i) (nI (zval (b :: bs))) 45 L hNt hNo9 hNd hLl (by decide) (by decide)) gX2_takeBit_X3_tell rfl (by decide +kernel) ⟨⟨rfl, rfl⟩, Nat.le_of_ble_eq_true rfl, Nat.le_of_ble_eq_true rfl⟩ hNt.1 ⟨by decide, by decide⟩ rfl rfl hl.1 rfl (Nat.le_of_ble_eq_true rfl) ⟨Nat.le_of_ble_eq_true rfl, Nat.le_of_ble_eq_true rfl⟩ dX2_takeBit_73 (fun S73 H locs hp73 hw => ?_)
        have hNt73 := zNts.fix hp73.2.1 hNt
        have hK73 : zK S73 q0 = 6 := (congrFun hp73.2.1.1 q0).trans hFw.1
        have hQ73_96 : zQ S73 96 q0 = some t0 := (congrFun (congrFun hp73.2.1.2.1 96) q0).trans hFw.2.1
        have hI73_99 : zI S73 99 q0 = (nI (if bs = [] then i else fb)) := (hp73.2.2.1 99 q0 (fun g => absurd g.1 (by decide))).trans (zI_t (S := (zsI (zsI (zsI S 99 q0 (nI i)) 98 q0 0) 98 q0 (nI (zval (b :: bs))))) (t := 97) (a := q0) (v := (nI (bs.length + 1))) (t' := 99) (a' := q0) (u := (nI (if bs = [] then i else fb))) (by decide) (zI_t (S := (zsI (zsI S 99 q0 (nI i)) 98 q0 0)) (t := 98) (a := q0) (v := (nI (zval (b :: bs)))) (t' := 99) (a' := q0) (u := (nI (if bs = [] then i else fb))) (by decide) (((zI_t (S := (zsI S 99 q0 (nI i))) (t := 98) (a := q0) (v := 0) (t' := 99) (a' := q0) (u := (nI i)) (by decide) (zI_s S 99 q0 (nI i)))).trans (by rw [if_pos hbs]))))
        have hI73_98 : zI S73 98 q0 = (nI (zval (b :: bs))) := (hp73.2.2.1 98 q0 (fun g => absurd g.1 (by decide))).trans (zI_t (S := (zsI (zsI (zsI S 99 q0 (nI i)) 98 q0 0) 98 q0 (nI (zval (b :: bs))))) (t := 97) (a := q0) (v := (nI (bs.length + 1))) (t' := 98) (a' := q0) (u := (nI (zval (b :: bs)))) (by decide) (zI_s (zsI (zsI S 99 q0 (nI i)) 98 q0 0) 98 q0 (nI (zval (b :: bs)))))
        have hI73_97 : zI S73 97 q0 = (nI (bs.length + 1)) := (hp73.2.2.1 97 q0 (fun g => absurd g.1 (by decide))).trans (zI_s (zsI (zsI (zsI S 99 q0 (nI i)) 98 q0 0) 98 q0 (nI (zval (b :: bs)))) 97 q0 (nI (bs.length + 1)))
        refine lv_aload_n hx hb dX2_takeBit_76 rfl (lv_at hl 0 rfl) ?_
        refine lv_iconst (v := 0) hx hb dX2_takeBit_77 (by decide) ?_
        refine p_Four_bits (a := q0) (v := 0) C hw hK73 in_X2 (by decide +kernel) dX2_takeBit_78 (fun H locs hw => ?_)
        exact zrv C hw hr hlocks (by rw [zFB_8 hb8]; exact ⟨⟨⟨hK73, hQ73_96, zI_s _ _ _ _, (fun h9 => absurd rfl h9)⟩, zNo.fr hp73.1 (zFr.I (TI := fun t _ => t ≠ 112) (TR := fun _ _ => False) (by decide)) (fun g => g rfl) (fun g => g) (fun g => g) (fun g => g) (fun g => g) (fun g => g)⟩, (hF8.tr (hp73.2.mono (fun _ _ g => Or.inr g) (fun _ _ g => g))).tr (zFr.I (Or.inl rfl))⟩) ⟨Nat.le_of_ble_eq_true rfl, Nat.le_of_ble_eq_true rfl⟩ dX2_takeBit_81
    refine lv_if_eq (tgt := 32) hx hb dX2_takeBit_25 (by decide) (fun c25 => ?_) (fun c25 => ?_)
    · replace c25 := zb0.mp c25
      refine lv_iconst (v := 0) hx hb dX2_takeBit_32 (by decide) ?_
      exact jn_4 0 _ _ _ hw (lv_sub hl [0, 1, 2] rfl) (by first | exact Or.inl ⟨c25, rfl⟩ | exact Or.inr ⟨Bool.eq_false_iff.mpr c25, rfl⟩)
    · replace c25 := zb1.mp c25
      refine lv_iconst (v := 1) hx hb dX2_takeBit_28 (by decide) ?_
      refine lv_goto (tgt := 33) hx hb dX2_takeBit_29 (by decide) ?_
      exact jn_4 1 _ _ _ hw (lv_sub hl [0, 1, 2] rfl) (by first | exact Or.inl ⟨c25, rfl⟩ | exact Or.inr ⟨Bool.eq_false_iff.mpr c25, rfl⟩)

set_option maxHeartbeats 4000000 in
set_option maxRecDepth 100000 in
/-- X2_takeSelectRise -/
theorem c_X2_takeSelectRise (l : Launch) (D : va_G) (y : Nat → ClassId) (base : Nat) (S : zS) (q0 : Nat) (t0 : Nat) (k1 : Nat) (k2 : Nat) (k3 : Nat) (k4 : Nat) (k5 : Nat) (bs : List Bool) (fb : Nat) (L : List zNt) (i : Nat) (hNt : zNts S t0 k1 k2 k3 k4 k5) (hFw : zFw S q0 t0 bs fb) (hNo : zNo S t0 k1 k2 k3 k4 k5 L) (hNd : zNd k1 k2 k3 k4 k5) (hLl : L.length < 200) (hbl : bs.length < 8) : zMv l yX2_takeSelectRise wsX2_takeSelectRise ({ frames := 1, cells := 0, slots := 0, locals := 25 }) [.ref q0, .int (nI i)] D y base S (fun (S1 : zS) => zFP S1 q0 t0 k1 k2 k3 k4 k5 (zFS i (bs, fb, L)) ∧ zFr S S1 (zWI q0 t0) (zNR k1 k2 k3 k4 k5)) 0 0 := by
  refine zMet_of (cc := cX2_takeSelectRise) (maxL := 2) (ret := none) (own := RX2) (by decide +kernel) rfl rfl (Nat.le_of_ble_eq_true rfl) ?_
  intro p e s m args below meth c ls C hr hlocks hnm hw hl
  have hx := C.1
  have hb := C.2.1
  have hown := C.2.2.2.1
  have hts := C.2.2.2.2
  have hl : lv_has ls 2 [(0, .ref q0), (1, .int (nI i))] := hl
  have in_X2 : ∀ w ∈ wsX20, w ∈ wsX2_takeSelectRise := by decide +kernel
  refine lv_aload_n hx hb dX2_takeSelectRise_0 rfl (lv_at hl 0 rfl) ?_
  refine g_Four_bits (a := q0) (v := (nI bs.length)) C hw hFw.1 in_X2 (by decide +kernel) hFw.2.2.1 dX2_takeSelectRise_1 ?_
  refine lv_if_le (tgt := 27) hx hb dX2_takeSelectRise_4 (by decide) (fun c4 => ?_) (fun c4 => ?_)
  · have hb0 : bs = [] := List.eq_nil_of_length_eq_zero (by have := z_cl_le (i := 0) c4 (by decide); rw [nI_clamp (by omega)] at this; omega)
    refine lv_aload_n hx hb dX2_takeSelectRise_27 rfl (lv_at hl 0 rfl) ?_
    refine lv_iconst (v := 0) hx hb dX2_takeSelectRise_28 (by decide) ?_
    refine p_Four_bits (a := q0) (v := 0) C hw hFw.1 in_X2 (by decide +kernel) dX2_takeSelectRise_29 (fun H locs hw => ?_)
    exact zrv C hw hr hlocks (by rw [zFS_0 hb0]; exact ⟨⟨⟨hFw.1, hFw.2.1, zI_s _ _ _ _, (fun h9 => absurd rfl h9)⟩, hNo.fr (zFr.I (TI := fun t _ => t ≠ 112) (TR := fun _ _ => False) (by decide)) (fun g => g rfl) (fun g => g) (fun g => g) (fun g => g) (fun g => g) (fun g => g)⟩, zFr.I (Or.inl rfl)⟩) ⟨Nat.le_of_ble_eq_true rfl, Nat.le_of_ble_eq_true rfl⟩ dX2_takeSelectRise_32
  · have hb1 : ¬ bs = [] := fun e => c4 (by rw [e]; decide)
    have hw9 := hFw.2.2.2 hb1
    refine lv_aload_n hx hb dX2_takeSelectRise_7 rfl (lv_at hl 0 rfl) ?_
    refine g_Four_notes (a := q0) (v := t0) C hw hFw.1 in_X2 (by decide +kernel) hFw.2.1 dX2_takeSelectRise_8 ?_
    refine lv_bipush (v := 66) hx hb dX2_takeSelectRise_11 (by decide) ?_
    refine lv_aload_n hx hb dX2_takeSelectRise_13 rfl (lv_at hl 0 rfl) ?_
    refine g_Four_firstBit (a := q0) (v := (nI fb)) C hw hFw.1 in_X2 (by decide +kernel) hw9.2 dX2_takeSelectRise_14 ?_
    refine lv_iload_n hx hb dX2_takeSelectRise_17 rfl (lv_at hl 1 rfl) ?_
    refine lv_aload_n hx hb dX2_takeSelectRise_18 rfl (lv_at hl 0 rfl) ?_
    refine g_Four_word (a := q0) (v := (nI (zval bs))) C hw hFw.1 in_X2 (by decide +kernel) hw9.1 dX2_takeSelectRise_19 ?_
    refine lv_bipush (v := 115) hx hb dX2_takeSelectRise_22 (by decide) ?_
    refine zcV_v (As := [.int 66, .int (nI fb), .int (nI i), .int (nI (zval bs)), .int 115]) (rest := []) (n9 := 5) (b := t0) C hw (c_X3_tell l D y base S t0 k1 k2 k3 k4 k5 66 (nI fb) (nI i) (nI (zval bs)) 115 L hNt hNo hNd hLl (by decide) (by decide)) gX2_takeSelectRise_X3_tell rfl (by decide +kernel) ⟨⟨rfl, rfl⟩, Nat.le_of_ble_eq_true rfl, Nat.le_of_ble_eq_true rfl⟩ hNt.1 ⟨by decide, by decide⟩ rfl rfl hl.1 rfl (Nat.le_of_ble_eq_true rfl) ⟨Nat.le_of_ble_eq_true rfl, Nat.le_of_ble_eq_true rfl⟩ dX2_takeSelectRise_24 (fun S24 H locs hp24 hw => ?_)
    have hNt24 := zNts.fix hp24.2.1 hNt
    have hK24 : zK S24 q0 = 6 := (congrFun hp24.2.1.1 q0).trans hFw.1
    have hQ24_96 : zQ S24 96 q0 = some t0 := (congrFun (congrFun hp24.2.1.2.1 96) q0).trans hFw.2.1
    have hI24_97 : zI S24 97 q0 = (nI bs.length) := (hp24.2.2.1 97 q0 (fun g => absurd g.1 (by decide))).trans hFw.2.2.1
    have hI24_98 : zI S24 98 q0 = (nI (zval bs)) := (hp24.2.2.1 98 q0 (fun g => absurd g.1 (by decide))).trans hw9.1
    have hI24_99 : zI S24 99 q0 = (nI fb) := (hp24.2.2.1 99 q0 (fun g => absurd g.1 (by decide))).trans hw9.2
    refine lv_aload_n hx hb dX2_takeSelectRise_27 rfl (lv_at hl 0 rfl) ?_
    refine lv_iconst (v := 0) hx hb dX2_takeSelectRise_28 (by decide) ?_
    refine p_Four_bits (a := q0) (v := 0) C hw hK24 in_X2 (by decide +kernel) dX2_takeSelectRise_29 (fun H locs hw => ?_)
    exact zrv C hw hr hlocks (by rw [zFS_1 hb1]; exact ⟨⟨⟨hK24, hQ24_96, zI_s _ _ _ _, (fun h9 => absurd rfl h9)⟩, zNo.fr hp24.1 (zFr.I (TI := fun t _ => t ≠ 112) (TR := fun _ _ => False) (by decide)) (fun g => g rfl) (fun g => g) (fun g => g) (fun g => g) (fun g => g) (fun g => g)⟩, (hp24.2.mono (fun _ _ g => Or.inr g) (fun _ _ g => g)).tr (zFr.I (Or.inl rfl))⟩) ⟨Nat.le_of_ble_eq_true rfl, Nat.le_of_ble_eq_true rfl⟩ dX2_takeSelectRise_32

set_option maxHeartbeats 4000000 in
set_option maxRecDepth 100000 in
/-- X0_areRunsWhole -/
theorem c_X0_areRunsWhole_g (l : Launch) (D : va_G) (y : Nat → ClassId) (base : Nat) (S : zS) (c0 : Nat) (lv : Nat) (mm : Nat) (M : Nat → Nat → Bool) (w : Nat) (hC : zCap S c0 lv) (hM : zCp S c0 lv mm M) (hw4 : w < 4) : zMi l yX0_areRunsWhole wsX0_areRunsWhole ({ frames := 3, cells := 0, slots := 0, locals := 65 }) [.ref c0, .int (nI w)] D y base S (fun (r : Int32) (S1 : zS) => r = 1 ∧ S1 = S) 0 0 := by
  refine zMet_of (cc := cX0_areRunsWhole) (maxL := 5) (ret := (some .boolean)) (own := RX0) (by decide +kernel) rfl rfl (Nat.le_of_ble_eq_true rfl) ?_
  intro p e s m args below meth c ls C hr hlocks hnm hw hl
  have hx := C.1
  have hb := C.2.1
  have hown := C.2.2.2.1
  have hts := C.2.2.2.2
  have hl : lv_has ls 5 [(0, .ref c0), (1, .int (nI w))] := hl
  have in_X0 : ∀ w ∈ wsX00, w ∈ wsX0_areRunsWhole := by decide +kernel
  have hm4 := hM.2.1
  refine lv_iconst (v := 0) hx hb dX0_areRunsWhole_0 (by decide) ?_
  refine lv_istore_n (lv' := [(2, .int 0), (0, .ref c0), (1, .int (nI w))]) hx hb dX0_areRunsWhole_1 rfl hl (by decide) rfl (fun ls hl => ?_)
  refine lv_iconst (v := 0) hx hb dX0_areRunsWhole_2 (by decide) ?_
  refine lv_istore_n (lv' := [(3, .int 0), (2, .int 0), (0, .ref c0), (1, .int (nI w))]) hx hb dX0_areRunsWhole_3 rfl hl (by decide) rfl (fun ls hl => ?_)
  refine lv_iconst (v := 1) hx hb dX0_areRunsWhole_4 (by decide) ?_
  refine lv_istore (lv' := [(4, .int 1), (3, .int 0), (2, .int 0), (0, .ref c0), (1, .int (nI w))]) hx hb dX0_areRunsWhole_5 hl (by decide) rfl (fun ls hl => ?_)
  have lp_2 : ∀ (n9 : Nat) (i : Nat) (b : Int32) (H : Heap) (locs : List Loc) (ls : Array Slot), 402 - i < n9 → (1 ≤ i ∧ (i ≤ mm ∨ i = 1)) → zW D y base S s H locs → lv_has ls 5 [(4, .int (nI i)), (3, .int b), (2, .int b), (0, .ref c0), (1, .int (nI w))] → W p l e (headSpec wsX0_areRunsWhole ({ frames := 3, cells := 0, slots := 0, locals := 65 })).room s m args below meth c H locs 0 0 (MQ below (va_Qi (fun (r : Int32) (S1 : zS) => r = 1 ∧ S1 = S) (zPost D y base) (zA base)) args s 0 0 (zA base)) (F0 m 7 ls []) := by
    intro n9
    induction n9 with
    | zero =>
      intro i b H locs ls hn9
      exact absurd hn9 (Nat.not_lt_zero _)
    | succ n9 ih_1 =>
      intro i b H locs ls hn9 hi hw hl
      refine lv_iload hx hb dX0_areRunsWhole_7 (lv_at hl 0 rfl) ?_
      refine lv_aload_n hx hb dX0_areRunsWhole_9 rfl (lv_at hl 3 rfl) ?_
      refine g_Cap_count (a := c0) (v := (nI mm)) C hw hC.1 in_X0 (by decide +kernel) hM.1 dX0_areRunsWhole_10 ?_
      refine lv_icmp_ge (tgt := 42) hx hb dX0_areRunsWhole_13 (by decide) (fun c13 => ?_) (fun c13 => ?_)
      · refine lv_iload_n hx hb dX0_areRunsWhole_42 rfl (lv_at hl 2 rfl) ?_
        refine lv_aload_n hx hb dX0_areRunsWhole_43 rfl (lv_at hl 3 rfl) ?_
        refine g_Cap_count (a := c0) (v := (nI mm)) C hw hC.1 in_X0 (by decide +kernel) hM.1 dX0_areRunsWhole_44 ?_
        refine lv_iload_n hx hb dX0_areRunsWhole_47 rfl (lv_at hl 1 rfl) ?_
        refine lv_isub hx hb dX0_areRunsWhole_48 ?_
        refine lv_iadd hx hb dX0_areRunsWhole_49 ?_
        refine lv_aload_n hx hb dX0_areRunsWhole_50 rfl (lv_at hl 3 rfl) ?_
        refine g_Cap_count (a := c0) (v := (nI mm)) C hw hC.1 in_X0 (by decide +kernel) hM.1 dX0_areRunsWhole_51 ?_
        refine lv_icmp_ne (tgt := 61) hx hb dX0_areRunsWhole_54 (by decide) (fun c54 => (show False from (c54 (by rw [Int32.add_comm, Int32.sub_add_cancel]))).elim) (fun c54 => ?_)
        refine lv_iconst (v := 1) hx hb dX0_areRunsWhole_57 (by decide) ?_
        refine lv_goto (tgt := 62) hx hb dX0_areRunsWhole_58 (by decide) ?_
        exact zri C hw hr hlocks (by decide) (by first | exact ⟨rfl, rfl⟩ | exact rfl | (refine ⟨?_, rfl⟩; grind) | grind) ⟨Nat.le_of_ble_eq_true rfl, Nat.le_of_ble_eq_true rfl⟩ dX0_areRunsWhole_62
      · have him := z_lt (n := mm) c13 (by omega) (by omega)
        refine lv_aload_n hx hb dX0_areRunsWhole_16 rfl (lv_at hl 3 rfl) ?_
        refine lv_iload_n hx hb dX0_areRunsWhole_17 rfl (lv_at hl 4 rfl) ?_
        refine lv_iload hx hb dX0_areRunsWhole_18 (lv_at hl 0 rfl) ?_
        refine zcV_i (As := [.int (nI w), .int (nI i)]) (rest := []) (n9 := 2) (b := c0) C hw (c_X0_changesAt l D y base S c0 lv mm M w i hC hM hw4 him) gX0_areRunsWhole_X0_changesAt rfl (by decide +kernel) ⟨⟨rfl, rfl⟩, Nat.le_of_ble_eq_true rfl, Nat.le_of_ble_eq_true rfl⟩ hC.1 ⟨by decide, by decide⟩ rfl rfl hl.1 rfl (Nat.le_of_ble_eq_true rfl) ⟨Nat.le_of_ble_eq_true rfl, Nat.le_of_ble_eq_true rfl⟩ dX0_areRunsWhole_20 (fun r20 S20 H locs hp20 hw => ?_)
        obtain ⟨rfl, hS9⟩ := hp20
        have hS9 := hS9.symm
        subst hS9
        refine lv_if_eq (tgt := 36) hx hb dX0_areRunsWhole_23 (by decide) (fun c23 => ?_) (fun c23 => ?_)
        · replace c23 := zb0.mp c23
          refine lv_iinc (v := (nI (i + 1))) (lv' := [(4, .int (nI (i + 1))), (3, .int b), (2, .int b), (0, .ref c0), (1, .int (nI w))]) hx hb dX0_areRunsWhole_36 hl (k := 0) rfl (nI_1 _) (by decide) rfl (fun ls hl => ?_)
          refine lv_goto (tgt := 7) hx hb dX0_areRunsWhole_39 (by decide) ?_
          exact ih_1 (i + 1) b _ _ _ (by omega) (by omega) hw (lv_sub hl [0, 1, 2, 3, 4] rfl)
        · replace c23 := zb1.mp c23
          refine lv_iload_n hx hb dX0_areRunsWhole_26 rfl (lv_at hl 2 rfl) ?_
          refine lv_iload hx hb dX0_areRunsWhole_27 (lv_at hl 0 rfl) ?_
          refine lv_iload_n hx hb dX0_areRunsWhole_29 rfl (lv_at hl 1 rfl) ?_
          refine lv_isub hx hb dX0_areRunsWhole_30 ?_
          refine lv_iadd hx hb dX0_areRunsWhole_31 ?_
          refine zrd (x := (nI i)) (by rw [Int32.add_comm, Int32.sub_add_cancel]) ?_
          refine lv_istore_n (lv' := [(2, .int (nI i)), (4, .int (nI i)), (3, .int b), (0, .ref c0), (1, .int (nI w))]) hx hb dX0_areRunsWhole_32 rfl hl (by decide) rfl (fun ls hl => ?_)
          refine lv_iload hx hb dX0_areRunsWhole_33 (lv_at hl 1 rfl) ?_
          refine lv_istore_n (lv' := [(3, .int (nI i)), (2, .int (nI i)), (4, .int (nI i)), (0, .ref c0), (1, .int (nI w))]) hx hb dX0_areRunsWhole_35 rfl hl (by decide) rfl (fun ls hl => ?_)
          refine lv_iinc (v := (nI (i + 1))) (lv' := [(4, .int (nI (i + 1))), (3, .int (nI i)), (2, .int (nI i)), (0, .ref c0), (1, .int (nI w))]) hx hb dX0_areRunsWhole_36 hl (k := 2) rfl (nI_1 _) (by decide) rfl (fun ls hl => ?_)
          refine lv_goto (tgt := 7) hx hb dX0_areRunsWhole_39 (by decide) ?_
          exact ih_1 (i + 1) (nI i) _ _ _ (by omega) (by omega) hw (lv_sub hl [0, 1, 2, 3, 4] rfl)
  exact lp_2 _ 1 0 _ _ _ (Nat.lt_succ_self _) (by omega) hw (lv_sub hl [0, 1, 2, 3, 4] rfl)

set_option maxHeartbeats 4000000 in
set_option maxRecDepth 100000 in
/-- X0_blockSign -/
theorem c_X0_blockSign_g (l : Launch) (D : va_G) (y : Nat → ClassId) (base : Nat) (S : zS) (c0 : Nat) (lv : Nat) (mm : Nat) (M : Nat → Nat → Bool) (w : Nat) (d : Nat) (q : Nat) (hC : zCap S c0 lv) (hM : zCp S c0 lv mm M) (hw4 : w < 4) (hd : d < 10) (hq : q * 2 ^ d < mm) : zMi l yX0_blockSign wsX0_blockSign ({ frames := 3, cells := 0, slots := 0, locals := 65 }) [.ref c0, .int (nI w), .int (nI d), .int (nI q)] D y base S (fun (r : Int32) (S1 : zS) => (r = 120 ∨ zBk M w d mm q) ∧ S1 = S) 0 0 := by
  refine zMet_of (cc := cX0_blockSign) (maxL := 7) (ret := (some .char)) (own := RX0) (by decide +kernel) rfl rfl (Nat.le_of_ble_eq_true rfl) ?_
  intro p e s m args below meth c ls C hr hlocks hnm hw hl
  have hx := C.1
  have hb := C.2.1
  have hown := C.2.2.2.1
  have hts := C.2.2.2.2
  have hl : lv_has ls 7 [(0, .ref c0), (1, .int (nI w)), (2, .int (nI d)), (3, .int (nI q))] := hl
  have in_X0 : ∀ w ∈ wsX00, w ∈ wsX0_blockSign := by decide +kernel
  have hm4 := hM.2.1
  have hp := zp2 d hd
  have hq4 : q < 401 := by have : q * 1 ≤ q * 2 ^ d := Nat.mul_le_mul_left _ hp.1; omega
  have hsh : (1 : Int32) <<< (nI d &&& 31) = nI (2 ^ d) := (zsh_l 1 (by decide) d hd).trans (by rw [Nat.one_mul])
  obtain ⟨mn, hmn, hmn2⟩ : ∃ mn, (if nI (q * 2 ^ d + 2 ^ d) < nI mm then nI (q * 2 ^ d + 2 ^ d) else nI mm) = nI mn ∧ mn ≤ mm ∧ mn ≤ q * 2 ^ d + 2 ^ d ∧ (mn = mm ∨ mn = q * 2 ^ d + 2 ^ d) := by by_cases g : nI (q * 2 ^ d + 2 ^ d) < nI mm; exact ⟨q * 2 ^ d + 2 ^ d, if_pos g, by have := (nI_ltI (by omega) (by omega)).mp g; omega, by omega, Or.inr rfl⟩; exact ⟨mm, if_neg g, by omega, by have h9 : ¬ q * 2 ^ d + 2 ^ d < mm := fun h => g ((nI_ltI (by omega) (by omega)).mpr h); omega, Or.inl rfl⟩
  refine lv_iload_n hx hb dX0_blockSign_0 rfl (lv_at hl 3 rfl) ?_
  refine lv_iload_n hx hb dX0_blockSign_1 rfl (lv_at hl 2 rfl) ?_
  refine lv_ishl hx hb dX0_blockSign_2 ?_
  refine zrd (x := (nI (q * 2 ^ d))) (zsh_l q hq4 d hd) ?_
  refine lv_istore (lv' := [(4, .int (nI (q * 2 ^ d))), (0, .ref c0), (1, .int (nI w)), (2, .int (nI d)), (3, .int (nI q))]) hx hb dX0_blockSign_3 hl (by decide) rfl (fun ls hl => ?_)
  refine lv_aload_n hx hb dX0_blockSign_5 rfl (lv_at hl 1 rfl) ?_
  refine g_Cap_count (a := c0) (v := (nI mm)) C hw hC.1 in_X0 (by decide +kernel) hM.1 dX0_blockSign_6 ?_
  refine lv_iload hx hb dX0_blockSign_9 (lv_at hl 0 rfl) ?_
  refine lv_iconst (v := 1) hx hb dX0_blockSign_11 (by decide) ?_
  refine lv_iload_n hx hb dX0_blockSign_12 rfl (lv_at hl 3 rfl) ?_
  refine lv_ishl hx hb dX0_blockSign_13 ?_
  refine zrd (x := (nI (2 ^ d))) hsh ?_
  refine lv_iadd hx hb dX0_blockSign_14 ?_
  refine zrd (x := (nI (q * 2 ^ d + 2 ^ d))) (nI_add _ _) ?_
  refine va_mmin hx hb (C.2.2.1.trans hl.1.symm) hown (hts (.methodLink RX0 21 Lib.Math.min.name) (by decide +kernel)) (hts (.static Lib.Math.min.name) (by decide +kernel)) (hts (.initialized "java/lang/Math") (by decide +kernel)) (hts (.code Lib.Math.min.name Lib.Math.min.code 2 (some .int)) (by decide +kernel)) (Nat.le_of_ble_eq_true rfl) (Nat.le_of_ble_eq_true rfl) (Nat.le_of_ble_eq_true rfl) (Nat.le_of_ble_eq_true rfl) dX0_blockSign_15 ?_
  refine zrd (x := (nI mn)) hmn ?_
  refine lv_istore (lv' := [(5, .int (nI mn)), (4, .int (nI (q * 2 ^ d))), (0, .ref c0), (1, .int (nI w)), (2, .int (nI d)), (3, .int (nI q))]) hx hb dX0_blockSign_18 hl (by decide) rfl (fun ls hl => ?_)
  refine lv_iload hx hb dX0_blockSign_20 (lv_at hl 1 rfl) ?_
  refine lv_istore (lv' := [(6, .int (nI (q * 2 ^ d))), (5, .int (nI mn)), (4, .int (nI (q * 2 ^ d))), (0, .ref c0), (1, .int (nI w)), (2, .int (nI d)), (3, .int (nI q))]) hx hb dX0_blockSign_22 hl (by decide) rfl (fun ls hl => ?_)
  have lp_2 : ∀ (n9 : Nat) (i : Nat) (H : Heap) (locs : List Loc) (ls : Array Slot), mn - i < n9 → (q * 2 ^ d ≤ i ∧ i ≤ mn) → (∀ k, q * 2 ^ d ≤ k → k < i → ¬ zcg M w k) → zW D y base S s H locs → lv_has ls 7 [(6, .int (nI i)), (5, .int (nI mn)), (4, .int (nI (q * 2 ^ d))), (0, .ref c0), (1, .int (nI w)), (2, .int (nI d)), (3, .int (nI q))] → W p l e (headSpec wsX0_blockSign ({ frames := 3, cells := 0, slots := 0, locals := 65 })).room s m args below meth c H locs 0 0 (MQ below (va_Qi (fun (r : Int32) (S1 : zS) => (r = 120 ∨ zBk M w d mm q) ∧ S1 = S) (zPost D y base) (zA base)) args s 0 0 (zA base)) (F0 m 24 ls []) := by
    intro n9
    induction n9 with
    | zero =>
      intro i H locs ls hn9
      exact absurd hn9 (Nat.not_lt_zero _)
    | succ n9 ih_1 =>
      intro i H locs ls hn9 hi hno hw hl
      refine lv_iload hx hb dX0_blockSign_24 (lv_at hl 0 rfl) ?_
      refine lv_iload hx hb dX0_blockSign_26 (lv_at hl 1 rfl) ?_
      refine lv_icmp_ge (tgt := 50) hx hb dX0_blockSign_28 (by decide) (fun c28 => ?_) (fun c28 => ?_)
      · have hgm := z_ge (n := mn) c28 (by omega) (by omega)
        have hblk : zBk M w d mm q := by intro k hk hkq; have h9 := zdv2 hp.1 hkq; exact hno k h9.1 (by omega)
        refine lv_aload_n hx hb dX0_blockSign_50 rfl (lv_at hl 3 rfl) ?_
        refine lv_iload_n hx hb dX0_blockSign_51 rfl (lv_at hl 4 rfl) ?_
        refine lv_iload hx hb dX0_blockSign_52 (lv_at hl 2 rfl) ?_
        refine zcV_i (As := [.int (nI w), .int (nI (q * 2 ^ d))]) (rest := []) (n9 := 2) (b := c0) C hw (c_X0_isHighAt l D y base S c0 lv mm M w (q * 2 ^ d) hC hM hw4 hq) gX0_blockSign_X0_isHighAt rfl (by decide +kernel) ⟨⟨rfl, rfl⟩, Nat.le_of_ble_eq_true rfl, Nat.le_of_ble_eq_true rfl⟩ hC.1 ⟨by decide, by decide⟩ rfl rfl hl.1 rfl (Nat.le_of_ble_eq_true rfl) ⟨Nat.le_of_ble_eq_true rfl, Nat.le_of_ble_eq_true rfl⟩ dX0_blockSign_54 (fun r54 S54 H locs hp54 hw => ?_)
        obtain ⟨rfl, hS9⟩ := hp54
        have hS9 := hS9.symm
        subst hS9
        refine lv_if_eq (tgt := 65) hx hb dX0_blockSign_57 (by decide) (fun c57 => ?_) (fun c57 => ?_)
        · replace c57 := zb0.mp c57
          refine lv_bipush (v := 48) hx hb dX0_blockSign_65 (by decide) ?_
          exact zri C hw hr hlocks (by decide) ⟨Or.inr hblk, rfl⟩ ⟨Nat.le_of_ble_eq_true rfl, Nat.le_of_ble_eq_true rfl⟩ dX0_blockSign_67
        · replace c57 := zb1.mp c57
          refine lv_bipush (v := 49) hx hb dX0_blockSign_60 (by decide) ?_
          refine lv_goto (tgt := 67) hx hb dX0_blockSign_62 (by decide) ?_
          exact zri C hw hr hlocks (by decide) ⟨Or.inr hblk, rfl⟩ ⟨Nat.le_of_ble_eq_true rfl, Nat.le_of_ble_eq_true rfl⟩ dX0_blockSign_67
      · have hik := z_lt (n := mn) c28 (by omega) (by omega)
        refine lv_aload_n hx hb dX0_blockSign_31 rfl (lv_at hl 3 rfl) ?_
        refine lv_iload_n hx hb dX0_blockSign_32 rfl (lv_at hl 4 rfl) ?_
        refine lv_iload hx hb dX0_blockSign_33 (lv_at hl 0 rfl) ?_
        refine zcV_i (As := [.int (nI w), .int (nI i)]) (rest := []) (n9 := 2) (b := c0) C hw (c_X0_changesAt l D y base S c0 lv mm M w i hC hM hw4 (by omega)) gX0_blockSign_X0_changesAt rfl (by decide +kernel) ⟨⟨rfl, rfl⟩, Nat.le_of_ble_eq_true rfl, Nat.le_of_ble_eq_true rfl⟩ hC.1 ⟨by decide, by decide⟩ rfl rfl hl.1 rfl (Nat.le_of_ble_eq_true rfl) ⟨Nat.le_of_ble_eq_true rfl, Nat.le_of_ble_eq_true rfl⟩ dX0_blockSign_35 (fun r35 S35 H locs hp35 hw => ?_)
        obtain ⟨rfl, hS9⟩ := hp35
        have hS9 := hS9.symm
        subst hS9
        refine lv_if_eq (tgt := 44) hx hb dX0_blockSign_38 (by decide) (fun c38 => ?_) (fun c38 => ?_)
        · replace c38 := zb0.mp c38
          refine lv_iinc (v := (nI (i + 1))) (lv' := [(6, .int (nI (i + 1))), (5, .int (nI mn)), (4, .int (nI (q * 2 ^ d))), (0, .ref c0), (1, .int (nI w)), (2, .int (nI d)), (3, .int (nI q))]) hx hb dX0_blockSign_44 hl (k := 0) rfl (nI_1 _) (by decide) rfl (fun ls hl => ?_)
          refine lv_goto (tgt := 24) hx hb dX0_blockSign_47 (by decide) ?_
          exact ih_1 (i + 1) _ _ _ (by omega) (by omega) (fun k h1 h2 => by rcases Nat.lt_or_ge k i with g | g; exact hno k h1 g; rw [show k = i by omega]; exact c38) hw (lv_sub hl [0, 1, 2, 3, 4, 5, 6] rfl)
        · replace c38 := zb1.mp c38
          refine lv_bipush (v := 120) hx hb dX0_blockSign_41 (by decide) ?_
          exact zri C hw hr hlocks (by decide) ⟨Or.inl rfl, rfl⟩ ⟨Nat.le_of_ble_eq_true rfl, Nat.le_of_ble_eq_true rfl⟩ dX0_blockSign_43
  exact lp_2 _ (q * 2 ^ d) _ _ _ (Nat.lt_succ_self _) (by omega) (fun k h1 h2 => absurd h1 (by omega)) hw (lv_sub hl [0, 1, 2, 3, 4, 5, 6] rfl)

set_option maxHeartbeats 4000000 in
set_option maxRecDepth 100000 in
/-- X0_areChangesSeenBy -/
theorem c_X0_areChangesSeenBy_g (l : Launch) (D : va_G) (y : Nat → ClassId) (base : Nat) (S : zS) (c0 : Nat) (lv : Nat) (mm : Nat) (M : Nat → Nat → Bool) (w : Nat) (d : Nat) (hC : zCap S c0 lv) (hM : zCp S c0 lv mm M) (hw4 : w < 4) (hd : d < 10) : zMi l yX0_areChangesSeenBy wsX0_areChangesSeenBy ({ frames := 4, cells := 0, slots := 0, locals := 91 }) [.ref c0, .int (nI w), .int (nI d)] D y base S (fun (r : Int32) (S1 : zS) => r = 1 ∧ S1 = S) 0 0 := by
  refine zMet_of (cc := cX0_areChangesSeenBy) (maxL := 6) (ret := (some .boolean)) (own := RX0) (by decide +kernel) rfl rfl (Nat.le_of_ble_eq_true rfl) ?_
  intro p e s m args below meth c ls C hr hlocks hnm hw hl
  have hx := C.1
  have hb := C.2.1
  have hown := C.2.2.2.1
  have hts := C.2.2.2.2
  have hl : lv_has ls 6 [(0, .ref c0), (1, .int (nI w)), (2, .int (nI d))] := hl
  have in_X0 : ∀ w ∈ wsX00, w ∈ wsX0_areChangesSeenBy := by decide +kernel
  have hm4 := hM.2.1
  have hp := zp2 d hd
  refine lv_iconst (v := 1) hx hb dX0_areChangesSeenBy_0 (by decide) ?_
  refine lv_iload_n hx hb dX0_areChangesSeenBy_1 rfl (lv_at hl 2 rfl) ?_
  refine lv_ishl hx hb dX0_areChangesSeenBy_2 ?_
  refine lv_iconst (v := 1) hx hb dX0_areChangesSeenBy_3 (by decide) ?_
  refine lv_isub hx hb dX0_areChangesSeenBy_4 ?_
  refine lv_istore_n (lv' := [(3, .int ((1 <<< ((nI d) &&& 31)) - 1)), (0, .ref c0), (1, .int (nI w)), (2, .int (nI d))]) hx hb dX0_areChangesSeenBy_5 rfl hl (by decide) rfl (fun ls hl => ?_)
  refine lv_bipush (v := 120) hx hb dX0_areChangesSeenBy_6 (by decide) ?_
  refine lv_istore (lv' := [(4, .int 120), (3, .int ((1 <<< ((nI d) &&& 31)) - 1)), (0, .ref c0), (1, .int (nI w)), (2, .int (nI d))]) hx hb dX0_areChangesSeenBy_8 hl (by decide) rfl (fun ls hl => ?_)
  refine lv_iconst (v := 0) hx hb dX0_areChangesSeenBy_10 (by decide) ?_
  refine lv_istore (lv' := [(5, .int 0), (4, .int 120), (3, .int ((1 <<< ((nI d) &&& 31)) - 1)), (0, .ref c0), (1, .int (nI w)), (2, .int (nI d))]) hx hb dX0_areChangesSeenBy_11 hl (by decide) rfl (fun ls hl => ?_)
  have lp_2 : ∀ (n9 : Nat) (i : Nat) (sg : Int32) (H : Heap) (locs : List Loc) (ls : Array Slot), mm - i < n9 → (i ≤ mm) → (sg = 120 ∨ (i = 0 ∨ zBk M w d mm ((i - 1) / 2 ^ d))) → zW D y base S s H locs → lv_has ls 6 [(5, .int (nI i)), (4, .int sg), (3, .int (((1 : Int32) <<< ((nI d) &&& 31)) - 1)), (0, .ref c0), (1, .int (nI w)), (2, .int (nI d))] → W p l e (headSpec wsX0_areChangesSeenBy ({ frames := 4, cells := 0, slots := 0, locals := 91 })).room s m args below meth c H locs 0 0 (MQ below (va_Qi (fun (r : Int32) (S1 : zS) => r = 1 ∧ S1 = S) (zPost D y base) (zA base)) args s 0 0 (zA base)) (F0 m 13 ls []) := by
    intro n9
    induction n9 with
    | zero =>
      intro i sg H locs ls hn9
      exact absurd hn9 (Nat.not_lt_zero _)
    | succ n9 ih_1 =>
      intro i sg H locs ls hn9 hi hsg hw hl
      refine lv_iload hx hb dX0_areChangesSeenBy_13 (lv_at hl 0 rfl) ?_
      refine lv_aload_n hx hb dX0_areChangesSeenBy_15 rfl (lv_at hl 3 rfl) ?_
      refine g_Cap_count (a := c0) (v := (nI mm)) C hw hC.1 in_X0 (by decide +kernel) hM.1 dX0_areChangesSeenBy_16 ?_
      refine lv_icmp_ge (tgt := 66) hx hb dX0_areChangesSeenBy_19 (by decide) (fun c19 => ?_) (fun c19 => ?_)
      · refine lv_iconst (v := 1) hx hb dX0_areChangesSeenBy_66 (by decide) ?_
        exact zri C hw hr hlocks (by decide) (by first | exact ⟨rfl, rfl⟩ | exact rfl | (refine ⟨?_, rfl⟩; grind) | grind) ⟨Nat.le_of_ble_eq_true rfl, Nat.le_of_ble_eq_true rfl⟩ dX0_areChangesSeenBy_67
      · have him := z_lt (n := mm) c19 (by omega) (by omega)
        refine lv_iload hx hb dX0_areChangesSeenBy_22 (lv_at hl 0 rfl) ?_
        refine lv_iload_n hx hb dX0_areChangesSeenBy_24 rfl (lv_at hl 2 rfl) ?_
        refine lv_iand hx hb dX0_areChangesSeenBy_25 ?_
        refine lv_if_ne (tgt := 41) hx hb dX0_areChangesSeenBy_26 (by decide) (fun c26 => ?_) (fun c26 => ?_)
        · have hcur : sg = 120 ∨ zBk M w d mm (i / 2 ^ d) := hsg.imp id (fun h => by rcases h with h | h; exfalso; subst h; exact c26 (by rw [zsh_a 0 (by decide) d hd, Nat.zero_mod]; rfl); have hne : i % 2 ^ d ≠ 0 := (fun e => c26 (by rw [zsh_a i (by omega) d hd, e]; rfl)); rw [show i / 2 ^ d = (i - 1) / 2 ^ d from (by have h1 := Nat.div_add_mod i (2 ^ d); have h2 := Nat.mod_lt i (show 2 ^ d > 0 by omega); rw [Nat.mul_comm] at h1; exact (zdv (q := i / 2 ^ d) hp.1 (by omega) (by omega)).symm)]; exact h)
          refine lv_iload hx hb dX0_areChangesSeenBy_41 (lv_at hl 1 rfl) ?_
          refine lv_bipush (v := 120) hx hb dX0_areChangesSeenBy_43 (by decide) ?_
          refine lv_icmp_eq (tgt := 60) hx hb dX0_areChangesSeenBy_45 (by decide) (fun c45 => ?_) (fun c45 => ?_)
          · refine lv_iinc (v := (nI (i + 1))) (lv' := [(5, .int (nI (i + 1))), (4, .int sg), (3, .int (((1 : Int32) <<< ((nI d) &&& 31)) - 1)), (0, .ref c0), (1, .int (nI w)), (2, .int (nI d))]) hx hb dX0_areChangesSeenBy_60 hl (k := 0) rfl (nI_1 _) (by decide) rfl (fun ls hl => ?_)
            refine lv_goto (tgt := 13) hx hb dX0_areChangesSeenBy_63 (by decide) ?_
            exact ih_1 (i + 1) sg _ _ _ (by omega) (by omega) (hcur.imp id Or.inr) hw (lv_sub hl [0, 1, 2, 3, 4, 5] rfl)
          · refine lv_aload_n hx hb dX0_areChangesSeenBy_48 rfl (lv_at hl 3 rfl) ?_
            refine lv_iload_n hx hb dX0_areChangesSeenBy_49 rfl (lv_at hl 4 rfl) ?_
            refine lv_iload hx hb dX0_areChangesSeenBy_50 (lv_at hl 0 rfl) ?_
            refine zcV_i (As := [.int (nI w), .int (nI i)]) (rest := []) (n9 := 2) (b := c0) C hw (c_X0_changesAt l D y base S c0 lv mm M w i hC hM hw4 him) gX0_areChangesSeenBy_X0_changesAt rfl (by decide +kernel) ⟨⟨rfl, rfl⟩, Nat.le_of_ble_eq_true rfl, Nat.le_of_ble_eq_true rfl⟩ hC.1 ⟨by decide, by decide⟩ rfl rfl hl.1 rfl (Nat.le_of_ble_eq_true rfl) ⟨Nat.le_of_ble_eq_true rfl, Nat.le_of_ble_eq_true rfl⟩ dX0_areChangesSeenBy_52 (fun r52 S52 H locs hp52 hw => ?_)
            obtain ⟨rfl, hS9⟩ := hp52
            have hS9 := hS9.symm
            subst hS9
            refine lv_if_eq (tgt := 60) hx hb dX0_areChangesSeenBy_55 (by decide) (fun c55 => ?_) (fun c55 => (show False from (hcur.elim (fun h => c45 h) (fun h => h i him rfl (zb1.mp c55)))).elim)
            replace c55 := zb0.mp c55
            refine lv_iinc (v := (nI (i + 1))) (lv' := [(5, .int (nI (i + 1))), (4, .int sg), (3, .int (((1 : Int32) <<< ((nI d) &&& 31)) - 1)), (0, .ref c0), (1, .int (nI w)), (2, .int (nI d))]) hx hb dX0_areChangesSeenBy_60 hl (k := 0) rfl (nI_1 _) (by decide) rfl (fun ls hl => ?_)
            refine lv_goto (tgt := 13) hx hb dX0_areChangesSeenBy_63 (by decide) ?_
            exact ih_1 (i + 1) sg _ _ _ (by omega) (by omega) (hcur.imp id Or.inr) hw (lv_sub hl [0, 1, 2, 3, 4, 5] rfl)
        · have hz9 : i % 2 ^ d = 0 := (nI_eq (b := 0) (by have := Nat.mod_lt i (show 2 ^ d > 0 by omega); omega) (by decide)).mp (by rw [← zsh_a i (by omega) d hd]; exact c26)
          have hdv : i / 2 ^ d * 2 ^ d = i := by have := Nat.div_add_mod i (2 ^ d); rw [hz9, Nat.mul_comm] at this; omega
          refine lv_aload_n hx hb dX0_areChangesSeenBy_29 rfl (lv_at hl 3 rfl) ?_
          refine lv_iload_n hx hb dX0_areChangesSeenBy_30 rfl (lv_at hl 4 rfl) ?_
          refine lv_iload_n hx hb dX0_areChangesSeenBy_31 rfl (lv_at hl 5 rfl) ?_
          refine lv_iload hx hb dX0_areChangesSeenBy_32 (lv_at hl 0 rfl) ?_
          refine lv_iload_n hx hb dX0_areChangesSeenBy_34 rfl (lv_at hl 5 rfl) ?_
          refine lv_ishr hx hb dX0_areChangesSeenBy_35 ?_
          refine zrd (x := (nI (i / 2 ^ d))) (zsh_r i (by omega) d hd) ?_
          refine zcV_i (As := [.int (nI w), .int (nI d), .int (nI (i / 2 ^ d))]) (rest := []) (n9 := 3) (b := c0) C hw (c_X0_blockSign_g l D y base S c0 lv mm M w d (i / 2 ^ d) hC hM hw4 hd (by rw [hdv]; exact him)) gX0_areChangesSeenBy_X0_blockSign rfl (by decide +kernel) ⟨⟨rfl, rfl⟩, Nat.le_of_ble_eq_true rfl, Nat.le_of_ble_eq_true rfl⟩ hC.1 ⟨by decide, by decide⟩ rfl rfl hl.1 rfl (Nat.le_of_ble_eq_true rfl) ⟨Nat.le_of_ble_eq_true rfl, Nat.le_of_ble_eq_true rfl⟩ dX0_areChangesSeenBy_36 (fun r36 S36 H locs hp36 hw => ?_)
          obtain ⟨hs36, hS9⟩ := hp36
          have hS9 := hS9.symm
          subst hS9
          refine lv_istore (lv' := [(4, .int r36), (5, .int (nI i)), (3, .int (((1 : Int32) <<< ((nI d) &&& 31)) - 1)), (0, .ref c0), (1, .int (nI w)), (2, .int (nI d))]) hx hb dX0_areChangesSeenBy_39 hl (by decide) rfl (fun ls hl => ?_)
          have hcur : r36 = 120 ∨ zBk M w d mm (i / 2 ^ d) := hs36
          refine lv_iload hx hb dX0_areChangesSeenBy_41 (lv_at hl 0 rfl) ?_
          refine lv_bipush (v := 120) hx hb dX0_areChangesSeenBy_43 (by decide) ?_
          refine lv_icmp_eq (tgt := 60) hx hb dX0_areChangesSeenBy_45 (by decide) (fun c45 => ?_) (fun c45 => ?_)
          · refine lv_iinc (v := (nI (i + 1))) (lv' := [(5, .int (nI (i + 1))), (4, .int r36), (3, .int (((1 : Int32) <<< ((nI d) &&& 31)) - 1)), (0, .ref c0), (1, .int (nI w)), (2, .int (nI d))]) hx hb dX0_areChangesSeenBy_60 hl (k := 1) rfl (nI_1 _) (by decide) rfl (fun ls hl => ?_)
            refine lv_goto (tgt := 13) hx hb dX0_areChangesSeenBy_63 (by decide) ?_
            exact ih_1 (i + 1) r36 _ _ _ (by omega) (by omega) (hcur.imp id Or.inr) hw (lv_sub hl [0, 1, 2, 3, 4, 5] rfl)
          · refine lv_aload_n hx hb dX0_areChangesSeenBy_48 rfl (lv_at hl 3 rfl) ?_
            refine lv_iload_n hx hb dX0_areChangesSeenBy_49 rfl (lv_at hl 4 rfl) ?_
            refine lv_iload hx hb dX0_areChangesSeenBy_50 (lv_at hl 1 rfl) ?_
            refine zcV_i (As := [.int (nI w), .int (nI i)]) (rest := []) (n9 := 2) (b := c0) C hw (c_X0_changesAt l D y base S c0 lv mm M w i hC hM hw4 him) gX0_areChangesSeenBy_X0_changesAt rfl (by decide +kernel) ⟨⟨rfl, rfl⟩, Nat.le_of_ble_eq_true rfl, Nat.le_of_ble_eq_true rfl⟩ hC.1 ⟨by decide, by decide⟩ rfl rfl hl.1 rfl (Nat.le_of_ble_eq_true rfl) ⟨Nat.le_of_ble_eq_true rfl, Nat.le_of_ble_eq_true rfl⟩ dX0_areChangesSeenBy_52 (fun r52 S52 H locs hp52 hw => ?_)
            obtain ⟨rfl, hS9⟩ := hp52
            have hS9 := hS9.symm
            subst hS9
            refine lv_if_eq (tgt := 60) hx hb dX0_areChangesSeenBy_55 (by decide) (fun c55 => ?_) (fun c55 => (show False from (hcur.elim (fun h => c45 h) (fun h => h i him rfl (zb1.mp c55)))).elim)
            replace c55 := zb0.mp c55
            refine lv_iinc (v := (nI (i + 1))) (lv' := [(5, .int (nI (i + 1))), (4, .int r36), (3, .int (((1 : Int32) <<< ((nI d) &&& 31)) - 1)), (0, .ref c0), (1, .int (nI w)), (2, .int (nI d))]) hx hb dX0_areChangesSeenBy_60 hl (k := 1) rfl (nI_1 _) (by decide) rfl (fun ls hl => ?_)
            refine lv_goto (tgt := 13) hx hb dX0_areChangesSeenBy_63 (by decide) ?_
            exact ih_1 (i + 1) r36 _ _ _ (by omega) (by omega) (hcur.imp id Or.inr) hw (lv_sub hl [0, 1, 2, 3, 4, 5] rfl)
  exact lp_2 _ 0 120 _ _ _ (Nat.lt_succ_self _) (Nat.zero_le _) (Or.inl rfl) hw (lv_sub hl [0, 1, 2, 3, 4, 5] rfl)

set_option maxHeartbeats 4000000 in
set_option maxRecDepth 100000 in
/-- X0_areChangesSeen -/
theorem c_X0_areChangesSeen_g (l : Launch) (D : va_G) (y : Nat → ClassId) (base : Nat) (S : zS) (c0 : Nat) (lv : Nat) (mm : Nat) (M : Nat → Nat → Bool) (w : Nat) (hC : zCap S c0 lv) (hM : zCp S c0 lv mm M) (hw4 : w < 4) : zMi l yX0_areChangesSeen wsX0_areChangesSeen ({ frames := 5, cells := 0, slots := 0, locals := 116 }) [.ref c0, .int (nI w)] D y base S (fun (r : Int32) (S1 : zS) => r = 1 ∧ S1 = S) 0 0 := by
  refine zMet_of (cc := cX0_areChangesSeen) (maxL := 3) (ret := (some .boolean)) (own := RX0) (by decide +kernel) rfl rfl (Nat.le_of_ble_eq_true rfl) ?_
  intro p e s m args below meth c ls C hr hlocks hnm hw hl
  have hx := C.1
  have hb := C.2.1
  have hown := C.2.2.2.1
  have hts := C.2.2.2.2
  have hl : lv_has ls 3 [(0, .ref c0), (1, .int (nI w))] := hl
  refine lv_iconst (v := 0) hx hb dX0_areChangesSeen_0 (by decide) ?_
  refine lv_istore_n (lv' := [(2, .int 0), (0, .ref c0), (1, .int (nI w))]) hx hb dX0_areChangesSeen_1 rfl hl (by decide) rfl (fun ls hl => ?_)
  have lp_2 : ∀ (n9 : Nat) (d : Nat) (H : Heap) (locs : List Loc) (ls : Array Slot), 11 - d < n9 → (d ≤ 10) → zW D y base S s H locs → lv_has ls 3 [(2, .int (nI d)), (0, .ref c0), (1, .int (nI w))] → W p l e (headSpec wsX0_areChangesSeen ({ frames := 5, cells := 0, slots := 0, locals := 116 })).room s m args below meth c H locs 0 0 (MQ below (va_Qi (fun (r : Int32) (S1 : zS) => r = 1 ∧ S1 = S) (zPost D y base) (zA base)) args s 0 0 (zA base)) (F0 m 2 ls []) := by
    intro n9
    induction n9 with
    | zero =>
      intro d H locs ls hn9
      exact absurd hn9 (Nat.not_lt_zero _)
    | succ n9 ih_1 =>
      intro d H locs ls hn9 hd hw hl
      refine lv_iload_n hx hb dX0_areChangesSeen_2 rfl (lv_at hl 0 rfl) ?_
      refine lv_bipush (v := 9) hx hb dX0_areChangesSeen_3 (by decide) ?_
      refine lv_icmp_gt (tgt := 25) hx hb dX0_areChangesSeen_5 (by decide) (fun c5 => ?_) (fun c5 => ?_)
      · refine lv_iconst (v := 1) hx hb dX0_areChangesSeen_25 (by decide) ?_
        exact zri C hw hr hlocks (by decide) (by first | exact ⟨rfl, rfl⟩ | exact rfl | (refine ⟨?_, rfl⟩; grind) | grind) ⟨Nat.le_of_ble_eq_true rfl, Nat.le_of_ble_eq_true rfl⟩ dX0_areChangesSeen_26
      · have hd9 : d < 10 := by have := c5; rw [show (9 : Int32) = nI 9 from rfl, nI_ltI (by decide) (by omega)] at this; omega
        refine lv_aload_n hx hb dX0_areChangesSeen_8 rfl (lv_at hl 1 rfl) ?_
        refine lv_iload_n hx hb dX0_areChangesSeen_9 rfl (lv_at hl 2 rfl) ?_
        refine lv_iload_n hx hb dX0_areChangesSeen_10 rfl (lv_at hl 0 rfl) ?_
        refine zcV_i (As := [.int (nI w), .int (nI d)]) (rest := []) (n9 := 2) (b := c0) C hw (c_X0_areChangesSeenBy_g l D y base S c0 lv mm M w d hC hM hw4 hd9) gX0_areChangesSeen_X0_areChangesSeenBy rfl (by decide +kernel) ⟨⟨rfl, rfl⟩, Nat.le_of_ble_eq_true rfl, Nat.le_of_ble_eq_true rfl⟩ hC.1 ⟨by decide, by decide⟩ rfl rfl hl.1 rfl (Nat.le_of_ble_eq_true rfl) ⟨Nat.le_of_ble_eq_true rfl, Nat.le_of_ble_eq_true rfl⟩ dX0_areChangesSeen_11 (fun r11 S11 H locs hp11 hw => ?_)
        obtain ⟨rfl, hS9⟩ := hp11
        have hS9 := hS9.symm
        subst hS9
        refine lv_if_ne (tgt := 19) hx hb dX0_areChangesSeen_14 (by decide) (fun _ => ?_) (fun c14 => absurd c14 (by decide))
        refine lv_iinc (v := (nI (d + 1))) (lv' := [(2, .int (nI (d + 1))), (0, .ref c0), (1, .int (nI w))]) hx hb dX0_areChangesSeen_19 hl (k := 0) rfl (nI_1 _) (by decide) rfl (fun ls hl => ?_)
        refine lv_goto (tgt := 2) hx hb dX0_areChangesSeen_22 (by decide) ?_
        exact ih_1 (d + 1) _ _ _ (by omega) (by omega) hw (lv_sub hl [0, 1, 2] rfl)
  exact lp_2 _ 0 _ _ _ (Nat.lt_succ_self _) (Nat.zero_le _) hw (lv_sub hl [0, 1, 2] rfl)

set_option maxHeartbeats 4000000 in
set_option maxRecDepth 100000 in
/-- X7_middleOf -/
theorem c_X7_middleOf (l : Launch) (D : va_G) (y : Nat → ClassId) (base : Nat) (S : zS) (f : Nat) (n : Nat) (hn : n ≤ 10) : zMi l yX7_middleOf wsX7_middleOf ({ frames := 0, cells := 0, slots := 0, locals := 0 }) [.int (nI f), .int (nI n), .int 20] D y base S (fun (r : Int32) (S1 : zS) => r = nI (f + 2 * n + 1) ∧ S1 = S) 0 0 := by
  refine zMet_of (cc := cX7_middleOf) (maxL := 3) (ret := (some .int)) (own := RX7) (by decide +kernel) rfl rfl (Nat.le_of_ble_eq_true rfl) ?_
  intro p e s m args below meth c ls C hr hlocks hnm hw hl
  have hx := C.1
  have hb := C.2.1
  have hown := C.2.2.2.1
  have hts := C.2.2.2.2
  have hl : lv_has ls 3 [(0, .int (nI f)), (1, .int (nI n)), (2, .int 20)] := hl
  refine lv_iload_n hx hb dX7_middleOf_0 rfl (lv_at hl 0 rfl) ?_
  refine lv_iconst (v := 2) hx hb dX7_middleOf_1 (by decide) ?_
  refine lv_iload_n hx hb dX7_middleOf_2 rfl (lv_at hl 1 rfl) ?_
  refine lv_imul hx hb dX7_middleOf_3 ?_
  refine lv_iconst (v := 1) hx hb dX7_middleOf_4 (by decide) ?_
  refine lv_iadd hx hb dX7_middleOf_5 ?_
  refine lv_iload_n hx hb dX7_middleOf_6 rfl (lv_at hl 2 rfl) ?_
  refine lv_imul hx hb dX7_middleOf_7 ?_
  refine lv_bipush (v := 20) hx hb dX7_middleOf_8 (by decide) ?_
  refine lv_idiv hx hb dX7_middleOf_10 (by decide) ?_
  refine lv_iadd hx hb dX7_middleOf_11 ?_
  exact zri C hw hr hlocks rfl ⟨z2a20 hn, rfl⟩ ⟨Nat.le_of_ble_eq_true rfl, Nat.le_of_ble_eq_true rfl⟩ dX7_middleOf_12

set_option maxHeartbeats 4000000 in
set_option maxRecDepth 100000 in
/-- X7_tellSerial -/
theorem c_X7_tellSerial (l : Launch) (D : va_G) (y : Nat → ClassId) (base : Nat) (S : zS) (x0 : Nat) (c0 : Nat) (lv : Nat) (t0 : Nat) (k1 : Nat) (k2 : Nat) (k3 : Nat) (k4 : Nat) (k5 : Nat) (mm : Nat) (M : Nat → Nat → Bool) (w : Nat) (f : Nat) (pr : Int32) (L : List zNt) (hC : zCap S c0 lv) (hNt : zNts S t0 k1 k2 k3 k4 k5) (hk11 : zK S x0 = 11) (hq179 : zQ S 179 x0 = some t0) (hM : zCp S c0 lv mm M) (hw4 : w < 4) (hf : f < mm) (hNo : zNo S t0 k1 k2 k3 k4 k5 L) (hNd : zNd k1 k2 k3 k4 k5) (hLl : L.length < 200) : zMi l yX7_tellSerial wsX7_tellSerial ({ frames := 2, cells := 0, slots := 0, locals := 43 }) [.ref x0, .ref c0, .int (nI w), .int (nI f), .int 20, .int pr] D y base S (fun (r : Int32) (S1 : zS) => r = nI (zTS (M w) mm pr f L).1 ∧ zNo S1 t0 k1 k2 k3 k4 k5 (zTS (M w) mm pr f L).2 ∧ zFr S S1 (zNI t0) (zNR k1 k2 k3 k4 k5)) 0 0 := by
  refine zMet_of (cc := cX7_tellSerial) (maxL := 11) (ret := (some .int)) (own := RX7) (by decide +kernel) rfl rfl (Nat.le_of_ble_eq_true rfl) ?_
  intro p e s m args below meth c ls C hr hlocks hnm hw hl
  have hx := C.1
  have hb := C.2.1
  have hown := C.2.2.2.1
  have hts := C.2.2.2.2
  have hl : lv_has ls 11 [(0, .ref x0), (1, .ref c0), (2, .int (nI w)), (3, .int (nI f)), (4, .int 20), (5, .int pr)] := hl
  have in_X0 : ∀ w ∈ wsX00, w ∈ wsX7_tellSerial := by decide +kernel
  have in_X7 : ∀ w ∈ wsX70, w ∈ wsX7_tellSerial := by decide +kernel
  have hm4 := hM.2.1
  have hb11 := zsbN_le pr
  have hb10 : 10 ≤ zsbN pr := by unfold zsbN; split <;> omega
  have hze : f + 2 * (zsbN pr - 1) + 1 = zse f pr := rfl
  refine lv_iload hx hb dX7_tellSerial_0 (lv_at hl 5 rfl) ?_
  refine zcS_i (As := [.int pr]) (rest := []) (n9 := 1) C hw (c_X7_serialBits l D y base S pr ) gX7_tellSerial_X7_serialBits rfl (by decide +kernel) ⟨⟨rfl, rfl⟩, Nat.le_of_ble_eq_true rfl, Nat.le_of_ble_eq_true rfl⟩ rfl hl.1 rfl (Nat.le_of_ble_eq_true rfl) ⟨Nat.le_of_ble_eq_true rfl, Nat.le_of_ble_eq_true rfl⟩ dX7_tellSerial_2 (fun r2 S2 H locs hp2 hw => ?_)
  obtain ⟨rfl, hS9⟩ := hp2
  have hS9 := hS9.symm
  subst hS9
  refine lv_istore (lv' := [(6, .int (nI (zsbN pr))), (0, .ref x0), (1, .ref c0), (2, .int (nI w)), (3, .int (nI f)), (4, .int 20), (5, .int pr)]) hx hb dX7_tellSerial_5 hl (by decide) rfl (fun ls hl => ?_)
  refine lv_iload_n hx hb dX7_tellSerial_7 rfl (lv_at hl 4 rfl) ?_
  refine lv_iload hx hb dX7_tellSerial_8 (lv_at hl 0 rfl) ?_
  refine lv_iconst (v := 1) hx hb dX7_tellSerial_10 (by decide) ?_
  refine lv_isub hx hb dX7_tellSerial_11 ?_
  refine zrd (x := (nI (zsbN pr - 1))) (pk_sub (b := 1) (by omega)) ?_
  refine lv_iload hx hb dX7_tellSerial_12 (lv_at hl 5 rfl) ?_
  refine zcS_i (As := [.int (nI f), .int (nI (zsbN pr - 1)), .int 20]) (rest := []) (n9 := 3) C hw (c_X7_middleOf l D y base S f (zsbN pr - 1) (by omega)) gX7_tellSerial_X7_middleOf rfl (by decide +kernel) ⟨⟨rfl, rfl⟩, Nat.le_of_ble_eq_true rfl, Nat.le_of_ble_eq_true rfl⟩ rfl hl.1 rfl (Nat.le_of_ble_eq_true rfl) ⟨Nat.le_of_ble_eq_true rfl, Nat.le_of_ble_eq_true rfl⟩ dX7_tellSerial_14 (fun r14 S14 H locs hp14 hw => ?_)
  obtain ⟨rfl, hS9⟩ := hp14
  have hS9 := hS9.symm
  subst hS9
  refine zrd (x := (nI (zse f pr))) rfl ?_
  refine lv_istore (lv' := [(7, .int (nI (zse f pr))), (6, .int (nI (zsbN pr))), (0, .ref x0), (1, .ref c0), (2, .int (nI w)), (3, .int (nI f)), (4, .int 20), (5, .int pr)]) hx hb dX7_tellSerial_17 hl (by decide) rfl (fun ls hl => ?_)
  refine lv_iload hx hb dX7_tellSerial_19 (lv_at hl 0 rfl) ?_
  refine lv_aload_n hx hb dX7_tellSerial_21 rfl (lv_at hl 3 rfl) ?_
  refine g_Cap_count (a := c0) (v := (nI mm)) C hw hC.1 in_X0 (by decide +kernel) hM.1 dX7_tellSerial_22 ?_
  refine lv_icmp_ge (tgt := 43) hx hb dX7_tellSerial_25 (by decide) (fun c25 => ?_) (fun c25 => ?_)
  · refine lv_iload_n hx hb dX7_tellSerial_43 rfl (lv_at hl 5 rfl) ?_
    refine lv_iconst (v := 1) hx hb dX7_tellSerial_44 (by decide) ?_
    refine lv_iadd hx hb dX7_tellSerial_45 ?_
    refine zrd (x := (nI (f + 1))) (nI_1 _) ?_
    exact zri C hw hr hlocks rfl (by rw [zTS_0 (Or.inl (z_ge (n := mm) c25 (by unfold zse; omega) (by omega)))]; exact ⟨rfl, hNo, zFr.rf⟩) ⟨Nat.le_of_ble_eq_true rfl, Nat.le_of_ble_eq_true rfl⟩ dX7_tellSerial_46
  · have hend := z_lt (n := mm) c25 (by unfold zse; omega) (by omega)
    have hz9 : zse f pr = f + 2 * (zsbN pr - 1) + 1 := rfl
    refine lv_aload_n hx hb dX7_tellSerial_28 rfl (lv_at hl 3 rfl) ?_
    refine lv_iload_n hx hb dX7_tellSerial_29 rfl (lv_at hl 4 rfl) ?_
    refine lv_iload_n hx hb dX7_tellSerial_30 rfl (lv_at hl 5 rfl) ?_
    refine lv_iconst (v := 0) hx hb dX7_tellSerial_31 (by decide) ?_
    refine zrd (x := (nI 0)) rfl ?_
    refine lv_iload hx hb dX7_tellSerial_32 (lv_at hl 6 rfl) ?_
    refine zcS_i (As := [.int (nI f), .int (nI 0), .int 20]) (rest := [.int (nI w), .ref c0]) (n9 := 3) C hw (c_X7_middleOf l D y base S f 0 (by omega)) gX7_tellSerial_X7_middleOf rfl (by decide +kernel) ⟨⟨rfl, rfl⟩, Nat.le_of_ble_eq_true rfl, Nat.le_of_ble_eq_true rfl⟩ rfl hl.1 rfl (Nat.le_of_ble_eq_true rfl) ⟨Nat.le_of_ble_eq_true rfl, Nat.le_of_ble_eq_true rfl⟩ dX7_tellSerial_34 (fun r34 S34 H locs hp34 hw => ?_)
    obtain ⟨rfl, hS9⟩ := hp34
    have hS9 := hS9.symm
    subst hS9
    refine zcV_i (As := [.int (nI w), .int (nI (f + 2 * 0 + 1))]) (rest := []) (n9 := 2) (b := c0) C hw (c_X0_isHighAt l D y base S c0 lv mm M w (f + 2 * 0 + 1) hC hM hw4 (by omega)) gX7_tellSerial_X0_isHighAt rfl (by decide +kernel) ⟨⟨rfl, rfl⟩, Nat.le_of_ble_eq_true rfl, Nat.le_of_ble_eq_true rfl⟩ hC.1 ⟨by decide, by decide⟩ rfl rfl hl.1 rfl (Nat.le_of_ble_eq_true rfl) ⟨Nat.le_of_ble_eq_true rfl, Nat.le_of_ble_eq_true rfl⟩ dX7_tellSerial_37 (fun r37 S37 H locs hp37 hw => ?_)
    obtain ⟨rfl, hS9⟩ := hp37
    have hS9 := hS9.symm
    subst hS9
    refine lv_if_eq (tgt := 47) hx hb dX7_tellSerial_40 (by decide) (fun c40 => ?_) (fun c40 => ?_)
    · replace c40 := zb0.mp c40
      refine lv_iconst (v := 0) hx hb dX7_tellSerial_47 (by decide) ?_
      refine lv_istore (lv' := [(8, .int 0), (7, .int (nI (zse f pr))), (6, .int (nI (zsbN pr))), (0, .ref x0), (1, .ref c0), (2, .int (nI w)), (3, .int (nI f)), (4, .int 20), (5, .int pr)]) hx hb dX7_tellSerial_48 hl (by decide) rfl (fun ls hl => ?_)
      refine lv_iconst (v := 0) hx hb dX7_tellSerial_50 (by decide) ?_
      refine lv_istore (lv' := [(9, .int 0), (8, .int 0), (7, .int (nI (zse f pr))), (6, .int (nI (zsbN pr))), (0, .ref x0), (1, .ref c0), (2, .int (nI w)), (3, .int (nI f)), (4, .int 20), (5, .int pr)]) hx hb dX7_tellSerial_51 hl (by decide) rfl (fun ls hl => ?_)
      have lp_2 : ∀ (n9 : Nat) (n : Nat) (v : Nat) (H : Heap) (locs : List Loc) (ls : Array Slot), 9 - n < n9 → (n ≤ 8) → (v = zsv (M w) f n) → zW D y base S s H locs → lv_has ls 11 [(9, .int (nI n)), (8, .int (nI v)), (0, .ref x0), (1, .ref c0), (2, .int (nI w)), (3, .int (nI f)), (4, .int 20), (5, .int pr), (6, .int (nI (zsbN pr))), (7, .int (nI (zse f pr)))] → W p l e (headSpec wsX7_tellSerial ({ frames := 2, cells := 0, slots := 0, locals := 43 })).room s m args below meth c H locs 0 0 (MQ below (va_Qi (fun (r : Int32) (S1 : zS) => r = nI (zTS (M w) mm pr f L).1 ∧ zNo S1 t0 k1 k2 k3 k4 k5 (zTS (M w) mm pr f L).2 ∧ zFr S S1 (zNI t0) (zNR k1 k2 k3 k4 k5)) (zPost D y base) (zA base)) args s 0 0 (zA base)) (F0 m 53 ls []) := by
        intro n9
        induction n9 with
        | zero =>
          intro n v H locs ls hn9
          exact absurd hn9 (Nat.not_lt_zero _)
        | succ n9 ih_1 =>
          intro n v H locs ls hn9 hn hv hw hl
          refine lv_iload hx hb dX7_tellSerial_53 (lv_at hl 0 rfl) ?_
          refine lv_bipush (v := 8) hx hb dX7_tellSerial_55 (by decide) ?_
          refine lv_icmp_ge (tgt := 93) hx hb dX7_tellSerial_57 (by decide) (fun c57 => ?_) (fun c57 => ?_)
          · have hn8 : n = 8 := by have := z_ge (n := 8) c57 (by omega) (by omega); omega
            have hv8 : v = zsv (M w) f 8 := by rw [hv, hn8]
            refine lv_bipush (v := 45) hx hb dX7_tellSerial_93 (by decide) ?_
            refine lv_istore (lv' := [(9, .int 45), (8, .int (nI v)), (0, .ref x0), (1, .ref c0), (2, .int (nI w)), (3, .int (nI f)), (4, .int 20), (5, .int pr), (6, .int (nI (zsbN pr))), (7, .int (nI (zse f pr)))]) hx hb dX7_tellSerial_95 hl (by decide) rfl (fun ls hl => ?_)
            refine lv_aload_n hx hb dX7_tellSerial_97 rfl (lv_at hl 3 rfl) ?_
            refine lv_iload_n hx hb dX7_tellSerial_98 rfl (lv_at hl 4 rfl) ?_
            refine lv_iload_n hx hb dX7_tellSerial_99 rfl (lv_at hl 5 rfl) ?_
            refine lv_bipush (v := 9) hx hb dX7_tellSerial_100 (by decide) ?_
            refine zrd (x := (nI 9)) rfl ?_
            refine lv_iload hx hb dX7_tellSerial_102 (lv_at hl 6 rfl) ?_
            refine zcS_i (As := [.int (nI f), .int (nI 9), .int 20]) (rest := [.int (nI w), .ref c0]) (n9 := 3) C hw (c_X7_middleOf l D y base S f 9 (by omega)) gX7_tellSerial_X7_middleOf rfl (by decide +kernel) ⟨⟨rfl, rfl⟩, Nat.le_of_ble_eq_true rfl, Nat.le_of_ble_eq_true rfl⟩ rfl hl.1 rfl (Nat.le_of_ble_eq_true rfl) ⟨Nat.le_of_ble_eq_true rfl, Nat.le_of_ble_eq_true rfl⟩ dX7_tellSerial_104 (fun r104 S104 H locs hp104 hw => ?_)
            obtain ⟨rfl, hS9⟩ := hp104
            have hS9 := hS9.symm
            subst hS9
            refine zcV_i (As := [.int (nI w), .int (nI (f + 2 * 9 + 1))]) (rest := []) (n9 := 2) (b := c0) C hw (c_X0_isHighAt l D y base S c0 lv mm M w (f + 2 * 9 + 1) hC hM hw4 (by omega)) gX7_tellSerial_X0_isHighAt rfl (by decide +kernel) ⟨⟨rfl, rfl⟩, Nat.le_of_ble_eq_true rfl, Nat.le_of_ble_eq_true rfl⟩ hC.1 ⟨by decide, by decide⟩ rfl rfl hl.1 rfl (Nat.le_of_ble_eq_true rfl) ⟨Nat.le_of_ble_eq_true rfl, Nat.le_of_ble_eq_true rfl⟩ dX7_tellSerial_107 (fun r107 S107 H locs hp107 hw => ?_)
            obtain ⟨rfl, hS9⟩ := hp107
            have hS9 := hS9.symm
            subst hS9
            refine lv_istore (lv' := [(10, .int (zb (M w (f + 2 * 9 + 1) = true))), (9, .int 45), (8, .int (nI v)), (0, .ref x0), (1, .ref c0), (2, .int (nI w)), (3, .int (nI f)), (4, .int 20), (5, .int pr), (6, .int (nI (zsbN pr))), (7, .int (nI (zse f pr)))]) hx hb dX7_tellSerial_110 hl (by decide) rfl (fun ls hl => ?_)
            have jn_3 : ∀ (fl_4 : Int32) (H : Heap) (locs : List Loc) (ls : Array Slot), zW D y base S s H locs → lv_has ls 11 [(9, .int fl_4), (10, .int (zb (M w (f + 2 * 9 + 1) = true))), (8, .int (nI v)), (0, .ref x0), (1, .ref c0), (2, .int (nI w)), (3, .int (nI f)), (4, .int 20), (5, .int pr), (6, .int (nI (zsbN pr))), (7, .int (nI (zse f pr)))] → (fl_4 = zsf (M w) f pr v) → W p l e (headSpec wsX7_tellSerial ({ frames := 2, cells := 0, slots := 0, locals := 43 })).room s m args below meth c H locs 0 0 (MQ below (va_Qi (fun (r : Int32) (S1 : zS) => r = nI (zTS (M w) mm pr f L).1 ∧ zNo S1 t0 k1 k2 k3 k4 k5 (zTS (M w) mm pr f L).2 ∧ zFr S S1 (zNI t0) (zNR k1 k2 k3 k4 k5)) (zPost D y base) (zA base)) args s 0 0 (zA base)) (F0 m 161 ls []) := by
              intro fl_4 H locs ls hw hl f_5
              have ffl := f_5
              refine lv_aload_n hx hb dX7_tellSerial_161 rfl (lv_at hl 3 rfl) ?_
              refine g_Ph_told (a := x0) (v := t0) C hw hk11 in_X7 (by decide +kernel) hq179 dX7_tellSerial_162 ?_
              refine lv_bipush (v := 66) hx hb dX7_tellSerial_165 (by decide) ?_
              refine lv_iload_n hx hb dX7_tellSerial_167 rfl (lv_at hl 6 rfl) ?_
              refine lv_iload hx hb dX7_tellSerial_168 (lv_at hl 10 rfl) ?_
              refine lv_iload hx hb dX7_tellSerial_170 (lv_at hl 2 rfl) ?_
              refine lv_iload hx hb dX7_tellSerial_172 (lv_at hl 0 rfl) ?_
              refine zcV_v (As := [.int 66, .int (nI f), .int (nI (zse f pr)), .int (nI v), .int fl_4]) (rest := []) (n9 := 5) (b := t0) C hw (c_X3_tell l D y base S t0 k1 k2 k3 k4 k5 66 (nI f) (nI (zse f pr)) (nI v) fl_4 L hNt hNo hNd hLl (by decide) (by rw [ffl]; exact zsf_ch _ _ _ _)) gX7_tellSerial_X3_tell rfl (by decide +kernel) ⟨⟨rfl, rfl⟩, Nat.le_of_ble_eq_true rfl, Nat.le_of_ble_eq_true rfl⟩ hNt.1 ⟨by decide, by decide⟩ rfl rfl hl.1 rfl (Nat.le_of_ble_eq_true rfl) ⟨Nat.le_of_ble_eq_true rfl, Nat.le_of_ble_eq_true rfl⟩ dX7_tellSerial_174 (fun S174 H locs hp174 hw => ?_)
              refine lv_iload hx hb dX7_tellSerial_177 (lv_at hl 10 rfl) ?_
              refine lv_iconst (v := 1) hx hb dX7_tellSerial_179 (by decide) ?_
              refine lv_iadd hx hb dX7_tellSerial_180 ?_
              refine zrd (x := (nI (zse f pr + 1))) (nI_1 _) ?_
              exact zri C hw hr hlocks rfl (by rw [zTS_1 (by omega) c40, ← hv8, ← ffl]; exact ⟨rfl, hp174.1, hp174.2⟩) ⟨Nat.le_of_ble_eq_true rfl, Nat.le_of_ble_eq_true rfl⟩ dX7_tellSerial_181
            refine lv_iload hx hb dX7_tellSerial_112 (lv_at hl 8 rfl) ?_
            refine lv_bipush (v := 110) hx hb dX7_tellSerial_114 (by decide) ?_
            refine lv_icmp_eq (tgt := 147) hx hb dX7_tellSerial_116 (by decide) (fun c116 => ?_) (fun c116 => ?_)
            · refine lv_aload_n hx hb dX7_tellSerial_147 rfl (lv_at hl 4 rfl) ?_
              refine lv_iload_n hx hb dX7_tellSerial_148 rfl (lv_at hl 5 rfl) ?_
              refine lv_iload hx hb dX7_tellSerial_149 (lv_at hl 10 rfl) ?_
              refine zcV_i (As := [.int (nI w), .int (nI (zse f pr))]) (rest := []) (n9 := 2) (b := c0) C hw (c_X0_isHighAt l D y base S c0 lv mm M w (zse f pr) hC hM hw4 hend) gX7_tellSerial_X0_isHighAt rfl (by decide +kernel) ⟨⟨rfl, rfl⟩, Nat.le_of_ble_eq_true rfl, Nat.le_of_ble_eq_true rfl⟩ hC.1 ⟨by decide, by decide⟩ rfl rfl hl.1 rfl (Nat.le_of_ble_eq_true rfl) ⟨Nat.le_of_ble_eq_true rfl, Nat.le_of_ble_eq_true rfl⟩ dX7_tellSerial_151 (fun r151 S151 H locs hp151 hw => ?_)
              obtain ⟨rfl, hS9⟩ := hp151
              have hS9 := hS9.symm
              subst hS9
              refine lv_if_ne (tgt := 161) hx hb dX7_tellSerial_154 (by decide) (fun c154 => ?_) (fun c154 => ?_)
              · replace c154 := zb1.mp c154
                exact jn_3 45 _ _ _ hw (lv_sub hl [1, 0, 2, 3, 4, 5, 6, 7, 8, 9, 10] rfl) (by first | exact zsf_p c116 (fun g => c137 (zeq1.mpr (g.mpr c129))) | exact zsf_p c116 (fun g => c129 (g.mp c137)) | exact zsf_k (Or.inl c116) c154 | exact zsf_f (Or.inl c116) c154 | exact zsf_k (Or.inr ⟨fun _ => c129, fun _ => zeq1.mp c137⟩) c154 | exact zsf_f (Or.inr ⟨fun _ => c129, fun _ => zeq1.mp c137⟩) c154 | exact zsf_k (Or.inr ⟨fun h => absurd h c137, fun h => absurd h c129⟩) c154 | exact zsf_f (Or.inr ⟨fun h => absurd h c137, fun h => absurd h c129⟩) c154)
              · replace c154 := zb0.mp c154
                refine lv_bipush (v := 102) hx hb dX7_tellSerial_157 (by decide) ?_
                refine lv_istore (lv' := [(9, .int 102), (10, .int (zb (M w (f + 2 * 9 + 1) = true))), (8, .int (nI v)), (0, .ref x0), (1, .ref c0), (2, .int (nI w)), (3, .int (nI f)), (4, .int 20), (5, .int pr), (6, .int (nI (zsbN pr))), (7, .int (nI (zse f pr)))]) hx hb dX7_tellSerial_159 hl (by decide) rfl (fun ls hl => ?_)
                exact jn_3 102 _ _ _ hw (lv_sub hl [0, 1, 2, 3, 4, 5, 6, 7, 8, 9, 10] rfl) (by first | exact zsf_p c116 (fun g => c137 (zeq1.mpr (g.mpr c129))) | exact zsf_p c116 (fun g => c129 (g.mp c137)) | exact zsf_k (Or.inl c116) c154 | exact zsf_f (Or.inl c116) c154 | exact zsf_k (Or.inr ⟨fun _ => c129, fun _ => zeq1.mp c137⟩) c154 | exact zsf_f (Or.inr ⟨fun _ => c129, fun _ => zeq1.mp c137⟩) c154 | exact zsf_k (Or.inr ⟨fun h => absurd h c137, fun h => absurd h c129⟩) c154 | exact zsf_f (Or.inr ⟨fun h => absurd h c137, fun h => absurd h c129⟩) c154)
            · refine lv_iload hx hb dX7_tellSerial_119 (lv_at hl 0 rfl) ?_
              refine lv_iload hx hb dX7_tellSerial_121 (lv_at hl 2 rfl) ?_
              refine lv_iload hx hb dX7_tellSerial_123 (lv_at hl 8 rfl) ?_
              refine zcS_i (As := [.int (nI v), .int pr]) (rest := [.int (zb (M w (f + 2 * 9 + 1) = true))]) (n9 := 2) C hw (c_X7_parityOf l D y base S (nI v) pr ) gX7_tellSerial_X7_parityOf rfl (by decide +kernel) ⟨⟨rfl, rfl⟩, Nat.le_of_ble_eq_true rfl, Nat.le_of_ble_eq_true rfl⟩ rfl hl.1 rfl (Nat.le_of_ble_eq_true rfl) ⟨Nat.le_of_ble_eq_true rfl, Nat.le_of_ble_eq_true rfl⟩ dX7_tellSerial_125 (fun r125 S125 H locs hp125 hw => ?_)
              obtain ⟨rfl, hS9⟩ := hp125
              have hS9 := hS9.symm
              subst hS9
              refine lv_iconst (v := 1) hx hb dX7_tellSerial_128 (by decide) ?_
              refine lv_icmp_ne (tgt := 136) hx hb dX7_tellSerial_129 (by decide) (fun c129 => ?_) (fun c129 => ?_)
              · refine lv_iconst (v := 0) hx hb dX7_tellSerial_136 (by decide) ?_
                refine lv_icmp_eq (tgt := 147) hx hb dX7_tellSerial_137 (by decide) (fun c137 => ?_) (fun c137 => ?_)
                · replace c137 := zb0.mp c137
                  refine lv_aload_n hx hb dX7_tellSerial_147 rfl (lv_at hl 4 rfl) ?_
                  refine lv_iload_n hx hb dX7_tellSerial_148 rfl (lv_at hl 5 rfl) ?_
                  refine lv_iload hx hb dX7_tellSerial_149 (lv_at hl 10 rfl) ?_
                  refine zcV_i (As := [.int (nI w), .int (nI (zse f pr))]) (rest := []) (n9 := 2) (b := c0) C hw (c_X0_isHighAt l D y base S c0 lv mm M w (zse f pr) hC hM hw4 hend) gX7_tellSerial_X0_isHighAt rfl (by decide +kernel) ⟨⟨rfl, rfl⟩, Nat.le_of_ble_eq_true rfl, Nat.le_of_ble_eq_true rfl⟩ hC.1 ⟨by decide, by decide⟩ rfl rfl hl.1 rfl (Nat.le_of_ble_eq_true rfl) ⟨Nat.le_of_ble_eq_true rfl, Nat.le_of_ble_eq_true rfl⟩ dX7_tellSerial_151 (fun r151 S151 H locs hp151 hw => ?_)
                  obtain ⟨rfl, hS9⟩ := hp151
                  have hS9 := hS9.symm
                  subst hS9
                  refine lv_if_ne (tgt := 161) hx hb dX7_tellSerial_154 (by decide) (fun c154 => ?_) (fun c154 => ?_)
                  · replace c154 := zb1.mp c154
                    exact jn_3 45 _ _ _ hw (lv_sub hl [1, 0, 2, 3, 4, 5, 6, 7, 8, 9, 10] rfl) (by first | exact zsf_p c116 (fun g => c137 (zeq1.mpr (g.mpr c129))) | exact zsf_p c116 (fun g => c129 (g.mp c137)) | exact zsf_k (Or.inl c116) c154 | exact zsf_f (Or.inl c116) c154 | exact zsf_k (Or.inr ⟨fun _ => c129, fun _ => zeq1.mp c137⟩) c154 | exact zsf_f (Or.inr ⟨fun _ => c129, fun _ => zeq1.mp c137⟩) c154 | exact zsf_k (Or.inr ⟨fun h => absurd h c137, fun h => absurd h c129⟩) c154 | exact zsf_f (Or.inr ⟨fun h => absurd h c137, fun h => absurd h c129⟩) c154)
                  · replace c154 := zb0.mp c154
                    refine lv_bipush (v := 102) hx hb dX7_tellSerial_157 (by decide) ?_
                    refine lv_istore (lv' := [(9, .int 102), (10, .int (zb (M w (f + 2 * 9 + 1) = true))), (8, .int (nI v)), (0, .ref x0), (1, .ref c0), (2, .int (nI w)), (3, .int (nI f)), (4, .int 20), (5, .int pr), (6, .int (nI (zsbN pr))), (7, .int (nI (zse f pr)))]) hx hb dX7_tellSerial_159 hl (by decide) rfl (fun ls hl => ?_)
                    exact jn_3 102 _ _ _ hw (lv_sub hl [0, 1, 2, 3, 4, 5, 6, 7, 8, 9, 10] rfl) (by first | exact zsf_p c116 (fun g => c137 (zeq1.mpr (g.mpr c129))) | exact zsf_p c116 (fun g => c129 (g.mp c137)) | exact zsf_k (Or.inl c116) c154 | exact zsf_f (Or.inl c116) c154 | exact zsf_k (Or.inr ⟨fun _ => c129, fun _ => zeq1.mp c137⟩) c154 | exact zsf_f (Or.inr ⟨fun _ => c129, fun _ => zeq1.mp c137⟩) c154 | exact zsf_k (Or.inr ⟨fun h => absurd h c137, fun h => absurd h c129⟩) c154 | exact zsf_f (Or.inr ⟨fun h => absurd h c137, fun h => absurd h c129⟩) c154)
                · replace c137 := zb1.mp c137
                  refine lv_bipush (v := 112) hx hb dX7_tellSerial_140 (by decide) ?_
                  refine lv_istore (lv' := [(9, .int 112), (10, .int (zb (M w (f + 2 * 9 + 1) = true))), (8, .int (nI v)), (0, .ref x0), (1, .ref c0), (2, .int (nI w)), (3, .int (nI f)), (4, .int 20), (5, .int pr), (6, .int (nI (zsbN pr))), (7, .int (nI (zse f pr)))]) hx hb dX7_tellSerial_142 hl (by decide) rfl (fun ls hl => ?_)
                  refine lv_goto (tgt := 161) hx hb dX7_tellSerial_144 (by decide) ?_
                  exact jn_3 112 _ _ _ hw (lv_sub hl [0, 1, 2, 3, 4, 5, 6, 7, 8, 9, 10] rfl) (by first | exact zsf_p c116 (fun g => c137 (zeq1.mpr (g.mpr c129))) | exact zsf_p c116 (fun g => c129 (g.mp c137)) | exact zsf_k (Or.inl c116) c154 | exact zsf_f (Or.inl c116) c154 | exact zsf_k (Or.inr ⟨fun _ => c129, fun _ => zeq1.mp c137⟩) c154 | exact zsf_f (Or.inr ⟨fun _ => c129, fun _ => zeq1.mp c137⟩) c154 | exact zsf_k (Or.inr ⟨fun h => absurd h c137, fun h => absurd h c129⟩) c154 | exact zsf_f (Or.inr ⟨fun h => absurd h c137, fun h => absurd h c129⟩) c154)
              · refine lv_iconst (v := 1) hx hb dX7_tellSerial_132 (by decide) ?_
                refine lv_goto (tgt := 137) hx hb dX7_tellSerial_133 (by decide) ?_
                refine lv_icmp_eq (tgt := 147) hx hb dX7_tellSerial_137 (by decide) (fun c137 => ?_) (fun c137 => ?_)
                · refine lv_aload_n hx hb dX7_tellSerial_147 rfl (lv_at hl 4 rfl) ?_
                  refine lv_iload_n hx hb dX7_tellSerial_148 rfl (lv_at hl 5 rfl) ?_
                  refine lv_iload hx hb dX7_tellSerial_149 (lv_at hl 10 rfl) ?_
                  refine zcV_i (As := [.int (nI w), .int (nI (zse f pr))]) (rest := []) (n9 := 2) (b := c0) C hw (c_X0_isHighAt l D y base S c0 lv mm M w (zse f pr) hC hM hw4 hend) gX7_tellSerial_X0_isHighAt rfl (by decide +kernel) ⟨⟨rfl, rfl⟩, Nat.le_of_ble_eq_true rfl, Nat.le_of_ble_eq_true rfl⟩ hC.1 ⟨by decide, by decide⟩ rfl rfl hl.1 rfl (Nat.le_of_ble_eq_true rfl) ⟨Nat.le_of_ble_eq_true rfl, Nat.le_of_ble_eq_true rfl⟩ dX7_tellSerial_151 (fun r151 S151 H locs hp151 hw => ?_)
                  obtain ⟨rfl, hS9⟩ := hp151
                  have hS9 := hS9.symm
                  subst hS9
                  refine lv_if_ne (tgt := 161) hx hb dX7_tellSerial_154 (by decide) (fun c154 => ?_) (fun c154 => ?_)
                  · replace c154 := zb1.mp c154
                    exact jn_3 45 _ _ _ hw (lv_sub hl [1, 0, 2, 3, 4, 5, 6, 7, 8, 9, 10] rfl) (by first | exact zsf_p c116 (fun g => c137 (zeq1.mpr (g.mpr c129))) | exact zsf_p c116 (fun g => c129 (g.mp c137)) | exact zsf_k (Or.inl c116) c154 | exact zsf_f (Or.inl c116) c154 | exact zsf_k (Or.inr ⟨fun _ => c129, fun _ => zeq1.mp c137⟩) c154 | exact zsf_f (Or.inr ⟨fun _ => c129, fun _ => zeq1.mp c137⟩) c154 | exact zsf_k (Or.inr ⟨fun h => absurd h c137, fun h => absurd h c129⟩) c154 | exact zsf_f (Or.inr ⟨fun h => absurd h c137, fun h => absurd h c129⟩) c154)
                  · replace c154 := zb0.mp c154
                    refine lv_bipush (v := 102) hx hb dX7_tellSerial_157 (by decide) ?_
                    refine lv_istore (lv' := [(9, .int 102), (10, .int (zb (M w (f + 2 * 9 + 1) = true))), (8, .int (nI v)), (0, .ref x0), (1, .ref c0), (2, .int (nI w)), (3, .int (nI f)), (4, .int 20), (5, .int pr), (6, .int (nI (zsbN pr))), (7, .int (nI (zse f pr)))]) hx hb dX7_tellSerial_159 hl (by decide) rfl (fun ls hl => ?_)
                    exact jn_3 102 _ _ _ hw (lv_sub hl [0, 1, 2, 3, 4, 5, 6, 7, 8, 9, 10] rfl) (by first | exact zsf_p c116 (fun g => c137 (zeq1.mpr (g.mpr c129))) | exact zsf_p c116 (fun g => c129 (g.mp c137)) | exact zsf_k (Or.inl c116) c154 | exact zsf_f (Or.inl c116) c154 | exact zsf_k (Or.inr ⟨fun _ => c129, fun _ => zeq1.mp c137⟩) c154 | exact zsf_f (Or.inr ⟨fun _ => c129, fun _ => zeq1.mp c137⟩) c154 | exact zsf_k (Or.inr ⟨fun h => absurd h c137, fun h => absurd h c129⟩) c154 | exact zsf_f (Or.inr ⟨fun h => absurd h c137, fun h => absurd h c129⟩) c154)
                · refine lv_bipush (v := 112) hx hb dX7_tellSerial_140 (by decide) ?_
                  refine lv_istore (lv' := [(9, .int 112), (10, .int (zb (M w (f + 2 * 9 + 1) = true))), (8, .int (nI v)), (0, .ref x0), (1, .ref c0), (2, .int (nI w)), (3, .int (nI f)), (4, .int 20), (5, .int pr), (6, .int (nI (zsbN pr))), (7, .int (nI (zse f pr)))]) hx hb dX7_tellSerial_142 hl (by decide) rfl (fun ls hl => ?_)
                  refine lv_goto (tgt := 161) hx hb dX7_tellSerial_144 (by decide) ?_
                  exact jn_3 112 _ _ _ hw (lv_sub hl [0, 1, 2, 3, 4, 5, 6, 7, 8, 9, 10] rfl) (by first | exact zsf_p c116 (fun g => c137 (zeq1.mpr (g.mpr c129))) | exact zsf_p c116 (fun g => c129 (g.mp c137)) | exact zsf_k (Or.inl c116) c154 | exact zsf_f (Or.inl c116) c154 | exact zsf_k (Or.inr ⟨fun _ => c129, fun _ => zeq1.mp c137⟩) c154 | exact zsf_f (Or.inr ⟨fun _ => c129, fun _ => zeq1.mp c137⟩) c154 | exact zsf_k (Or.inr ⟨fun h => absurd h c137, fun h => absurd h c129⟩) c154 | exact zsf_f (Or.inr ⟨fun h => absurd h c137, fun h => absurd h c129⟩) c154)
          · have hn8 := z_lt (n := 8) c57 (by omega) (by omega)
            refine lv_aload_n hx hb dX7_tellSerial_60 rfl (lv_at hl 3 rfl) ?_
            refine lv_iload_n hx hb dX7_tellSerial_61 rfl (lv_at hl 4 rfl) ?_
            refine lv_iload_n hx hb dX7_tellSerial_62 rfl (lv_at hl 5 rfl) ?_
            refine lv_iload hx hb dX7_tellSerial_63 (lv_at hl 0 rfl) ?_
            refine lv_iconst (v := 1) hx hb dX7_tellSerial_65 (by decide) ?_
            refine lv_iadd hx hb dX7_tellSerial_66 ?_
            refine zrd (x := (nI (n + 1))) (nI_1 _) ?_
            refine lv_iload hx hb dX7_tellSerial_67 (lv_at hl 6 rfl) ?_
            refine zcS_i (As := [.int (nI f), .int (nI (n + 1)), .int 20]) (rest := [.int (nI w), .ref c0]) (n9 := 3) C hw (c_X7_middleOf l D y base S f (n + 1) (by omega)) gX7_tellSerial_X7_middleOf rfl (by decide +kernel) ⟨⟨rfl, rfl⟩, Nat.le_of_ble_eq_true rfl, Nat.le_of_ble_eq_true rfl⟩ rfl hl.1 rfl (Nat.le_of_ble_eq_true rfl) ⟨Nat.le_of_ble_eq_true rfl, Nat.le_of_ble_eq_true rfl⟩ dX7_tellSerial_69 (fun r69 S69 H locs hp69 hw => ?_)
            obtain ⟨rfl, hS9⟩ := hp69
            have hS9 := hS9.symm
            subst hS9
            refine zcV_i (As := [.int (nI w), .int (nI (f + 2 * (n + 1) + 1))]) (rest := []) (n9 := 2) (b := c0) C hw (c_X0_isHighAt l D y base S c0 lv mm M w (f + 2 * (n + 1) + 1) hC hM hw4 (by omega)) gX7_tellSerial_X0_isHighAt rfl (by decide +kernel) ⟨⟨rfl, rfl⟩, Nat.le_of_ble_eq_true rfl, Nat.le_of_ble_eq_true rfl⟩ hC.1 ⟨by decide, by decide⟩ rfl rfl hl.1 rfl (Nat.le_of_ble_eq_true rfl) ⟨Nat.le_of_ble_eq_true rfl, Nat.le_of_ble_eq_true rfl⟩ dX7_tellSerial_72 (fun r72 S72 H locs hp72 hw => ?_)
            obtain ⟨rfl, hS9⟩ := hp72
            have hS9 := hS9.symm
            subst hS9
            refine lv_if_eq (tgt := 87) hx hb dX7_tellSerial_75 (by decide) (fun c75 => ?_) (fun c75 => ?_)
            · replace c75 := zb0.mp c75
              refine lv_iinc (v := (nI (n + 1))) (lv' := [(9, .int (nI (n + 1))), (8, .int (nI v)), (0, .ref x0), (1, .ref c0), (2, .int (nI w)), (3, .int (nI f)), (4, .int 20), (5, .int pr), (6, .int (nI (zsbN pr))), (7, .int (nI (zse f pr)))]) hx hb dX7_tellSerial_87 hl (k := 0) rfl (nI_1 _) (by decide) rfl (fun ls hl => ?_)
              refine lv_goto (tgt := 53) hx hb dX7_tellSerial_90 (by decide) ?_
              exact ih_1 (n + 1) v _ _ _ (by omega) (by omega) (by first | exact zsv_1 hv c75 | exact zsv_0 hv c75) hw (lv_sub hl [0, 1, 2, 3, 4, 5, 6, 7, 8, 9] rfl)
            · replace c75 := zb1.mp c75
              refine lv_iload hx hb dX7_tellSerial_78 (lv_at hl 1 rfl) ?_
              refine lv_iconst (v := 1) hx hb dX7_tellSerial_80 (by decide) ?_
              refine lv_iload hx hb dX7_tellSerial_81 (lv_at hl 0 rfl) ?_
              refine lv_ishl hx hb dX7_tellSerial_83 ?_
              refine lv_ior hx hb dX7_tellSerial_84 ?_
              refine zrd (x := (nI (v + 2 ^ n))) (zor2 n hn8 v (by rw [hv]; exact zsv_lt _ _ _)) ?_
              refine lv_istore (lv' := [(8, .int (nI (v + 2 ^ n))), (9, .int (nI n)), (0, .ref x0), (1, .ref c0), (2, .int (nI w)), (3, .int (nI f)), (4, .int 20), (5, .int pr), (6, .int (nI (zsbN pr))), (7, .int (nI (zse f pr)))]) hx hb dX7_tellSerial_85 hl (by decide) rfl (fun ls hl => ?_)
              refine lv_iinc (v := (nI (n + 1))) (lv' := [(9, .int (nI (n + 1))), (8, .int (nI (v + 2 ^ n))), (0, .ref x0), (1, .ref c0), (2, .int (nI w)), (3, .int (nI f)), (4, .int 20), (5, .int pr), (6, .int (nI (zsbN pr))), (7, .int (nI (zse f pr)))]) hx hb dX7_tellSerial_87 hl (k := 1) rfl (nI_1 _) (by decide) rfl (fun ls hl => ?_)
              refine lv_goto (tgt := 53) hx hb dX7_tellSerial_90 (by decide) ?_
              exact ih_1 (n + 1) (v + 2 ^ n) _ _ _ (by omega) (by omega) (by first | exact zsv_1 hv c75 | exact zsv_0 hv c75) hw (lv_sub hl [0, 1, 2, 3, 4, 5, 6, 7, 8, 9] rfl)
      exact lp_2 _ 0 0 _ _ _ (Nat.lt_succ_self _) (Nat.zero_le _) rfl hw (lv_sub hl [0, 1, 4, 5, 6, 7, 8, 9, 3, 2] rfl)
    · replace c40 := zb1.mp c40
      refine lv_iload_n hx hb dX7_tellSerial_43 rfl (lv_at hl 5 rfl) ?_
      refine lv_iconst (v := 1) hx hb dX7_tellSerial_44 (by decide) ?_
      refine lv_iadd hx hb dX7_tellSerial_45 ?_
      refine zrd (x := (nI (f + 1))) (nI_1 _) ?_
      exact zri C hw hr hlocks rfl (by rw [zTS_0 (Or.inr c40)]; exact ⟨rfl, hNo, zFr.rf⟩) ⟨Nat.le_of_ble_eq_true rfl, Nat.le_of_ble_eq_true rfl⟩ dX7_tellSerial_46

