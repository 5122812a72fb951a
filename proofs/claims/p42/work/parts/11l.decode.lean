set_option maxHeartbeats 4000000 in
set_option maxRecDepth 100000 in
/-- X7_capture -/
theorem c_X7_capture_g (l : Launch) (hst : l.stackTraces = false) (D : va_G) (y : Nat → ClassId) (base : Nat) (S : zS) (a : Nat → Nat) (q : Nat) (fr : Nat) (sp : Nat) (mm : Nat) (F : Nat → Int → Bool) (N : Nat → Nat) (hX : zX S a) (hDs : zDs a) (hq2 : q < 2) (hsp : 1 ≤ sp ∧ sp ≤ 99) (hmm : 1 ≤ mm ∧ mm ≤ 400) (hend : fr + sp * (mm - 1) ≤ 9999) (hWv : zWv S a F N) : zXi l yX7_capture wsX7_capture ({ frames := 7, cells := 5, slots := 30, locals := 112 }) [.ref (a 0), .int (nI q), .int (nI fr), .int (nI sp), .int (nI mm)] D y base S (fun (r : Int32) (S1 : zS) => (∃ k, r = nI k ∧ k ≤ 400 ∧ ((∃ w j, w < 4 ∧ j + 1 < mm ∧ ¬ F w ((fr + (j + 1) * sp : Nat) : Int) = F w ((fr + j * sp : Nat) : Int)) → 0 < k)) ∧ zCp S1 (a (40 + q)) (a (50 + q)) mm (fun w j => F w ((fr + j * sp : Nat) : Int)) ∧ zFr S S1 (fun t x => t = 64 ∧ x = a (40 + q)) (fun k x => k = 22 ∧ x = a (50 + q))) (fun (E : String) (S1 : zS) => False ∧ S1 = S) 5 30 := by
  refine zXet_of (cc := cX7_capture) (maxL := 7) (ret := (some .int)) (own := RX7) (by decide +kernel) rfl rfl (Nat.le_of_ble_eq_true rfl) ?_
  intro p e s m args below meth c ls C hr hlocks hx0 hw hl
  have hx := C.1
  have hb := C.2.1
  have hown := C.2.2.2.1
  have hts := C.2.2.2.2
  have hl : lv_has ls 7 [(0, .ref (a 0)), (1, .int (nI q)), (2, .int (nI fr)), (3, .int (nI sp)), (4, .int (nI mm))] := hl
  have in_X7 : ∀ w ∈ wsX70, w ∈ wsX7_capture := by decide +kernel
  refine lv_iload_n hx hb dX7_capture_0 rfl (lv_at hl 1 rfl) ?_
  refine zcS_xv (As := [.int (nI q)]) (rest := []) (n9 := 1) C hw (c_X7_checkCapture l hst D y base S (nI q) ) gX7_capture_X7_checkCapture rfl (by decide +kernel) ⟨⟨rfl, rfl⟩, Nat.le_of_ble_eq_true rfl, Nat.le_of_ble_eq_true rfl⟩ rfl hl.1 rfl (Nat.le_of_ble_eq_true rfl) ⟨Nat.le_of_ble_eq_true rfl, Nat.le_of_ble_eq_true rfl⟩ dX7_capture_1 (fun E ce q9 S1 H locs hx1 hw h1 h2 h3 => zxout hw hx0 hlocks h1 h2 h3 (by obtain ⟨rfl, hc9, rfl⟩ := hx1; exact absurd (zc2 q hq2) hc9) ⟨Nat.le_of_ble_eq_true rfl, Nat.le_of_ble_eq_true rfl⟩) (fun S1 H locs hp1 hw => ?_)
  obtain ⟨hp1, hS9⟩ := hp1
  have hS9 := hS9.symm
  subst hS9
  refine lv_iload_n hx hb dX7_capture_4 rfl (lv_at hl 2 rfl) ?_
  refine lv_iconst (v := 0) hx hb dX7_capture_5 (by decide) ?_
  refine lv_sipush (v := 9999) hx hb dX7_capture_6 (by decide) ?_
  refine zcS_xv (As := [.int (nI fr), .int 0, .int 9999]) (rest := []) (n9 := 3) C hw (c_X7_checkRange l hst D y base S (nI fr) 0 9999 ) gX7_capture_X7_checkRange rfl (by decide +kernel) ⟨⟨rfl, rfl⟩, Nat.le_of_ble_eq_true rfl, Nat.le_of_ble_eq_true rfl⟩ rfl hl.1 rfl (Nat.le_of_ble_eq_true rfl) ⟨Nat.le_of_ble_eq_true rfl, Nat.le_of_ble_eq_true rfl⟩ dX7_capture_9 (fun E ce q9 S9 H locs hx9 hw h1 h2 h3 => zxout hw hx0 hlocks h1 h2 h3 (by obtain ⟨rfl, hc9, rfl⟩ := hx9; exact absurd (zrg (m := 9999) (by omega) (by decide) rfl) hc9) ⟨Nat.le_of_ble_eq_true rfl, Nat.le_of_ble_eq_true rfl⟩) (fun S9 H locs hp9 hw => ?_)
  obtain ⟨hp9, hS9⟩ := hp9
  have hS9 := hS9.symm
  subst hS9
  refine lv_iload_n hx hb dX7_capture_12 rfl (lv_at hl 3 rfl) ?_
  refine lv_iconst (v := 1) hx hb dX7_capture_13 (by decide) ?_
  refine lv_bipush (v := 99) hx hb dX7_capture_14 (by decide) ?_
  refine zcS_xv (As := [.int (nI sp), .int 1, .int 99]) (rest := []) (n9 := 3) C hw (c_X7_checkRange l hst D y base S (nI sp) 1 99 ) gX7_capture_X7_checkRange rfl (by decide +kernel) ⟨⟨rfl, rfl⟩, Nat.le_of_ble_eq_true rfl, Nat.le_of_ble_eq_true rfl⟩ rfl hl.1 rfl (Nat.le_of_ble_eq_true rfl) ⟨Nat.le_of_ble_eq_true rfl, Nat.le_of_ble_eq_true rfl⟩ dX7_capture_16 (fun E ce q9 S16 H locs hx16 hw h1 h2 h3 => zxout hw hx0 hlocks h1 h2 h3 (by obtain ⟨rfl, hc9, rfl⟩ := hx16; exact absurd (zrg1 hsp.1 hsp.2 (by decide) rfl) hc9) ⟨Nat.le_of_ble_eq_true rfl, Nat.le_of_ble_eq_true rfl⟩) (fun S16 H locs hp16 hw => ?_)
  obtain ⟨hp16, hS9⟩ := hp16
  have hS9 := hS9.symm
  subst hS9
  refine lv_iload hx hb dX7_capture_19 (lv_at hl 4 rfl) ?_
  refine lv_iconst (v := 1) hx hb dX7_capture_21 (by decide) ?_
  refine lv_sipush (v := 400) hx hb dX7_capture_22 (by decide) ?_
  refine zcS_xv (As := [.int (nI mm), .int 1, .int 400]) (rest := []) (n9 := 3) C hw (c_X7_checkRange l hst D y base S (nI mm) 1 400 ) gX7_capture_X7_checkRange rfl (by decide +kernel) ⟨⟨rfl, rfl⟩, Nat.le_of_ble_eq_true rfl, Nat.le_of_ble_eq_true rfl⟩ rfl hl.1 rfl (Nat.le_of_ble_eq_true rfl) ⟨Nat.le_of_ble_eq_true rfl, Nat.le_of_ble_eq_true rfl⟩ dX7_capture_25 (fun E ce q9 S25 H locs hx25 hw h1 h2 h3 => zxout hw hx0 hlocks h1 h2 h3 (by obtain ⟨rfl, hc9, rfl⟩ := hx25; exact absurd (zrg1 hmm.1 hmm.2 (by decide) rfl) hc9) ⟨Nat.le_of_ble_eq_true rfl, Nat.le_of_ble_eq_true rfl⟩) (fun S25 H locs hp25 hw => ?_)
  obtain ⟨hp25, hS9⟩ := hp25
  have hS9 := hS9.symm
  subst hS9
  refine lv_iload_n hx hb dX7_capture_28 rfl (lv_at hl 2 rfl) ?_
  refine lv_iload_n hx hb dX7_capture_29 rfl (lv_at hl 3 rfl) ?_
  refine lv_iload hx hb dX7_capture_30 (lv_at hl 4 rfl) ?_
  refine lv_iconst (v := 1) hx hb dX7_capture_32 (by decide) ?_
  refine lv_isub hx hb dX7_capture_33 ?_
  refine zrd (x := (nI (mm - 1))) (pk_sub (b := 1) hmm.1) ?_
  refine lv_imul hx hb dX7_capture_34 ?_
  refine zrd (x := (nI (sp * (mm - 1)))) (pk_mul _ _) ?_
  refine lv_iadd hx hb dX7_capture_35 ?_
  refine zrd (x := (nI (fr + sp * (mm - 1)))) (nI_add _ _) ?_
  refine lv_iconst (v := 0) hx hb dX7_capture_36 (by decide) ?_
  refine lv_sipush (v := 9999) hx hb dX7_capture_37 (by decide) ?_
  refine zcS_xv (As := [.int (nI (fr + sp * (mm - 1))), .int 0, .int 9999]) (rest := []) (n9 := 3) C hw (c_X7_checkRange l hst D y base S (nI (fr + sp * (mm - 1))) 0 9999 ) gX7_capture_X7_checkRange rfl (by decide +kernel) ⟨⟨rfl, rfl⟩, Nat.le_of_ble_eq_true rfl, Nat.le_of_ble_eq_true rfl⟩ rfl hl.1 rfl (Nat.le_of_ble_eq_true rfl) ⟨Nat.le_of_ble_eq_true rfl, Nat.le_of_ble_eq_true rfl⟩ dX7_capture_40 (fun E ce q9 S40 H locs hx40 hw h1 h2 h3 => zxout hw hx0 hlocks h1 h2 h3 (by obtain ⟨rfl, hc9, rfl⟩ := hx40; exact absurd (zrg (m := 9999) hend (by decide) rfl) hc9) ⟨Nat.le_of_ble_eq_true rfl, Nat.le_of_ble_eq_true rfl⟩) (fun S40 H locs hp40 hw => ?_)
  obtain ⟨hp40, hS9⟩ := hp40
  have hS9 := hS9.symm
  subst hS9
  refine lv_aload_n hx hb dX7_capture_43 rfl (lv_at hl 0 rfl) ?_
  refine g_Ph_captures (a := (a 0)) (v := (a 2)) C hw hX.1 in_X7 (by decide +kernel) hX.2.2.1 dX7_capture_44 ?_
  refine lv_iload_n hx hb dX7_capture_47 rfl (lv_at hl 1 rfl) ?_
  have hci := zX.ci hX hq2
  refine zald_P (a := (a 2)) (v := (a (40 + q))) C hw hX.2.2.2.2.2.2.2.2.1 (by decide) (t0 := 2) rfl rfl hX.2.2.2.2.2.2.2.2.2.1 (zin_of (N := 2) (by decide) (by grind) (by grind)) hci.1 dX7_capture_48 ?_
  refine lv_astore (lv' := [(5, .ref (a (40 + q))), (0, .ref (a 0)), (1, .int (nI q)), (2, .int (nI fr)), (3, .int (nI sp)), (4, .int (nI mm))]) hx hb dX7_capture_49 hl (by decide) rfl (fun ls hl => ?_)
  refine lv_aload hx hb dX7_capture_51 (lv_at hl 0 rfl) ?_
  refine lv_iload hx hb dX7_capture_53 (lv_at hl 5 rfl) ?_
  refine zcV_v (As := [.int (nI mm)]) (rest := []) (n9 := 1) (b := (a (40 + q))) C hw (c_X0_clearFor_g l D y base S (a (40 + q)) (a (50 + q)) mm hci.2 hmm.2) gX7_capture_X0_clearFor rfl (by decide +kernel) ⟨⟨rfl, rfl⟩, Nat.le_of_ble_eq_true rfl, Nat.le_of_ble_eq_true rfl⟩ hci.2.1 ⟨by decide, by decide⟩ rfl rfl hl.1 rfl (Nat.le_of_ble_eq_true rfl) ⟨Nat.le_of_ble_eq_true rfl, Nat.le_of_ble_eq_true rfl⟩ dX7_capture_55 (fun S55 H locs hp55 hw => ?_)
  obtain rfl := hp55
  refine lv_iconst (v := 0) hx hb dX7_capture_58 (by decide) ?_
  refine lv_istore (lv' := [(6, .int 0), (5, .ref (a (40 + q))), (0, .ref (a 0)), (1, .int (nI q)), (2, .int (nI fr)), (3, .int (nI sp)), (4, .int (nI mm))]) hx hb dX7_capture_59 hl (by decide) rfl (fun ls hl => ?_)
  have lp_2 : ∀ (n9 : Nat) (i : Nat) (H : Heap) (locs : List Loc) (ls : Array Slot), 5 - i < n9 → (i ≤ 4) → zW D y base (zsI (zsR S 22 (a (50 + q)) (zcg4 (zR S 22 (a (50 + q))) (fun w j => F w ((fr + j * sp : Nat) : Int)) mm i)) 64 (a (40 + q)) (nI mm)) s H locs → lv_has ls 7 [(6, .int (nI i)), (0, .ref (a 0)), (1, .int (nI q)), (2, .int (nI fr)), (3, .int (nI sp)), (4, .int (nI mm)), (5, .ref (a (40 + q)))] → W p l e (headSpec wsX7_capture ({ frames := 7, cells := 5, slots := 30, locals := 112 })).room s m args below meth c H locs 5 30 (vx_MQ below (va_Qi (fun (r : Int32) (S1 : zS) => (∃ k, r = nI k ∧ k ≤ 400 ∧ ((∃ w j, w < 4 ∧ j + 1 < mm ∧ ¬ F w ((fr + (j + 1) * sp : Nat) : Int) = F w ((fr + j * sp : Nat) : Int)) → 0 < k)) ∧ zCp S1 (a (40 + q)) (a (50 + q)) mm (fun w j => F w ((fr + j * sp : Nat) : Int)) ∧ zFr S S1 (fun t x => t = 64 ∧ x = a (40 + q)) (fun k x => k = 22 ∧ x = a (50 + q))) (zPost D y base) (zA base)) (zXC (fun (E : String) (S1 : zS) => False ∧ S1 = S) D y base) args s 5 30 (zA base)) (F0 m 61 ls []) := by
    intro n9
    induction n9 with
    | zero =>
      intro i H locs ls hn9
      exact absurd hn9 (Nat.not_lt_zero _)
    | succ n9 ih_1 =>
      intro i H locs ls hn9 hi hw hl
      refine lv_iload hx hb dX7_capture_61 (lv_at hl 0 rfl) ?_
      refine lv_aload_n hx hb dX7_capture_63 rfl (lv_at hl 1 rfl) ?_
      refine g_Ph_wires (a := (a 0)) (v := (a 1)) C hw hX.1 in_X7 (by decide +kernel) hX.2.1 dX7_capture_64 ?_
      refine zalen (a := (a 1)) (v := 4) C hw hX.2.2.2.2.2.2.1 (by decide) (t0 := 3) rfl (zlen hX.2.2.2.2.2.2.2.1 rfl) dX7_capture_67 ?_
      refine lv_icmp_ge (tgt := 95) hx hb dX7_capture_68 (by decide) (fun c68 => ?_) (fun c68 => ?_)
      · have hi4 : i = 4 := by have := z_ge (n := 4) c68 (by omega) (by omega); omega
        refine lv_aload hx hb dX7_capture_95 (lv_at hl 6 rfl) ?_
        refine zcV_i (As := []) (rest := []) (n9 := 0) (b := (a (40 + q))) C hw (c_X0_changeCount_g l D y base (zsI (zsR S 22 (a (50 + q)) (zcg4 (zR S 22 (a (50 + q))) (fun w j => F w ((fr + j * sp : Nat) : Int)) mm i)) 64 (a (40 + q)) (nI mm)) (a (40 + q)) (a (50 + q)) mm hci.2 (zI_s _ _ _ _) hmm.2) gX7_capture_X0_changeCount rfl (by decide +kernel) ⟨⟨rfl, rfl⟩, Nat.le_of_ble_eq_true rfl, Nat.le_of_ble_eq_true rfl⟩ hci.2.1 ⟨by decide, by decide⟩ rfl rfl hl.1 rfl (Nat.le_of_ble_eq_true rfl) ⟨Nat.le_of_ble_eq_true rfl, Nat.le_of_ble_eq_true rfl⟩ dX7_capture_97 (fun r97 S97 H locs hp97 hw => ?_)
        obtain ⟨rfl, hS9⟩ := hp97
        have hS9 := hS9.symm
        subst hS9
        exact vx_ret (zri C hw hr hlocks rfl (by rw [hi4]; exact zcap_e hmm) ⟨Nat.le_of_ble_eq_true rfl, Nat.le_of_ble_eq_true rfl⟩ dX7_capture_100)
      · have hi4 := z_lt (n := 4) c68 (by omega) (by omega)
        have hwi9 := zX.wi hX hi4
        refine lv_aload_n hx hb dX7_capture_71 rfl (lv_at hl 1 rfl) ?_
        refine g_Ph_wires (a := (a 0)) (v := (a 1)) C hw hX.1 in_X7 (by decide +kernel) hX.2.1 dX7_capture_72 ?_
        refine lv_iload hx hb dX7_capture_75 (lv_at hl 0 rfl) ?_
        refine zald_P (a := (a 1)) (v := (a (10 + i))) C hw hX.2.2.2.2.2.2.1 (by decide) (t0 := 3) rfl rfl hX.2.2.2.2.2.2.2.1 (vp_in_nI (by omega) (by decide)) hwi9.1 dX7_capture_77 ?_
        refine lv_aload hx hb dX7_capture_78 (lv_at hl 6 rfl) ?_
        refine lv_iconst (v := 1) hx hb dX7_capture_80 (by decide) ?_
        refine lv_iload hx hb dX7_capture_81 (lv_at hl 0 rfl) ?_
        refine lv_ishl hx hb dX7_capture_83 ?_
        refine lv_iload_n hx hb dX7_capture_84 rfl (lv_at hl 3 rfl) ?_
        refine lv_iload_n hx hb dX7_capture_85 rfl (lv_at hl 4 rfl) ?_
        refine zcV_v (As := [.ref (a (40 + q)), .int (1 <<< ((nI i) &&& 31)), .int (nI fr), .int (nI sp)]) (rest := []) (n9 := 4) (b := (a (10 + i))) C hw (c_X6_showIn_g l D y base (zsI (zsR S 22 (a (50 + q)) (zcg4 (zR S 22 (a (50 + q))) (fun w j => F w ((fr + j * sp : Nat) : Int)) mm i)) 64 (a (40 + q)) (nI mm)) (a (10 + i)) (a (20 + i)) (a (30 + i)) (a (40 + q)) (a (50 + q)) (1 <<< ((nI i) &&& 31)) fr sp (N i) mm hwi9.2 hci.2 ((hWv i hi4).2.1.cp (hDs.tl hi4 hq2)) (by have := (hWv i hi4).2.2.1; omega) ((hWv i hi4).1.imp (fun h => zI_t (by decide) h) (fun h => zI_t (by decide) h)) (zI_s _ _ _ _) hmm.2 (hDs.tl hi4 hq2) (by omega) hsp.2) gX7_capture_X6_showIn rfl (by decide +kernel) ⟨⟨rfl, rfl⟩, Nat.le_of_ble_eq_true rfl, Nat.le_of_ble_eq_true rfl⟩ hwi9.2.1 ⟨by decide, by decide⟩ rfl rfl hl.1 rfl (Nat.le_of_ble_eq_true rfl) ⟨Nat.le_of_ble_eq_true rfl, Nat.le_of_ble_eq_true rfl⟩ dX7_capture_86 (fun S86 H locs hp86 hw => ?_)
        obtain rfl := hp86
        refine lv_iinc (v := (nI (i + 1))) (lv' := [(6, .int (nI (i + 1))), (0, .ref (a 0)), (1, .int (nI q)), (2, .int (nI fr)), (3, .int (nI sp)), (4, .int (nI mm)), (5, .ref (a (40 + q)))]) hx hb dX7_capture_89 hl (k := 0) rfl (nI_1 _) (by decide) rfl (fun ls hl => ?_)
        refine lv_goto (tgt := 61) hx hb dX7_capture_92 (by decide) ?_
        rw [show (zsR (zsI (zsR S 22 (a (50 + q)) (zcg4 (zR S 22 (a (50 + q))) (fun w j => F w ((fr + j * sp : Nat) : Int)) mm i)) 64 (a (40 + q)) (nI mm)) 22 (a (50 + q)) (zsg (zR (zsI (zsR S 22 (a (50 + q)) (zcg4 (zR S 22 (a (50 + q))) (fun w j => F w ((fr + j * sp : Nat) : Int)) mm i)) 64 (a (40 + q)) (nI mm)) 22 (a (50 + q))) (1 <<< ((nI i) &&& 31)) (fun j => zlv (zsI (zsR S 22 (a (50 + q)) (zcg4 (zR S 22 (a (50 + q))) (fun w j => F w ((fr + j * sp : Nat) : Int)) mm i)) 64 (a (40 + q)) (nI mm)) (a (10 + i)) (a (20 + i)) (N i) ((fr + j * sp : Nat) : Int)) mm)) = (zsI (zsR S 22 (a (50 + q)) (zcg4 (zR S 22 (a (50 + q))) (fun w j => F w ((fr + j * sp : Nat) : Int)) mm (i + 1))) 64 (a (40 + q)) (nI mm)) from zcap_s (fun j => by rw [zlv.cp (hDs.tl hi4 hq2)]; exact (hWv i hi4).2.2.2 _)] at hw
        exact ih_1 (i + 1) _ _ _ (by omega) (by omega) hw (lv_sub hl [0, 1, 2, 3, 4, 5, 6] rfl)
  exact lp_2 _ 0 _ _ _ (Nat.lt_succ_self _) (Nat.zero_le _) hw (lv_sub hl [0, 2, 3, 4, 5, 6, 1] rfl)

set_option maxHeartbeats 4000000 in
set_option maxRecDepth 100000 in
/-- X7_decodeSerial -/
theorem c_X7_decodeSerial_g (l : Launch) (hst : l.stackTraces = false) (D : va_G) (y : Nat → ClassId) (base : Nat) (S : zS) (a : Nat → Nat) (q : Nat) (w : Nat) (pr : Int32) (mm : Nat) (M : Nat → Nat → Bool) (hX : zX S a) (hNts : zNts S (a 4) (a 60) (a 61) (a 62) (a 63) (a 64)) (hDs : zDs a) (hq2 : q < 2) (hw4 : w < 4) (hpr : pr = 110 ∨ pr = 101 ∨ pr = 111) (hM : zCp S (a (40 + q)) (a (50 + q)) mm M) (hmm : 1 ≤ mm ∧ mm ≤ 200) : zXi l yX7_decodeSerial wsX7_decodeSerial ({ frames := 7, cells := 4, slots := 24, locals := 112 }) [.ref (a 0), .int (nI q), .int (nI w), .int 20, .int pr] D y base S (fun (r : Int32) (S1 : zS) => r = nI (zDS (M w) mm pr (mm - 1)).2.length ∧ zNo S1 (a 4) (a 60) (a 61) (a 62) (a 63) (a 64) (zDS (M w) mm pr (mm - 1)).2 ∧ zDc S S1 a ∧ zFr S S1 (zNI (a 4)) (zNR (a 60) (a 61) (a 62) (a 63) (a 64))) (fun (E : String) (S1 : zS) => False ∧ S1 = S) 4 24 := by
  refine zXet_of (cc := cX7_decodeSerial) (maxL := 8) (ret := (some .int)) (own := RX7) (by decide +kernel) rfl rfl (Nat.le_of_ble_eq_true rfl) ?_
  intro p e s m args below meth c ls C hr hlocks hx0 hw hl
  have hx := C.1
  have hb := C.2.1
  have hown := C.2.2.2.1
  have hts := C.2.2.2.2
  have hl : lv_has ls 8 [(0, .ref (a 0)), (1, .int (nI q)), (2, .int (nI w)), (3, .int 20), (4, .int pr)] := hl
  have in_X0 : ∀ w ∈ wsX00, w ∈ wsX7_decodeSerial := by decide +kernel
  have in_X3 : ∀ w ∈ wsX30, w ∈ wsX7_decodeSerial := by decide +kernel
  have in_X7 : ∀ w ∈ wsX70, w ∈ wsX7_decodeSerial := by decide +kernel
  refine lv_iload_n hx hb dX7_decodeSerial_0 rfl (lv_at hl 1 rfl) ?_
  refine zcS_xv (As := [.int (nI q)]) (rest := []) (n9 := 1) C hw (c_X7_checkCapture l hst D y base S (nI q) ) gX7_decodeSerial_X7_checkCapture rfl (by decide +kernel) ⟨⟨rfl, rfl⟩, Nat.le_of_ble_eq_true rfl, Nat.le_of_ble_eq_true rfl⟩ rfl hl.1 rfl (Nat.le_of_ble_eq_true rfl) ⟨Nat.le_of_ble_eq_true rfl, Nat.le_of_ble_eq_true rfl⟩ dX7_decodeSerial_1 (fun E ce q9 S1 H locs hx1 hw h1 h2 h3 => zxout hw hx0 hlocks h1 h2 h3 (by obtain ⟨rfl, hc9, rfl⟩ := hx1; exact absurd (zc2 q hq2) hc9) ⟨Nat.le_of_ble_eq_true rfl, Nat.le_of_ble_eq_true rfl⟩) (fun S1 H locs hp1 hw => ?_)
  obtain ⟨hp1, hS9⟩ := hp1
  have hS9 := hS9.symm
  subst hS9
  refine lv_iload_n hx hb dX7_decodeSerial_4 rfl (lv_at hl 2 rfl) ?_
  refine zcS_xv (As := [.int (nI w)]) (rest := []) (n9 := 1) C hw (c_X7_checkWire l hst D y base S (nI w) ) gX7_decodeSerial_X7_checkWire rfl (by decide +kernel) ⟨⟨rfl, rfl⟩, Nat.le_of_ble_eq_true rfl, Nat.le_of_ble_eq_true rfl⟩ rfl hl.1 rfl (Nat.le_of_ble_eq_true rfl) ⟨Nat.le_of_ble_eq_true rfl, Nat.le_of_ble_eq_true rfl⟩ dX7_decodeSerial_5 (fun E ce q9 S5 H locs hx5 hw h1 h2 h3 => zxout hw hx0 hlocks h1 h2 h3 (by obtain ⟨rfl, hc9, rfl⟩ := hx5; exact absurd (zw4 w hw4) hc9) ⟨Nat.le_of_ble_eq_true rfl, Nat.le_of_ble_eq_true rfl⟩) (fun S5 H locs hp5 hw => ?_)
  obtain ⟨hp5, hS9⟩ := hp5
  have hS9 := hS9.symm
  subst hS9
  refine lv_iload_n hx hb dX7_decodeSerial_8 rfl (lv_at hl 3 rfl) ?_
  refine lv_bipush (v := 10) hx hb dX7_decodeSerial_9 (by decide) ?_
  refine lv_sipush (v := 999) hx hb dX7_decodeSerial_11 (by decide) ?_
  refine zcS_xv (As := [.int 20, .int 10, .int 999]) (rest := []) (n9 := 3) C hw (c_X7_checkRange l hst D y base S 20 10 999 ) gX7_decodeSerial_X7_checkRange rfl (by decide +kernel) ⟨⟨rfl, rfl⟩, Nat.le_of_ble_eq_true rfl, Nat.le_of_ble_eq_true rfl⟩ rfl hl.1 rfl (Nat.le_of_ble_eq_true rfl) ⟨Nat.le_of_ble_eq_true rfl, Nat.le_of_ble_eq_true rfl⟩ dX7_decodeSerial_14 (fun E ce q9 S14 H locs hx14 hw h1 h2 h3 => zxout hw hx0 hlocks h1 h2 h3 (by obtain ⟨rfl, hc9, rfl⟩ := hx14; exact absurd (by decide) hc9) ⟨Nat.le_of_ble_eq_true rfl, Nat.le_of_ble_eq_true rfl⟩) (fun S14 H locs hp14 hw => ?_)
  obtain ⟨hp14, hS9⟩ := hp14
  have hS9 := hS9.symm
  subst hS9
  refine lv_iload hx hb dX7_decodeSerial_17 (lv_at hl 4 rfl) ?_
  refine zcS_xv (As := [.int pr]) (rest := []) (n9 := 1) C hw (c_X7_checkParity l hst D y base S pr ) gX7_decodeSerial_X7_checkParity rfl (by decide +kernel) ⟨⟨rfl, rfl⟩, Nat.le_of_ble_eq_true rfl, Nat.le_of_ble_eq_true rfl⟩ rfl hl.1 rfl (Nat.le_of_ble_eq_true rfl) ⟨Nat.le_of_ble_eq_true rfl, Nat.le_of_ble_eq_true rfl⟩ dX7_decodeSerial_19 (fun E ce q9 S19 H locs hx19 hw h1 h2 h3 => zxout hw hx0 hlocks h1 h2 h3 (by obtain ⟨rfl, hc9, rfl⟩ := hx19; exact absurd hpr hc9) ⟨Nat.le_of_ble_eq_true rfl, Nat.le_of_ble_eq_true rfl⟩) (fun S19 H locs hp19 hw => ?_)
  obtain ⟨hp19, hS9⟩ := hp19
  have hS9 := hS9.symm
  subst hS9
  refine lv_aload_n hx hb dX7_decodeSerial_22 rfl (lv_at hl 0 rfl) ?_
  refine g_Ph_told (a := (a 0)) (v := (a 4)) C hw hX.1 in_X7 (by decide +kernel) hX.2.2.2.2.1 dX7_decodeSerial_23 ?_
  refine lv_iconst (v := 0) hx hb dX7_decodeSerial_26 (by decide) ?_
  refine p_Notes_count (a := (a 4)) (v := 0) C hw hNts.1 in_X3 (by decide +kernel) dX7_decodeSerial_27 (fun H locs hw => ?_)
  have hci := zX.ci hX hq2
  refine lv_aload_n hx hb dX7_decodeSerial_30 rfl (lv_at hl 0 rfl) ?_
  refine g_Ph_captures (a := (a 0)) (v := (a 2)) C hw hX.1 in_X7 (by decide +kernel) hX.2.2.1 dX7_decodeSerial_31 ?_
  refine lv_iload_n hx hb dX7_decodeSerial_34 rfl (lv_at hl 1 rfl) ?_
  refine zald_P (a := (a 2)) (v := (a (40 + q))) C hw hX.2.2.2.2.2.2.2.2.1 (by decide) (t0 := 2) rfl rfl hX.2.2.2.2.2.2.2.2.2.1 (zin_of (N := 2) (by decide) (by grind) (by grind)) hci.1 dX7_decodeSerial_35 ?_
  refine lv_astore (lv' := [(5, .ref (a (40 + q))), (0, .ref (a 0)), (1, .int (nI q)), (2, .int (nI w)), (3, .int 20), (4, .int pr)]) hx hb dX7_decodeSerial_36 hl (by decide) rfl (fun ls hl => ?_)
  refine lv_iconst (v := 1) hx hb dX7_decodeSerial_38 (by decide) ?_
  refine lv_istore (lv' := [(6, .int 1), (5, .ref (a (40 + q))), (0, .ref (a 0)), (1, .int (nI q)), (2, .int (nI w)), (3, .int 20), (4, .int pr)]) hx hb dX7_decodeSerial_39 hl (by decide) rfl (fun ls hl => ?_)
  refine lv_iconst (v := 1) hx hb dX7_decodeSerial_41 (by decide) ?_
  refine lv_istore (lv' := [(7, .int 1), (6, .int 1), (5, .ref (a (40 + q))), (0, .ref (a 0)), (1, .int (nI q)), (2, .int (nI w)), (3, .int 20), (4, .int pr)]) hx hb dX7_decodeSerial_42 hl (by decide) rfl (fun ls hl => ?_)
  have lp_2 : ∀ (n9 : Nat) (k : Nat) (S2 : zS) (H : Heap) (locs : List Loc) (ls : Array Slot), mm - k < n9 → (k + 1 ≤ mm) → (zFr S S2 (zNI (a 4)) (zNR (a 60) (a 61) (a 62) (a 63) (a 64))) → (zNo S2 (a 4) (a 60) (a 61) (a 62) (a 63) (a 64) (zDS (M w) mm pr k).2) → zW D y base S2 s H locs → lv_has ls 8 [(7, .int (nI (k + 1))), (6, .int (nI (zDS (M w) mm pr k).1)), (0, .ref (a 0)), (1, .int (nI q)), (2, .int (nI w)), (3, .int 20), (4, .int pr), (5, .ref (a (40 + q)))] → W p l e (headSpec wsX7_decodeSerial ({ frames := 7, cells := 4, slots := 24, locals := 112 })).room s m args below meth c H locs 4 24 (vx_MQ below (va_Qi (fun (r : Int32) (S1 : zS) => r = nI (zDS (M w) mm pr (mm - 1)).2.length ∧ zNo S1 (a 4) (a 60) (a 61) (a 62) (a 63) (a 64) (zDS (M w) mm pr (mm - 1)).2 ∧ zDc S S1 a ∧ zFr S S1 (zNI (a 4)) (zNR (a 60) (a 61) (a 62) (a 63) (a 64))) (zPost D y base) (zA base)) (zXC (fun (E : String) (S1 : zS) => False ∧ S1 = S) D y base) args s 4 24 (zA base)) (F0 m 44 ls []) := by
    intro n9
    induction n9 with
    | zero =>
      intro k S2 H locs ls hn9
      exact absurd hn9 (Nat.not_lt_zero _)
    | succ n9 ih_1 =>
      intro k S2 H locs ls hn9 hi hf hD2 hw hl
      have hX2 := zX.fix hf.1 hX
      have hN2 := zNts.fix hf.1 hNts
      have hdc : zDc S S2 a := zDc.fr hX hNts hf (fun i hi g => absurd g.1 (by decide)) (zNR.cap hDs)
      have hM2 := hdc.cp hq2 hM
      have hC2 := (zX.ci hX2 hq2).2
      have hlen := zDS_len (M w) mm pr k
      have hnx := zDS_nx (M w) mm pr k
      refine lv_iload hx hb dX7_decodeSerial_44 (lv_at hl 0 rfl) ?_
      refine lv_aload hx hb dX7_decodeSerial_46 (lv_at hl 7 rfl) ?_
      refine g_Cap_count (a := (a (40 + q))) (v := (nI mm)) C hw hC2.1 in_X0 (by decide +kernel) hM2.1 dX7_decodeSerial_48 ?_
      refine lv_icmp_ge (tgt := 92) hx hb dX7_decodeSerial_51 (by decide) (fun c51 => ?_) (fun c51 => ?_)
      · refine lv_aload_n hx hb dX7_decodeSerial_92 rfl (lv_at hl 2 rfl) ?_
        refine g_Ph_told (a := (a 0)) (v := (a 4)) C hw hX2.1 in_X7 (by decide +kernel) hX2.2.2.2.2.1 dX7_decodeSerial_93 ?_
        refine g_Notes_count (a := (a 4)) (v := (nI (zDS (M w) mm pr k).2.length)) C hw hN2.1 in_X3 (by decide +kernel) hD2.1 dX7_decodeSerial_96 ?_
        exact vx_ret (zri C hw hr hlocks rfl (by have hk9 : mm - 1 = k := (by have := z_ge (n := mm) c51 (by omega) (by omega); omega); rw [hk9]; exact ⟨rfl, hD2, hdc, hf⟩) ⟨Nat.le_of_ble_eq_true rfl, Nat.le_of_ble_eq_true rfl⟩ dX7_decodeSerial_99)
      · have him := z_lt (n := mm) c51 (by omega) (by omega)
        refine lv_iload hx hb dX7_decodeSerial_54 (lv_at hl 0 rfl) ?_
        refine lv_iload hx hb dX7_decodeSerial_56 (lv_at hl 1 rfl) ?_
        refine lv_icmp_lt (tgt := 86) hx hb dX7_decodeSerial_58 (by decide) (fun c58 => ?_) (fun c58 => ?_)
        · have hle2 : ¬ (zDS (M w) mm pr k).1 ≤ k + 1 := by have := zDS_nx (M w) mm pr k; have h9 := (nI_ltI (by omega) (by omega)).mp c58; omega
          refine lv_iinc (v := (nI ((k + 1) + 1))) (lv' := [(7, .int (nI ((k + 1) + 1))), (6, .int (nI (zDS (M w) mm pr k).1)), (0, .ref (a 0)), (1, .int (nI q)), (2, .int (nI w)), (3, .int 20), (4, .int pr), (5, .ref (a (40 + q)))]) hx hb dX7_decodeSerial_86 hl (k := 0) rfl (nI_1 _) (by decide) rfl (fun ls hl => ?_)
          refine lv_goto (tgt := 44) hx hb dX7_decodeSerial_89 (by decide) ?_
          have hno : ¬ ((zDS (M w) mm pr k).1 ≤ k + 1 ∧ M w (k + 1) = false ∧ M w k = true) := fun g => hle2 g.1
          rw [← zDS_n hno] at hl
          exact ih_1 (k + 1) S2 _ _ _ (by omega) (by omega) hf (by rw [zDS_n hno]; exact hD2) hw (lv_sub hl [0, 1, 2, 3, 4, 5, 6, 7] rfl)
        · have hle : (zDS (M w) mm pr k).1 ≤ k + 1 := by have := zDS_nx (M w) mm pr k; have h9 := c58; rw [nI_ltI (by omega) (by omega)] at h9; omega
          refine lv_aload hx hb dX7_decodeSerial_61 (lv_at hl 7 rfl) ?_
          refine lv_iload_n hx hb dX7_decodeSerial_63 rfl (lv_at hl 4 rfl) ?_
          refine lv_iload hx hb dX7_decodeSerial_64 (lv_at hl 0 rfl) ?_
          refine zcV_i (As := [.int (nI w), .int (nI (k + 1))]) (rest := []) (n9 := 2) (b := (a (40 + q))) C hw (c_X0_fallsAt l D y base S2 (a (40 + q)) (a (50 + q)) mm M w (k + 1) hC2 hM2 hw4 him (by omega)) gX7_decodeSerial_X0_fallsAt rfl (by decide +kernel) ⟨⟨rfl, rfl⟩, Nat.le_of_ble_eq_true rfl, Nat.le_of_ble_eq_true rfl⟩ hC2.1 ⟨by decide, by decide⟩ rfl rfl hl.1 rfl (Nat.le_of_ble_eq_true rfl) ⟨Nat.le_of_ble_eq_true rfl, Nat.le_of_ble_eq_true rfl⟩ dX7_decodeSerial_66 (fun r66 S66 H locs hp66 hw => ?_)
          obtain ⟨rfl, hS9⟩ := hp66
          have hS9 := hS9.symm
          subst hS9
          refine lv_if_eq (tgt := 86) hx hb dX7_decodeSerial_69 (by decide) (fun c69 => ?_) (fun c69 => ?_)
          · replace c69 := zb0.mp c69
            refine lv_iinc (v := (nI ((k + 1) + 1))) (lv' := [(7, .int (nI ((k + 1) + 1))), (6, .int (nI (zDS (M w) mm pr k).1)), (0, .ref (a 0)), (1, .int (nI q)), (2, .int (nI w)), (3, .int 20), (4, .int pr), (5, .ref (a (40 + q)))]) hx hb dX7_decodeSerial_86 hl (k := 0) rfl (nI_1 _) (by decide) rfl (fun ls hl => ?_)
            refine lv_goto (tgt := 44) hx hb dX7_decodeSerial_89 (by decide) ?_
            have hno : ¬ ((zDS (M w) mm pr k).1 ≤ k + 1 ∧ M w (k + 1) = false ∧ M w k = true) := fun g => c69 g.2
            rw [← zDS_n hno] at hl
            exact ih_1 (k + 1) S2 _ _ _ (by omega) (by omega) hf (by rw [zDS_n hno]; exact hD2) hw (lv_sub hl [0, 1, 2, 3, 4, 5, 6, 7] rfl)
          · replace c69 := zb1.mp c69
            refine lv_aload_n hx hb dX7_decodeSerial_72 rfl (lv_at hl 2 rfl) ?_
            refine lv_aload hx hb dX7_decodeSerial_73 (lv_at hl 7 rfl) ?_
            refine lv_iload_n hx hb dX7_decodeSerial_75 rfl (lv_at hl 4 rfl) ?_
            refine lv_iload hx hb dX7_decodeSerial_76 (lv_at hl 0 rfl) ?_
            refine lv_iload_n hx hb dX7_decodeSerial_78 rfl (lv_at hl 5 rfl) ?_
            refine lv_iload hx hb dX7_decodeSerial_79 (lv_at hl 6 rfl) ?_
            refine zcV_i (As := [.ref (a (40 + q)), .int (nI w), .int (nI (k + 1)), .int 20, .int pr]) (rest := []) (n9 := 5) (b := (a 0)) C hw (c_X7_tellSerial l D y base S2 (a 0) (a (40 + q)) (a (50 + q)) (a 4) (a 60) (a 61) (a 62) (a 63) (a 64) mm M w (k + 1) pr ((zDS (M w) mm pr k).2) hC2 hN2 hX2.1 hX2.2.2.2.2.1 hM2 hw4 him hD2 hDs.nd (by omega)) gX7_decodeSerial_X7_tellSerial rfl (by decide +kernel) ⟨⟨rfl, rfl⟩, Nat.le_of_ble_eq_true rfl, Nat.le_of_ble_eq_true rfl⟩ hX2.1 ⟨by decide, by decide⟩ rfl rfl hl.1 rfl (Nat.le_of_ble_eq_true rfl) ⟨Nat.le_of_ble_eq_true rfl, Nat.le_of_ble_eq_true rfl⟩ dX7_decodeSerial_81 (fun r81 S81 H locs hp81 hw => ?_)
            obtain ⟨er81, hp81⟩ := hp81
            subst er81
            refine lv_istore (lv' := [(6, .int (nI (zTS (M w) mm pr (k + 1) (zDS (M w) mm pr k).2).1)), (7, .int (nI (k + 1))), (0, .ref (a 0)), (1, .int (nI q)), (2, .int (nI w)), (3, .int 20), (4, .int pr), (5, .ref (a (40 + q)))]) hx hb dX7_decodeSerial_84 hl (by decide) rfl (fun ls hl => ?_)
            refine lv_iinc (v := (nI ((k + 1) + 1))) (lv' := [(7, .int (nI ((k + 1) + 1))), (6, .int (nI (zTS (M w) mm pr (k + 1) (zDS (M w) mm pr k).2).1)), (0, .ref (a 0)), (1, .int (nI q)), (2, .int (nI w)), (3, .int 20), (4, .int pr), (5, .ref (a (40 + q)))]) hx hb dX7_decodeSerial_86 hl (k := 1) rfl (nI_1 _) (by decide) rfl (fun ls hl => ?_)
            refine lv_goto (tgt := 44) hx hb dX7_decodeSerial_89 (by decide) ?_
            rw [← zDS_y hle c69.1 c69.2] at hl
            exact ih_1 (k + 1) S81 _ _ _ (by omega) (by omega) (hf.tr hp81.2) (by rw [zDS_y hle c69.1 c69.2]; exact hp81.1) hw (lv_sub hl [0, 1, 2, 3, 4, 5, 6, 7] rfl)
  exact lp_2 _ 0 (zsI S 112 (a 4) 0) _ _ _ (Nat.lt_succ_self _) hmm.1 (zFr.I ⟨rfl, rfl⟩) ⟨zI_s _ _ _ _, Nat.zero_le _, (fun j x hx => absurd hx (by simp [zDS]))⟩ hw (lv_sub hl [0, 1, 3, 4, 5, 6, 7, 2] rfl)

set_option maxHeartbeats 4000000 in
set_option maxRecDepth 100000 in
/-- X7_decodeTwo -/
theorem c_X7_decodeTwo_g (l : Launch) (hst : l.stackTraces = false) (D : va_G) (y : Nat → ClassId) (base : Nat) (S : zS) (a : Nat → Nat) (q : Nat) (w : Nat) (v : Nat) (mm : Nat) (M : Nat → Nat → Bool) (hX : zX S a) (hNts : zNts S (a 4) (a 60) (a 61) (a 62) (a 63) (a 64)) (hDs : zDs a) (hq2 : q < 2) (hw4 : w < 4) (hv4 : v < 4) (hwv : w ≠ v) (hM : zCp S (a (40 + q)) (a (50 + q)) mm M) (hmm : 1 ≤ mm ∧ mm ≤ 200) : zXi l yX7_decodeTwo wsX7_decodeTwo ({ frames := 7, cells := 5, slots := 34, locals := 111 }) [.ref (a 0), .int (nI q), .int (nI w), .int (nI v)] D y base S (fun (r : Int32) (S1 : zS) => r = nI (zRT (M w) (M v) (zR S 22 (a 6)) (mm - 1)).2.2.2.2.2.2.2.1.length ∧ zNo S1 (a 4) (a 60) (a 61) (a 62) (a 63) (a 64) (zRT (M w) (M v) (zR S 22 (a 6)) (mm - 1)).2.2.2.2.2.2.2.1 ∧ zR S1 22 (a 6) = (zRT (M w) (M v) (zR S 22 (a 6)) (mm - 1)).2.2.2.2.2.2.2.2 ∧ zDc S S1 a) (fun (E : String) (S1 : zS) => False ∧ S1 = S) 5 34 := by
  refine zXet_of (cc := cX7_decodeTwo) (maxL := 7) (ret := (some .int)) (own := RX7) (by decide +kernel) rfl rfl (Nat.le_of_ble_eq_true rfl) ?_
  intro p e s m args below meth c ls C hr hlocks hx0 hw hl
  have hx := C.1
  have hb := C.2.1
  have hown := C.2.2.2.1
  have hts := C.2.2.2.2
  have hl : lv_has ls 7 [(0, .ref (a 0)), (1, .int (nI q)), (2, .int (nI w)), (3, .int (nI v))] := hl
  have in_X0 : ∀ w ∈ wsX00, w ∈ wsX7_decodeTwo := by decide +kernel
  have in_X3 : ∀ w ∈ wsX30, w ∈ wsX7_decodeTwo := by decide +kernel
  have in_X5 : ∀ w ∈ wsX50, w ∈ wsX7_decodeTwo := by decide +kernel
  have in_X7 : ∀ w ∈ wsX70, w ∈ wsX7_decodeTwo := by decide +kernel
  refine lv_iload_n hx hb dX7_decodeTwo_0 rfl (lv_at hl 1 rfl) ?_
  refine zcS_xv (As := [.int (nI q)]) (rest := []) (n9 := 1) C hw (c_X7_checkCapture l hst D y base S (nI q) ) gX7_decodeTwo_X7_checkCapture rfl (by decide +kernel) ⟨⟨rfl, rfl⟩, Nat.le_of_ble_eq_true rfl, Nat.le_of_ble_eq_true rfl⟩ rfl hl.1 rfl (Nat.le_of_ble_eq_true rfl) ⟨Nat.le_of_ble_eq_true rfl, Nat.le_of_ble_eq_true rfl⟩ dX7_decodeTwo_1 (fun E ce q9 S1 H locs hx1 hw h1 h2 h3 => zxout hw hx0 hlocks h1 h2 h3 (by obtain ⟨rfl, hc9, rfl⟩ := hx1; exact absurd (zc2 q hq2) hc9) ⟨Nat.le_of_ble_eq_true rfl, Nat.le_of_ble_eq_true rfl⟩) (fun S1 H locs hp1 hw => ?_)
  obtain ⟨hp1, hS9⟩ := hp1
  have hS9 := hS9.symm
  subst hS9
  refine lv_iload_n hx hb dX7_decodeTwo_4 rfl (lv_at hl 2 rfl) ?_
  refine zcS_xv (As := [.int (nI w)]) (rest := []) (n9 := 1) C hw (c_X7_checkWire l hst D y base S (nI w) ) gX7_decodeTwo_X7_checkWire rfl (by decide +kernel) ⟨⟨rfl, rfl⟩, Nat.le_of_ble_eq_true rfl, Nat.le_of_ble_eq_true rfl⟩ rfl hl.1 rfl (Nat.le_of_ble_eq_true rfl) ⟨Nat.le_of_ble_eq_true rfl, Nat.le_of_ble_eq_true rfl⟩ dX7_decodeTwo_5 (fun E ce q9 S5 H locs hx5 hw h1 h2 h3 => zxout hw hx0 hlocks h1 h2 h3 (by obtain ⟨rfl, hc9, rfl⟩ := hx5; exact absurd (zw4 w hw4) hc9) ⟨Nat.le_of_ble_eq_true rfl, Nat.le_of_ble_eq_true rfl⟩) (fun S5 H locs hp5 hw => ?_)
  obtain ⟨hp5, hS9⟩ := hp5
  have hS9 := hS9.symm
  subst hS9
  refine lv_iload_n hx hb dX7_decodeTwo_8 rfl (lv_at hl 3 rfl) ?_
  refine zcS_xv (As := [.int (nI v)]) (rest := []) (n9 := 1) C hw (c_X7_checkWire l hst D y base S (nI v) ) gX7_decodeTwo_X7_checkWire rfl (by decide +kernel) ⟨⟨rfl, rfl⟩, Nat.le_of_ble_eq_true rfl, Nat.le_of_ble_eq_true rfl⟩ rfl hl.1 rfl (Nat.le_of_ble_eq_true rfl) ⟨Nat.le_of_ble_eq_true rfl, Nat.le_of_ble_eq_true rfl⟩ dX7_decodeTwo_9 (fun E ce q9 S9 H locs hx9 hw h1 h2 h3 => zxout hw hx0 hlocks h1 h2 h3 (by obtain ⟨rfl, hc9, rfl⟩ := hx9; exact absurd (zw4 v hv4) hc9) ⟨Nat.le_of_ble_eq_true rfl, Nat.le_of_ble_eq_true rfl⟩) (fun S9 H locs hp9 hw => ?_)
  obtain ⟨hp9, hS9⟩ := hp9
  have hS9 := hS9.symm
  subst hS9
  refine lv_iload_n hx hb dX7_decodeTwo_12 rfl (lv_at hl 2 rfl) ?_
  refine lv_iload_n hx hb dX7_decodeTwo_13 rfl (lv_at hl 3 rfl) ?_
  refine zcS_xv (As := [.int (nI w), .int (nI v)]) (rest := []) (n9 := 2) C hw (c_X7_checkApart l hst D y base S (nI w) (nI v) ) gX7_decodeTwo_X7_checkApart rfl (by decide +kernel) ⟨⟨rfl, rfl⟩, Nat.le_of_ble_eq_true rfl, Nat.le_of_ble_eq_true rfl⟩ rfl hl.1 rfl (Nat.le_of_ble_eq_true rfl) ⟨Nat.le_of_ble_eq_true rfl, Nat.le_of_ble_eq_true rfl⟩ dX7_decodeTwo_14 (fun E ce q9 S14 H locs hx14 hw h1 h2 h3 => zxout hw hx0 hlocks h1 h2 h3 (by obtain ⟨rfl, hc9, rfl⟩ := hx14; exact absurd (fun e => hwv ((nI_eq (by omega) (by omega)).mp e)) hc9) ⟨Nat.le_of_ble_eq_true rfl, Nat.le_of_ble_eq_true rfl⟩) (fun S14 H locs hp14 hw => ?_)
  obtain ⟨hp14, hS9⟩ := hp14
  have hS9 := hS9.symm
  subst hS9
  refine lv_aload_n hx hb dX7_decodeTwo_17 rfl (lv_at hl 0 rfl) ?_
  refine g_Ph_told (a := (a 0)) (v := (a 4)) C hw hX.1 in_X7 (by decide +kernel) hX.2.2.2.2.1 dX7_decodeTwo_18 ?_
  refine lv_iconst (v := 0) hx hb dX7_decodeTwo_21 (by decide) ?_
  refine p_Notes_count (a := (a 4)) (v := 0) C hw hNts.1 in_X3 (by decide +kernel) dX7_decodeTwo_22 (fun H locs hw => ?_)
  have hci := zX.ci hX hq2
  refine lv_aload_n hx hb dX7_decodeTwo_25 rfl (lv_at hl 0 rfl) ?_
  refine g_Ph_captures (a := (a 0)) (v := (a 2)) C hw hX.1 in_X7 (by decide +kernel) hX.2.2.1 dX7_decodeTwo_26 ?_
  refine lv_iload_n hx hb dX7_decodeTwo_29 rfl (lv_at hl 1 rfl) ?_
  refine zald_P (a := (a 2)) (v := (a (40 + q))) C hw hX.2.2.2.2.2.2.2.2.1 (by decide) (t0 := 2) rfl rfl hX.2.2.2.2.2.2.2.2.2.1 (zin_of (N := 2) (by decide) (by grind) (by grind)) hci.1 dX7_decodeTwo_30 ?_
  refine lv_astore (lv' := [(4, .ref (a (40 + q))), (0, .ref (a 0)), (1, .int (nI q)), (2, .int (nI w)), (3, .int (nI v))]) hx hb dX7_decodeTwo_31 hl (by decide) rfl (fun ls hl => ?_)
  refine znew (k := 9) (Cn := RX5) (T := TX5) (N := 10) C hw (by decide) (by decide) rfl in_X5 tyX5 tyX5_ok (by decide +kernel) (by decide +kernel) (by decide +kernel) (zdfX5) (Nat.le_of_ble_eq_true rfl) (Nat.le_of_ble_eq_true rfl) dX7_decodeTwo_33 (fun q33 H kq33 hw => ?_)
  refine lv_dup hx hb dX7_decodeTwo_36 rfl ?_
  refine lv_aload_n hx hb dX7_decodeTwo_37 rfl (lv_at hl 1 rfl) ?_
  refine g_Ph_told (a := (a 0)) (v := (a 4)) C hw (zK_nO (k := 9) (zne kq33 (fun e9 => absurd (Eq.trans (Eq.symm hX.1) e9) (by decide))) hX.1) in_X7 (by decide +kernel) (zQ_nO (k := 9) (zne kq33 (fun e9 => absurd (Eq.trans (Eq.symm hX.1) e9) (by decide))) hX.2.2.2.2.1) dX7_decodeTwo_38 ?_
  refine lv_aload_n hx hb dX7_decodeTwo_41 rfl (lv_at hl 1 rfl) ?_
  refine g_Ph_devices (a := (a 0)) (v := (a 5)) C hw (zK_nO (k := 9) (zne kq33 (fun e9 => absurd (Eq.trans (Eq.symm hX.1) e9) (by decide))) hX.1) in_X7 (by decide +kernel) (zQ_nO (k := 9) (zne kq33 (fun e9 => absurd (Eq.trans (Eq.symm hX.1) e9) (by decide))) hX.2.2.2.2.2.1) dX7_decodeTwo_42 ?_
  refine zcI_v (As := [.ref (a 4), .ref (a 5)]) (rest := [.ref q33]) (n9 := 2) (b := q33) C hw (c_X5_init l D y base (znO (zsI S 112 (a 4) 0) q33 9) q33 (a 4) (a 5) (zK_nOs _ _ _)) gX7_decodeTwo_X5_init rfl (by decide +kernel) (by decide +kernel) (by decide +kernel) rfl (by decide +kernel) ⟨⟨rfl, rfl⟩, Nat.le_of_ble_eq_true rfl, Nat.le_of_ble_eq_true rfl⟩ rfl hl.1 rfl (Nat.le_of_ble_eq_true rfl) ⟨Nat.le_of_ble_eq_true rfl, Nat.le_of_ble_eq_true rfl⟩ dX7_decodeTwo_45 (fun S45 H locs hp45 hw => ?_)
  obtain rfl := hp45
  refine lv_astore (lv' := [(5, .ref q33), (4, .ref (a (40 + q))), (0, .ref (a 0)), (1, .int (nI q)), (2, .int (nI w)), (3, .int (nI v))]) hx hb dX7_decodeTwo_48 hl (by decide) rfl (fun ls hl => ?_)
  have hG9 : zGw (zsI S 112 (a 4) 0) (zsQ (zsQ (znO (zsI S 112 (a 4) 0) q33 9) 144 q33 (some (a 4))) 145 q33 (some (a 5))) := ((zGw.nO kq33).Q kq33).Q kq33
  have hdA : zDc S (zsI S 112 (a 4) 0) a := zDc.fr hX hNts (zFr.I (TI := zNI (a 4)) (TR := fun _ _ => False) ⟨rfl, rfl⟩) (fun i hi g => absurd g.1 (by decide)) (fun _ _ g => g)
  have hd9 : zDc S (zsQ (zsQ (znO (zsI S 112 (a 4) 0) q33 9) 144 q33 (some (a 4))) 145 q33 (some (a 5))) a := hdA.tr (zDc.gw hdA.1 hdA.2.1 hG9)
  have hNo9 : zNo (zsQ (zsQ (znO (zsI S 112 (a 4) 0) q33 9) 144 q33 (some (a 4))) 145 q33 (some (a 5))) (a 4) (a 60) (a 61) (a 62) (a 63) (a 64) [] := zNo.gw hG9 hdA.2.1 ⟨zI_s _ _ _ _, Nat.zero_le _, fun j x hx => absurd hx (by simp)⟩
  have hR9 : zR (zsQ (zsQ (znO (zsI S 112 (a 4) 0) q33 9) 144 q33 (some (a 4))) 145 q33 (some (a 5))) 22 (a 6) = zR S 22 (a 6) := (hG9 (a 6) (by show zK S (a 6) ≠ 0; rw [hX.2.2.2.2.2.2.2.2.2.2.2.1.2.2.1]; decide)).2.2.2.1 22
  have hK9 : zK (zsQ (zsQ (znO (zsI S 112 (a 4) 0) q33 9) 144 q33 (some (a 4))) 145 q33 (some (a 5))) q33 = 9 := zK_nOs _ _ _
  have hTP : zTP (zsQ (zsQ (znO (zsI S 112 (a 4) 0) q33 9) 144 q33 (some (a 4))) 145 q33 (some (a 5))) q33 (a 4) (a 5) (a 60) (a 61) (a 62) (a 63) (a 64) (a 6) (zRT (M w) (M v) (zR S 22 (a 6)) 0) := ⟨⟨hK9, zQ_t (by decide) (zQ_s _ _ _ _), zQ_s _ _ _ _, (zI_nOs (zsI S 112 (a 4) 0) q33 9 146), (zI_nOs (zsI S 112 (a 4) 0) q33 9 147), (fun h9 => absurd rfl h9), (zI_nOs (zsI S 112 (a 4) 0) q33 9 150), (zI_nOs (zsI S 112 (a 4) 0) q33 9 151), (zI_nOs (zsI S 112 (a 4) 0) q33 9 152), (zI_nOs (zsI S 112 (a 4) 0) q33 9 153)⟩, hNo9, hR9⟩
  clear hNo9 hR9 hG9
  generalize hS9 : (zsQ (zsQ (znO (zsI S 112 (a 4) 0) q33 9) 144 q33 (some (a 4))) 145 q33 (some (a 5))) = S9 at hw hd9 hTP hK9
  refine lv_iconst (v := 1) hx hb dX7_decodeTwo_50 (by decide) ?_
  refine lv_istore (lv' := [(6, .int 1), (5, .ref q33), (4, .ref (a (40 + q))), (0, .ref (a 0)), (1, .int (nI q)), (2, .int (nI w)), (3, .int (nI v))]) hx hb dX7_decodeTwo_51 hl (by decide) rfl (fun ls hl => ?_)
  have lp_2 : ∀ (n9 : Nat) (k : Nat) (S2 : zS) (H : Heap) (locs : List Loc) (ls : Array Slot), mm - k < n9 → (k + 1 ≤ mm) → (zFr S9 S2 (zWI q33 (a 4)) (zWR (a 60) (a 61) (a 62) (a 63) (a 64) (a 6))) → (zTP S2 q33 (a 4) (a 5) (a 60) (a 61) (a 62) (a 63) (a 64) (a 6) (zRT (M w) (M v) (zR S 22 (a 6)) k)) → zW D y base S2 s H locs → lv_has ls 7 [(6, .int (nI (k + 1))), (0, .ref (a 0)), (1, .int (nI q)), (2, .int (nI w)), (3, .int (nI v)), (4, .ref (a (40 + q))), (5, .ref q33)] → W p l e (headSpec wsX7_decodeTwo ({ frames := 7, cells := 5, slots := 34, locals := 111 })).room s m args below meth c H locs 5 34 (vx_MQ below (va_Qi (fun (r : Int32) (S1 : zS) => r = nI (zRT (M w) (M v) (zR S 22 (a 6)) (mm - 1)).2.2.2.2.2.2.2.1.length ∧ zNo S1 (a 4) (a 60) (a 61) (a 62) (a 63) (a 64) (zRT (M w) (M v) (zR S 22 (a 6)) (mm - 1)).2.2.2.2.2.2.2.1 ∧ zR S1 22 (a 6) = (zRT (M w) (M v) (zR S 22 (a 6)) (mm - 1)).2.2.2.2.2.2.2.2 ∧ zDc S S1 a) (zPost D y base) (zA base)) (zXC (fun (E : String) (S1 : zS) => False ∧ S1 = S) D y base) args s 5 34 (zA base)) (F0 m 53 ls []) := by
    intro n9
    induction n9 with
    | zero =>
      intro k S2 H locs ls hn9
      exact absurd hn9 (Nat.not_lt_zero _)
    | succ n9 ih_1 =>
      intro k S2 H locs ls hn9 hi hf hTP hw hl
      have hX2 := zX.fix hf.1 hd9.1
      have hN2 := zNts.fix hf.1 hd9.2.1
      have hdc : zDc S S2 a := hd9.tr (zDc.fr hd9.1 hd9.2.1 hf (fun i hi g => by rcases g with g | g; have h9 := (zX.ci hd9.1 hi).2.1; rw [g, hK9] at h9; exact absurd h9 (by decide); exact absurd g.1 (by decide)) (zWR.cap hDs))
      have hM2 := hdc.cp hq2 hM
      have hC2 := (zX.ci hX2 hq2).2
      obtain ⟨hk1, hk2, hk3, hk4, hk5⟩ := zRT_ok (M w) (M v) (zR S 22 (a 6)) k
      refine lv_iload hx hb dX7_decodeTwo_53 (lv_at hl 0 rfl) ?_
      refine lv_aload hx hb dX7_decodeTwo_55 (lv_at hl 5 rfl) ?_
      refine g_Cap_count (a := (a (40 + q))) (v := (nI mm)) C hw hC2.1 in_X0 (by decide +kernel) hM2.1 dX7_decodeTwo_57 ?_
      refine lv_icmp_ge (tgt := 159) hx hb dX7_decodeTwo_60 (by decide) (fun c60 => ?_) (fun c60 => ?_)
      · refine lv_aload_n hx hb dX7_decodeTwo_159 rfl (lv_at hl 1 rfl) ?_
        refine g_Ph_told (a := (a 0)) (v := (a 4)) C hw hX2.1 in_X7 (by decide +kernel) hX2.2.2.2.2.1 dX7_decodeTwo_160 ?_
        refine g_Notes_count (a := (a 4)) (v := (nI (((zRT (M w) (M v) (zR S 22 (a 6)) k).2.2.2.2.2.2.2.1)).length)) C hw hN2.1 in_X3 (by decide +kernel) hTP.2.1.1 dX7_decodeTwo_163 ?_
        exact vx_ret (zri C hw hr hlocks rfl (by have hk9 : mm - 1 = k := (by have := z_ge (n := mm) c60 (by omega) (by omega); omega); rw [hk9]; exact ⟨rfl, hTP.2.1, hTP.2.2, hdc⟩) ⟨Nat.le_of_ble_eq_true rfl, Nat.le_of_ble_eq_true rfl⟩ dX7_decodeTwo_166)
      · have him := z_lt (n := mm) c60 (by omega) (by omega)
        refine lv_aload hx hb dX7_decodeTwo_63 (lv_at hl 5 rfl) ?_
        refine lv_iload_n hx hb dX7_decodeTwo_65 rfl (lv_at hl 3 rfl) ?_
        refine lv_iload hx hb dX7_decodeTwo_66 (lv_at hl 0 rfl) ?_
        refine zcV_i (As := [.int (nI w), .int (nI (k + 1))]) (rest := []) (n9 := 2) (b := (a (40 + q))) C hw (c_X0_risesAt l D y base S2 (a (40 + q)) (a (50 + q)) mm M w (k + 1) hC2 hM2 hw4 him (by omega)) gX7_decodeTwo_X0_risesAt rfl (by decide +kernel) ⟨⟨rfl, rfl⟩, Nat.le_of_ble_eq_true rfl, Nat.le_of_ble_eq_true rfl⟩ hC2.1 ⟨by decide, by decide⟩ rfl rfl hl.1 rfl (Nat.le_of_ble_eq_true rfl) ⟨Nat.le_of_ble_eq_true rfl, Nat.le_of_ble_eq_true rfl⟩ dX7_decodeTwo_68 (fun r68 S68 H locs hp68 hw => ?_)
        obtain ⟨rfl, hS9⟩ := hp68
        have hS9 := hS9.symm
        subst hS9
        refine lv_if_eq (tgt := 92) hx hb dX7_decodeTwo_71 (by decide) (fun c71 => ?_) (fun c71 => ?_)
        · replace c71 := zb0.mp c71
          refine lv_aload hx hb dX7_decodeTwo_92 (lv_at hl 5 rfl) ?_
          refine lv_iload_n hx hb dX7_decodeTwo_94 rfl (lv_at hl 3 rfl) ?_
          refine lv_iload hx hb dX7_decodeTwo_95 (lv_at hl 0 rfl) ?_
          refine zcV_i (As := [.int (nI w), .int (nI (k + 1))]) (rest := []) (n9 := 2) (b := (a (40 + q))) C hw (c_X0_isHighAt l D y base S2 (a (40 + q)) (a (50 + q)) mm M w (k + 1) hC2 hM2 hw4 him) gX7_decodeTwo_X0_isHighAt rfl (by decide +kernel) ⟨⟨rfl, rfl⟩, Nat.le_of_ble_eq_true rfl, Nat.le_of_ble_eq_true rfl⟩ hC2.1 ⟨by decide, by decide⟩ rfl rfl hl.1 rfl (Nat.le_of_ble_eq_true rfl) ⟨Nat.le_of_ble_eq_true rfl, Nat.le_of_ble_eq_true rfl⟩ dX7_decodeTwo_97 (fun r97 S97 H locs hp97 hw => ?_)
          obtain ⟨rfl, hS9⟩ := hp97
          have hS9 := hS9.symm
          subst hS9
          refine lv_if_eq (tgt := 124) hx hb dX7_decodeTwo_100 (by decide) (fun c100 => ?_) (fun c100 => ?_)
          · replace c100 := zb0.mp c100
            refine lv_aload hx hb dX7_decodeTwo_124 (lv_at hl 5 rfl) ?_
            refine lv_iload_n hx hb dX7_decodeTwo_126 rfl (lv_at hl 3 rfl) ?_
            refine lv_iload hx hb dX7_decodeTwo_127 (lv_at hl 0 rfl) ?_
            refine zcV_i (As := [.int (nI w), .int (nI (k + 1))]) (rest := []) (n9 := 2) (b := (a (40 + q))) C hw (c_X0_isHighAt l D y base S2 (a (40 + q)) (a (50 + q)) mm M w (k + 1) hC2 hM2 hw4 him) gX7_decodeTwo_X0_isHighAt rfl (by decide +kernel) ⟨⟨rfl, rfl⟩, Nat.le_of_ble_eq_true rfl, Nat.le_of_ble_eq_true rfl⟩ hC2.1 ⟨by decide, by decide⟩ rfl rfl hl.1 rfl (Nat.le_of_ble_eq_true rfl) ⟨Nat.le_of_ble_eq_true rfl, Nat.le_of_ble_eq_true rfl⟩ dX7_decodeTwo_129 (fun r129 S129 H locs hp129 hw => ?_)
            obtain ⟨rfl, hS9⟩ := hp129
            have hS9 := hS9.symm
            subst hS9
            refine lv_if_eq (tgt := 153) hx hb dX7_decodeTwo_132 (by decide) (fun c132 => ?_) (fun c132 => ?_)
            · replace c132 := zb0.mp c132
              refine lv_iinc (v := (nI ((k + 1) + 1))) (lv' := [(6, .int (nI ((k + 1) + 1))), (0, .ref (a 0)), (1, .int (nI q)), (2, .int (nI w)), (3, .int (nI v)), (4, .ref (a (40 + q))), (5, .ref q33)]) hx hb dX7_decodeTwo_153 hl (k := 0) rfl (nI_1 _) (by decide) rfl (fun ls hl => ?_)
              refine lv_goto (tgt := 53) hx hb dX7_decodeTwo_156 (by decide) ?_
              have h71 : ¬ (M w (k + 1) = true ∧ M w k = false) := c71
              have h111 : ¬ (M w (k + 1) = true ∧ M v (k + 1) = false ∧ M v k = true) := fun g => c100 g.1
              have h143 : ¬ (M w (k + 1) = true ∧ M v (k + 1) = true ∧ M v k = false) := fun g => c132 g.1
              exact ih_1 (k + 1) S2 _ _ _ (by omega) (by omega) hf (by rw [zRT_n h71 h111 h143]; exact hTP) hw (lv_sub hl [0, 1, 2, 3, 4, 5, 6] rfl)
            · replace c132 := zb1.mp c132
              refine lv_aload hx hb dX7_decodeTwo_135 (lv_at hl 5 rfl) ?_
              refine lv_iload_n hx hb dX7_decodeTwo_137 rfl (lv_at hl 4 rfl) ?_
              refine lv_iload hx hb dX7_decodeTwo_138 (lv_at hl 0 rfl) ?_
              refine zcV_i (As := [.int (nI v), .int (nI (k + 1))]) (rest := []) (n9 := 2) (b := (a (40 + q))) C hw (c_X0_risesAt l D y base S2 (a (40 + q)) (a (50 + q)) mm M v (k + 1) hC2 hM2 hv4 him (by omega)) gX7_decodeTwo_X0_risesAt rfl (by decide +kernel) ⟨⟨rfl, rfl⟩, Nat.le_of_ble_eq_true rfl, Nat.le_of_ble_eq_true rfl⟩ hC2.1 ⟨by decide, by decide⟩ rfl rfl hl.1 rfl (Nat.le_of_ble_eq_true rfl) ⟨Nat.le_of_ble_eq_true rfl, Nat.le_of_ble_eq_true rfl⟩ dX7_decodeTwo_140 (fun r140 S140 H locs hp140 hw => ?_)
              obtain ⟨rfl, hS9⟩ := hp140
              have hS9 := hS9.symm
              subst hS9
              refine lv_if_eq (tgt := 153) hx hb dX7_decodeTwo_143 (by decide) (fun c143 => ?_) (fun c143 => ?_)
              · replace c143 := zb0.mp c143
                refine lv_iinc (v := (nI ((k + 1) + 1))) (lv' := [(6, .int (nI ((k + 1) + 1))), (0, .ref (a 0)), (1, .int (nI q)), (2, .int (nI w)), (3, .int (nI v)), (4, .ref (a (40 + q))), (5, .ref q33)]) hx hb dX7_decodeTwo_153 hl (k := 0) rfl (nI_1 _) (by decide) rfl (fun ls hl => ?_)
                refine lv_goto (tgt := 53) hx hb dX7_decodeTwo_156 (by decide) ?_
                have h71 : ¬ (M w (k + 1) = true ∧ M w k = false) := c71
                have h111 : ¬ (M w (k + 1) = true ∧ M v (k + 1) = false ∧ M v k = true) := fun g => c100 g.1
                have h143 : ¬ (M w (k + 1) = true ∧ M v (k + 1) = true ∧ M v k = false) := fun g => c143 g.2
                exact ih_1 (k + 1) S2 _ _ _ (by omega) (by omega) hf (by rw [zRT_n h71 h111 h143]; exact hTP) hw (lv_sub hl [0, 1, 2, 3, 4, 5, 6] rfl)
              · replace c143 := zb1.mp c143
                refine lv_aload hx hb dX7_decodeTwo_146 (lv_at hl 6 rfl) ?_
                refine lv_iload hx hb dX7_decodeTwo_148 (lv_at hl 0 rfl) ?_
                refine zcV_v (As := [.int (nI (k + 1))]) (rest := []) (n9 := 1) (b := q33) C hw (c_X5_takeEnd l D y base S2 q33 (a 5) (a 4) (a 60) (a 61) (a 62) (a 63) (a 64) (a 6) ((zRT (M w) (M v) (zR S 22 (a 6)) k).1) ((zRT (M w) (M v) (zR S 22 (a 6)) k).2.1) ((zRT (M w) (M v) (zR S 22 (a 6)) k).2.2.1) ((zRT (M w) (M v) (zR S 22 (a 6)) k).2.2.2.1) ((zRT (M w) (M v) (zR S 22 (a 6)) k).2.2.2.2.1) ((zRT (M w) (M v) (zR S 22 (a 6)) k).2.2.2.2.2.1) ((zRT (M w) (M v) (zR S 22 (a 6)) k).2.2.2.2.2.2.1) ((zRT (M w) (M v) (zR S 22 (a 6)) k).2.2.2.2.2.2.2.1) (k + 1) hN2 hTP.1 hTP.2.1 hDs.nd (by omega)) gX7_decodeTwo_X5_takeEnd rfl (by decide +kernel) ⟨⟨rfl, rfl⟩, Nat.le_of_ble_eq_true rfl, Nat.le_of_ble_eq_true rfl⟩ hTP.1.1 ⟨by decide, by decide⟩ rfl rfl hl.1 rfl (Nat.le_of_ble_eq_true rfl) ⟨Nat.le_of_ble_eq_true rfl, Nat.le_of_ble_eq_true rfl⟩ dX7_decodeTwo_150 (fun S150 H locs hp150 hw => ?_)
                refine lv_iinc (v := (nI ((k + 1) + 1))) (lv' := [(6, .int (nI ((k + 1) + 1))), (0, .ref (a 0)), (1, .int (nI q)), (2, .int (nI w)), (3, .int (nI v)), (4, .ref (a (40 + q))), (5, .ref q33)]) hx hb dX7_decodeTwo_153 hl (k := 0) rfl (nI_1 _) (by decide) rfl (fun ls hl => ?_)
                refine lv_goto (tgt := 53) hx hb dX7_decodeTwo_156 (by decide) ?_
                have h71 : ¬ (M w (k + 1) = true ∧ M w k = false) := c71
                have h111 : ¬ (M w (k + 1) = true ∧ M v (k + 1) = false ∧ M v k = true) := fun g => c100 g.1
                have h143 : M w (k + 1) = true ∧ M v (k + 1) = true ∧ M v k = false := ⟨c132, c143⟩
                exact ih_1 (k + 1) S150 _ _ _ (by omega) (by omega) (hf.tr (hp150.2.2.mono (fun _ _ g => g) zNR.wr)) (by rw [zRT_e h71 h111 h143]; exact ⟨hp150.1, hp150.2.1, (hp150.2.2.2.2.1 22 (a 6) (zNR.a6 hDs)).trans hTP.2.2⟩) hw (lv_sub hl [0, 1, 2, 3, 4, 5, 6] rfl)
          · replace c100 := zb1.mp c100
            refine lv_aload hx hb dX7_decodeTwo_103 (lv_at hl 5 rfl) ?_
            refine lv_iload_n hx hb dX7_decodeTwo_105 rfl (lv_at hl 4 rfl) ?_
            refine lv_iload hx hb dX7_decodeTwo_106 (lv_at hl 0 rfl) ?_
            refine zcV_i (As := [.int (nI v), .int (nI (k + 1))]) (rest := []) (n9 := 2) (b := (a (40 + q))) C hw (c_X0_fallsAt l D y base S2 (a (40 + q)) (a (50 + q)) mm M v (k + 1) hC2 hM2 hv4 him (by omega)) gX7_decodeTwo_X0_fallsAt rfl (by decide +kernel) ⟨⟨rfl, rfl⟩, Nat.le_of_ble_eq_true rfl, Nat.le_of_ble_eq_true rfl⟩ hC2.1 ⟨by decide, by decide⟩ rfl rfl hl.1 rfl (Nat.le_of_ble_eq_true rfl) ⟨Nat.le_of_ble_eq_true rfl, Nat.le_of_ble_eq_true rfl⟩ dX7_decodeTwo_108 (fun r108 S108 H locs hp108 hw => ?_)
            obtain ⟨rfl, hS9⟩ := hp108
            have hS9 := hS9.symm
            subst hS9
            refine lv_if_eq (tgt := 124) hx hb dX7_decodeTwo_111 (by decide) (fun c111 => ?_) (fun c111 => ?_)
            · replace c111 := zb0.mp c111
              refine lv_aload hx hb dX7_decodeTwo_124 (lv_at hl 5 rfl) ?_
              refine lv_iload_n hx hb dX7_decodeTwo_126 rfl (lv_at hl 3 rfl) ?_
              refine lv_iload hx hb dX7_decodeTwo_127 (lv_at hl 0 rfl) ?_
              refine zcV_i (As := [.int (nI w), .int (nI (k + 1))]) (rest := []) (n9 := 2) (b := (a (40 + q))) C hw (c_X0_isHighAt l D y base S2 (a (40 + q)) (a (50 + q)) mm M w (k + 1) hC2 hM2 hw4 him) gX7_decodeTwo_X0_isHighAt rfl (by decide +kernel) ⟨⟨rfl, rfl⟩, Nat.le_of_ble_eq_true rfl, Nat.le_of_ble_eq_true rfl⟩ hC2.1 ⟨by decide, by decide⟩ rfl rfl hl.1 rfl (Nat.le_of_ble_eq_true rfl) ⟨Nat.le_of_ble_eq_true rfl, Nat.le_of_ble_eq_true rfl⟩ dX7_decodeTwo_129 (fun r129 S129 H locs hp129 hw => ?_)
              obtain ⟨rfl, hS9⟩ := hp129
              have hS9 := hS9.symm
              subst hS9
              refine lv_if_eq (tgt := 153) hx hb dX7_decodeTwo_132 (by decide) (fun c132 => ?_) (fun c132 => ?_)
              · replace c132 := zb0.mp c132
                refine lv_iinc (v := (nI ((k + 1) + 1))) (lv' := [(6, .int (nI ((k + 1) + 1))), (0, .ref (a 0)), (1, .int (nI q)), (2, .int (nI w)), (3, .int (nI v)), (4, .ref (a (40 + q))), (5, .ref q33)]) hx hb dX7_decodeTwo_153 hl (k := 0) rfl (nI_1 _) (by decide) rfl (fun ls hl => ?_)
                refine lv_goto (tgt := 53) hx hb dX7_decodeTwo_156 (by decide) ?_
                have h71 : ¬ (M w (k + 1) = true ∧ M w k = false) := c71
                have h111 : ¬ (M w (k + 1) = true ∧ M v (k + 1) = false ∧ M v k = true) := fun g => c111 g.2
                have h143 : ¬ (M w (k + 1) = true ∧ M v (k + 1) = true ∧ M v k = false) := fun g => c132 g.1
                exact ih_1 (k + 1) S2 _ _ _ (by omega) (by omega) hf (by rw [zRT_n h71 h111 h143]; exact hTP) hw (lv_sub hl [0, 1, 2, 3, 4, 5, 6] rfl)
              · replace c132 := zb1.mp c132
                refine lv_aload hx hb dX7_decodeTwo_135 (lv_at hl 5 rfl) ?_
                refine lv_iload_n hx hb dX7_decodeTwo_137 rfl (lv_at hl 4 rfl) ?_
                refine lv_iload hx hb dX7_decodeTwo_138 (lv_at hl 0 rfl) ?_
                refine zcV_i (As := [.int (nI v), .int (nI (k + 1))]) (rest := []) (n9 := 2) (b := (a (40 + q))) C hw (c_X0_risesAt l D y base S2 (a (40 + q)) (a (50 + q)) mm M v (k + 1) hC2 hM2 hv4 him (by omega)) gX7_decodeTwo_X0_risesAt rfl (by decide +kernel) ⟨⟨rfl, rfl⟩, Nat.le_of_ble_eq_true rfl, Nat.le_of_ble_eq_true rfl⟩ hC2.1 ⟨by decide, by decide⟩ rfl rfl hl.1 rfl (Nat.le_of_ble_eq_true rfl) ⟨Nat.le_of_ble_eq_true rfl, Nat.le_of_ble_eq_true rfl⟩ dX7_decodeTwo_140 (fun r140 S140 H locs hp140 hw => ?_)
                obtain ⟨rfl, hS9⟩ := hp140
                have hS9 := hS9.symm
                subst hS9
                refine lv_if_eq (tgt := 153) hx hb dX7_decodeTwo_143 (by decide) (fun c143 => ?_) (fun c143 => ?_)
                · replace c143 := zb0.mp c143
                  refine lv_iinc (v := (nI ((k + 1) + 1))) (lv' := [(6, .int (nI ((k + 1) + 1))), (0, .ref (a 0)), (1, .int (nI q)), (2, .int (nI w)), (3, .int (nI v)), (4, .ref (a (40 + q))), (5, .ref q33)]) hx hb dX7_decodeTwo_153 hl (k := 0) rfl (nI_1 _) (by decide) rfl (fun ls hl => ?_)
                  refine lv_goto (tgt := 53) hx hb dX7_decodeTwo_156 (by decide) ?_
                  have h71 : ¬ (M w (k + 1) = true ∧ M w k = false) := c71
                  have h111 : ¬ (M w (k + 1) = true ∧ M v (k + 1) = false ∧ M v k = true) := fun g => c111 g.2
                  have h143 : ¬ (M w (k + 1) = true ∧ M v (k + 1) = true ∧ M v k = false) := fun g => c143 g.2
                  exact ih_1 (k + 1) S2 _ _ _ (by omega) (by omega) hf (by rw [zRT_n h71 h111 h143]; exact hTP) hw (lv_sub hl [0, 1, 2, 3, 4, 5, 6] rfl)
                · replace c143 := zb1.mp c143
                  refine lv_aload hx hb dX7_decodeTwo_146 (lv_at hl 6 rfl) ?_
                  refine lv_iload hx hb dX7_decodeTwo_148 (lv_at hl 0 rfl) ?_
                  refine zcV_v (As := [.int (nI (k + 1))]) (rest := []) (n9 := 1) (b := q33) C hw (c_X5_takeEnd l D y base S2 q33 (a 5) (a 4) (a 60) (a 61) (a 62) (a 63) (a 64) (a 6) ((zRT (M w) (M v) (zR S 22 (a 6)) k).1) ((zRT (M w) (M v) (zR S 22 (a 6)) k).2.1) ((zRT (M w) (M v) (zR S 22 (a 6)) k).2.2.1) ((zRT (M w) (M v) (zR S 22 (a 6)) k).2.2.2.1) ((zRT (M w) (M v) (zR S 22 (a 6)) k).2.2.2.2.1) ((zRT (M w) (M v) (zR S 22 (a 6)) k).2.2.2.2.2.1) ((zRT (M w) (M v) (zR S 22 (a 6)) k).2.2.2.2.2.2.1) ((zRT (M w) (M v) (zR S 22 (a 6)) k).2.2.2.2.2.2.2.1) (k + 1) hN2 hTP.1 hTP.2.1 hDs.nd (by omega)) gX7_decodeTwo_X5_takeEnd rfl (by decide +kernel) ⟨⟨rfl, rfl⟩, Nat.le_of_ble_eq_true rfl, Nat.le_of_ble_eq_true rfl⟩ hTP.1.1 ⟨by decide, by decide⟩ rfl rfl hl.1 rfl (Nat.le_of_ble_eq_true rfl) ⟨Nat.le_of_ble_eq_true rfl, Nat.le_of_ble_eq_true rfl⟩ dX7_decodeTwo_150 (fun S150 H locs hp150 hw => ?_)
                  refine lv_iinc (v := (nI ((k + 1) + 1))) (lv' := [(6, .int (nI ((k + 1) + 1))), (0, .ref (a 0)), (1, .int (nI q)), (2, .int (nI w)), (3, .int (nI v)), (4, .ref (a (40 + q))), (5, .ref q33)]) hx hb dX7_decodeTwo_153 hl (k := 0) rfl (nI_1 _) (by decide) rfl (fun ls hl => ?_)
                  refine lv_goto (tgt := 53) hx hb dX7_decodeTwo_156 (by decide) ?_
                  have h71 : ¬ (M w (k + 1) = true ∧ M w k = false) := c71
                  have h111 : ¬ (M w (k + 1) = true ∧ M v (k + 1) = false ∧ M v k = true) := fun g => c111 g.2
                  have h143 : M w (k + 1) = true ∧ M v (k + 1) = true ∧ M v k = false := ⟨c132, c143⟩
                  exact ih_1 (k + 1) S150 _ _ _ (by omega) (by omega) (hf.tr (hp150.2.2.mono (fun _ _ g => g) zNR.wr)) (by rw [zRT_e h71 h111 h143]; exact ⟨hp150.1, hp150.2.1, (hp150.2.2.2.2.1 22 (a 6) (zNR.a6 hDs)).trans hTP.2.2⟩) hw (lv_sub hl [0, 1, 2, 3, 4, 5, 6] rfl)
            · replace c111 := zb1.mp c111
              refine lv_aload hx hb dX7_decodeTwo_114 (lv_at hl 6 rfl) ?_
              refine lv_iload hx hb dX7_decodeTwo_116 (lv_at hl 0 rfl) ?_
              refine zcV_v (As := [.int (nI (k + 1))]) (rest := []) (n9 := 1) (b := q33) C hw (c_X5_takeStart l D y base S2 q33 (a 5) (a 4) (a 60) (a 61) (a 62) (a 63) (a 64) (a 6) ((zRT (M w) (M v) (zR S 22 (a 6)) k).1) ((zRT (M w) (M v) (zR S 22 (a 6)) k).2.1) ((zRT (M w) (M v) (zR S 22 (a 6)) k).2.2.1) ((zRT (M w) (M v) (zR S 22 (a 6)) k).2.2.2.1) ((zRT (M w) (M v) (zR S 22 (a 6)) k).2.2.2.2.1) ((zRT (M w) (M v) (zR S 22 (a 6)) k).2.2.2.2.2.1) ((zRT (M w) (M v) (zR S 22 (a 6)) k).2.2.2.2.2.2.1) ((zRT (M w) (M v) (zR S 22 (a 6)) k).2.2.2.2.2.2.2.1) (k + 1) hN2 hTP.1 hTP.2.1 hDs.nd (by omega)) gX7_decodeTwo_X5_takeStart rfl (by decide +kernel) ⟨⟨rfl, rfl⟩, Nat.le_of_ble_eq_true rfl, Nat.le_of_ble_eq_true rfl⟩ hTP.1.1 ⟨by decide, by decide⟩ rfl rfl hl.1 rfl (Nat.le_of_ble_eq_true rfl) ⟨Nat.le_of_ble_eq_true rfl, Nat.le_of_ble_eq_true rfl⟩ dX7_decodeTwo_118 (fun S118 H locs hp118 hw => ?_)
              refine lv_goto (tgt := 153) hx hb dX7_decodeTwo_121 (by decide) ?_
              refine lv_iinc (v := (nI ((k + 1) + 1))) (lv' := [(6, .int (nI ((k + 1) + 1))), (0, .ref (a 0)), (1, .int (nI q)), (2, .int (nI w)), (3, .int (nI v)), (4, .ref (a (40 + q))), (5, .ref q33)]) hx hb dX7_decodeTwo_153 hl (k := 0) rfl (nI_1 _) (by decide) rfl (fun ls hl => ?_)
              refine lv_goto (tgt := 53) hx hb dX7_decodeTwo_156 (by decide) ?_
              have h71 : ¬ (M w (k + 1) = true ∧ M w k = false) := c71
              have h111 : M w (k + 1) = true ∧ M v (k + 1) = false ∧ M v k = true := ⟨c100, c111⟩
              exact ih_1 (k + 1) S118 _ _ _ (by omega) (by omega) (hf.tr (hp118.2.2.mono (fun _ _ g => g) zNR.wr)) (by rw [zRT_s h71 h111]; exact ⟨hp118.1, hp118.2.1, (hp118.2.2.2.2.1 22 (a 6) (zNR.a6 hDs)).trans hTP.2.2⟩) hw (lv_sub hl [0, 1, 2, 3, 4, 5, 6] rfl)
        · replace c71 := zb1.mp c71
          refine lv_aload hx hb dX7_decodeTwo_74 (lv_at hl 6 rfl) ?_
          refine lv_aload hx hb dX7_decodeTwo_76 (lv_at hl 5 rfl) ?_
          refine lv_iload_n hx hb dX7_decodeTwo_78 rfl (lv_at hl 4 rfl) ?_
          refine lv_iload hx hb dX7_decodeTwo_79 (lv_at hl 0 rfl) ?_
          refine zcV_i (As := [.int (nI v), .int (nI (k + 1))]) (rest := [.ref q33]) (n9 := 2) (b := (a (40 + q))) C hw (c_X0_isHighAt l D y base S2 (a (40 + q)) (a (50 + q)) mm M v (k + 1) hC2 hM2 hv4 him) gX7_decodeTwo_X0_isHighAt rfl (by decide +kernel) ⟨⟨rfl, rfl⟩, Nat.le_of_ble_eq_true rfl, Nat.le_of_ble_eq_true rfl⟩ hC2.1 ⟨by decide, by decide⟩ rfl rfl hl.1 rfl (Nat.le_of_ble_eq_true rfl) ⟨Nat.le_of_ble_eq_true rfl, Nat.le_of_ble_eq_true rfl⟩ dX7_decodeTwo_81 (fun r81 S81 H locs hp81 hw => ?_)
          obtain ⟨rfl, hS9⟩ := hp81
          have hS9 := hS9.symm
          subst hS9
          refine lv_iload hx hb dX7_decodeTwo_84 (lv_at hl 0 rfl) ?_
          refine zcV_v (As := [.int (zb (M v (k + 1) = true)), .int (nI (k + 1))]) (rest := []) (n9 := 2) (b := q33) C hw (c_X5_takeBit l D y base S2 q33 (a 5) (a 4) (a 60) (a 61) (a 62) (a 63) (a 64) (a 6) ((zRT (M w) (M v) (zR S 22 (a 6)) k).1) ((zRT (M w) (M v) (zR S 22 (a 6)) k).2.1) ((zRT (M w) (M v) (zR S 22 (a 6)) k).2.2.1) ((zRT (M w) (M v) (zR S 22 (a 6)) k).2.2.2.1) ((zRT (M w) (M v) (zR S 22 (a 6)) k).2.2.2.2.1) ((zRT (M w) (M v) (zR S 22 (a 6)) k).2.2.2.2.2.1) ((zRT (M w) (M v) (zR S 22 (a 6)) k).2.2.2.2.2.2.1) ((zRT (M w) (M v) (zR S 22 (a 6)) k).2.2.2.2.2.2.2.1) ((zRT (M w) (M v) (zR S 22 (a 6)) k).2.2.2.2.2.2.2.2) (M v (k + 1)) (k + 1) hN2 hX2.2.2.2.2.2.2.2.2.2.2.2.1 hTP.1 hTP.2.1 hDs.nd (by omega) hk1 (by omega) hk3 hk4 ⟨hDs 6 (by decide) 61 (by decide) (by decide), hDs 6 (by decide) 62 (by decide) (by decide), hDs 6 (by decide) 63 (by decide) (by decide)⟩ hTP.2.2) gX7_decodeTwo_X5_takeBit rfl (by decide +kernel) ⟨⟨rfl, rfl⟩, Nat.le_of_ble_eq_true rfl, Nat.le_of_ble_eq_true rfl⟩ hTP.1.1 ⟨by decide, by decide⟩ rfl rfl hl.1 rfl (Nat.le_of_ble_eq_true rfl) ⟨Nat.le_of_ble_eq_true rfl, Nat.le_of_ble_eq_true rfl⟩ dX7_decodeTwo_86 (fun S86 H locs hp86 hw => ?_)
          refine lv_goto (tgt := 153) hx hb dX7_decodeTwo_89 (by decide) ?_
          refine lv_iinc (v := (nI ((k + 1) + 1))) (lv' := [(6, .int (nI ((k + 1) + 1))), (0, .ref (a 0)), (1, .int (nI q)), (2, .int (nI w)), (3, .int (nI v)), (4, .ref (a (40 + q))), (5, .ref q33)]) hx hb dX7_decodeTwo_153 hl (k := 0) rfl (nI_1 _) (by decide) rfl (fun ls hl => ?_)
          refine lv_goto (tgt := 53) hx hb dX7_decodeTwo_156 (by decide) ?_
          have h71 : M w (k + 1) = true ∧ M w k = false := c71
          exact ih_1 (k + 1) S86 _ _ _ (by omega) (by omega) (hf.tr hp86.2) (by rw [zRT_b h71]; exact hp86.1) hw (lv_sub hl [0, 1, 2, 3, 4, 5, 6] rfl)
  exact lp_2 _ 0 S9 _ _ _ (Nat.lt_succ_self _) hmm.1 zFr.rf hTP hw (lv_sub hl [0, 3, 4, 5, 6, 2, 1] rfl)

