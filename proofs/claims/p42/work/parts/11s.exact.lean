set_option maxHeartbeats 4000000 in
set_option maxRecDepth 100000 in
/-- X6_flipSent -/
theorem c_X6_flipSent_x (l : Launch) (D : va_G) (y : Nat → ClassId) (base : Nat) (S : zS) (w : Nat) (tk : Nat) (sn : Nat) (k : Nat) (n0 : Nat) (hW : zWire S w tk sn) (h164 : zI S 164 w = nI k) (hk64 : k ≤ 64) (h0 : zRk S w tk n0) (hn0 : n0 + k ≤ 364) (hrg : ∀ j, j < k → 0 ≤ (zR S 22 sn j).toInt ∧ (zR S 22 sn j).toInt ≤ 9999) (hasc : zAsc (zR S 22 sn) k) : zMv l yX6_flipSent wsX6_flipSent ({ frames := 3, cells := 0, slots := 0, locals := 66 }) [.ref w] D y base S (fun (S1 : zS) => zFlp S S1 w tk ∧ ∃ n : Nat, (n : Int) = (n0 : Int) + zsm (fun j => zwHas S w tk (zR S 22 sn j)) k ∧ zRk S1 w tk n ∧ ∀ t, zod (zcu (zR S1 22 tk) n t) = xor (zod (zcu (zR S 22 tk) n0 t)) (zod (zcu (zR S 22 sn) k t))) 0 0 := by
  refine zMet_of (cc := cX6_flipSent) (maxL := 2) (ret := none) (own := RX6) (by decide +kernel) rfl rfl (Nat.le_of_ble_eq_true rfl) ?_
  intro p e s m args below meth c ls C hr hlocks hnm hw hl
  have hx := C.1
  have hb := C.2.1
  have hown := C.2.2.2.1
  have hts := C.2.2.2.2
  have hl : lv_has ls 2 [(0, .ref w)] := hl
  have in_X6 : ∀ w ∈ wsX60, w ∈ wsX6_flipSent := by decide +kernel
  have hts9 : tk ≠ sn := hW.2.2.2.2.2.2.2
  refine lv_iconst (v := 0) hx hb dX6_flipSent_0 (by decide) ?_
  refine lv_istore_n (lv' := [(1, .int 0), (0, .ref w)]) hx hb dX6_flipSent_1 rfl hl (by decide) rfl (fun ls hl => ?_)
  have lp_2 : ∀ (n9 : Nat) (i : Nat) (S2 : zS) (H : Heap) (locs : List Loc) (ls : Array Slot), 64 - i < n9 → (i ≤ k) → (zFlp S S2 w tk) → (∃ n : Nat, (n : Int) = (n0 : Int) + zsm (fun j => zwHas S w tk (zR S 22 sn j)) i ∧ zRk S2 w tk n ∧ ∀ t, zod (zcu (zR S2 22 tk) n t) = xor (zod (zcu (zR S 22 tk) n0 t)) (zod (zcu (zR S 22 sn) i t))) → zW D y base S2 s H locs → lv_has ls 2 [(1, .int (nI i)), (0, .ref w)] → W p l e (headSpec wsX6_flipSent ({ frames := 3, cells := 0, slots := 0, locals := 66 })).room s m args below meth c H locs 0 0 (MQ below (va_Qv (fun (S1 : zS) => zFlp S S1 w tk ∧ ∃ n : Nat, (n : Int) = (n0 : Int) + zsm (fun j => zwHas S w tk (zR S 22 sn j)) k ∧ zRk S1 w tk n ∧ ∀ t, zod (zcu (zR S1 22 tk) n t) = xor (zod (zcu (zR S 22 tk) n0 t)) (zod (zcu (zR S 22 sn) k t))) (zPost D y base) (zA base)) args s 0 0 (zA base)) (F0 m 2 ls []) := by
    intro n9
    induction n9 with
    | zero =>
      intro i S2 H locs ls hn9
      exact absurd hn9 (Nat.not_lt_zero _)
    | succ n9 ih_1 =>
      intro i S2 H locs ls hn9 hi hf h2 hw hl
      have hW2 : zWire S2 w tk sn := zWire.fix hf.1 hW
      have h164b : zI S2 164 w = nI k := (hf.2.1 164 w (Or.inr (by decide))).trans h164
      have hsn : zR S2 22 sn = zR S 22 sn := hf.2.2.1 22 sn (Or.inl (Ne.symm hts9))
      refine lv_iload_n hx hb dX6_flipSent_2 rfl (lv_at hl 0 rfl) ?_
      refine lv_aload_n hx hb dX6_flipSent_3 rfl (lv_at hl 1 rfl) ?_
      refine g_Wire_sentCount (a := w) (v := (nI k)) C hw hW2.1 in_X6 (by decide +kernel) h164b dX6_flipSent_4 ?_
      refine lv_icmp_ge (tgt := 35) hx hb dX6_flipSent_7 (by decide) (fun c7 => ?_) (fun c7 => ?_)
      · exact zrv C hw hr hlocks ⟨hf, (by rw [show k = i by (first | (have := z_ge (n := k) c7 (by omega) (by omega); omega) | (have := z_ge (n := 64) c16 (by omega) (by omega); omega))]; exact h2)⟩ ⟨Nat.le_of_ble_eq_true rfl, Nat.le_of_ble_eq_true rfl⟩ dX6_flipSent_35
      · refine lv_iload_n hx hb dX6_flipSent_10 rfl (lv_at hl 0 rfl) ?_
        refine lv_aload_n hx hb dX6_flipSent_11 rfl (lv_at hl 1 rfl) ?_
        refine g_Wire_sent (a := w) (v := sn) C hw hW2.1 in_X6 (by decide +kernel) hW2.2.2.1 dX6_flipSent_12 ?_
        refine zalen (a := sn) (v := 64) C hw hW2.2.2.2.2.2.1 (by decide) (t0 := 1) rfl (zlen hW2.2.2.2.2.2.2.1 rfl) dX6_flipSent_15 ?_
        refine lv_icmp_ge (tgt := 35) hx hb dX6_flipSent_16 (by decide) (fun c16 => ?_) (fun c16 => ?_)
        · exact zrv C hw hr hlocks ⟨hf, (by rw [show k = i by (first | (have := z_ge (n := k) c7 (by omega) (by omega); omega) | (have := z_ge (n := 64) c16 (by omega) (by omega); omega))]; exact h2)⟩ ⟨Nat.le_of_ble_eq_true rfl, Nat.le_of_ble_eq_true rfl⟩ dX6_flipSent_35
        · refine lv_aload_n hx hb dX6_flipSent_19 rfl (lv_at hl 1 rfl) ?_
          refine lv_aload_n hx hb dX6_flipSent_20 rfl (lv_at hl 1 rfl) ?_
          refine g_Wire_sent (a := w) (v := sn) C hw hW2.1 in_X6 (by decide +kernel) hW2.2.2.1 dX6_flipSent_21 ?_
          refine lv_iload_n hx hb dX6_flipSent_24 rfl (lv_at hl 0 rfl) ?_
          refine zald_I (a := sn) C hw hW2.2.2.2.2.2.1 hW2.2.2.2.2.2.2.1 (vp_in_nI (z_lt (n := 64) c16 (by omega) (by omega)) (by decide)) dX6_flipSent_25 ?_
          refine zcV_v (As := [.int (zR S2 22 sn ((nI i)).toNatClampNeg)]) (rest := []) (n9 := 1) (b := w) C hw (c_X6_flipAt l D y base S2 w tk sn (zR S2 22 sn ((nI i)).toNatClampNeg) hW2) gX6_flipSent_X6_flipAt rfl (by decide +kernel) ⟨⟨rfl, rfl⟩, Nat.le_of_ble_eq_true rfl, Nat.le_of_ble_eq_true rfl⟩ hW2.1 ⟨by decide, by decide⟩ rfl rfl hl.1 rfl (Nat.le_of_ble_eq_true rfl) ⟨Nat.le_of_ble_eq_true rfl, Nat.le_of_ble_eq_true rfl⟩ dX6_flipSent_26 (fun S26 H locs hp26 hw => ?_)
          refine lv_iinc (v := (nI (i + 1))) (lv' := [(1, .int (nI (i + 1))), (0, .ref w)]) hx hb dX6_flipSent_29 hl (k := 0) rfl (nI_1 _) (by decide) rfl (fun ls hl => ?_)
          refine lv_goto (tgt := 2) hx hb dX6_flipSent_32 (by decide) ?_
          have hik := z_lt (n := k) c7 (by omega) (by omega)
          rw [nI_clamp (by omega), hsn] at hp26
          obtain ⟨n, hn, hrk, hlv⟩ := h2
          have hrg9 := zsm_rg (fun j => zwHas S w tk (zR S 22 sn j)) i
          obtain ⟨n2, hn2, hrk2, hlv2, hx1, hx2⟩ := hrk.flip (by omega) (hrg i hik) hp26.2
          have hhas := zhas_step (sent := zR S 22 sn) hrk (by omega) h0 (by omega) (fun j hj => hasc j i hj hik) hlv
          have hcnt := zexact (sent := zR S 22 sn) (S3 := S) hrk (by omega) hn hhas hx1 hx2
          exact ih_1 (i + 1) S26 _ _ _ (by omega) (by omega) (hf.tr hp26.1) ⟨n2, hcnt, hrk2, fun t => by rw [hlv2, hlv, zod_cu, Bool.xor_assoc]⟩ hw (lv_sub hl [0, 1] rfl)
  exact lp_2 _ 0 S _ _ _ (Nat.lt_succ_self _) (Nat.zero_le _) zFlp.rf ⟨n0, (Int.add_zero _).symm, h0, fun t => (Bool.xor_false _).symm⟩ hw (lv_sub hl [0, 1] rfl)

set_option maxHeartbeats 4000000 in
set_option maxRecDepth 100000 in
/-- X7_flip -/
theorem c_X7_flip_g (l : Launch) (hst : l.stackTraces = false) (D : va_G) (y : Nat → ClassId) (base : Nat) (S : zS) (a : Nat → Nat) (w : Nat) (ta : Nat) (F : Nat → Int → Bool) (N : Nat → Nat) (A1 : Int32) (A2 : Int32) (rg : Nat → Int32) (ns : Nat) (L : List zNt) (hX : zX S a) (hDs : zDs a) (hw4 : w < 4) (hta : ta ≤ 9999) (hOb : zOb S a F N A1 A2 rg ns L) : zXi l yX7_flip wsX7_flip ({ frames := 7, cells := 3, slots := 18, locals := 112 }) [.ref (a 0), .int (nI w), .int (nI ta)] D y base S (fun (r : Int32) (S1 : zS) => (N w : Int) + zsm (zhp (F w) (fun _ => ta)) 1 ≤ 300 ∧ ∃ n9 : Nat, (n9 : Int) = (N w : Int) + zsm (zhp (F w) (fun _ => ta)) 1 ∧ r = nI n9 ∧ zOb S1 a (zup F w (fun t => xor (F w t) (decide ((ta : Int) ≤ t)))) (zup N w n9) A1 A2 rg ns L) (fun (E : String) (S1 : zS) => (E = "java/lang/IllegalStateException" ∧ ¬ (N w : Int) + zsm (zhp (F w) (fun _ => ta)) 1 ≤ 300) ∧ zOb S1 a F N A1 A2 rg ns L) 3 18 := by
  refine zXet_of (cc := cX7_flip) (maxL := 4) (ret := (some .int)) (own := RX7) (by decide +kernel) rfl rfl (Nat.le_of_ble_eq_true rfl) ?_
  intro p e s m args below meth c ls C hr hlocks hx0 hw hl
  have hx := C.1
  have hb := C.2.1
  have hown := C.2.2.2.1
  have hts := C.2.2.2.2
  have hl : lv_has ls 4 [(0, .ref (a 0)), (1, .int (nI w)), (2, .int (nI ta))] := hl
  have in_X6 : ∀ w ∈ wsX60, w ∈ wsX7_flip := by decide +kernel
  have in_X7 : ∀ w ∈ wsX70, w ∈ wsX7_flip := by decide +kernel
  refine lv_iload_n hx hb dX7_flip_0 rfl (lv_at hl 1 rfl) ?_
  refine zcS_xv (As := [.int (nI w)]) (rest := []) (n9 := 1) C hw (c_X7_checkWire l hst D y base S (nI w) ) gX7_flip_X7_checkWire rfl (by decide +kernel) ⟨⟨rfl, rfl⟩, Nat.le_of_ble_eq_true rfl, Nat.le_of_ble_eq_true rfl⟩ rfl hl.1 rfl (Nat.le_of_ble_eq_true rfl) ⟨Nat.le_of_ble_eq_true rfl, Nat.le_of_ble_eq_true rfl⟩ dX7_flip_1 (fun E ce q9 S1 H locs hx1 hw h1 h2 h3 => zxout hw hx0 hlocks h1 h2 h3 (by obtain ⟨rfl, hc9, rfl⟩ := hx1; exact absurd (zw4 w hw4) hc9) ⟨Nat.le_of_ble_eq_true rfl, Nat.le_of_ble_eq_true rfl⟩) (fun S1 H locs hp1 hw => ?_)
  obtain ⟨hp1, hS9⟩ := hp1
  have hS9 := hS9.symm
  subst hS9
  refine lv_iload_n hx hb dX7_flip_4 rfl (lv_at hl 2 rfl) ?_
  refine lv_iconst (v := 0) hx hb dX7_flip_5 (by decide) ?_
  refine lv_sipush (v := 9999) hx hb dX7_flip_6 (by decide) ?_
  refine zcS_xv (As := [.int (nI ta), .int 0, .int 9999]) (rest := []) (n9 := 3) C hw (c_X7_checkRange l hst D y base S (nI ta) 0 9999 ) gX7_flip_X7_checkRange rfl (by decide +kernel) ⟨⟨rfl, rfl⟩, Nat.le_of_ble_eq_true rfl, Nat.le_of_ble_eq_true rfl⟩ rfl hl.1 rfl (Nat.le_of_ble_eq_true rfl) ⟨Nat.le_of_ble_eq_true rfl, Nat.le_of_ble_eq_true rfl⟩ dX7_flip_9 (fun E ce q9 S9 H locs hx9 hw h1 h2 h3 => zxout hw hx0 hlocks h1 h2 h3 (by obtain ⟨rfl, hc9, rfl⟩ := hx9; exact absurd (zrg (m := 9999) hta (by decide) rfl) hc9) ⟨Nat.le_of_ble_eq_true rfl, Nat.le_of_ble_eq_true rfl⟩) (fun S9 H locs hp9 hw => ?_)
  obtain ⟨hp9, hS9⟩ := hp9
  have hS9 := hS9.symm
  subst hS9
  have hwiw := zX.wi hX hw4
  refine lv_aload_n hx hb dX7_flip_12 rfl (lv_at hl 0 rfl) ?_
  refine g_Ph_wires (a := (a 0)) (v := (a 1)) C hw hX.1 in_X7 (by decide +kernel) hX.2.1 dX7_flip_13 ?_
  refine lv_iload_n hx hb dX7_flip_16 rfl (lv_at hl 1 rfl) ?_
  refine zald_P (a := (a 1)) (v := (a (10 + w))) C hw hX.2.2.2.2.2.2.1 (by decide) (t0 := 3) rfl rfl hX.2.2.2.2.2.2.2.1 (zin_of (N := 4) (by decide) (by grind) (by grind)) hwiw.1 dX7_flip_17 ?_
  refine lv_astore_n (lv' := [(3, .ref (a (10 + w))), (0, .ref (a 0)), (1, .int (nI w)), (2, .int (nI ta))]) hx hb dX7_flip_18 rfl hl (by decide) rfl (fun ls hl => ?_)
  refine lv_aload_n hx hb dX7_flip_19 rfl (lv_at hl 0 rfl) ?_
  refine lv_iconst (v := 0) hx hb dX7_flip_20 (by decide) ?_
  refine zcV_v (As := [.int 0]) (rest := []) (n9 := 1) (b := (a (10 + w))) C hw (c_X6_beginSending l D y base S (a (10 + w)) (a (20 + w)) (a (30 + w)) 0 hwiw.2 (Or.inl rfl)) gX7_flip_X6_beginSending rfl (by decide +kernel) ⟨⟨rfl, rfl⟩, Nat.le_of_ble_eq_true rfl, Nat.le_of_ble_eq_true rfl⟩ hwiw.2.1 ⟨by decide, by decide⟩ rfl rfl hl.1 rfl (Nat.le_of_ble_eq_true rfl) ⟨Nat.le_of_ble_eq_true rfl, Nat.le_of_ble_eq_true rfl⟩ dX7_flip_21 (fun S21 H locs hp21 hw => ?_)
  obtain rfl := hp21
  refine lv_aload_n hx hb dX7_flip_24 rfl (lv_at hl 0 rfl) ?_
  refine lv_iload_n hx hb dX7_flip_25 rfl (lv_at hl 3 rfl) ?_
  refine zcV_v (As := [.int (nI ta)]) (rest := []) (n9 := 1) (b := (a (10 + w))) C hw (c_X6_addSent l D y base (zsI (zsI S 163 (a (10 + w)) 0) 164 (a (10 + w)) 0) (a (10 + w)) (a (20 + w)) (a (30 + w)) (nI ta) 0 hwiw.2 (zI_s _ _ _ _) (by decide) (Or.inl rfl)) gX7_flip_X6_addSent rfl (by decide +kernel) ⟨⟨rfl, rfl⟩, Nat.le_of_ble_eq_true rfl, Nat.le_of_ble_eq_true rfl⟩ hwiw.2.1 ⟨by decide, by decide⟩ rfl rfl hl.1 rfl (Nat.le_of_ble_eq_true rfl) ⟨Nat.le_of_ble_eq_true rfl, Nat.le_of_ble_eq_true rfl⟩ dX7_flip_26 (fun S26 H locs hp26 hw => ?_)
  obtain rfl := hp26
  refine lv_aload_n hx hb dX7_flip_29 rfl (lv_at hl 0 rfl) ?_
  have hOb2 : zOb (zsI (zsR (zsI (zsI S 163 (a (10 + w)) 0) 164 (a (10 + w)) 0) 22 (a (30 + w)) (upd (zR (zsI (zsI S 163 (a (10 + w)) 0) 164 (a (10 + w)) 0) 22 (a (30 + w))) 0 (nI ta))) 164 (a (10 + w)) (nI (0 + 1))) a F N A1 A2 rg ns L := hOb.snd hDs ((zFr.I (TI := fun t _ => t = 163 ∨ t = 164) (TR := fun k x => k = 22 ∧ ∃ i, i < 4 ∧ x = a (30 + i)) (Or.inl rfl)).tr ((zFr.I (TI := fun t _ => t = 163 ∨ t = 164) (TR := fun k x => k = 22 ∧ ∃ i, i < 4 ∧ x = a (30 + i)) (Or.inr rfl)).tr ((zFr.R (TI := fun t _ => t = 163 ∨ t = 164) (TR := fun k x => k = 22 ∧ ∃ i, i < 4 ∧ x = a (30 + i)) ⟨rfl, w, hw4, rfl⟩).tr (zFr.I (TI := fun t _ => t = 163 ∨ t = 164) (TR := fun k x => k = 22 ∧ ∃ i, i < 4 ∧ x = a (30 + i)) (Or.inr rfl)))))
  have h164 : zI (zsI (zsR (zsI (zsI S 163 (a (10 + w)) 0) 164 (a (10 + w)) 0) 22 (a (30 + w)) (upd (zR (zsI (zsI S 163 (a (10 + w)) 0) 164 (a (10 + w)) 0) 22 (a (30 + w))) 0 (nI ta))) 164 (a (10 + w)) (nI (0 + 1))) 164 (a (10 + w)) = nI 1 := zI_s _ _ _ _
  have hq0 : zR (zsI (zsR (zsI (zsI S 163 (a (10 + w)) 0) 164 (a (10 + w)) 0) 22 (a (30 + w)) (upd (zR (zsI (zsI S 163 (a (10 + w)) 0) 164 (a (10 + w)) 0) 22 (a (30 + w))) 0 (nI ta))) 164 (a (10 + w)) (nI (0 + 1))) 22 (a (30 + w)) 0 = nI ta := zrI.trans pk_us
  generalize (zsI (zsR (zsI (zsI S 163 (a (10 + w)) 0) 164 (a (10 + w)) 0) 22 (a (30 + w)) (upd (zR (zsI (zsI S 163 (a (10 + w)) 0) 164 (a (10 + w)) 0) 22 (a (30 + w))) 0 (nI ta))) 164 (a (10 + w)) (nI (0 + 1))) = S9 at hw hOb2 h164 hq0
  have hwi9 := zX.wi hOb2.1 hw4
  have hw3 := hOb2.2.2.1 w hw4
  have hev : ∀ j, j < 1 → zR S9 22 (a (30 + w)) j = nI ((fun _ => ta) j) := by intro j hj; rw [show j = 0 by omega]; exact hq0
  have hxb : ∀ j, j < 1 → (fun _ => ta) j ≤ 9999 := by intro j hj; show ta ≤ 9999; omega
  have hzs : zsm (fun j => zwHas S9 (a (10 + w)) (a (20 + w)) (zR S9 22 (a (30 + w)) j)) 1 = zsm (zhp (F w) (fun _ => ta)) 1 := zsm_congr (fun j hj => by rw [hev j hj]; exact zhas_F hw3.2.1 (by have := hw3.2.2.1; omega) (by have := hxb j hj; omega) hw3.2.2.2)
  have hrg : ∀ j, j < 1 → 0 ≤ (zR S9 22 (a (30 + w)) j).toInt ∧ (zR S9 22 (a (30 + w)) j).toInt ≤ 9999 := fun j hj => by have := hxb j hj; rw [hev j hj, nI_toInt (by omega)]; omega
  have hasc : zAsc (zR S9 22 (a (30 + w))) 1 := fun i j h1 h2 => absurd h2 (by omega)
  refine zcV_i (As := []) (rest := []) (n9 := 0) (b := (a (10 + w))) C hw (c_X6_takesSent_g l D y base S9 (a (10 + w)) (a (20 + w)) (a (30 + w)) 1 (N w) hwi9.2 h164 (by decide) hw3.2.1.1 hw3.2.2.1) gX7_flip_X6_takesSent rfl (by decide +kernel) ⟨⟨rfl, rfl⟩, Nat.le_of_ble_eq_true rfl, Nat.le_of_ble_eq_true rfl⟩ hwi9.2.1 ⟨by decide, by decide⟩ rfl rfl hl.1 rfl (Nat.le_of_ble_eq_true rfl) ⟨Nat.le_of_ble_eq_true rfl, Nat.le_of_ble_eq_true rfl⟩ dX7_flip_30 (fun r30 S30 H locs hp30 hw => ?_)
  obtain ⟨⟨hg30, hz30⟩, hS9⟩ := hp30
  have hS9 := hS9.symm
  subst hS9
  refine zcS_xv (As := [.int r30]) (rest := []) (n9 := 1) C hw (c_X7_checkFlips l hst D y base S9 r30 ) gX7_flip_X7_checkFlips rfl (by decide +kernel) ⟨⟨rfl, rfl⟩, Nat.le_of_ble_eq_true rfl, Nat.le_of_ble_eq_true rfl⟩ rfl hl.1 rfl (Nat.le_of_ble_eq_true rfl) ⟨Nat.le_of_ble_eq_true rfl, Nat.le_of_ble_eq_true rfl⟩ dX7_flip_33 (fun E ce q9 S33 H locs hx33 hw h1 h2 h3 => zxout hw hx0 hlocks h1 h2 h3 (by obtain ⟨rfl, hc9, rfl⟩ := hx33; refine ⟨⟨rfl, fun g => hc9 (hg30.mpr ⟨fun j hj => ?_, by rw [hzs]; exact g⟩)⟩, hOb2⟩; rw [Int32.le_iff_toInt_le]; exact (hrg j hj).2) ⟨Nat.le_of_ble_eq_true rfl, Nat.le_of_ble_eq_true rfl⟩) (fun S33 H locs hp33 hw => ?_)
  obtain ⟨hp33, hS9⟩ := hp33
  have hS9 := hS9.symm
  subst hS9
  refine lv_aload_n hx hb dX7_flip_36 rfl (lv_at hl 0 rfl) ?_
  have hcn := (hg30.mp hp33).2
  rw [hzs] at hcn
  refine zcV_v (As := []) (rest := []) (n9 := 0) (b := (a (10 + w))) C hw (c_X6_flipSent_x l D y base S9 (a (10 + w)) (a (20 + w)) (a (30 + w)) 1 (N w) hwi9.2 h164 (by decide) hw3.2.1 (by have := hw3.2.2.1; omega) hrg hasc) gX7_flip_X6_flipSent rfl (by decide +kernel) ⟨⟨rfl, rfl⟩, Nat.le_of_ble_eq_true rfl, Nat.le_of_ble_eq_true rfl⟩ hwi9.2.1 ⟨by decide, by decide⟩ rfl rfl hl.1 rfl (Nat.le_of_ble_eq_true rfl) ⟨Nat.le_of_ble_eq_true rfl, Nat.le_of_ble_eq_true rfl⟩ dX7_flip_37 (fun S37 H locs hp37 hw => ?_)
  obtain ⟨hfl, n9, hn9, hrk9, hlv9⟩ := hp37
  rw [hzs] at hn9
  have hOb3 := hOb2.exact (G := (fun t => decide ((ta : Int) ≤ t))) hDs hw4 hfl hrk9 (by omega) hlv9 (zcu_1 (by omega) hq0)
  have hwi8 := (zX.wi hOb3.1 hw4).2
  have h161 : zI S37 161 (a (10 + w)) = nI n9 := hrk9.1
  refine lv_aload_n hx hb dX7_flip_40 rfl (lv_at hl 0 rfl) ?_
  refine g_Wire_count (a := (a (10 + w))) (v := (nI n9)) C hw hwi8.1 in_X6 (by decide +kernel) h161 dX7_flip_41 ?_
  exact vx_ret (zri C hw hr hlocks rfl ⟨hcn, n9, hn9, rfl, hOb3⟩ ⟨Nat.le_of_ble_eq_true rfl, Nat.le_of_ble_eq_true rfl⟩ dX7_flip_44)

set_option maxHeartbeats 4000000 in
set_option maxRecDepth 100000 in
/-- X7_glitch -/
theorem c_X7_glitch_g (l : Launch) (hst : l.stackTraces = false) (D : va_G) (y : Nat → ClassId) (base : Nat) (S : zS) (a : Nat → Nat) (w : Nat) (ta : Nat) (wd : Nat) (F : Nat → Int → Bool) (N : Nat → Nat) (A1 : Int32) (A2 : Int32) (rg : Nat → Int32) (ns : Nat) (L : List zNt) (hX : zX S a) (hDs : zDs a) (hw4 : w < 4) (hta : ta + wd ≤ 9999) (hwd : 1 ≤ wd ∧ wd ≤ 99) (hOb : zOb S a F N A1 A2 rg ns L) : zXi l yX7_glitch wsX7_glitch ({ frames := 7, cells := 5, slots := 30, locals := 112 }) [.ref (a 0), .int (nI w), .int (nI ta), .int (nI wd)] D y base S (fun (r : Int32) (S1 : zS) => (N w : Int) + zsm (zhp (F w) (fun j => ta + j * wd)) 2 ≤ 300 ∧ ∃ n9 : Nat, (n9 : Int) = (N w : Int) + zsm (zhp (F w) (fun j => ta + j * wd)) 2 ∧ r = nI n9 ∧ zOb S1 a (zup F w (fun t => xor (F w t) (xor (decide ((ta : Int) ≤ t)) (decide (((ta + wd : Nat) : Int) ≤ t))))) (zup N w n9) A1 A2 rg ns L) (fun (E : String) (S1 : zS) => (E = "java/lang/IllegalStateException" ∧ ¬ (N w : Int) + zsm (zhp (F w) (fun j => ta + j * wd)) 2 ≤ 300) ∧ zOb S1 a F N A1 A2 rg ns L) 5 30 := by
  refine zXet_of (cc := cX7_glitch) (maxL := 5) (ret := (some .int)) (own := RX7) (by decide +kernel) rfl rfl (Nat.le_of_ble_eq_true rfl) ?_
  intro p e s m args below meth c ls C hr hlocks hx0 hw hl
  have hx := C.1
  have hb := C.2.1
  have hown := C.2.2.2.1
  have hts := C.2.2.2.2
  have hl : lv_has ls 5 [(0, .ref (a 0)), (1, .int (nI w)), (2, .int (nI ta)), (3, .int (nI wd))] := hl
  have in_X6 : ∀ w ∈ wsX60, w ∈ wsX7_glitch := by decide +kernel
  have in_X7 : ∀ w ∈ wsX70, w ∈ wsX7_glitch := by decide +kernel
  refine lv_iload_n hx hb dX7_glitch_0 rfl (lv_at hl 1 rfl) ?_
  refine zcS_xv (As := [.int (nI w)]) (rest := []) (n9 := 1) C hw (c_X7_checkWire l hst D y base S (nI w) ) gX7_glitch_X7_checkWire rfl (by decide +kernel) ⟨⟨rfl, rfl⟩, Nat.le_of_ble_eq_true rfl, Nat.le_of_ble_eq_true rfl⟩ rfl hl.1 rfl (Nat.le_of_ble_eq_true rfl) ⟨Nat.le_of_ble_eq_true rfl, Nat.le_of_ble_eq_true rfl⟩ dX7_glitch_1 (fun E ce q9 S1 H locs hx1 hw h1 h2 h3 => zxout hw hx0 hlocks h1 h2 h3 (by obtain ⟨rfl, hc9, rfl⟩ := hx1; exact absurd (zw4 w hw4) hc9) ⟨Nat.le_of_ble_eq_true rfl, Nat.le_of_ble_eq_true rfl⟩) (fun S1 H locs hp1 hw => ?_)
  obtain ⟨hp1, hS9⟩ := hp1
  have hS9 := hS9.symm
  subst hS9
  refine lv_iload_n hx hb dX7_glitch_4 rfl (lv_at hl 2 rfl) ?_
  refine lv_iconst (v := 0) hx hb dX7_glitch_5 (by decide) ?_
  refine lv_sipush (v := 9999) hx hb dX7_glitch_6 (by decide) ?_
  refine zcS_xv (As := [.int (nI ta), .int 0, .int 9999]) (rest := []) (n9 := 3) C hw (c_X7_checkRange l hst D y base S (nI ta) 0 9999 ) gX7_glitch_X7_checkRange rfl (by decide +kernel) ⟨⟨rfl, rfl⟩, Nat.le_of_ble_eq_true rfl, Nat.le_of_ble_eq_true rfl⟩ rfl hl.1 rfl (Nat.le_of_ble_eq_true rfl) ⟨Nat.le_of_ble_eq_true rfl, Nat.le_of_ble_eq_true rfl⟩ dX7_glitch_9 (fun E ce q9 S9 H locs hx9 hw h1 h2 h3 => zxout hw hx0 hlocks h1 h2 h3 (by obtain ⟨rfl, hc9, rfl⟩ := hx9; exact absurd (zrg (m := 9999) (by omega) (by decide) rfl) hc9) ⟨Nat.le_of_ble_eq_true rfl, Nat.le_of_ble_eq_true rfl⟩) (fun S9 H locs hp9 hw => ?_)
  obtain ⟨hp9, hS9⟩ := hp9
  have hS9 := hS9.symm
  subst hS9
  refine lv_iload_n hx hb dX7_glitch_12 rfl (lv_at hl 3 rfl) ?_
  refine lv_iconst (v := 1) hx hb dX7_glitch_13 (by decide) ?_
  refine lv_bipush (v := 99) hx hb dX7_glitch_14 (by decide) ?_
  refine zcS_xv (As := [.int (nI wd), .int 1, .int 99]) (rest := []) (n9 := 3) C hw (c_X7_checkRange l hst D y base S (nI wd) 1 99 ) gX7_glitch_X7_checkRange rfl (by decide +kernel) ⟨⟨rfl, rfl⟩, Nat.le_of_ble_eq_true rfl, Nat.le_of_ble_eq_true rfl⟩ rfl hl.1 rfl (Nat.le_of_ble_eq_true rfl) ⟨Nat.le_of_ble_eq_true rfl, Nat.le_of_ble_eq_true rfl⟩ dX7_glitch_16 (fun E ce q9 S16 H locs hx16 hw h1 h2 h3 => zxout hw hx0 hlocks h1 h2 h3 (by obtain ⟨rfl, hc9, rfl⟩ := hx16; exact absurd (zrg1 (m := 99) hwd.1 hwd.2 (by decide) rfl) hc9) ⟨Nat.le_of_ble_eq_true rfl, Nat.le_of_ble_eq_true rfl⟩) (fun S16 H locs hp16 hw => ?_)
  obtain ⟨hp16, hS9⟩ := hp16
  have hS9 := hS9.symm
  subst hS9
  refine lv_iload_n hx hb dX7_glitch_19 rfl (lv_at hl 2 rfl) ?_
  refine lv_iload_n hx hb dX7_glitch_20 rfl (lv_at hl 3 rfl) ?_
  refine lv_iadd hx hb dX7_glitch_21 ?_
  refine zrd (x := (nI (ta + wd))) (nI_add _ _) ?_
  refine lv_iconst (v := 0) hx hb dX7_glitch_22 (by decide) ?_
  refine lv_sipush (v := 9999) hx hb dX7_glitch_23 (by decide) ?_
  refine zcS_xv (As := [.int (nI (ta + wd)), .int 0, .int 9999]) (rest := []) (n9 := 3) C hw (c_X7_checkRange l hst D y base S (nI (ta + wd)) 0 9999 ) gX7_glitch_X7_checkRange rfl (by decide +kernel) ⟨⟨rfl, rfl⟩, Nat.le_of_ble_eq_true rfl, Nat.le_of_ble_eq_true rfl⟩ rfl hl.1 rfl (Nat.le_of_ble_eq_true rfl) ⟨Nat.le_of_ble_eq_true rfl, Nat.le_of_ble_eq_true rfl⟩ dX7_glitch_26 (fun E ce q9 S26 H locs hx26 hw h1 h2 h3 => zxout hw hx0 hlocks h1 h2 h3 (by obtain ⟨rfl, hc9, rfl⟩ := hx26; exact absurd (zrg (m := 9999) hta (by decide) rfl) hc9) ⟨Nat.le_of_ble_eq_true rfl, Nat.le_of_ble_eq_true rfl⟩) (fun S26 H locs hp26 hw => ?_)
  obtain ⟨hp26, hS9⟩ := hp26
  have hS9 := hS9.symm
  subst hS9
  have hwiw := zX.wi hX hw4
  refine lv_aload_n hx hb dX7_glitch_29 rfl (lv_at hl 0 rfl) ?_
  refine g_Ph_wires (a := (a 0)) (v := (a 1)) C hw hX.1 in_X7 (by decide +kernel) hX.2.1 dX7_glitch_30 ?_
  refine lv_iload_n hx hb dX7_glitch_33 rfl (lv_at hl 1 rfl) ?_
  refine zald_P (a := (a 1)) (v := (a (10 + w))) C hw hX.2.2.2.2.2.2.1 (by decide) (t0 := 3) rfl rfl hX.2.2.2.2.2.2.2.1 (zin_of (N := 4) (by decide) (by grind) (by grind)) hwiw.1 dX7_glitch_34 ?_
  refine lv_astore (lv' := [(4, .ref (a (10 + w))), (0, .ref (a 0)), (1, .int (nI w)), (2, .int (nI ta)), (3, .int (nI wd))]) hx hb dX7_glitch_35 hl (by decide) rfl (fun ls hl => ?_)
  refine lv_aload hx hb dX7_glitch_37 (lv_at hl 0 rfl) ?_
  refine lv_iconst (v := 0) hx hb dX7_glitch_39 (by decide) ?_
  refine zcV_v (As := [.int 0]) (rest := []) (n9 := 1) (b := (a (10 + w))) C hw (c_X6_beginSending l D y base S (a (10 + w)) (a (20 + w)) (a (30 + w)) 0 hwiw.2 (Or.inl rfl)) gX7_glitch_X6_beginSending rfl (by decide +kernel) ⟨⟨rfl, rfl⟩, Nat.le_of_ble_eq_true rfl, Nat.le_of_ble_eq_true rfl⟩ hwiw.2.1 ⟨by decide, by decide⟩ rfl rfl hl.1 rfl (Nat.le_of_ble_eq_true rfl) ⟨Nat.le_of_ble_eq_true rfl, Nat.le_of_ble_eq_true rfl⟩ dX7_glitch_40 (fun S40 H locs hp40 hw => ?_)
  obtain rfl := hp40
  refine lv_aload hx hb dX7_glitch_43 (lv_at hl 0 rfl) ?_
  refine lv_iload_n hx hb dX7_glitch_45 rfl (lv_at hl 3 rfl) ?_
  refine zcV_v (As := [.int (nI ta)]) (rest := []) (n9 := 1) (b := (a (10 + w))) C hw (c_X6_addSent l D y base (zsI (zsI S 163 (a (10 + w)) 0) 164 (a (10 + w)) 0) (a (10 + w)) (a (20 + w)) (a (30 + w)) (nI ta) 0 hwiw.2 (zI_s _ _ _ _) (by decide) (Or.inl rfl)) gX7_glitch_X6_addSent rfl (by decide +kernel) ⟨⟨rfl, rfl⟩, Nat.le_of_ble_eq_true rfl, Nat.le_of_ble_eq_true rfl⟩ hwiw.2.1 ⟨by decide, by decide⟩ rfl rfl hl.1 rfl (Nat.le_of_ble_eq_true rfl) ⟨Nat.le_of_ble_eq_true rfl, Nat.le_of_ble_eq_true rfl⟩ dX7_glitch_46 (fun S46 H locs hp46 hw => ?_)
  obtain rfl := hp46
  refine lv_aload hx hb dX7_glitch_49 (lv_at hl 0 rfl) ?_
  refine lv_iload_n hx hb dX7_glitch_51 rfl (lv_at hl 3 rfl) ?_
  refine lv_iload_n hx hb dX7_glitch_52 rfl (lv_at hl 4 rfl) ?_
  refine lv_iadd hx hb dX7_glitch_53 ?_
  refine zrd (x := (nI (ta + wd))) (nI_add _ _) ?_
  refine zcV_v (As := [.int (nI (ta + wd))]) (rest := []) (n9 := 1) (b := (a (10 + w))) C hw (c_X6_addSent l D y base (zsI (zsR (zsI (zsI S 163 (a (10 + w)) 0) 164 (a (10 + w)) 0) 22 (a (30 + w)) (upd (zR (zsI (zsI S 163 (a (10 + w)) 0) 164 (a (10 + w)) 0) 22 (a (30 + w))) 0 (nI ta))) 164 (a (10 + w)) (nI (0 + 1))) (a (10 + w)) (a (20 + w)) (a (30 + w)) (nI (ta + wd)) 1 hwiw.2 (zI_s _ _ _ _) (by decide) (Or.inr (fun e => by have e2 := (zrI.trans pk_us).symm.trans e; have := (nI_eq (by omega) (by omega)).mp e2; omega))) gX7_glitch_X6_addSent rfl (by decide +kernel) ⟨⟨rfl, rfl⟩, Nat.le_of_ble_eq_true rfl, Nat.le_of_ble_eq_true rfl⟩ hwiw.2.1 ⟨by decide, by decide⟩ rfl rfl hl.1 rfl (Nat.le_of_ble_eq_true rfl) ⟨Nat.le_of_ble_eq_true rfl, Nat.le_of_ble_eq_true rfl⟩ dX7_glitch_54 (fun S54 H locs hp54 hw => ?_)
  obtain rfl := hp54
  refine lv_aload hx hb dX7_glitch_57 (lv_at hl 0 rfl) ?_
  have hOb2 : zOb (zsI (zsR (zsI (zsR (zsI (zsI S 163 (a (10 + w)) 0) 164 (a (10 + w)) 0) 22 (a (30 + w)) (upd (zR (zsI (zsI S 163 (a (10 + w)) 0) 164 (a (10 + w)) 0) 22 (a (30 + w))) 0 (nI ta))) 164 (a (10 + w)) (nI (0 + 1))) 22 (a (30 + w)) (upd (zR (zsI (zsR (zsI (zsI S 163 (a (10 + w)) 0) 164 (a (10 + w)) 0) 22 (a (30 + w)) (upd (zR (zsI (zsI S 163 (a (10 + w)) 0) 164 (a (10 + w)) 0) 22 (a (30 + w))) 0 (nI ta))) 164 (a (10 + w)) (nI (0 + 1))) 22 (a (30 + w))) 1 (nI (ta + wd)))) 164 (a (10 + w)) (nI (1 + 1))) a F N A1 A2 rg ns L := hOb.snd hDs ((zFr.I (TI := fun t _ => t = 163 ∨ t = 164) (TR := fun k x => k = 22 ∧ ∃ i, i < 4 ∧ x = a (30 + i)) (Or.inl rfl)).tr ((zFr.I (TI := fun t _ => t = 163 ∨ t = 164) (TR := fun k x => k = 22 ∧ ∃ i, i < 4 ∧ x = a (30 + i)) (Or.inr rfl)).tr ((zFr.R (TI := fun t _ => t = 163 ∨ t = 164) (TR := fun k x => k = 22 ∧ ∃ i, i < 4 ∧ x = a (30 + i)) ⟨rfl, w, hw4, rfl⟩).tr ((zFr.I (TI := fun t _ => t = 163 ∨ t = 164) (TR := fun k x => k = 22 ∧ ∃ i, i < 4 ∧ x = a (30 + i)) (Or.inr rfl)).tr ((zFr.R (TI := fun t _ => t = 163 ∨ t = 164) (TR := fun k x => k = 22 ∧ ∃ i, i < 4 ∧ x = a (30 + i)) ⟨rfl, w, hw4, rfl⟩).tr (zFr.I (TI := fun t _ => t = 163 ∨ t = 164) (TR := fun k x => k = 22 ∧ ∃ i, i < 4 ∧ x = a (30 + i)) (Or.inr rfl)))))))
  have h164 : zI (zsI (zsR (zsI (zsR (zsI (zsI S 163 (a (10 + w)) 0) 164 (a (10 + w)) 0) 22 (a (30 + w)) (upd (zR (zsI (zsI S 163 (a (10 + w)) 0) 164 (a (10 + w)) 0) 22 (a (30 + w))) 0 (nI ta))) 164 (a (10 + w)) (nI (0 + 1))) 22 (a (30 + w)) (upd (zR (zsI (zsR (zsI (zsI S 163 (a (10 + w)) 0) 164 (a (10 + w)) 0) 22 (a (30 + w)) (upd (zR (zsI (zsI S 163 (a (10 + w)) 0) 164 (a (10 + w)) 0) 22 (a (30 + w))) 0 (nI ta))) 164 (a (10 + w)) (nI (0 + 1))) 22 (a (30 + w))) 1 (nI (ta + wd)))) 164 (a (10 + w)) (nI (1 + 1))) 164 (a (10 + w)) = nI 2 := zI_s _ _ _ _
  have hq1 : zR (zsI (zsR (zsI (zsR (zsI (zsI S 163 (a (10 + w)) 0) 164 (a (10 + w)) 0) 22 (a (30 + w)) (upd (zR (zsI (zsI S 163 (a (10 + w)) 0) 164 (a (10 + w)) 0) 22 (a (30 + w))) 0 (nI ta))) 164 (a (10 + w)) (nI (0 + 1))) 22 (a (30 + w)) (upd (zR (zsI (zsR (zsI (zsI S 163 (a (10 + w)) 0) 164 (a (10 + w)) 0) 22 (a (30 + w)) (upd (zR (zsI (zsI S 163 (a (10 + w)) 0) 164 (a (10 + w)) 0) 22 (a (30 + w))) 0 (nI ta))) 164 (a (10 + w)) (nI (0 + 1))) 22 (a (30 + w))) 1 (nI (ta + wd)))) 164 (a (10 + w)) (nI (1 + 1))) 22 (a (30 + w)) 1 = nI (ta + wd) := zrI.trans pk_us
  have hq0 : zR (zsI (zsR (zsI (zsR (zsI (zsI S 163 (a (10 + w)) 0) 164 (a (10 + w)) 0) 22 (a (30 + w)) (upd (zR (zsI (zsI S 163 (a (10 + w)) 0) 164 (a (10 + w)) 0) 22 (a (30 + w))) 0 (nI ta))) 164 (a (10 + w)) (nI (0 + 1))) 22 (a (30 + w)) (upd (zR (zsI (zsR (zsI (zsI S 163 (a (10 + w)) 0) 164 (a (10 + w)) 0) 22 (a (30 + w)) (upd (zR (zsI (zsI S 163 (a (10 + w)) 0) 164 (a (10 + w)) 0) 22 (a (30 + w))) 0 (nI ta))) 164 (a (10 + w)) (nI (0 + 1))) 22 (a (30 + w))) 1 (nI (ta + wd)))) 164 (a (10 + w)) (nI (1 + 1))) 22 (a (30 + w)) 0 = nI ta := zrI.trans ((pk_un (by decide)).trans (zrI.trans pk_us))
  generalize (zsI (zsR (zsI (zsR (zsI (zsI S 163 (a (10 + w)) 0) 164 (a (10 + w)) 0) 22 (a (30 + w)) (upd (zR (zsI (zsI S 163 (a (10 + w)) 0) 164 (a (10 + w)) 0) 22 (a (30 + w))) 0 (nI ta))) 164 (a (10 + w)) (nI (0 + 1))) 22 (a (30 + w)) (upd (zR (zsI (zsR (zsI (zsI S 163 (a (10 + w)) 0) 164 (a (10 + w)) 0) 22 (a (30 + w)) (upd (zR (zsI (zsI S 163 (a (10 + w)) 0) 164 (a (10 + w)) 0) 22 (a (30 + w))) 0 (nI ta))) 164 (a (10 + w)) (nI (0 + 1))) 22 (a (30 + w))) 1 (nI (ta + wd)))) 164 (a (10 + w)) (nI (1 + 1))) = S9 at hw hOb2 h164 hq0 hq1
  have hwi9 := zX.wi hOb2.1 hw4
  have hw3 := hOb2.2.2.1 w hw4
  have hev : ∀ j, j < 2 → zR S9 22 (a (30 + w)) j = nI ((fun j => ta + j * wd) j) := by intro j hj; show _ = nI (ta + j * wd); rcases (show j = 0 ∨ j = 1 by omega) with rfl | rfl; rw [show ta + 0 * wd = ta by omega]; exact hq0; rw [show ta + 1 * wd = ta + wd by omega]; exact hq1
  have hxb : ∀ j, j < 2 → (fun j => ta + j * wd) j ≤ 9999 := by intro j hj; show ta + j * wd ≤ 9999; rcases (show j = 0 ∨ j = 1 by omega) with rfl | rfl <;> omega
  have hzs : zsm (fun j => zwHas S9 (a (10 + w)) (a (20 + w)) (zR S9 22 (a (30 + w)) j)) 2 = zsm (zhp (F w) (fun j => ta + j * wd)) 2 := zsm_congr (fun j hj => by rw [hev j hj]; exact zhas_F hw3.2.1 (by have := hw3.2.2.1; omega) (by have := hxb j hj; omega) hw3.2.2.2)
  have hrg : ∀ j, j < 2 → 0 ≤ (zR S9 22 (a (30 + w)) j).toInt ∧ (zR S9 22 (a (30 + w)) j).toInt ≤ 9999 := fun j hj => by have := hxb j hj; rw [hev j hj, nI_toInt (by omega)]; omega
  have hasc : zAsc (zR S9 22 (a (30 + w))) 2 := fun i j h1 h2 => by rw [show i = 0 by omega, show j = 1 by omega, hq0, hq1, nI_toInt (by omega), nI_toInt (by omega)]; omega
  refine zcV_i (As := []) (rest := []) (n9 := 0) (b := (a (10 + w))) C hw (c_X6_takesSent_g l D y base S9 (a (10 + w)) (a (20 + w)) (a (30 + w)) 2 (N w) hwi9.2 h164 (by decide) hw3.2.1.1 hw3.2.2.1) gX7_glitch_X6_takesSent rfl (by decide +kernel) ⟨⟨rfl, rfl⟩, Nat.le_of_ble_eq_true rfl, Nat.le_of_ble_eq_true rfl⟩ hwi9.2.1 ⟨by decide, by decide⟩ rfl rfl hl.1 rfl (Nat.le_of_ble_eq_true rfl) ⟨Nat.le_of_ble_eq_true rfl, Nat.le_of_ble_eq_true rfl⟩ dX7_glitch_59 (fun r59 S59 H locs hp59 hw => ?_)
  obtain ⟨⟨hg59, hz59⟩, hS9⟩ := hp59
  have hS9 := hS9.symm
  subst hS9
  refine zcS_xv (As := [.int r59]) (rest := []) (n9 := 1) C hw (c_X7_checkFlips l hst D y base S9 r59 ) gX7_glitch_X7_checkFlips rfl (by decide +kernel) ⟨⟨rfl, rfl⟩, Nat.le_of_ble_eq_true rfl, Nat.le_of_ble_eq_true rfl⟩ rfl hl.1 rfl (Nat.le_of_ble_eq_true rfl) ⟨Nat.le_of_ble_eq_true rfl, Nat.le_of_ble_eq_true rfl⟩ dX7_glitch_62 (fun E ce q9 S62 H locs hx62 hw h1 h2 h3 => zxout hw hx0 hlocks h1 h2 h3 (by obtain ⟨rfl, hc9, rfl⟩ := hx62; refine ⟨⟨rfl, fun g => hc9 (hg59.mpr ⟨fun j hj => ?_, by rw [hzs]; exact g⟩)⟩, hOb2⟩; rw [Int32.le_iff_toInt_le]; exact (hrg j hj).2) ⟨Nat.le_of_ble_eq_true rfl, Nat.le_of_ble_eq_true rfl⟩) (fun S62 H locs hp62 hw => ?_)
  obtain ⟨hp62, hS9⟩ := hp62
  have hS9 := hS9.symm
  subst hS9
  refine lv_aload hx hb dX7_glitch_65 (lv_at hl 0 rfl) ?_
  have hcn := (hg59.mp hp62).2
  rw [hzs] at hcn
  refine zcV_v (As := []) (rest := []) (n9 := 0) (b := (a (10 + w))) C hw (c_X6_flipSent_x l D y base S9 (a (10 + w)) (a (20 + w)) (a (30 + w)) 2 (N w) hwi9.2 h164 (by decide) hw3.2.1 (by have := hw3.2.2.1; omega) hrg hasc) gX7_glitch_X6_flipSent rfl (by decide +kernel) ⟨⟨rfl, rfl⟩, Nat.le_of_ble_eq_true rfl, Nat.le_of_ble_eq_true rfl⟩ hwi9.2.1 ⟨by decide, by decide⟩ rfl rfl hl.1 rfl (Nat.le_of_ble_eq_true rfl) ⟨Nat.le_of_ble_eq_true rfl, Nat.le_of_ble_eq_true rfl⟩ dX7_glitch_67 (fun S67 H locs hp67 hw => ?_)
  obtain ⟨hfl, n9, hn9, hrk9, hlv9⟩ := hp67
  rw [hzs] at hn9
  have hOb3 := hOb2.exact (G := (fun t => xor (decide ((ta : Int) ≤ t)) (decide (((ta + wd : Nat) : Int) ≤ t)))) hDs hw4 hfl hrk9 (by omega) hlv9 (zcu_2 (by omega) (by omega) hq0 hq1)
  have hwi8 := (zX.wi hOb3.1 hw4).2
  have h161 : zI S67 161 (a (10 + w)) = nI n9 := hrk9.1
  refine lv_aload hx hb dX7_glitch_70 (lv_at hl 0 rfl) ?_
  refine g_Wire_count (a := (a (10 + w))) (v := (nI n9)) C hw hwi8.1 in_X6 (by decide +kernel) h161 dX7_glitch_72 ?_
  exact vx_ret (zri C hw hr hlocks rfl ⟨hcn, n9, hn9, rfl, hOb3⟩ ⟨Nat.le_of_ble_eq_true rfl, Nat.le_of_ble_eq_true rfl⟩ dX7_glitch_75)

