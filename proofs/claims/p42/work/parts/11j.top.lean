set_option maxHeartbeats 4000000 in
set_option maxRecDepth 100000 in
/-- X7_idle -/
theorem c_X7_idle_g (l : Launch) (hst : l.stackTraces = false) (D : va_G) (y : Nat → ClassId) (base : Nat) (S : zS) (a : Nat → Nat) (w : Nat) (p1 : Int32) (hX : zX S a) (hDs : zDs a) (hw4 : w < 4) (hz : p1 = 0 ∨ p1 = 1) (h160 : zI S 160 (a (10 + w)) = 0 ∨ zI S 160 (a (10 + w)) = 1) : zXi l yX7_idle wsX7_idle ({ frames := 7, cells := 1, slots := 6, locals := 110 }) [.ref (a 0), .int (nI w), .int p1] D y base S (fun (r : Int32) (S1 : zS) => r = zI S 160 (a (10 + w)) ∧ S1 = zsI S 160 (a (10 + w)) p1) (fun (E : String) (S1 : zS) => False ∧ S1 = S) 1 6 := by
  refine zXet_of (cc := cX7_idle) (maxL := 4) (ret := (some .boolean)) (own := RX7) (by decide +kernel) rfl rfl (Nat.le_of_ble_eq_true rfl) ?_
  intro p e s m args below meth c ls C hr hlocks hx0 hw hl
  have hx := C.1
  have hb := C.2.1
  have hown := C.2.2.2.1
  have hts := C.2.2.2.2
  have hl : lv_has ls 4 [(0, .ref (a 0)), (1, .int (nI w)), (2, .int p1)] := hl
  have in_X6 : ∀ w ∈ wsX60, w ∈ wsX7_idle := by decide +kernel
  have in_X7 : ∀ w ∈ wsX70, w ∈ wsX7_idle := by decide +kernel
  refine lv_iload_n hx hb dX7_idle_0 rfl (lv_at hl 1 rfl) ?_
  refine zcS_xv (As := [.int (nI w)]) (rest := []) (n9 := 1) C hw (c_X7_checkWire l hst D y base S (nI w) ) gX7_idle_X7_checkWire rfl (by decide +kernel) ⟨⟨rfl, rfl⟩, Nat.le_of_ble_eq_true rfl, Nat.le_of_ble_eq_true rfl⟩ rfl hl.1 rfl (Nat.le_of_ble_eq_true rfl) ⟨Nat.le_of_ble_eq_true rfl, Nat.le_of_ble_eq_true rfl⟩ dX7_idle_1 (fun E ce q9 S1 H locs hx1 hw h1 h2 h3 => zxout hw hx0 hlocks h1 h2 h3 (by obtain ⟨rfl, hc9, rfl⟩ := hx1; exact absurd (zw4 w hw4) hc9) ⟨Nat.le_of_ble_eq_true rfl, Nat.le_of_ble_eq_true rfl⟩) (fun S1 H locs hp1 hw => ?_)
  obtain ⟨hp1, hS9⟩ := hp1
  have hS9 := hS9.symm
  subst hS9
  have hwiw := zX.wi hX hw4
  refine lv_aload_n hx hb dX7_idle_4 rfl (lv_at hl 0 rfl) ?_
  refine g_Ph_wires (a := (a 0)) (v := (a 1)) C hw hX.1 in_X7 (by decide +kernel) hX.2.1 dX7_idle_5 ?_
  refine lv_iload_n hx hb dX7_idle_8 rfl (lv_at hl 1 rfl) ?_
  refine zald_P (a := (a 1)) (v := (a (10 + w))) C hw hX.2.2.2.2.2.2.1 (by decide) (t0 := 3) rfl rfl hX.2.2.2.2.2.2.2.1 (zin_of (N := 4) (by decide) (by grind) (by grind)) hwiw.1 dX7_idle_9 ?_
  refine g_Wire_isHighFirst (a := (a (10 + w))) (v := (zI S 160 (a (10 + w)))) C hw hwiw.2.1 in_X6 (by decide +kernel) rfl dX7_idle_10 ?_
  refine lv_istore_n (lv' := [(3, .int (zI S 160 (a (10 + w)))), (0, .ref (a 0)), (1, .int (nI w)), (2, .int p1)]) hx hb dX7_idle_13 rfl hl (by decide) rfl (fun ls hl => ?_)
  refine lv_aload_n hx hb dX7_idle_14 rfl (lv_at hl 1 rfl) ?_
  refine g_Ph_wires (a := (a 0)) (v := (a 1)) C hw hX.1 in_X7 (by decide +kernel) hX.2.1 dX7_idle_15 ?_
  refine lv_iload_n hx hb dX7_idle_18 rfl (lv_at hl 2 rfl) ?_
  refine zald_P (a := (a 1)) (v := (a (10 + w))) C hw hX.2.2.2.2.2.2.1 (by decide) (t0 := 3) rfl rfl hX.2.2.2.2.2.2.2.1 (zin_of (N := 4) (by decide) (by grind) (by grind)) hwiw.1 dX7_idle_19 ?_
  refine lv_iload_n hx hb dX7_idle_20 rfl (lv_at hl 3 rfl) ?_
  refine p_Wire_isHighFirst (a := (a (10 + w))) (v := p1) C hw hwiw.2.1 in_X6 (by decide +kernel) (z01_nf hz) dX7_idle_21 (fun H locs hw => ?_)
  refine lv_iload_n hx hb dX7_idle_24 rfl (lv_at hl 0 rfl) ?_
  exact vx_ret (zri C hw hr hlocks (z01_nar h160) ⟨rfl, rfl⟩ ⟨Nat.le_of_ble_eq_true rfl, Nat.le_of_ble_eq_true rfl⟩ dX7_idle_25)

set_option maxHeartbeats 4000000 in
set_option maxRecDepth 100000 in
/-- X7_answers -/
theorem c_X7_answers_g (l : Launch) (D : va_G) (y : Nat → ClassId) (base : Nat) (S : zS) (a : Nat → Nat) (p0 : Int32) (p1 : Int32) (hX : zX S a) (hDs : zDs a) (hz : p0 = 0 ∨ p0 = 1) (hz2 : p1 = 0 ∨ p1 = 1) (h182 : zI S 182 (a 0) = 1) (h183 : zI S 183 (a 0) = 1) : zMi l yX7_answers wsX7_answers ({ frames := 0, cells := 0, slots := 0, locals := 0 }) [.ref (a 0), .int p0, .int p1] D y base S (fun (r : Int32) (S1 : zS) => r = 1 ∧ S1 = zsI (zsI S 182 (a 0) p0) 183 (a 0) p1) 0 0 := by
  refine zMet_of (cc := cX7_answers) (maxL := 4) (ret := (some .boolean)) (own := RX7) (by decide +kernel) rfl rfl (Nat.le_of_ble_eq_true rfl) ?_
  intro p e s m args below meth c ls C hr hlocks hnm hw hl
  have hx := C.1
  have hb := C.2.1
  have hown := C.2.2.2.1
  have hts := C.2.2.2.2
  have hl : lv_has ls 4 [(0, .ref (a 0)), (1, .int p0), (2, .int p1)] := hl
  have in_X7 : ∀ w ∈ wsX70, w ∈ wsX7_answers := by decide +kernel
  refine lv_aload_n hx hb dX7_answers_0 rfl (lv_at hl 0 rfl) ?_
  refine g_Ph_isAddressAnswered (a := (a 0)) (v := 1) C hw hX.1 in_X7 (by decide +kernel) h182 dX7_answers_1 ?_
  refine lv_if_eq (tgt := 18) hx hb dX7_answers_4 (by decide) (fun c4 => absurd c4 (by decide)) (fun _ => ?_)
  refine lv_aload_n hx hb dX7_answers_7 rfl (lv_at hl 0 rfl) ?_
  refine g_Ph_areOthersAnswered (a := (a 0)) (v := 1) C hw hX.1 in_X7 (by decide +kernel) h183 dX7_answers_8 ?_
  refine lv_if_eq (tgt := 18) hx hb dX7_answers_11 (by decide) (fun c11 => absurd c11 (by decide)) (fun _ => ?_)
  refine lv_iconst (v := 1) hx hb dX7_answers_14 (by decide) ?_
  refine lv_goto (tgt := 19) hx hb dX7_answers_15 (by decide) ?_
  refine lv_istore_n (lv' := [(3, .int 1), (0, .ref (a 0)), (1, .int p0), (2, .int p1)]) hx hb dX7_answers_19 rfl hl (by decide) rfl (fun ls hl => ?_)
  refine lv_aload_n hx hb dX7_answers_20 rfl (lv_at hl 1 rfl) ?_
  refine lv_iload_n hx hb dX7_answers_21 rfl (lv_at hl 2 rfl) ?_
  refine p_Ph_isAddressAnswered (a := (a 0)) (v := p0) C hw hX.1 in_X7 (by decide +kernel) (z01_nf hz) dX7_answers_22 (fun H locs hw => ?_)
  refine lv_aload_n hx hb dX7_answers_25 rfl (lv_at hl 1 rfl) ?_
  refine lv_iload_n hx hb dX7_answers_26 rfl (lv_at hl 3 rfl) ?_
  refine p_Ph_areOthersAnswered (a := (a 0)) (v := p1) C hw hX.1 in_X7 (by decide +kernel) (z01_nf hz2) dX7_answers_27 (fun H locs hw => ?_)
  refine lv_iload_n hx hb dX7_answers_30 rfl (lv_at hl 0 rfl) ?_
  exact zri C hw hr hlocks (by decide) ⟨rfl, rfl⟩ ⟨Nat.le_of_ble_eq_true rfl, Nat.le_of_ble_eq_true rfl⟩ dX7_answers_31

set_option maxHeartbeats 4000000 in
set_option maxRecDepth 100000 in
/-- X7_checkNote -/
theorem c_X7_checkNote_g (l : Launch) (hst : l.stackTraces = false) (D : va_G) (y : Nat → ClassId) (base : Nat) (S : zS) (a : Nat → Nat) (n : Nat) (L : List zNt) (hX : zX S a) (h112 : zI S 112 (a 4) = nI L.length) (hL2 : L.length ≤ 200) (hn : n < L.length) : zXv l yX7_checkNote wsX7_checkNote ({ frames := 0, cells := 0, slots := 0, locals := 0 }) [.ref (a 0), .int (nI n)] D y base S (fun (S1 : zS) => S1 = S) (fun (E : String) (S1 : zS) => False ∧ S1 = S) 0 0 := by
  refine zXet_of (cc := cX7_checkNote) (maxL := 2) (ret := none) (own := RX7) (by decide +kernel) rfl rfl (Nat.le_of_ble_eq_true rfl) ?_
  intro p e s m args below meth c ls C hr hlocks hx0 hw hl
  have hx := C.1
  have hb := C.2.1
  have hown := C.2.2.2.1
  have hts := C.2.2.2.2
  have hl : lv_has ls 2 [(0, .ref (a 0)), (1, .int (nI n))] := hl
  have in_X3 : ∀ w ∈ wsX30, w ∈ wsX7_checkNote := by decide +kernel
  have in_X7 : ∀ w ∈ wsX70, w ∈ wsX7_checkNote := by decide +kernel
  refine lv_iload_n hx hb dX7_checkNote_0 rfl (lv_at hl 1 rfl) ?_
  refine lv_if_lt (tgt := 22) hx hb dX7_checkNote_1 (by decide) (fun c1 => (show False from nI_pos (by omega) c1).elim) (fun c1 => ?_)
  refine lv_iload_n hx hb dX7_checkNote_4 rfl (lv_at hl 1 rfl) ?_
  refine lv_aload_n hx hb dX7_checkNote_5 rfl (lv_at hl 0 rfl) ?_
  refine g_Ph_told (a := (a 0)) (v := (a 4)) C hw hX.1 in_X7 (by decide +kernel) hX.2.2.2.2.1 dX7_checkNote_6 ?_
  refine g_Notes_count (a := (a 4)) (v := (nI L.length)) C hw hX.2.2.2.2.2.2.2.2.2.2.1 in_X3 (by decide +kernel) h112 dX7_checkNote_9 ?_
  refine lv_icmp_ge (tgt := 22) hx hb dX7_checkNote_12 (by decide) (fun c12 => (show False from (by have := z_ge (n := L.length) c12 (by omega) (by omega); omega)).elim) (fun c12 => ?_)
  refine lv_iload_n hx hb dX7_checkNote_15 rfl (lv_at hl 1 rfl) ?_
  refine lv_sipush (v := 200) hx hb dX7_checkNote_16 (by decide) ?_
  refine lv_icmp_lt (tgt := 33) hx hb dX7_checkNote_19 (by decide) (fun c19 => ?_) (fun c19 => (show False from c19 (nI_lt (b := 200) (by omega) (by decide))).elim)
  exact vx_ret (zrv C hw hr hlocks (by first | exact ⟨rfl, rfl⟩ | exact rfl | (refine ⟨?_, rfl⟩; grind) | grind) ⟨Nat.le_of_ble_eq_true rfl, Nat.le_of_ble_eq_true rfl⟩ dX7_checkNote_33)

set_option maxHeartbeats 4000000 in
set_option maxRecDepth 100000 in
/-- X7_kind -/
theorem c_X7_kind_g (l : Launch) (hst : l.stackTraces = false) (D : va_G) (y : Nat → ClassId) (base : Nat) (S : zS) (a : Nat → Nat) (n : Nat) (L : List zNt) (x : zNt) (hX : zX S a) (hNts : zNts S (a 4) (a 60) (a 61) (a 62) (a 63) (a 64)) (hDs : zDs a) (hNo : zNo S (a 4) (a 60) (a 61) (a 62) (a 63) (a 64)  L) (hx9 : L[n]? = some x) (hch : narrow .char (.int x.1) = .int x.1) : zXi l yX7_kind wsX7_kind ({ frames := 1, cells := 0, slots := 0, locals := 21 }) [.ref (a 0), .int (nI n)] D y base S (fun (r : Int32) (S1 : zS) => r = x.1 ∧ S1 = S) (fun (E : String) (S1 : zS) => False ∧ S1 = S) 0 0 := by
  refine zXet_of (cc := cX7_kind) (maxL := 2) (ret := (some .char)) (own := RX7) (by decide +kernel) rfl rfl (Nat.le_of_ble_eq_true rfl) ?_
  intro p e s m args below meth c ls C hr hlocks hx0 hw hl
  have hx := C.1
  have hb := C.2.1
  have hown := C.2.2.2.1
  have hts := C.2.2.2.2
  have hl : lv_has ls 2 [(0, .ref (a 0)), (1, .int (nI n))] := hl
  have in_X3 : ∀ w ∈ wsX30, w ∈ wsX7_kind := by decide +kernel
  have in_X7 : ∀ w ∈ wsX70, w ∈ wsX7_kind := by decide +kernel
  have hn9 := (List.getElem?_eq_some_iff.mp hx9).1
  have hr9 := hNo.2.2 n x hx9
  have hL2 := hNo.2.1
  refine lv_aload_n hx hb dX7_kind_0 rfl (lv_at hl 0 rfl) ?_
  refine lv_iload_n hx hb dX7_kind_1 rfl (lv_at hl 1 rfl) ?_
  refine zcV_xv (As := [.int (nI n)]) (rest := []) (n9 := 1) (b := (a 0)) C hw (c_X7_checkNote_g l hst D y base S a n L hX hNo.1 hL2 hn9) gX7_kind_X7_checkNote rfl (by decide +kernel) ⟨⟨rfl, rfl⟩, Nat.le_of_ble_eq_true rfl, Nat.le_of_ble_eq_true rfl⟩ hX.1 ⟨by decide, by decide⟩ rfl rfl hl.1 rfl (Nat.le_of_ble_eq_true rfl) ⟨Nat.le_of_ble_eq_true rfl, Nat.le_of_ble_eq_true rfl⟩ dX7_kind_2 (fun E ce q9 S2 H locs hx2 hw h1 h2 h3 => zxout hw hx0 hlocks h1 h2 h3 ⟨hx2.1, hx2.2⟩ ⟨Nat.le_of_ble_eq_true rfl, Nat.le_of_ble_eq_true rfl⟩) (fun S2 H locs hp2 hw => ?_)
  have hS9 := hp2
  have hS9 := hS9.symm
  subst hS9
  refine lv_aload_n hx hb dX7_kind_5 rfl (lv_at hl 0 rfl) ?_
  refine g_Ph_told (a := (a 0)) (v := (a 4)) C hw hX.1 in_X7 (by decide +kernel) hX.2.2.2.2.1 dX7_kind_6 ?_
  refine g_Notes_kinds (a := (a 4)) (v := (a 60)) C hw hNts.1 in_X3 (by decide +kernel) hNts.2.1 dX7_kind_9 ?_
  refine lv_iload_n hx hb dX7_kind_12 rfl (lv_at hl 1 rfl) ?_
  refine zald_C (a := (a 60)) C hw hNts.2.2.2.2.2.2.1 hNts.2.2.2.2.2.2.2.1 (vp_in_nI (by omega) (by decide)) dX7_kind_13 ?_
  refine zrd (x := x.1) (by rw [nI_clamp (by omega)]; exact hr9.1) ?_
  exact vx_ret (zri C hw hr hlocks (hch) ⟨rfl, rfl⟩ ⟨Nat.le_of_ble_eq_true rfl, Nat.le_of_ble_eq_true rfl⟩ dX7_kind_14)

set_option maxHeartbeats 4000000 in
set_option maxRecDepth 100000 in
/-- X7_begin -/
theorem c_X7_begin_g (l : Launch) (hst : l.stackTraces = false) (D : va_G) (y : Nat → ClassId) (base : Nat) (S : zS) (a : Nat → Nat) (n : Nat) (L : List zNt) (x : zNt) (hX : zX S a) (hNts : zNts S (a 4) (a 60) (a 61) (a 62) (a 63) (a 64)) (hDs : zDs a) (hNo : zNo S (a 4) (a 60) (a 61) (a 62) (a 63) (a 64)  L) (hx9 : L[n]? = some x) : zXi l yX7_begin wsX7_begin ({ frames := 1, cells := 0, slots := 0, locals := 21 }) [.ref (a 0), .int (nI n)] D y base S (fun (r : Int32) (S1 : zS) => r = x.2.1 ∧ S1 = S) (fun (E : String) (S1 : zS) => False ∧ S1 = S) 0 0 := by
  refine zXet_of (cc := cX7_begin) (maxL := 2) (ret := (some .int)) (own := RX7) (by decide +kernel) rfl rfl (Nat.le_of_ble_eq_true rfl) ?_
  intro p e s m args below meth c ls C hr hlocks hx0 hw hl
  have hx := C.1
  have hb := C.2.1
  have hown := C.2.2.2.1
  have hts := C.2.2.2.2
  have hl : lv_has ls 2 [(0, .ref (a 0)), (1, .int (nI n))] := hl
  have in_X3 : ∀ w ∈ wsX30, w ∈ wsX7_begin := by decide +kernel
  have in_X7 : ∀ w ∈ wsX70, w ∈ wsX7_begin := by decide +kernel
  have hn9 := (List.getElem?_eq_some_iff.mp hx9).1
  have hr9 := hNo.2.2 n x hx9
  have hL2 := hNo.2.1
  refine lv_aload_n hx hb dX7_begin_0 rfl (lv_at hl 0 rfl) ?_
  refine lv_iload_n hx hb dX7_begin_1 rfl (lv_at hl 1 rfl) ?_
  refine zcV_xv (As := [.int (nI n)]) (rest := []) (n9 := 1) (b := (a 0)) C hw (c_X7_checkNote_g l hst D y base S a n L hX hNo.1 hL2 hn9) gX7_begin_X7_checkNote rfl (by decide +kernel) ⟨⟨rfl, rfl⟩, Nat.le_of_ble_eq_true rfl, Nat.le_of_ble_eq_true rfl⟩ hX.1 ⟨by decide, by decide⟩ rfl rfl hl.1 rfl (Nat.le_of_ble_eq_true rfl) ⟨Nat.le_of_ble_eq_true rfl, Nat.le_of_ble_eq_true rfl⟩ dX7_begin_2 (fun E ce q9 S2 H locs hx2 hw h1 h2 h3 => zxout hw hx0 hlocks h1 h2 h3 ⟨hx2.1, hx2.2⟩ ⟨Nat.le_of_ble_eq_true rfl, Nat.le_of_ble_eq_true rfl⟩) (fun S2 H locs hp2 hw => ?_)
  have hS9 := hp2
  have hS9 := hS9.symm
  subst hS9
  refine lv_aload_n hx hb dX7_begin_5 rfl (lv_at hl 0 rfl) ?_
  refine g_Ph_told (a := (a 0)) (v := (a 4)) C hw hX.1 in_X7 (by decide +kernel) hX.2.2.2.2.1 dX7_begin_6 ?_
  refine g_Notes_begins (a := (a 4)) (v := (a 61)) C hw hNts.1 in_X3 (by decide +kernel) hNts.2.2.1 dX7_begin_9 ?_
  refine lv_iload_n hx hb dX7_begin_12 rfl (lv_at hl 1 rfl) ?_
  refine zald_I (a := (a 61)) C hw hNts.2.2.2.2.2.2.2.2.1 hNts.2.2.2.2.2.2.2.2.2.1 (vp_in_nI (by omega) (by decide)) dX7_begin_13 ?_
  refine zrd (x := x.2.1) (by rw [nI_clamp (by omega)]; exact hr9.2.1) ?_
  exact vx_ret (zri C hw hr hlocks rfl ⟨rfl, rfl⟩ ⟨Nat.le_of_ble_eq_true rfl, Nat.le_of_ble_eq_true rfl⟩ dX7_begin_14)

set_option maxHeartbeats 4000000 in
set_option maxRecDepth 100000 in
/-- X7_end -/
theorem c_X7_end_g (l : Launch) (hst : l.stackTraces = false) (D : va_G) (y : Nat → ClassId) (base : Nat) (S : zS) (a : Nat → Nat) (n : Nat) (L : List zNt) (x : zNt) (hX : zX S a) (hNts : zNts S (a 4) (a 60) (a 61) (a 62) (a 63) (a 64)) (hDs : zDs a) (hNo : zNo S (a 4) (a 60) (a 61) (a 62) (a 63) (a 64)  L) (hx9 : L[n]? = some x) : zXi l yX7_end wsX7_end ({ frames := 1, cells := 0, slots := 0, locals := 21 }) [.ref (a 0), .int (nI n)] D y base S (fun (r : Int32) (S1 : zS) => r = x.2.2.1 ∧ S1 = S) (fun (E : String) (S1 : zS) => False ∧ S1 = S) 0 0 := by
  refine zXet_of (cc := cX7_end) (maxL := 2) (ret := (some .int)) (own := RX7) (by decide +kernel) rfl rfl (Nat.le_of_ble_eq_true rfl) ?_
  intro p e s m args below meth c ls C hr hlocks hx0 hw hl
  have hx := C.1
  have hb := C.2.1
  have hown := C.2.2.2.1
  have hts := C.2.2.2.2
  have hl : lv_has ls 2 [(0, .ref (a 0)), (1, .int (nI n))] := hl
  have in_X3 : ∀ w ∈ wsX30, w ∈ wsX7_end := by decide +kernel
  have in_X7 : ∀ w ∈ wsX70, w ∈ wsX7_end := by decide +kernel
  have hn9 := (List.getElem?_eq_some_iff.mp hx9).1
  have hr9 := hNo.2.2 n x hx9
  have hL2 := hNo.2.1
  refine lv_aload_n hx hb dX7_end_0 rfl (lv_at hl 0 rfl) ?_
  refine lv_iload_n hx hb dX7_end_1 rfl (lv_at hl 1 rfl) ?_
  refine zcV_xv (As := [.int (nI n)]) (rest := []) (n9 := 1) (b := (a 0)) C hw (c_X7_checkNote_g l hst D y base S a n L hX hNo.1 hL2 hn9) gX7_end_X7_checkNote rfl (by decide +kernel) ⟨⟨rfl, rfl⟩, Nat.le_of_ble_eq_true rfl, Nat.le_of_ble_eq_true rfl⟩ hX.1 ⟨by decide, by decide⟩ rfl rfl hl.1 rfl (Nat.le_of_ble_eq_true rfl) ⟨Nat.le_of_ble_eq_true rfl, Nat.le_of_ble_eq_true rfl⟩ dX7_end_2 (fun E ce q9 S2 H locs hx2 hw h1 h2 h3 => zxout hw hx0 hlocks h1 h2 h3 ⟨hx2.1, hx2.2⟩ ⟨Nat.le_of_ble_eq_true rfl, Nat.le_of_ble_eq_true rfl⟩) (fun S2 H locs hp2 hw => ?_)
  have hS9 := hp2
  have hS9 := hS9.symm
  subst hS9
  refine lv_aload_n hx hb dX7_end_5 rfl (lv_at hl 0 rfl) ?_
  refine g_Ph_told (a := (a 0)) (v := (a 4)) C hw hX.1 in_X7 (by decide +kernel) hX.2.2.2.2.1 dX7_end_6 ?_
  refine g_Notes_ends (a := (a 4)) (v := (a 62)) C hw hNts.1 in_X3 (by decide +kernel) hNts.2.2.2.1 dX7_end_9 ?_
  refine lv_iload_n hx hb dX7_end_12 rfl (lv_at hl 1 rfl) ?_
  refine zald_I (a := (a 62)) C hw hNts.2.2.2.2.2.2.2.2.2.2.1 hNts.2.2.2.2.2.2.2.2.2.2.2.1 (vp_in_nI (by omega) (by decide)) dX7_end_13 ?_
  refine zrd (x := x.2.2.1) (by rw [nI_clamp (by omega)]; exact hr9.2.2.1) ?_
  exact vx_ret (zri C hw hr hlocks rfl ⟨rfl, rfl⟩ ⟨Nat.le_of_ble_eq_true rfl, Nat.le_of_ble_eq_true rfl⟩ dX7_end_14)

set_option maxHeartbeats 4000000 in
set_option maxRecDepth 100000 in
/-- X7_value -/
theorem c_X7_value_g (l : Launch) (hst : l.stackTraces = false) (D : va_G) (y : Nat → ClassId) (base : Nat) (S : zS) (a : Nat → Nat) (n : Nat) (L : List zNt) (x : zNt) (hX : zX S a) (hNts : zNts S (a 4) (a 60) (a 61) (a 62) (a 63) (a 64)) (hDs : zDs a) (hNo : zNo S (a 4) (a 60) (a 61) (a 62) (a 63) (a 64)  L) (hx9 : L[n]? = some x) : zXi l yX7_value wsX7_value ({ frames := 1, cells := 0, slots := 0, locals := 21 }) [.ref (a 0), .int (nI n)] D y base S (fun (r : Int32) (S1 : zS) => r = x.2.2.2.1 ∧ S1 = S) (fun (E : String) (S1 : zS) => False ∧ S1 = S) 0 0 := by
  refine zXet_of (cc := cX7_value) (maxL := 2) (ret := (some .int)) (own := RX7) (by decide +kernel) rfl rfl (Nat.le_of_ble_eq_true rfl) ?_
  intro p e s m args below meth c ls C hr hlocks hx0 hw hl
  have hx := C.1
  have hb := C.2.1
  have hown := C.2.2.2.1
  have hts := C.2.2.2.2
  have hl : lv_has ls 2 [(0, .ref (a 0)), (1, .int (nI n))] := hl
  have in_X3 : ∀ w ∈ wsX30, w ∈ wsX7_value := by decide +kernel
  have in_X7 : ∀ w ∈ wsX70, w ∈ wsX7_value := by decide +kernel
  have hn9 := (List.getElem?_eq_some_iff.mp hx9).1
  have hr9 := hNo.2.2 n x hx9
  have hL2 := hNo.2.1
  refine lv_aload_n hx hb dX7_value_0 rfl (lv_at hl 0 rfl) ?_
  refine lv_iload_n hx hb dX7_value_1 rfl (lv_at hl 1 rfl) ?_
  refine zcV_xv (As := [.int (nI n)]) (rest := []) (n9 := 1) (b := (a 0)) C hw (c_X7_checkNote_g l hst D y base S a n L hX hNo.1 hL2 hn9) gX7_value_X7_checkNote rfl (by decide +kernel) ⟨⟨rfl, rfl⟩, Nat.le_of_ble_eq_true rfl, Nat.le_of_ble_eq_true rfl⟩ hX.1 ⟨by decide, by decide⟩ rfl rfl hl.1 rfl (Nat.le_of_ble_eq_true rfl) ⟨Nat.le_of_ble_eq_true rfl, Nat.le_of_ble_eq_true rfl⟩ dX7_value_2 (fun E ce q9 S2 H locs hx2 hw h1 h2 h3 => zxout hw hx0 hlocks h1 h2 h3 ⟨hx2.1, hx2.2⟩ ⟨Nat.le_of_ble_eq_true rfl, Nat.le_of_ble_eq_true rfl⟩) (fun S2 H locs hp2 hw => ?_)
  have hS9 := hp2
  have hS9 := hS9.symm
  subst hS9
  refine lv_aload_n hx hb dX7_value_5 rfl (lv_at hl 0 rfl) ?_
  refine g_Ph_told (a := (a 0)) (v := (a 4)) C hw hX.1 in_X7 (by decide +kernel) hX.2.2.2.2.1 dX7_value_6 ?_
  refine g_Notes_values (a := (a 4)) (v := (a 63)) C hw hNts.1 in_X3 (by decide +kernel) hNts.2.2.2.2.1 dX7_value_9 ?_
  refine lv_iload_n hx hb dX7_value_12 rfl (lv_at hl 1 rfl) ?_
  refine zald_I (a := (a 63)) C hw hNts.2.2.2.2.2.2.2.2.2.2.2.2.1 hNts.2.2.2.2.2.2.2.2.2.2.2.2.2.1 (vp_in_nI (by omega) (by decide)) dX7_value_13 ?_
  refine zrd (x := x.2.2.2.1) (by rw [nI_clamp (by omega)]; exact hr9.2.2.2.1) ?_
  exact vx_ret (zri C hw hr hlocks rfl ⟨rfl, rfl⟩ ⟨Nat.le_of_ble_eq_true rfl, Nat.le_of_ble_eq_true rfl⟩ dX7_value_14)

set_option maxHeartbeats 4000000 in
set_option maxRecDepth 100000 in
/-- X7_fault -/
theorem c_X7_fault_g (l : Launch) (hst : l.stackTraces = false) (D : va_G) (y : Nat → ClassId) (base : Nat) (S : zS) (a : Nat → Nat) (n : Nat) (L : List zNt) (x : zNt) (hX : zX S a) (hNts : zNts S (a 4) (a 60) (a 61) (a 62) (a 63) (a 64)) (hDs : zDs a) (hNo : zNo S (a 4) (a 60) (a 61) (a 62) (a 63) (a 64)  L) (hx9 : L[n]? = some x) (hch : narrow .char (.int x.2.2.2.2) = .int x.2.2.2.2) : zXi l yX7_fault wsX7_fault ({ frames := 1, cells := 0, slots := 0, locals := 21 }) [.ref (a 0), .int (nI n)] D y base S (fun (r : Int32) (S1 : zS) => r = x.2.2.2.2 ∧ S1 = S) (fun (E : String) (S1 : zS) => False ∧ S1 = S) 0 0 := by
  refine zXet_of (cc := cX7_fault) (maxL := 2) (ret := (some .char)) (own := RX7) (by decide +kernel) rfl rfl (Nat.le_of_ble_eq_true rfl) ?_
  intro p e s m args below meth c ls C hr hlocks hx0 hw hl
  have hx := C.1
  have hb := C.2.1
  have hown := C.2.2.2.1
  have hts := C.2.2.2.2
  have hl : lv_has ls 2 [(0, .ref (a 0)), (1, .int (nI n))] := hl
  have in_X3 : ∀ w ∈ wsX30, w ∈ wsX7_fault := by decide +kernel
  have in_X7 : ∀ w ∈ wsX70, w ∈ wsX7_fault := by decide +kernel
  have hn9 := (List.getElem?_eq_some_iff.mp hx9).1
  have hr9 := hNo.2.2 n x hx9
  have hL2 := hNo.2.1
  refine lv_aload_n hx hb dX7_fault_0 rfl (lv_at hl 0 rfl) ?_
  refine lv_iload_n hx hb dX7_fault_1 rfl (lv_at hl 1 rfl) ?_
  refine zcV_xv (As := [.int (nI n)]) (rest := []) (n9 := 1) (b := (a 0)) C hw (c_X7_checkNote_g l hst D y base S a n L hX hNo.1 hL2 hn9) gX7_fault_X7_checkNote rfl (by decide +kernel) ⟨⟨rfl, rfl⟩, Nat.le_of_ble_eq_true rfl, Nat.le_of_ble_eq_true rfl⟩ hX.1 ⟨by decide, by decide⟩ rfl rfl hl.1 rfl (Nat.le_of_ble_eq_true rfl) ⟨Nat.le_of_ble_eq_true rfl, Nat.le_of_ble_eq_true rfl⟩ dX7_fault_2 (fun E ce q9 S2 H locs hx2 hw h1 h2 h3 => zxout hw hx0 hlocks h1 h2 h3 ⟨hx2.1, hx2.2⟩ ⟨Nat.le_of_ble_eq_true rfl, Nat.le_of_ble_eq_true rfl⟩) (fun S2 H locs hp2 hw => ?_)
  have hS9 := hp2
  have hS9 := hS9.symm
  subst hS9
  refine lv_aload_n hx hb dX7_fault_5 rfl (lv_at hl 0 rfl) ?_
  refine g_Ph_told (a := (a 0)) (v := (a 4)) C hw hX.1 in_X7 (by decide +kernel) hX.2.2.2.2.1 dX7_fault_6 ?_
  refine g_Notes_faults (a := (a 4)) (v := (a 64)) C hw hNts.1 in_X3 (by decide +kernel) hNts.2.2.2.2.2.1 dX7_fault_9 ?_
  refine lv_iload_n hx hb dX7_fault_12 rfl (lv_at hl 1 rfl) ?_
  refine zald_C (a := (a 64)) C hw hNts.2.2.2.2.2.2.2.2.2.2.2.2.2.2.1 hNts.2.2.2.2.2.2.2.2.2.2.2.2.2.2.2 (vp_in_nI (by omega) (by decide)) dX7_fault_13 ?_
  refine zrd (x := x.2.2.2.2) (by rw [nI_clamp (by omega)]; exact hr9.2.2.2.2) ?_
  exact vx_ret (zri C hw hr hlocks (hch) ⟨rfl, rfl⟩ ⟨Nat.le_of_ble_eq_true rfl, Nat.le_of_ble_eq_true rfl⟩ dX7_fault_14)

set_option maxHeartbeats 4000000 in
set_option maxRecDepth 100000 in
/-- X7_register -/
theorem c_X7_register_g (l : Launch) (hst : l.stackTraces = false) (D : va_G) (y : Nat → ClassId) (base : Nat) (S : zS) (a : Nat → Nat) (ad : Nat) (tg : Nat) (hX : zX S a) (hDs : zDs a) (had : ad < 128) (htg : tg < 16) : zXi l yX7_register wsX7_register ({ frames := 7, cells := 2, slots := 12, locals := 112 }) [.ref (a 0), .int (nI ad), .int (nI tg)] D y base S (fun (r : Int32) (S1 : zS) => r = zR S 22 (a 6) (ad * 16 + tg) ∧ S1 = S) (fun (E : String) (S1 : zS) => False ∧ S1 = S) 2 12 := by
  refine zXet_of (cc := cX7_register) (maxL := 3) (ret := (some .int)) (own := RX7) (by decide +kernel) rfl rfl (Nat.le_of_ble_eq_true rfl) ?_
  intro p e s m args below meth c ls C hr hlocks hx0 hw hl
  have hx := C.1
  have hb := C.2.1
  have hown := C.2.2.2.1
  have hts := C.2.2.2.2
  have hl : lv_has ls 3 [(0, .ref (a 0)), (1, .int (nI ad)), (2, .int (nI tg))] := hl
  have in_X7 : ∀ w ∈ wsX70, w ∈ wsX7_register := by decide +kernel
  refine lv_iload_n hx hb dX7_register_0 rfl (lv_at hl 1 rfl) ?_
  refine lv_iconst (v := 0) hx hb dX7_register_1 (by decide) ?_
  refine lv_bipush (v := 127) hx hb dX7_register_2 (by decide) ?_
  refine zcS_xv (As := [.int (nI ad), .int 0, .int 127]) (rest := []) (n9 := 3) C hw (c_X7_checkRange l hst D y base S (nI ad) 0 127 ) gX7_register_X7_checkRange rfl (by decide +kernel) ⟨⟨rfl, rfl⟩, Nat.le_of_ble_eq_true rfl, Nat.le_of_ble_eq_true rfl⟩ rfl hl.1 rfl (Nat.le_of_ble_eq_true rfl) ⟨Nat.le_of_ble_eq_true rfl, Nat.le_of_ble_eq_true rfl⟩ dX7_register_4 (fun E ce q9 S4 H locs hx4 hw h1 h2 h3 => zxout hw hx0 hlocks h1 h2 h3 (by obtain ⟨rfl, hc9, rfl⟩ := hx4; exact absurd (zrg (m := 127) (by omega) (by decide) rfl) hc9) ⟨Nat.le_of_ble_eq_true rfl, Nat.le_of_ble_eq_true rfl⟩) (fun S4 H locs hp4 hw => ?_)
  obtain ⟨hp4, hS9⟩ := hp4
  have hS9 := hS9.symm
  subst hS9
  refine lv_iload_n hx hb dX7_register_7 rfl (lv_at hl 2 rfl) ?_
  refine lv_iconst (v := 0) hx hb dX7_register_8 (by decide) ?_
  refine lv_bipush (v := 15) hx hb dX7_register_9 (by decide) ?_
  refine zcS_xv (As := [.int (nI tg), .int 0, .int 15]) (rest := []) (n9 := 3) C hw (c_X7_checkRange l hst D y base S (nI tg) 0 15 ) gX7_register_X7_checkRange rfl (by decide +kernel) ⟨⟨rfl, rfl⟩, Nat.le_of_ble_eq_true rfl, Nat.le_of_ble_eq_true rfl⟩ rfl hl.1 rfl (Nat.le_of_ble_eq_true rfl) ⟨Nat.le_of_ble_eq_true rfl, Nat.le_of_ble_eq_true rfl⟩ dX7_register_11 (fun E ce q9 S11 H locs hx11 hw h1 h2 h3 => zxout hw hx0 hlocks h1 h2 h3 (by obtain ⟨rfl, hc9, rfl⟩ := hx11; exact absurd (zrg (m := 15) (by omega) (by decide) rfl) hc9) ⟨Nat.le_of_ble_eq_true rfl, Nat.le_of_ble_eq_true rfl⟩) (fun S11 H locs hp11 hw => ?_)
  obtain ⟨hp11, hS9⟩ := hp11
  have hS9 := hS9.symm
  subst hS9
  refine lv_aload_n hx hb dX7_register_14 rfl (lv_at hl 0 rfl) ?_
  refine g_Ph_devices (a := (a 0)) (v := (a 5)) C hw hX.1 in_X7 (by decide +kernel) hX.2.2.2.2.2.1 dX7_register_15 ?_
  refine lv_iload_n hx hb dX7_register_18 rfl (lv_at hl 1 rfl) ?_
  refine lv_iload_n hx hb dX7_register_19 rfl (lv_at hl 2 rfl) ?_
  refine zcV_i (As := [.int (nI ad), .int (nI tg)]) (rest := []) (n9 := 2) (b := (a 5)) C hw (c_X1_read_g l D y base S (a 5) (a 6) ad tg hX.2.2.2.2.2.2.2.2.2.2.2.1 had htg) gX7_register_X1_read rfl (by decide +kernel) ⟨⟨rfl, rfl⟩, Nat.le_of_ble_eq_true rfl, Nat.le_of_ble_eq_true rfl⟩ hX.2.2.2.2.2.2.2.2.2.2.2.1.1 ⟨by decide, by decide⟩ rfl rfl hl.1 rfl (Nat.le_of_ble_eq_true rfl) ⟨Nat.le_of_ble_eq_true rfl, Nat.le_of_ble_eq_true rfl⟩ dX7_register_20 (fun r20 S20 H locs hp20 hw => ?_)
  obtain ⟨rfl, hS9⟩ := hp20
  have hS9 := hS9.symm
  subst hS9
  exact vx_ret (zri C hw hr hlocks rfl ⟨rfl, rfl⟩ ⟨Nat.le_of_ble_eq_true rfl, Nat.le_of_ble_eq_true rfl⟩ dX7_register_23)

set_option maxHeartbeats 4000000 in
set_option maxRecDepth 100000 in
/-- X7_follows -/
theorem c_X7_follows_g (l : Launch) (hst : l.stackTraces = false) (D : va_G) (y : Nat → ClassId) (base : Nat) (S : zS) (a : Nat → Nat) (p0 : Int32) (p1 : Int32) (x0 : zNt) (x1 : zNt) (hX : zX S a) (hNts : zNts S (a 4) (a 60) (a 61) (a 62) (a 63) (a 64)) (hDs : zDs a) (hNo : zNo S (a 4) (a 60) (a 61) (a 62) (a 63) (a 64)  [x0, x1]) (hy0 : x0.1 = 66 ∧ x0.2.2.2.1 = p0) (hy1 : x1.1 = 66 ∧ x1.2.2.2.1 = p1) (hp0 : 0 ≤ p0 ∧ p0 ≤ 255) (hp1 : 0 ≤ p1 ∧ p1 ≤ 255) : zXi l yX7_follows wsX7_follows ({ frames := 7, cells := 2, slots := 12, locals := 112 }) [.ref (a 0), .int p0, .int p1] D y base S (fun (r : Int32) (S1 : zS) => r = 1 ∧ S1 = S) (fun (E : String) (S1 : zS) => False ∧ S1 = S) 2 12 := by
  refine zXet_of (cc := cX7_follows) (maxL := 3) (ret := (some .int)) (own := RX7) (by decide +kernel) rfl rfl (Nat.le_of_ble_eq_true rfl) ?_
  intro p e s m args below meth c ls C hr hlocks hx0 hw hl
  have hx := C.1
  have hb := C.2.1
  have hown := C.2.2.2.1
  have hts := C.2.2.2.2
  have hl : lv_has ls 3 [(0, .ref (a 0)), (1, .int p0), (2, .int p1)] := hl
  have in_X7 : ∀ w ∈ wsX70, w ∈ wsX7_follows := by decide +kernel
  refine lv_iload_n hx hb dX7_follows_0 rfl (lv_at hl 1 rfl) ?_
  refine lv_iconst (v := 0) hx hb dX7_follows_1 (by decide) ?_
  refine lv_sipush (v := 255) hx hb dX7_follows_2 (by decide) ?_
  refine zcS_xv (As := [.int p0, .int 0, .int 255]) (rest := []) (n9 := 3) C hw (c_X7_checkRange l hst D y base S p0 0 255 ) gX7_follows_X7_checkRange rfl (by decide +kernel) ⟨⟨rfl, rfl⟩, Nat.le_of_ble_eq_true rfl, Nat.le_of_ble_eq_true rfl⟩ rfl hl.1 rfl (Nat.le_of_ble_eq_true rfl) ⟨Nat.le_of_ble_eq_true rfl, Nat.le_of_ble_eq_true rfl⟩ dX7_follows_5 (fun E ce q9 S5 H locs hx5 hw h1 h2 h3 => zxout hw hx0 hlocks h1 h2 h3 (by obtain ⟨rfl, hc9, rfl⟩ := hx5; exact absurd hp0 hc9) ⟨Nat.le_of_ble_eq_true rfl, Nat.le_of_ble_eq_true rfl⟩) (fun S5 H locs hp5 hw => ?_)
  obtain ⟨hp5, hS9⟩ := hp5
  have hS9 := hS9.symm
  subst hS9
  refine lv_iload_n hx hb dX7_follows_8 rfl (lv_at hl 2 rfl) ?_
  refine lv_iconst (v := 0) hx hb dX7_follows_9 (by decide) ?_
  refine lv_sipush (v := 255) hx hb dX7_follows_10 (by decide) ?_
  refine zcS_xv (As := [.int p1, .int 0, .int 255]) (rest := []) (n9 := 3) C hw (c_X7_checkRange l hst D y base S p1 0 255 ) gX7_follows_X7_checkRange rfl (by decide +kernel) ⟨⟨rfl, rfl⟩, Nat.le_of_ble_eq_true rfl, Nat.le_of_ble_eq_true rfl⟩ rfl hl.1 rfl (Nat.le_of_ble_eq_true rfl) ⟨Nat.le_of_ble_eq_true rfl, Nat.le_of_ble_eq_true rfl⟩ dX7_follows_13 (fun E ce q9 S13 H locs hx13 hw h1 h2 h3 => zxout hw hx0 hlocks h1 h2 h3 (by obtain ⟨rfl, hc9, rfl⟩ := hx13; exact absurd hp1 hc9) ⟨Nat.le_of_ble_eq_true rfl, Nat.le_of_ble_eq_true rfl⟩) (fun S13 H locs hp13 hw => ?_)
  obtain ⟨hp13, hS9⟩ := hp13
  have hS9 := hS9.symm
  subst hS9
  refine lv_aload_n hx hb dX7_follows_16 rfl (lv_at hl 0 rfl) ?_
  refine g_Ph_told (a := (a 0)) (v := (a 4)) C hw hX.1 in_X7 (by decide +kernel) hX.2.2.2.2.1 dX7_follows_17 ?_
  refine lv_iload_n hx hb dX7_follows_20 rfl (lv_at hl 1 rfl) ?_
  refine lv_iload_n hx hb dX7_follows_21 rfl (lv_at hl 2 rfl) ?_
  refine zcV_i (As := [.int p0, .int p1]) (rest := []) (n9 := 2) (b := (a 4)) C hw (c_X3_pairCount_2 l D y base S (a 4) (a 60) (a 61) (a 62) (a 63) (a 64) p0 p1 x0 x1 hNts hNo hy0 hy1 hp0.1) gX7_follows_X3_pairCount rfl (by decide +kernel) ⟨⟨rfl, rfl⟩, Nat.le_of_ble_eq_true rfl, Nat.le_of_ble_eq_true rfl⟩ hNts.1 ⟨by decide, by decide⟩ rfl rfl hl.1 rfl (Nat.le_of_ble_eq_true rfl) ⟨Nat.le_of_ble_eq_true rfl, Nat.le_of_ble_eq_true rfl⟩ dX7_follows_22 (fun r22 S22 H locs hp22 hw => ?_)
  obtain ⟨rfl, hS9⟩ := hp22
  have hS9 := hS9.symm
  subst hS9
  exact vx_ret (zri C hw hr hlocks rfl ⟨rfl, rfl⟩ ⟨Nat.le_of_ble_eq_true rfl, Nat.le_of_ble_eq_true rfl⟩ dX7_follows_25)

set_option maxHeartbeats 4000000 in
set_option maxRecDepth 100000 in
/-- X7_reset -/
theorem c_X7_reset_g (l : Launch) (D : va_G) (y : Nat → ClassId) (base : Nat) (S : zS) (a : Nat → Nat) (hX : zX S a) (hDs : zDs a) : zMi l yX7_reset wsX7_reset ({ frames := 0, cells := 0, slots := 0, locals := 0 }) [.ref (a 0)] D y base S (fun (r : Int32) (S1 : zS) => r = zI S 128 (a 3) ∧ S1 = zsI S 128 (a 3) 0) 0 0 := by
  refine zMet_of (cc := cX7_reset) (maxL := 2) (ret := (some .int)) (own := RX7) (by decide +kernel) rfl rfl (Nat.le_of_ble_eq_true rfl) ?_
  intro p e s m args below meth c ls C hr hlocks hnm hw hl
  have hx := C.1
  have hb := C.2.1
  have hown := C.2.2.2.1
  have hts := C.2.2.2.2
  have hl : lv_has ls 2 [(0, .ref (a 0))] := hl
  have in_X4 : ∀ w ∈ wsX40, w ∈ wsX7_reset := by decide +kernel
  have in_X7 : ∀ w ∈ wsX70, w ∈ wsX7_reset := by decide +kernel
  refine lv_aload_n hx hb dX7_reset_0 rfl (lv_at hl 0 rfl) ?_
  refine g_Ph_program (a := (a 0)) (v := (a 3)) C hw hX.1 in_X7 (by decide +kernel) hX.2.2.2.1 dX7_reset_1 ?_
  refine g_Trig_count (a := (a 3)) (v := (zI S 128 (a 3))) C hw hX.2.2.2.2.2.2.2.2.2.2.2.2.1.1 in_X4 (by decide +kernel) rfl dX7_reset_4 ?_
  refine lv_istore_n (lv' := [(1, .int (zI S 128 (a 3))), (0, .ref (a 0))]) hx hb dX7_reset_7 rfl hl (by decide) rfl (fun ls hl => ?_)
  refine lv_aload_n hx hb dX7_reset_8 rfl (lv_at hl 1 rfl) ?_
  refine g_Ph_program (a := (a 0)) (v := (a 3)) C hw hX.1 in_X7 (by decide +kernel) hX.2.2.2.1 dX7_reset_9 ?_
  refine lv_iconst (v := 0) hx hb dX7_reset_12 (by decide) ?_
  refine p_Trig_count (a := (a 3)) (v := 0) C hw hX.2.2.2.2.2.2.2.2.2.2.2.2.1.1 in_X4 (by decide +kernel) dX7_reset_13 (fun H locs hw => ?_)
  refine lv_iload_n hx hb dX7_reset_16 rfl (lv_at hl 0 rfl) ?_
  exact zri C hw hr hlocks rfl ⟨rfl, rfl⟩ ⟨Nat.le_of_ble_eq_true rfl, Nat.le_of_ble_eq_true rfl⟩ dX7_reset_17

set_option maxHeartbeats 4000000 in
set_option maxRecDepth 100000 in
/-- X7_checkFreeStep -/
theorem c_X7_checkFreeStep_g (l : Launch) (hst : l.stackTraces = false) (D : va_G) (y : Nat → ClassId) (base : Nat) (S : zS) (a : Nat → Nat) (n : Nat) (hX : zX S a) (h128 : zI S 128 (a 3) = nI n) (hn6 : n ≤ 6) : zXv l yX7_checkFreeStep wsX7_checkFreeStep ({ frames := 6, cells := 1, slots := 6, locals := 90 }) [.ref (a 0)] D y base S (fun (S1 : zS) => n < 6 ∧ S1 = S) (fun (E : String) (S1 : zS) => E = "java/lang/IllegalStateException" ∧ n = 6 ∧ S1 = S) 1 6 := by
  refine zXet_of (cc := cX7_checkFreeStep) (maxL := 1) (ret := none) (own := RX7) (by decide +kernel) rfl rfl (Nat.le_of_ble_eq_true rfl) ?_
  intro p e s m args below meth c ls C hr hlocks hx0 hw hl
  have hx := C.1
  have hb := C.2.1
  have hown := C.2.2.2.1
  have hts := C.2.2.2.2
  have hl : lv_has ls 1 [(0, .ref (a 0))] := hl
  have in_X4 : ∀ w ∈ wsX40, w ∈ wsX7_checkFreeStep := by decide +kernel
  have in_X7 : ∀ w ∈ wsX70, w ∈ wsX7_checkFreeStep := by decide +kernel
  refine lv_aload_n hx hb dX7_checkFreeStep_0 rfl (lv_at hl 0 rfl) ?_
  refine g_Ph_program (a := (a 0)) (v := (a 3)) C hw hX.1 in_X7 (by decide +kernel) hX.2.2.2.1 dX7_checkFreeStep_1 ?_
  refine g_Trig_count (a := (a 3)) (v := (nI n)) C hw hX.2.2.2.2.2.2.2.2.2.2.2.2.1.1 in_X4 (by decide +kernel) h128 dX7_checkFreeStep_4 ?_
  refine lv_bipush (v := 6) hx hb dX7_checkFreeStep_7 (by decide) ?_
  refine lv_icmp_lt (tgt := 23) hx hb dX7_checkFreeStep_9 (by decide) (fun c9 => ?_) (fun c9 => ?_)
  · exact vx_ret (zrv C hw hr hlocks ⟨(by have := c9; rw [show (6 : Int32) = nI 6 from rfl, nI_ltI (by omega) (by omega)] at this; exact this), rfl⟩ ⟨Nat.le_of_ble_eq_true rfl, Nat.le_of_ble_eq_true rfl⟩ dX7_checkFreeStep_23)
  · exact zthrow (cls := "java/lang/IllegalStateException") (text := "the trigger has all its steps") (names := ["java/lang/RuntimeException", "java/lang/Exception"]) (ik := 306) (is := 308) (ic := 310) C hw hx0 hlocks hst (by decide +kernel) (by decide +kernel) (by decide +kernel) (by decide +kernel) (by decide +kernel) (by decide +kernel) (by decide +kernel) hl.1 dX7_checkFreeStep_12 dX7_checkFreeStep_15 dX7_checkFreeStep_16 dX7_checkFreeStep_19 dX7_checkFreeStep_22 (Nat.le_of_ble_eq_true rfl) (Nat.le_of_ble_eq_true rfl) ⟨Nat.le_of_ble_eq_true rfl, Nat.le_of_ble_eq_true rfl⟩ ⟨rfl, (by have := c9; rw [show (6 : Int32) = nI 6 from rfl, nI_ltI (by omega) (by omega)] at this; omega), rfl⟩ ⟨Nat.le_of_ble_eq_true rfl, Nat.le_of_ble_eq_true rfl⟩

set_option maxHeartbeats 4000000 in
set_option maxRecDepth 100000 in
/-- X7_step -/
theorem c_X7_step_t (l : Launch) (hst : l.stackTraces = false) (D : va_G) (y : Nat → ClassId) (base : Nat) (S : zS) (a : Nat → Nat) (p1 : Int32) (v : Nat) (n : Nat) (hX : zX S a) (hDs : zDs a) (hv : 1 ≤ v ∧ v ≤ 400) (hSt : zSt S (a 3) (a 7) (a 9) (nI v) n) (hn6 : n ≤ 6) : zXi l yX7_step wsX7_step ({ frames := 7, cells := 3, slots := 18, locals := 112 }) [.ref (a 0), .int 116, .int p1, .int (nI v)] D y base S (fun (r : Int32) (S1 : zS) => (n < 6 ∧ r = nI (n + 1)) ∧ zSt S1 (a 3) (a 7) (a 9) (nI v) (n + 1) ∧ zFr S S1 (zTI (a 3)) (zTR (a 7) (a 8) (a 9))) (fun (E : String) (S1 : zS) => (E = "java/lang/IllegalStateException" ∧ n = 6) ∧ S1 = S) 3 18 := by
  refine zXet_of (cc := cX7_step) (maxL := 4) (ret := (some .int)) (own := RX7) (by decide +kernel) rfl rfl (Nat.le_of_ble_eq_true rfl) ?_
  intro p e s m args below meth c ls C hr hlocks hx0 hw hl
  have hx := C.1
  have hb := C.2.1
  have hown := C.2.2.2.1
  have hts := C.2.2.2.2
  have hl : lv_has ls 4 [(0, .ref (a 0)), (1, .int 116), (2, .int p1), (3, .int (nI v))] := hl
  have in_X4 : ∀ w ∈ wsX40, w ∈ wsX7_step := by decide +kernel
  have in_X7 : ∀ w ∈ wsX70, w ∈ wsX7_step := by decide +kernel
  refine lv_iload_n hx hb dX7_step_0 rfl (lv_at hl 1 rfl) ?_
  refine lv_bipush (v := 112) hx hb dX7_step_1 (by decide) ?_
  refine lv_icmp_eq (tgt := 16) hx hb dX7_step_3 (by decide) (fun c3 => absurd c3 (by decide)) (fun _ => ?_)
  refine lv_iload_n hx hb dX7_step_6 rfl (lv_at hl 1 rfl) ?_
  refine lv_bipush (v := 116) hx hb dX7_step_7 (by decide) ?_
  refine lv_icmp_eq (tgt := 16) hx hb dX7_step_9 (by decide) (fun _ => ?_) (fun c9 => absurd c9 (by decide))
  refine lv_iload_n hx hb dX7_step_16 rfl (lv_at hl 1 rfl) ?_
  refine zcS_xv (As := [.int 116]) (rest := []) (n9 := 1) C hw (c_X7_checkStepKind l hst D y base S 116 ) gX7_step_X7_checkStepKind rfl (by decide +kernel) ⟨⟨rfl, rfl⟩, Nat.le_of_ble_eq_true rfl, Nat.le_of_ble_eq_true rfl⟩ rfl hl.1 rfl (Nat.le_of_ble_eq_true rfl) ⟨Nat.le_of_ble_eq_true rfl, Nat.le_of_ble_eq_true rfl⟩ dX7_step_17 (fun E ce q9 S17 H locs hx17 hw h1 h2 h3 => zxout hw hx0 hlocks h1 h2 h3 (by obtain ⟨rfl, hc9, rfl⟩ := hx17; exact absurd (by decide) hc9) ⟨Nat.le_of_ble_eq_true rfl, Nat.le_of_ble_eq_true rfl⟩) (fun S17 H locs hp17 hw => ?_)
  obtain ⟨hp17, hS9⟩ := hp17
  have hS9 := hS9.symm
  subst hS9
  refine lv_iload_n hx hb dX7_step_20 rfl (lv_at hl 3 rfl) ?_
  refine lv_iload_n hx hb dX7_step_21 rfl (lv_at hl 1 rfl) ?_
  refine lv_bipush (v := 112) hx hb dX7_step_22 (by decide) ?_
  refine lv_icmp_ne (tgt := 31) hx hb dX7_step_24 (by decide) (fun _ => ?_) (fun c24 => absurd c24 (by decide))
  refine lv_iconst (v := 1) hx hb dX7_step_31 (by decide) ?_
  refine lv_iload_n hx hb dX7_step_32 rfl (lv_at hl 1 rfl) ?_
  refine lv_bipush (v := 112) hx hb dX7_step_33 (by decide) ?_
  refine lv_icmp_ne (tgt := 43) hx hb dX7_step_35 (by decide) (fun _ => ?_) (fun c35 => absurd c35 (by decide))
  refine lv_sipush (v := 400) hx hb dX7_step_43 (by decide) ?_
  refine zcS_xv (As := [.int (nI v), .int 1, .int 400]) (rest := []) (n9 := 3) C hw (c_X7_checkRange l hst D y base S (nI v) 1 400 ) gX7_step_X7_checkRange rfl (by decide +kernel) ⟨⟨rfl, rfl⟩, Nat.le_of_ble_eq_true rfl, Nat.le_of_ble_eq_true rfl⟩ rfl hl.1 rfl (Nat.le_of_ble_eq_true rfl) ⟨Nat.le_of_ble_eq_true rfl, Nat.le_of_ble_eq_true rfl⟩ dX7_step_46 (fun E ce q9 S46 H locs hx46 hw h1 h2 h3 => zxout hw hx0 hlocks h1 h2 h3 (by obtain ⟨rfl, hc9, rfl⟩ := hx46; exact absurd (zrg1 hv.1 hv.2 (by decide) rfl) hc9) ⟨Nat.le_of_ble_eq_true rfl, Nat.le_of_ble_eq_true rfl⟩) (fun S46 H locs hp46 hw => ?_)
  obtain ⟨hp46, hS9⟩ := hp46
  have hS9 := hS9.symm
  subst hS9
  refine lv_aload_n hx hb dX7_step_49 rfl (lv_at hl 0 rfl) ?_
  refine zcV_xv (As := []) (rest := []) (n9 := 0) (b := (a 0)) C hw (c_X7_checkFreeStep_g l hst D y base S a n hX hSt.1 hn6) gX7_step_X7_checkFreeStep rfl (by decide +kernel) ⟨⟨rfl, rfl⟩, Nat.le_of_ble_eq_true rfl, Nat.le_of_ble_eq_true rfl⟩ hX.1 ⟨by decide, by decide⟩ rfl rfl hl.1 rfl (Nat.le_of_ble_eq_true rfl) ⟨Nat.le_of_ble_eq_true rfl, Nat.le_of_ble_eq_true rfl⟩ dX7_step_50 (fun E ce q9 S50 H locs hx50 hw h1 h2 h3 => zxout hw hx0 hlocks h1 h2 h3 ⟨⟨hx50.1, hx50.2.1⟩, hx50.2.2⟩ ⟨Nat.le_of_ble_eq_true rfl, Nat.le_of_ble_eq_true rfl⟩) (fun S50 H locs hp50 hw => ?_)
  obtain ⟨hp50, hS9⟩ := hp50
  have hS9 := hS9.symm
  subst hS9
  refine lv_aload_n hx hb dX7_step_53 rfl (lv_at hl 0 rfl) ?_
  refine g_Ph_program (a := (a 0)) (v := (a 3)) C hw hX.1 in_X7 (by decide +kernel) hX.2.2.2.1 dX7_step_54 ?_
  refine lv_iload_n hx hb dX7_step_57 rfl (lv_at hl 1 rfl) ?_
  refine lv_iload_n hx hb dX7_step_58 rfl (lv_at hl 2 rfl) ?_
  refine lv_iload_n hx hb dX7_step_59 rfl (lv_at hl 3 rfl) ?_
  refine zcV_v (As := [.int 116, .int p1, .int (nI v)]) (rest := []) (n9 := 3) (b := (a 3)) C hw (c_X4_addStep_t l D y base S (a 3) (a 7) (a 8) (a 9) p1 (nI v) n hX.2.2.2.2.2.2.2.2.2.2.2.2.1 hSt hp50 (hDs 8 (by decide) 9 (by decide) (by decide))) gX7_step_X4_addStep rfl (by decide +kernel) ⟨⟨rfl, rfl⟩, Nat.le_of_ble_eq_true rfl, Nat.le_of_ble_eq_true rfl⟩ hX.2.2.2.2.2.2.2.2.2.2.2.2.1.1 ⟨by decide, by decide⟩ rfl rfl hl.1 rfl (Nat.le_of_ble_eq_true rfl) ⟨Nat.le_of_ble_eq_true rfl, Nat.le_of_ble_eq_true rfl⟩ dX7_step_60 (fun S60 H locs hp60 hw => ?_)
  have hX60 := zX.fix hp60.2.1 hX
  refine lv_aload_n hx hb dX7_step_63 rfl (lv_at hl 0 rfl) ?_
  refine g_Ph_program (a := (a 0)) (v := (a 3)) C hw hX60.1 in_X7 (by decide +kernel) hX60.2.2.2.1 dX7_step_64 ?_
  refine g_Trig_count (a := (a 3)) (v := (nI (n + 1))) C hw hX60.2.2.2.2.2.2.2.2.2.2.2.2.1.1 in_X4 (by decide +kernel) hp60.1.1 dX7_step_67 ?_
  exact vx_ret (zri C hw hr hlocks rfl ⟨⟨hp50, rfl⟩, hp60.1, hp60.2⟩ ⟨Nat.le_of_ble_eq_true rfl, Nat.le_of_ble_eq_true rfl⟩ dX7_step_70)

