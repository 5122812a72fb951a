set_option maxHeartbeats 4000000 in
set_option maxRecDepth 100000 in
/-- X5_takeStart -/
theorem c_X5_takeStart (l : Launch) (D : va_G) (y : Nat → ClassId) (base : Nat) (S : zS) (q0 : Nat) (d0 : Nat) (t0 : Nat) (k1 : Nat) (k2 : Nat) (k3 : Nat) (k4 : Nat) (k5 : Nat) (rA : Nat) (st0 : Bool) (bs : List Bool) (fb : Nat) (bt : Nat) (wr : Bool) (ad : Nat) (tg : Nat) (L : List zNt) (i : Nat) (hNt : zNts S t0 k1 k2 k3 k4 k5) (hTw : zTw S q0 t0 d0 st0 bs fb bt wr ad tg) (hNo : zNo S t0 k1 k2 k3 k4 k5 L) (hNd : zNd k1 k2 k3 k4 k5) (hLl : L.length < 200) : zMv l yX5_takeStart wsX5_takeStart ({ frames := 1, cells := 0, slots := 0, locals := 25 }) [.ref q0, .int (nI i)] D y base S (fun (S1 : zS) => zTw S1 q0 t0 d0 true [] fb 0 wr ad tg ∧ zNo S1 t0 k1 k2 k3 k4 k5 (L ++ [(83, nI i, nI i, 0, 45)]) ∧ zFr S S1 (zWI q0 t0) (zNR k1 k2 k3 k4 k5)) 0 0 := by
  refine zMet_of (cc := cX5_takeStart) (maxL := 2) (ret := none) (own := RX5) (by decide +kernel) rfl rfl (Nat.le_of_ble_eq_true rfl) ?_
  intro p e s m args below meth c ls C hr hlocks hnm hw hl
  have hx := C.1
  have hb := C.2.1
  have hown := C.2.2.2.1
  have hts := C.2.2.2.2
  have hl : lv_has ls 2 [(0, .ref q0), (1, .int (nI i))] := hl
  have in_X5 : ∀ w ∈ wsX50, w ∈ wsX5_takeStart := by decide +kernel
  refine lv_aload_n hx hb dX5_takeStart_0 rfl (lv_at hl 0 rfl) ?_
  refine g_Two_notes (a := q0) (v := t0) C hw hTw.1 in_X5 (by decide +kernel) hTw.2.1 dX5_takeStart_1 ?_
  refine lv_bipush (v := 83) hx hb dX5_takeStart_4 (by decide) ?_
  refine lv_iload_n hx hb dX5_takeStart_6 rfl (lv_at hl 1 rfl) ?_
  refine lv_iload_n hx hb dX5_takeStart_7 rfl (lv_at hl 1 rfl) ?_
  refine lv_iconst (v := 0) hx hb dX5_takeStart_8 (by decide) ?_
  refine lv_bipush (v := 45) hx hb dX5_takeStart_9 (by decide) ?_
  refine zcV_v (As := [.int 83, .int (nI i), .int (nI i), .int 0, .int 45]) (rest := []) (n9 := 5) (b := t0) C hw (c_X3_tell l D y base S t0 k1 k2 k3 k4 k5 83 (nI i) (nI i) 0 45 L hNt hNo hNd hLl (by decide) (by decide)) gX5_takeStart_X3_tell rfl (by decide +kernel) ⟨⟨rfl, rfl⟩, Nat.le_of_ble_eq_true rfl, Nat.le_of_ble_eq_true rfl⟩ hNt.1 ⟨by decide, by decide⟩ rfl rfl hl.1 rfl (Nat.le_of_ble_eq_true rfl) ⟨Nat.le_of_ble_eq_true rfl, Nat.le_of_ble_eq_true rfl⟩ dX5_takeStart_11 (fun S11 H locs hp11 hw => ?_)
  have hNt11 := zNts.fix hp11.2.1 hNt
  have hK11 : zK S11 q0 = 9 := (congrFun hp11.2.1.1 q0).trans hTw.1
  have hQ11_144 : zQ S11 144 q0 = some t0 := (congrFun (congrFun hp11.2.1.2.1 144) q0).trans hTw.2.1
  have hQ11_145 : zQ S11 145 q0 = some d0 := (congrFun (congrFun hp11.2.1.2.1 145) q0).trans hTw.2.2.1
  have hI11_146 : zI S11 146 q0 = (zI S 146 q0) := (hp11.2.2.1 146 q0 (fun g => absurd g.1 (by decide))).trans rfl
  have hI11_147 : zI S11 147 q0 = (nI bs.length) := (hp11.2.2.1 147 q0 (fun g => absurd g.1 (by decide))).trans hTw.2.2.2.2.1
  have hI11_150 : zI S11 150 q0 = (nI bt) := (hp11.2.2.1 150 q0 (fun g => absurd g.1 (by decide))).trans hTw.2.2.2.2.2.2.1
  have hI11_151 : zI S11 151 q0 = (zb (wr = true)) := (hp11.2.2.1 151 q0 (fun g => absurd g.1 (by decide))).trans hTw.2.2.2.2.2.2.2.1
  have hI11_152 : zI S11 152 q0 = (nI ad) := (hp11.2.2.1 152 q0 (fun g => absurd g.1 (by decide))).trans hTw.2.2.2.2.2.2.2.2.1
  have hI11_153 : zI S11 153 q0 = (nI tg) := (hp11.2.2.1 153 q0 (fun g => absurd g.1 (by decide))).trans hTw.2.2.2.2.2.2.2.2.2
  refine lv_aload_n hx hb dX5_takeStart_14 rfl (lv_at hl 0 rfl) ?_
  refine lv_iconst (v := 1) hx hb dX5_takeStart_15 (by decide) ?_
  refine p_Two_isStarted (a := q0) (v := 1) C hw hK11 in_X5 (by decide +kernel) (by decide) dX5_takeStart_16 (fun H locs hw => ?_)
  refine lv_aload_n hx hb dX5_takeStart_19 rfl (lv_at hl 0 rfl) ?_
  refine lv_iconst (v := 0) hx hb dX5_takeStart_20 (by decide) ?_
  refine p_Two_bits (a := q0) (v := 0) C hw hK11 in_X5 (by decide +kernel) dX5_takeStart_21 (fun H locs hw => ?_)
  refine lv_aload_n hx hb dX5_takeStart_24 rfl (lv_at hl 0 rfl) ?_
  refine lv_iconst (v := 0) hx hb dX5_takeStart_25 (by decide) ?_
  refine p_Two_bytes (a := q0) (v := 0) C hw hK11 in_X5 (by decide +kernel) dX5_takeStart_26 (fun H locs hw => ?_)
  exact zrv C hw hr hlocks ⟨⟨hK11, hQ11_144, hQ11_145, ((zI_t (S := (zsI (zsI S11 146 q0 1) 147 q0 0)) (t := 150) (a := q0) (v := 0) (t' := 146) (a' := q0) (u := 1) (by decide) (zI_t (S := (zsI S11 146 q0 1)) (t := 147) (a := q0) (v := 0) (t' := 146) (a' := q0) (u := 1) (by decide) (zI_s S11 146 q0 1)))).trans (zb_t rfl), ((zI_t (S := (zsI (zsI S11 146 q0 1) 147 q0 0)) (t := 150) (a := q0) (v := 0) (t' := 147) (a' := q0) (u := 0) (by decide) (zI_s (zsI S11 146 q0 1) 147 q0 0))).trans rfl, (fun h9 => absurd rfl h9), (zI_s (zsI (zsI S11 146 q0 1) 147 q0 0) 150 q0 0), (zI_t (S := (zsI (zsI S11 146 q0 1) 147 q0 0)) (t := 150) (a := q0) (v := 0) (t' := 151) (a' := q0) (u := (zb (wr = true))) (by decide) (zI_t (S := (zsI S11 146 q0 1)) (t := 147) (a := q0) (v := 0) (t' := 151) (a' := q0) (u := (zb (wr = true))) (by decide) (zI_t (S := S11) (t := 146) (a := q0) (v := 1) (t' := 151) (a' := q0) (u := (zb (wr = true))) (by decide) hI11_151))), (zI_t (S := (zsI (zsI S11 146 q0 1) 147 q0 0)) (t := 150) (a := q0) (v := 0) (t' := 152) (a' := q0) (u := (nI ad)) (by decide) (zI_t (S := (zsI S11 146 q0 1)) (t := 147) (a := q0) (v := 0) (t' := 152) (a' := q0) (u := (nI ad)) (by decide) (zI_t (S := S11) (t := 146) (a := q0) (v := 1) (t' := 152) (a' := q0) (u := (nI ad)) (by decide) hI11_152))), (zI_t (S := (zsI (zsI S11 146 q0 1) 147 q0 0)) (t := 150) (a := q0) (v := 0) (t' := 153) (a' := q0) (u := (nI tg)) (by decide) (zI_t (S := (zsI S11 146 q0 1)) (t := 147) (a := q0) (v := 0) (t' := 153) (a' := q0) (u := (nI tg)) (by decide) (zI_t (S := S11) (t := 146) (a := q0) (v := 1) (t' := 153) (a' := q0) (u := (nI tg)) (by decide) hI11_153)))⟩, hp11.1, ((((hp11.2.mono (fun _ _ g => Or.inr g) (fun _ _ g => g))).tr (zFr.I (TI := zWI q0 t0) (TR := zNR k1 k2 k3 k4 k5) (Or.inl rfl))).tr (zFr.I (TI := zWI q0 t0) (TR := zNR k1 k2 k3 k4 k5) (Or.inl rfl))).tr (zFr.I (TI := zWI q0 t0) (TR := zNR k1 k2 k3 k4 k5) (Or.inl rfl))⟩ ⟨Nat.le_of_ble_eq_true rfl, Nat.le_of_ble_eq_true rfl⟩ dX5_takeStart_29

set_option maxHeartbeats 4000000 in
set_option maxRecDepth 100000 in
/-- X5_takeEnd -/
theorem c_X5_takeEnd (l : Launch) (D : va_G) (y : Nat → ClassId) (base : Nat) (S : zS) (q0 : Nat) (d0 : Nat) (t0 : Nat) (k1 : Nat) (k2 : Nat) (k3 : Nat) (k4 : Nat) (k5 : Nat) (rA : Nat) (st0 : Bool) (bs : List Bool) (fb : Nat) (bt : Nat) (wr : Bool) (ad : Nat) (tg : Nat) (L : List zNt) (i : Nat) (hNt : zNts S t0 k1 k2 k3 k4 k5) (hTw : zTw S q0 t0 d0 st0 bs fb bt wr ad tg) (hNo : zNo S t0 k1 k2 k3 k4 k5 L) (hNd : zNd k1 k2 k3 k4 k5) (hLl : L.length < 200) : zMv l yX5_takeEnd wsX5_takeEnd ({ frames := 1, cells := 0, slots := 0, locals := 25 }) [.ref q0, .int (nI i)] D y base S (fun (S1 : zS) => zTw S1 q0 t0 d0 false bs fb bt wr ad tg ∧ zNo S1 t0 k1 k2 k3 k4 k5 (L ++ [(69, nI i, nI i, 0, 45)]) ∧ zFr S S1 (zWI q0 t0) (zNR k1 k2 k3 k4 k5)) 0 0 := by
  refine zMet_of (cc := cX5_takeEnd) (maxL := 2) (ret := none) (own := RX5) (by decide +kernel) rfl rfl (Nat.le_of_ble_eq_true rfl) ?_
  intro p e s m args below meth c ls C hr hlocks hnm hw hl
  have hx := C.1
  have hb := C.2.1
  have hown := C.2.2.2.1
  have hts := C.2.2.2.2
  have hl : lv_has ls 2 [(0, .ref q0), (1, .int (nI i))] := hl
  have in_X5 : ∀ w ∈ wsX50, w ∈ wsX5_takeEnd := by decide +kernel
  refine lv_aload_n hx hb dX5_takeEnd_0 rfl (lv_at hl 0 rfl) ?_
  refine g_Two_notes (a := q0) (v := t0) C hw hTw.1 in_X5 (by decide +kernel) hTw.2.1 dX5_takeEnd_1 ?_
  refine lv_bipush (v := 69) hx hb dX5_takeEnd_4 (by decide) ?_
  refine lv_iload_n hx hb dX5_takeEnd_6 rfl (lv_at hl 1 rfl) ?_
  refine lv_iload_n hx hb dX5_takeEnd_7 rfl (lv_at hl 1 rfl) ?_
  refine lv_iconst (v := 0) hx hb dX5_takeEnd_8 (by decide) ?_
  refine lv_bipush (v := 45) hx hb dX5_takeEnd_9 (by decide) ?_
  refine zcV_v (As := [.int 69, .int (nI i), .int (nI i), .int 0, .int 45]) (rest := []) (n9 := 5) (b := t0) C hw (c_X3_tell l D y base S t0 k1 k2 k3 k4 k5 69 (nI i) (nI i) 0 45 L hNt hNo hNd hLl (by decide) (by decide)) gX5_takeEnd_X3_tell rfl (by decide +kernel) ⟨⟨rfl, rfl⟩, Nat.le_of_ble_eq_true rfl, Nat.le_of_ble_eq_true rfl⟩ hNt.1 ⟨by decide, by decide⟩ rfl rfl hl.1 rfl (Nat.le_of_ble_eq_true rfl) ⟨Nat.le_of_ble_eq_true rfl, Nat.le_of_ble_eq_true rfl⟩ dX5_takeEnd_11 (fun S11 H locs hp11 hw => ?_)
  have hNt11 := zNts.fix hp11.2.1 hNt
  have hK11 : zK S11 q0 = 9 := (congrFun hp11.2.1.1 q0).trans hTw.1
  have hQ11_144 : zQ S11 144 q0 = some t0 := (congrFun (congrFun hp11.2.1.2.1 144) q0).trans hTw.2.1
  have hQ11_145 : zQ S11 145 q0 = some d0 := (congrFun (congrFun hp11.2.1.2.1 145) q0).trans hTw.2.2.1
  have hI11_146 : zI S11 146 q0 = (zI S 146 q0) := (hp11.2.2.1 146 q0 (fun g => absurd g.1 (by decide))).trans rfl
  have hI11_147 : zI S11 147 q0 = (nI bs.length) := (hp11.2.2.1 147 q0 (fun g => absurd g.1 (by decide))).trans hTw.2.2.2.2.1
  have hI11_150 : zI S11 150 q0 = (nI bt) := (hp11.2.2.1 150 q0 (fun g => absurd g.1 (by decide))).trans hTw.2.2.2.2.2.2.1
  have hI11_151 : zI S11 151 q0 = (zb (wr = true)) := (hp11.2.2.1 151 q0 (fun g => absurd g.1 (by decide))).trans hTw.2.2.2.2.2.2.2.1
  have hI11_152 : zI S11 152 q0 = (nI ad) := (hp11.2.2.1 152 q0 (fun g => absurd g.1 (by decide))).trans hTw.2.2.2.2.2.2.2.2.1
  have hI11_153 : zI S11 153 q0 = (nI tg) := (hp11.2.2.1 153 q0 (fun g => absurd g.1 (by decide))).trans hTw.2.2.2.2.2.2.2.2.2
  have hI11_148 : zI S11 148 q0 = (zI S 148 q0) := (hp11.2.2.1 148 q0 (fun g => absurd g.1 (by decide))).trans rfl
  have hI11_149 : zI S11 149 q0 = (zI S 149 q0) := (hp11.2.2.1 149 q0 (fun g => absurd g.1 (by decide))).trans rfl
  refine lv_aload_n hx hb dX5_takeEnd_14 rfl (lv_at hl 0 rfl) ?_
  refine lv_iconst (v := 0) hx hb dX5_takeEnd_15 (by decide) ?_
  refine p_Two_isStarted (a := q0) (v := 0) C hw hK11 in_X5 (by decide +kernel) (by decide) dX5_takeEnd_16 (fun H locs hw => ?_)
  exact zrv C hw hr hlocks ⟨⟨hK11, hQ11_144, hQ11_145, ((zI_s S11 146 q0 0)).trans (zb_f (by decide)), ((zI_t (S := S11) (t := 146) (a := q0) (v := 0) (t' := 147) (a' := q0) (u := (nI bs.length)) (by decide) hI11_147)).trans rfl, (fun h9 => ⟨((zI_t (S := S11) (t := 146) (a := q0) (v := 0) (t' := 148) (a' := q0) (u := (zI S 148 q0)) (by decide) hI11_148)).trans (hTw.2.2.2.2.2.1 h9).1, ((zI_t (S := S11) (t := 146) (a := q0) (v := 0) (t' := 149) (a' := q0) (u := (zI S 149 q0)) (by decide) hI11_149)).trans (hTw.2.2.2.2.2.1 h9).2⟩), (zI_t (S := S11) (t := 146) (a := q0) (v := 0) (t' := 150) (a' := q0) (u := (nI bt)) (by decide) hI11_150), (zI_t (S := S11) (t := 146) (a := q0) (v := 0) (t' := 151) (a' := q0) (u := (zb (wr = true))) (by decide) hI11_151), (zI_t (S := S11) (t := 146) (a := q0) (v := 0) (t' := 152) (a' := q0) (u := (nI ad)) (by decide) hI11_152), (zI_t (S := S11) (t := 146) (a := q0) (v := 0) (t' := 153) (a' := q0) (u := (nI tg)) (by decide) hI11_153)⟩, hp11.1, ((hp11.2.mono (fun _ _ g => Or.inr g) (fun _ _ g => g))).tr (zFr.I (TI := zWI q0 t0) (TR := zNR k1 k2 k3 k4 k5) (Or.inl rfl))⟩ ⟨Nat.le_of_ble_eq_true rfl, Nat.le_of_ble_eq_true rfl⟩ dX5_takeEnd_19

set_option maxHeartbeats 4000000 in
set_option maxRecDepth 100000 in
/-- X5_takeByte -/
theorem c_X5_takeByte (l : Launch) (D : va_G) (y : Nat → ClassId) (base : Nat) (S : zS) (q0 : Nat) (d0 : Nat) (t0 : Nat) (k1 : Nat) (k2 : Nat) (k3 : Nat) (k4 : Nat) (k5 : Nat) (rA : Nat) (fb : Nat) (bt : Nat) (wr : Bool) (ad : Nat) (tg : Nat) (L : List zNt) (num : Nat) (ans : Bool) (i : Nat) (rg : Nat → Int32) (hNt : zNts S t0 k1 k2 k3 k4 k5) (hDv : zDev S d0 rA) (hq : zK S q0 = 9 ∧ zQ S 144 q0 = some t0 ∧ zQ S 145 q0 = some d0) (h149 : zI S 149 q0 = nI fb) (h150 : zI S 150 q0 = nI bt) (h151 : zI S 151 q0 = zb (wr = true)) (h152 : zI S 152 q0 = nI ad) (h153 : zI S 153 q0 = nI tg) (hNo : zNo S t0 k1 k2 k3 k4 k5 L) (hNd : zNd k1 k2 k3 k4 k5) (hLl : L.length < 200) (hnum : num < 256) (hbt : bt < 2 ^ 31) (had : ad < 128) (htg : tg < 16) (hrA : rA ≠ k2 ∧ rA ≠ k3 ∧ rA ≠ k4) (hrg : zR S 22 rA = rg) : zMv l yX5_takeByte wsX5_takeByte ({ frames := 1, cells := 0, slots := 0, locals := 25 }) [.ref q0, .int (nI num), .int (zb (ans = true)), .int (nI i)] D y base S (fun (S1 : zS) => (zK S1 q0 = 9 ∧ zQ S1 144 q0 = some t0 ∧ zQ S1 145 q0 = some d0) ∧ zI S1 150 q0 = nI (bt + 1) ∧ zI S1 151 q0 = zb (zyW num ans bt wr = true) ∧ zI S1 152 q0 = nI (zyA num bt ad) ∧ zI S1 153 q0 = nI (zyT num bt tg) ∧ zNo S1 t0 k1 k2 k3 k4 k5 (L ++ [zyN num ans i fb bt]) ∧ zR S1 22 rA = zyR num ans bt wr ad tg rg ∧ zFr S S1 (zYI q0 t0) (zWR k1 k2 k3 k4 k5 rA)) 0 0 := by
  refine zMet_of (cc := cX5_takeByte) (maxL := 4) (ret := none) (own := RX5) (by decide +kernel) rfl rfl (Nat.le_of_ble_eq_true rfl) ?_
  intro p e s m args below meth c ls C hr hlocks hnm hw hl
  have hx := C.1
  have hb := C.2.1
  have hown := C.2.2.2.1
  have hts := C.2.2.2.2
  have hl : lv_has ls 4 [(0, .ref q0), (1, .int (nI num)), (2, .int (zb (ans = true))), (3, .int (nI i))] := hl
  have in_X5 : ∀ w ∈ wsX50, w ∈ wsX5_takeByte := by decide +kernel
  refine lv_aload_n hx hb dX5_takeByte_0 rfl (lv_at hl 0 rfl) ?_
  refine g_Two_notes (a := q0) (v := t0) C hw hq.1 in_X5 (by decide +kernel) hq.2.1 dX5_takeByte_1 ?_
  refine lv_aload_n hx hb dX5_takeByte_4 rfl (lv_at hl 0 rfl) ?_
  refine g_Two_bytes (a := q0) (v := (nI bt)) C hw hq.1 in_X5 (by decide +kernel) h150 dX5_takeByte_5 ?_
  have jn_1 : ∀ (kd_2 : Int32) (H : Heap) (locs : List Loc) (ls : Array Slot), zW D y base S s H locs → lv_has ls 4 [(0, .ref q0), (1, .int (nI num)), (2, .int (zb (ans = true))), (3, .int (nI i))] → (kd_2 = (if bt = 0 then (65 : Int32) else 68)) → W p l e (headSpec wsX5_takeByte ({ frames := 1, cells := 0, slots := 0, locals := 25 })).room s m args below meth c H locs 0 0 (MQ below (va_Qv (fun (S1 : zS) => (zK S1 q0 = 9 ∧ zQ S1 144 q0 = some t0 ∧ zQ S1 145 q0 = some d0) ∧ zI S1 150 q0 = nI (bt + 1) ∧ zI S1 151 q0 = zb (zyW num ans bt wr = true) ∧ zI S1 152 q0 = nI (zyA num bt ad) ∧ zI S1 153 q0 = nI (zyT num bt tg) ∧ zNo S1 t0 k1 k2 k3 k4 k5 (L ++ [zyN num ans i fb bt]) ∧ zR S1 22 rA = zyR num ans bt wr ad tg rg ∧ zFr S S1 (zYI q0 t0) (zWR k1 k2 k3 k4 k5 rA)) (zPost D y base) (zA base)) args s 0 0 (zA base)) (F0 m 18 ls [.int kd_2, .ref t0]) := by
    intro kd_2 H locs ls hw hl f_3
    have fkd := f_3
    refine lv_aload_n hx hb dX5_takeByte_18 rfl (lv_at hl 0 rfl) ?_
    refine g_Two_firstBit (a := q0) (v := (nI fb)) C hw hq.1 in_X5 (by decide +kernel) h149 dX5_takeByte_19 ?_
    refine lv_iload_n hx hb dX5_takeByte_22 rfl (lv_at hl 3 rfl) ?_
    refine lv_iload_n hx hb dX5_takeByte_23 rfl (lv_at hl 1 rfl) ?_
    refine lv_iload_n hx hb dX5_takeByte_24 rfl (lv_at hl 2 rfl) ?_
    have jn_4 : ∀ (fl_5 : Int32) (H : Heap) (locs : List Loc) (ls : Array Slot), zW D y base S s H locs → lv_has ls 4 [(0, .ref q0), (1, .int (nI num)), (2, .int (zb (ans = true))), (3, .int (nI i))] → (fl_5 = (if ans = true then (45 : Int32) else 110)) → W p l e (headSpec wsX5_takeByte ({ frames := 1, cells := 0, slots := 0, locals := 25 })).room s m args below meth c H locs 0 0 (MQ below (va_Qv (fun (S1 : zS) => (zK S1 q0 = 9 ∧ zQ S1 144 q0 = some t0 ∧ zQ S1 145 q0 = some d0) ∧ zI S1 150 q0 = nI (bt + 1) ∧ zI S1 151 q0 = zb (zyW num ans bt wr = true) ∧ zI S1 152 q0 = nI (zyA num bt ad) ∧ zI S1 153 q0 = nI (zyT num bt tg) ∧ zNo S1 t0 k1 k2 k3 k4 k5 (L ++ [zyN num ans i fb bt]) ∧ zR S1 22 rA = zyR num ans bt wr ad tg rg ∧ zFr S S1 (zYI q0 t0) (zWR k1 k2 k3 k4 k5 rA)) (zPost D y base) (zA base)) args s 0 0 (zA base)) (F0 m 35 ls [.int fl_5, .int (nI num), .int (nI i), .int (nI fb), .int kd_2, .ref t0]) := by
      intro fl_5 H locs ls hw hl f_6
      have ffl := f_6
      refine zcV_v (As := [.int kd_2, .int (nI fb), .int (nI i), .int (nI num), .int fl_5]) (rest := []) (n9 := 5) (b := t0) C hw (c_X3_tell l D y base S t0 k1 k2 k3 k4 k5 kd_2 (nI fb) (nI i) (nI num) fl_5 L hNt hNo hNd hLl (by rw [fkd]; split <;> decide) (by rw [ffl]; split <;> decide)) gX5_takeByte_X3_tell rfl (by decide +kernel) ⟨⟨rfl, rfl⟩, Nat.le_of_ble_eq_true rfl, Nat.le_of_ble_eq_true rfl⟩ hNt.1 ⟨by decide, by decide⟩ rfl rfl hl.1 rfl (Nat.le_of_ble_eq_true rfl) ⟨Nat.le_of_ble_eq_true rfl, Nat.le_of_ble_eq_true rfl⟩ dX5_takeByte_35 (fun S35 H locs hp35 hw => ?_)
      have hNt35 := zNts.fix hp35.2.1 hNt
      have hDv35 := zDev.fix hp35.2.1 hDv
      have hK35 : zK S35 q0 = 9 := (congrFun hp35.2.1.1 q0).trans hq.1
      have hQ35_144 : zQ S35 144 q0 = some t0 := (congrFun (congrFun hp35.2.1.2.1 144) q0).trans hq.2.1
      have hQ35_145 : zQ S35 145 q0 = some d0 := (congrFun (congrFun hp35.2.1.2.1 145) q0).trans hq.2.2
      have hI35_149 : zI S35 149 q0 = (nI fb) := (hp35.2.2.1 149 q0 (fun g => absurd g.1 (by decide))).trans h149
      have hI35_150 : zI S35 150 q0 = (nI bt) := (hp35.2.2.1 150 q0 (fun g => absurd g.1 (by decide))).trans h150
      have hI35_151 : zI S35 151 q0 = (zb (wr = true)) := (hp35.2.2.1 151 q0 (fun g => absurd g.1 (by decide))).trans h151
      have hI35_152 : zI S35 152 q0 = (nI ad) := (hp35.2.2.1 152 q0 (fun g => absurd g.1 (by decide))).trans h152
      have hI35_153 : zI S35 153 q0 = (nI tg) := (hp35.2.2.1 153 q0 (fun g => absurd g.1 (by decide))).trans h153
      have hR35 : zR S35 22 rA = rg := (hp35.2.2.2.1 22 rA (fun g => g.elim (fun g => absurd g.1 (by decide)) (fun g => g.2.elim hrA.1 (fun g => g.elim hrA.2.1 hrA.2.2)))).trans hrg
      have hN35 : zNo S35 t0 k1 k2 k3 k4 k5 (L ++ [zyN num ans i fb bt]) := by have h := hp35.1; unfold zyN; rw [← fkd, ← ffl]; exact h
      refine lv_aload_n hx hb dX5_takeByte_38 rfl (lv_at hl 0 rfl) ?_
      refine g_Two_bytes (a := q0) (v := (nI bt)) C hw hK35 in_X5 (by decide +kernel) hI35_150 dX5_takeByte_39 ?_
      refine lv_if_ne (tgt := 74) hx hb dX5_takeByte_42 (by decide) (fun c42 => ?_) (fun c42 => ?_)
      · have d42 : ¬ bt = 0 := fun e => c42 (by rw [e]; rfl)
        refine lv_aload_n hx hb dX5_takeByte_74 rfl (lv_at hl 0 rfl) ?_
        refine g_Two_bytes (a := q0) (v := (nI bt)) C hw hK35 in_X5 (by decide +kernel) hI35_150 dX5_takeByte_75 ?_
        refine lv_iconst (v := 1) hx hb dX5_takeByte_78 (by decide) ?_
        refine lv_icmp_ne (tgt := 113) hx hb dX5_takeByte_79 (by decide) (fun c79 => ?_) (fun c79 => ?_)
        · have d79 : ¬ bt = 1 := fun e => c79 (by rw [e]; rfl)
          refine lv_aload_n hx hb dX5_takeByte_113 rfl (lv_at hl 0 rfl) ?_
          refine g_Two_bytes (a := q0) (v := (nI bt)) C hw hK35 in_X5 (by decide +kernel) hI35_150 dX5_takeByte_114 ?_
          refine lv_iconst (v := 2) hx hb dX5_takeByte_117 (by decide) ?_
          refine lv_icmp_ne (tgt := 148) hx hb dX5_takeByte_118 (by decide) (fun c118 => ?_) (fun c118 => ?_)
          · refine lv_aload_n hx hb dX5_takeByte_148 rfl (lv_at hl 0 rfl) ?_
            refine lv_dup hx hb dX5_takeByte_149 rfl ?_
            refine g_Two_bytes (a := q0) (v := (nI bt)) C hw hK35 in_X5 (by decide +kernel) hI35_150 dX5_takeByte_150 ?_
            refine lv_iconst (v := 1) hx hb dX5_takeByte_153 (by decide) ?_
            refine lv_iadd hx hb dX5_takeByte_154 ?_
            refine zrd (x := (nI (bt + 1))) (nI_1 _) ?_
            refine p_Two_bytes (a := q0) (v := (nI (bt + 1))) C hw hK35 in_X5 (by decide +kernel) dX5_takeByte_155 (fun H locs hw => ?_)
            exact zrv C hw hr hlocks ⟨⟨hK35, hQ35_144, hQ35_145⟩, (zI_s S35 150 q0 (nI (bt + 1))), ((zI_t (S := S35) (t := 150) (a := q0) (v := (nI (bt + 1))) (t' := 151) (a' := q0) (u := (zb (wr = true))) (by decide) hI35_151)).trans (by unfold zyW; first | rw [if_pos d42, fw61] | rw [if_neg d42, if_pos d79, fw99] | rw [if_neg d42, if_neg d79]), ((zI_t (S := S35) (t := 150) (a := q0) (v := (nI (bt + 1))) (t' := 152) (a' := q0) (u := (nI ad)) (by decide) hI35_152)).trans (by unfold zyA; first | rw [if_pos d42] | rw [if_neg d42]), ((zI_t (S := S35) (t := 150) (a := q0) (v := (nI (bt + 1))) (t' := 153) (a' := q0) (u := (nI tg)) (by decide) hI35_153)).trans (by unfold zyT; first | rw [if_pos d79] | rw [if_neg d79]), (hN35.nI (zFr.I (TI := fun t _ => t ≠ 112) (TR := fun k a => k = 22 ∧ a = rA) (by decide)) hrA), (by show zR S35 22 rA = _; rw [hR35]; unfold zyR; rw [if_neg (by first | exact fun g => d118 g.1 | exact fun g => c125 g.2.1 | exact fun g => c129 g.2.2 | exact fun g => c118 (by rw [g.1]; rfl))]), ((hp35.2.wy q0 rA)).tr (zFr.I (TI := zYI q0 t0) (TR := zWR k1 k2 k3 k4 k5 rA) (Or.inl ⟨rfl, by decide⟩))⟩ ⟨Nat.le_of_ble_eq_true rfl, Nat.le_of_ble_eq_true rfl⟩ dX5_takeByte_158
          · have d118 := (nI_eq (b := 2) hbt (by decide)).mp c118
            refine lv_aload_n hx hb dX5_takeByte_121 rfl (lv_at hl 0 rfl) ?_
            refine g_Two_isWriting (a := q0) (v := (zb (wr = true))) C hw hK35 in_X5 (by decide +kernel) hI35_151 dX5_takeByte_122 ?_
            refine lv_if_eq (tgt := 148) hx hb dX5_takeByte_125 (by decide) (fun c125 => ?_) (fun c125 => ?_)
            · replace c125 := zb0.mp c125
              refine lv_aload_n hx hb dX5_takeByte_148 rfl (lv_at hl 0 rfl) ?_
              refine lv_dup hx hb dX5_takeByte_149 rfl ?_
              refine g_Two_bytes (a := q0) (v := (nI bt)) C hw hK35 in_X5 (by decide +kernel) hI35_150 dX5_takeByte_150 ?_
              refine lv_iconst (v := 1) hx hb dX5_takeByte_153 (by decide) ?_
              refine lv_iadd hx hb dX5_takeByte_154 ?_
              refine zrd (x := (nI (bt + 1))) (nI_1 _) ?_
              refine p_Two_bytes (a := q0) (v := (nI (bt + 1))) C hw hK35 in_X5 (by decide +kernel) dX5_takeByte_155 (fun H locs hw => ?_)
              exact zrv C hw hr hlocks ⟨⟨hK35, hQ35_144, hQ35_145⟩, (zI_s S35 150 q0 (nI (bt + 1))), ((zI_t (S := S35) (t := 150) (a := q0) (v := (nI (bt + 1))) (t' := 151) (a' := q0) (u := (zb (wr = true))) (by decide) hI35_151)).trans (by unfold zyW; first | rw [if_pos d42, fw61] | rw [if_neg d42, if_pos d79, fw99] | rw [if_neg d42, if_neg d79]), ((zI_t (S := S35) (t := 150) (a := q0) (v := (nI (bt + 1))) (t' := 152) (a' := q0) (u := (nI ad)) (by decide) hI35_152)).trans (by unfold zyA; first | rw [if_pos d42] | rw [if_neg d42]), ((zI_t (S := S35) (t := 150) (a := q0) (v := (nI (bt + 1))) (t' := 153) (a' := q0) (u := (nI tg)) (by decide) hI35_153)).trans (by unfold zyT; first | rw [if_pos d79] | rw [if_neg d79]), (hN35.nI (zFr.I (TI := fun t _ => t ≠ 112) (TR := fun k a => k = 22 ∧ a = rA) (by decide)) hrA), (by show zR S35 22 rA = _; rw [hR35]; unfold zyR; rw [if_neg (by first | exact fun g => d118 g.1 | exact fun g => c125 g.2.1 | exact fun g => c129 g.2.2 | exact fun g => c118 (by rw [g.1]; rfl))]), ((hp35.2.wy q0 rA)).tr (zFr.I (TI := zYI q0 t0) (TR := zWR k1 k2 k3 k4 k5 rA) (Or.inl ⟨rfl, by decide⟩))⟩ ⟨Nat.le_of_ble_eq_true rfl, Nat.le_of_ble_eq_true rfl⟩ dX5_takeByte_158
            · replace c125 := zb1.mp c125
              refine lv_iload_n hx hb dX5_takeByte_128 rfl (lv_at hl 2 rfl) ?_
              refine lv_if_eq (tgt := 148) hx hb dX5_takeByte_129 (by decide) (fun c129 => ?_) (fun c129 => ?_)
              · replace c129 := zb0.mp c129
                refine lv_aload_n hx hb dX5_takeByte_148 rfl (lv_at hl 0 rfl) ?_
                refine lv_dup hx hb dX5_takeByte_149 rfl ?_
                refine g_Two_bytes (a := q0) (v := (nI bt)) C hw hK35 in_X5 (by decide +kernel) hI35_150 dX5_takeByte_150 ?_
                refine lv_iconst (v := 1) hx hb dX5_takeByte_153 (by decide) ?_
                refine lv_iadd hx hb dX5_takeByte_154 ?_
                refine zrd (x := (nI (bt + 1))) (nI_1 _) ?_
                refine p_Two_bytes (a := q0) (v := (nI (bt + 1))) C hw hK35 in_X5 (by decide +kernel) dX5_takeByte_155 (fun H locs hw => ?_)
                exact zrv C hw hr hlocks ⟨⟨hK35, hQ35_144, hQ35_145⟩, (zI_s S35 150 q0 (nI (bt + 1))), ((zI_t (S := S35) (t := 150) (a := q0) (v := (nI (bt + 1))) (t' := 151) (a' := q0) (u := (zb (wr = true))) (by decide) hI35_151)).trans (by unfold zyW; first | rw [if_pos d42, fw61] | rw [if_neg d42, if_pos d79, fw99] | rw [if_neg d42, if_neg d79]), ((zI_t (S := S35) (t := 150) (a := q0) (v := (nI (bt + 1))) (t' := 152) (a' := q0) (u := (nI ad)) (by decide) hI35_152)).trans (by unfold zyA; first | rw [if_pos d42] | rw [if_neg d42]), ((zI_t (S := S35) (t := 150) (a := q0) (v := (nI (bt + 1))) (t' := 153) (a' := q0) (u := (nI tg)) (by decide) hI35_153)).trans (by unfold zyT; first | rw [if_pos d79] | rw [if_neg d79]), (hN35.nI (zFr.I (TI := fun t _ => t ≠ 112) (TR := fun k a => k = 22 ∧ a = rA) (by decide)) hrA), (by show zR S35 22 rA = _; rw [hR35]; unfold zyR; rw [if_neg (by first | exact fun g => d118 g.1 | exact fun g => c125 g.2.1 | exact fun g => c129 g.2.2 | exact fun g => c118 (by rw [g.1]; rfl))]), ((hp35.2.wy q0 rA)).tr (zFr.I (TI := zYI q0 t0) (TR := zWR k1 k2 k3 k4 k5 rA) (Or.inl ⟨rfl, by decide⟩))⟩ ⟨Nat.le_of_ble_eq_true rfl, Nat.le_of_ble_eq_true rfl⟩ dX5_takeByte_158
              · replace c129 := zb1.mp c129
                refine lv_aload_n hx hb dX5_takeByte_132 rfl (lv_at hl 0 rfl) ?_
                refine g_Two_devices (a := q0) (v := d0) C hw hK35 in_X5 (by decide +kernel) hQ35_145 dX5_takeByte_133 ?_
                refine lv_aload_n hx hb dX5_takeByte_136 rfl (lv_at hl 0 rfl) ?_
                refine g_Two_address (a := q0) (v := (nI ad)) C hw hK35 in_X5 (by decide +kernel) hI35_152 dX5_takeByte_137 ?_
                refine lv_aload_n hx hb dX5_takeByte_140 rfl (lv_at hl 0 rfl) ?_
                refine g_Two_target (a := q0) (v := (nI tg)) C hw hK35 in_X5 (by decide +kernel) hI35_153 dX5_takeByte_141 ?_
                refine lv_iload_n hx hb dX5_takeByte_144 rfl (lv_at hl 1 rfl) ?_
                refine zcV_v (As := [.int (nI ad), .int (nI tg), .int (nI num)]) (rest := []) (n9 := 3) (b := d0) C hw (c_X1_write l D y base S35 d0 rA ad tg (nI num) hDv35 had htg) gX5_takeByte_X1_write rfl (by decide +kernel) ⟨⟨rfl, rfl⟩, Nat.le_of_ble_eq_true rfl, Nat.le_of_ble_eq_true rfl⟩ hDv35.1 ⟨by decide, by decide⟩ rfl rfl hl.1 rfl (Nat.le_of_ble_eq_true rfl) ⟨Nat.le_of_ble_eq_true rfl, Nat.le_of_ble_eq_true rfl⟩ dX5_takeByte_145 (fun S145 H locs hp145 hw => ?_)
                obtain rfl := hp145
                refine lv_aload_n hx hb dX5_takeByte_148 rfl (lv_at hl 0 rfl) ?_
                refine lv_dup hx hb dX5_takeByte_149 rfl ?_
                refine g_Two_bytes (a := q0) (v := (nI bt)) C hw hK35 in_X5 (by decide +kernel) hI35_150 dX5_takeByte_150 ?_
                refine lv_iconst (v := 1) hx hb dX5_takeByte_153 (by decide) ?_
                refine lv_iadd hx hb dX5_takeByte_154 ?_
                refine zrd (x := (nI (bt + 1))) (nI_1 _) ?_
                refine p_Two_bytes (a := q0) (v := (nI (bt + 1))) C hw hK35 in_X5 (by decide +kernel) dX5_takeByte_155 (fun H locs hw => ?_)
                exact zrv C hw hr hlocks ⟨⟨hK35, hQ35_144, hQ35_145⟩, (zI_s (zsR S35 22 rA (upd (zR S35 22 rA) (ad * 16 + tg) (nI num))) 150 q0 (nI (bt + 1))), ((zI_t (S := (zsR S35 22 rA (upd (zR S35 22 rA) (ad * 16 + tg) (nI num)))) (t := 150) (a := q0) (v := (nI (bt + 1))) (t' := 151) (a' := q0) (u := (zb (wr = true))) (by decide) hI35_151)).trans (by unfold zyW; first | rw [if_pos d42, fw61] | rw [if_neg d42, if_pos d79, fw99] | rw [if_neg d42, if_neg d79]), ((zI_t (S := (zsR S35 22 rA (upd (zR S35 22 rA) (ad * 16 + tg) (nI num)))) (t := 150) (a := q0) (v := (nI (bt + 1))) (t' := 152) (a' := q0) (u := (nI ad)) (by decide) hI35_152)).trans (by unfold zyA; first | rw [if_pos d42] | rw [if_neg d42]), ((zI_t (S := (zsR S35 22 rA (upd (zR S35 22 rA) (ad * 16 + tg) (nI num)))) (t := 150) (a := q0) (v := (nI (bt + 1))) (t' := 153) (a' := q0) (u := (nI tg)) (by decide) hI35_153)).trans (by unfold zyT; first | rw [if_pos d79] | rw [if_neg d79]), (hN35.nI ((zFr.R (TI := fun t _ => t ≠ 112) (TR := fun k a => k = 22 ∧ a = rA) ⟨rfl, rfl⟩).tr (zFr.I (TI := fun t _ => t ≠ 112) (TR := fun k a => k = 22 ∧ a = rA) (by decide))) hrA), (by show zR (zsR S35 22 rA _) 22 rA = _; rw [zR_s, hR35]; unfold zyR; rw [if_pos ⟨d118, c125, c129⟩]), (((hp35.2.wy q0 rA)).tr (zFr.R (Or.inr ⟨rfl, Or.inr (Or.inr (Or.inr rfl))⟩))).tr (zFr.I (TI := zYI q0 t0) (TR := zWR k1 k2 k3 k4 k5 rA) (Or.inl ⟨rfl, by decide⟩))⟩ ⟨Nat.le_of_ble_eq_true rfl, Nat.le_of_ble_eq_true rfl⟩ dX5_takeByte_158
        · have d79 := (nI_eq (b := 1) hbt (by decide)).mp c79
          have d118 : ¬ bt = 2 := by omega
          refine lv_aload_n hx hb dX5_takeByte_82 rfl (lv_at hl 0 rfl) ?_
          refine lv_aload_n hx hb dX5_takeByte_83 rfl (lv_at hl 0 rfl) ?_
          refine g_Two_isWriting (a := q0) (v := (zb (wr = true))) C hw hK35 in_X5 (by decide +kernel) hI35_151 dX5_takeByte_84 ?_
          have jn_7 : ∀ (w_8 : Int32) (H : Heap) (locs : List Loc) (ls : Array Slot), zW D y base S35 s H locs → lv_has ls 4 [(0, .ref q0), (1, .int (nI num)), (2, .int (zb (ans = true))), (3, .int (nI i))] → (w_8 = zb ((wr && ans) = true)) → W p l e (headSpec wsX5_takeByte ({ frames := 1, cells := 0, slots := 0, locals := 25 })).room s m args below meth c H locs 0 0 (MQ below (va_Qv (fun (S1 : zS) => (zK S1 q0 = 9 ∧ zQ S1 144 q0 = some t0 ∧ zQ S1 145 q0 = some d0) ∧ zI S1 150 q0 = nI (bt + 1) ∧ zI S1 151 q0 = zb (zyW num ans bt wr = true) ∧ zI S1 152 q0 = nI (zyA num bt ad) ∧ zI S1 153 q0 = nI (zyT num bt tg) ∧ zNo S1 t0 k1 k2 k3 k4 k5 (L ++ [zyN num ans i fb bt]) ∧ zR S1 22 rA = zyR num ans bt wr ad tg rg ∧ zFr S S1 (zYI q0 t0) (zWR k1 k2 k3 k4 k5 rA)) (zPost D y base) (zA base)) args s 0 0 (zA base)) (F0 m 99 ls [.int w_8, .ref q0]) := by
            intro w_8 H locs ls hw hl f_9
            have fw99 := f_9
            refine p_Two_isWriting (a := q0) (v := w_8) C hw hK35 in_X5 (by decide +kernel) (z01_nf (by rw [f_9]; exact zb_01 _)) dX5_takeByte_99 (fun H locs hw => ?_)
            refine lv_aload_n hx hb dX5_takeByte_102 rfl (lv_at hl 0 rfl) ?_
            refine lv_iload_n hx hb dX5_takeByte_103 rfl (lv_at hl 1 rfl) ?_
            refine lv_bipush (v := 15) hx hb dX5_takeByte_104 (by decide) ?_
            refine lv_iand hx hb dX5_takeByte_106 ?_
            refine zrd (x := (nI (num % 16))) (zbt_15 _ hnum) ?_
            refine p_Two_target (a := q0) (v := (nI (num % 16))) C hw hK35 in_X5 (by decide +kernel) dX5_takeByte_107 (fun H locs hw => ?_)
            refine lv_goto (tgt := 148) hx hb dX5_takeByte_110 (by decide) ?_
            refine lv_aload_n hx hb dX5_takeByte_148 rfl (lv_at hl 0 rfl) ?_
            refine lv_dup hx hb dX5_takeByte_149 rfl ?_
            refine g_Two_bytes (a := q0) (v := (nI bt)) C hw hK35 in_X5 (by decide +kernel) (zI_t (S := (zsI S35 151 q0 w_8)) (t := 153) (a := q0) (v := (nI (num % 16))) (t' := 150) (a' := q0) (u := (nI bt)) (by decide) (zI_t (S := S35) (t := 151) (a := q0) (v := w_8) (t' := 150) (a' := q0) (u := (nI bt)) (by decide) hI35_150)) dX5_takeByte_150 ?_
            refine lv_iconst (v := 1) hx hb dX5_takeByte_153 (by decide) ?_
            refine lv_iadd hx hb dX5_takeByte_154 ?_
            refine zrd (x := (nI (bt + 1))) (nI_1 _) ?_
            refine p_Two_bytes (a := q0) (v := (nI (bt + 1))) C hw hK35 in_X5 (by decide +kernel) dX5_takeByte_155 (fun H locs hw => ?_)
            exact zrv C hw hr hlocks ⟨⟨hK35, hQ35_144, hQ35_145⟩, (zI_s (zsI (zsI S35 151 q0 w_8) 153 q0 (nI (num % 16))) 150 q0 (nI (bt + 1))), ((zI_t (S := (zsI (zsI S35 151 q0 w_8) 153 q0 (nI (num % 16)))) (t := 150) (a := q0) (v := (nI (bt + 1))) (t' := 151) (a' := q0) (u := w_8) (by decide) (zI_t (S := (zsI S35 151 q0 w_8)) (t := 153) (a := q0) (v := (nI (num % 16))) (t' := 151) (a' := q0) (u := w_8) (by decide) (zI_s S35 151 q0 w_8)))).trans (by unfold zyW; first | rw [if_pos d42, fw61] | rw [if_neg d42, if_pos d79, fw99] | rw [if_neg d42, if_neg d79]), ((zI_t (S := (zsI (zsI S35 151 q0 w_8) 153 q0 (nI (num % 16)))) (t := 150) (a := q0) (v := (nI (bt + 1))) (t' := 152) (a' := q0) (u := (nI ad)) (by decide) (zI_t (S := (zsI S35 151 q0 w_8)) (t := 153) (a := q0) (v := (nI (num % 16))) (t' := 152) (a' := q0) (u := (nI ad)) (by decide) (zI_t (S := S35) (t := 151) (a := q0) (v := w_8) (t' := 152) (a' := q0) (u := (nI ad)) (by decide) hI35_152)))).trans (by unfold zyA; first | rw [if_pos d42] | rw [if_neg d42]), ((zI_t (S := (zsI (zsI S35 151 q0 w_8) 153 q0 (nI (num % 16)))) (t := 150) (a := q0) (v := (nI (bt + 1))) (t' := 153) (a' := q0) (u := (nI (num % 16))) (by decide) (zI_s (zsI S35 151 q0 w_8) 153 q0 (nI (num % 16))))).trans (by unfold zyT; first | rw [if_pos d79] | rw [if_neg d79]), (hN35.nI ((zFr.I (TI := fun t _ => t ≠ 112) (TR := fun k a => k = 22 ∧ a = rA) (by decide)).tr ((zFr.I (TI := fun t _ => t ≠ 112) (TR := fun k a => k = 22 ∧ a = rA) (by decide)).tr (zFr.I (TI := fun t _ => t ≠ 112) (TR := fun k a => k = 22 ∧ a = rA) (by decide)))) hrA), (by show zR S35 22 rA = _; rw [hR35]; unfold zyR; rw [if_neg (by first | exact fun g => d118 g.1 | exact fun g => c125 g.2.1 | exact fun g => c129 g.2.2 | exact fun g => c118 (by rw [g.1]; rfl))]), ((((hp35.2.wy q0 rA)).tr (zFr.I (TI := zYI q0 t0) (TR := zWR k1 k2 k3 k4 k5 rA) (Or.inl ⟨rfl, by decide⟩))).tr (zFr.I (TI := zYI q0 t0) (TR := zWR k1 k2 k3 k4 k5 rA) (Or.inl ⟨rfl, by decide⟩))).tr (zFr.I (TI := zYI q0 t0) (TR := zWR k1 k2 k3 k4 k5 rA) (Or.inl ⟨rfl, by decide⟩))⟩ ⟨Nat.le_of_ble_eq_true rfl, Nat.le_of_ble_eq_true rfl⟩ dX5_takeByte_158
          refine lv_if_eq (tgt := 98) hx hb dX5_takeByte_87 (by decide) (fun c87 => ?_) (fun c87 => ?_)
          · replace c87 := zb0.mp c87
            refine lv_iconst (v := 0) hx hb dX5_takeByte_98 (by decide) ?_
            exact jn_7 0 _ _ _ hw (lv_sub hl [0, 1, 2, 3] rfl) (by first | exact zan_l c87 | exact zan_r c91 | exact zan_t c87 c91)
          · replace c87 := zb1.mp c87
            refine lv_iload_n hx hb dX5_takeByte_90 rfl (lv_at hl 2 rfl) ?_
            refine lv_if_eq (tgt := 98) hx hb dX5_takeByte_91 (by decide) (fun c91 => ?_) (fun c91 => ?_)
            · replace c91 := zb0.mp c91
              refine lv_iconst (v := 0) hx hb dX5_takeByte_98 (by decide) ?_
              exact jn_7 0 _ _ _ hw (lv_sub hl [0, 1, 2, 3] rfl) (by first | exact zan_l c87 | exact zan_r c91 | exact zan_t c87 c91)
            · replace c91 := zb1.mp c91
              refine lv_iconst (v := 1) hx hb dX5_takeByte_94 (by decide) ?_
              refine lv_goto (tgt := 99) hx hb dX5_takeByte_95 (by decide) ?_
              exact jn_7 1 _ _ _ hw (lv_sub hl [0, 1, 2, 3] rfl) (by first | exact zan_l c87 | exact zan_r c91 | exact zan_t c87 c91)
      · have d42 := (nI_eq (b := 0) hbt (by decide)).mp c42
        have d79 : ¬ bt = 1 := by omega
        have d118 : ¬ bt = 2 := by omega
        refine lv_aload_n hx hb dX5_takeByte_45 rfl (lv_at hl 0 rfl) ?_
        refine lv_iload_n hx hb dX5_takeByte_46 rfl (lv_at hl 2 rfl) ?_
        have jn_10 : ∀ (w_11 : Int32) (H : Heap) (locs : List Loc) (ls : Array Slot), zW D y base S35 s H locs → lv_has ls 4 [(0, .ref q0), (1, .int (nI num)), (2, .int (zb (ans = true))), (3, .int (nI i))] → (w_11 = zb ((ans && decide (num % 2 = 0)) = true)) → W p l e (headSpec wsX5_takeByte ({ frames := 1, cells := 0, slots := 0, locals := 25 })).room s m args below meth c H locs 0 0 (MQ below (va_Qv (fun (S1 : zS) => (zK S1 q0 = 9 ∧ zQ S1 144 q0 = some t0 ∧ zQ S1 145 q0 = some d0) ∧ zI S1 150 q0 = nI (bt + 1) ∧ zI S1 151 q0 = zb (zyW num ans bt wr = true) ∧ zI S1 152 q0 = nI (zyA num bt ad) ∧ zI S1 153 q0 = nI (zyT num bt tg) ∧ zNo S1 t0 k1 k2 k3 k4 k5 (L ++ [zyN num ans i fb bt]) ∧ zR S1 22 rA = zyR num ans bt wr ad tg rg ∧ zFr S S1 (zYI q0 t0) (zWR k1 k2 k3 k4 k5 rA)) (zPost D y base) (zA base)) args s 0 0 (zA base)) (F0 m 61 ls [.int w_11, .ref q0]) := by
          intro w_11 H locs ls hw hl f_12
          have fw61 := f_12
          refine p_Two_isWriting (a := q0) (v := w_11) C hw hK35 in_X5 (by decide +kernel) (z01_nf (by rw [f_12]; exact zb_01 _)) dX5_takeByte_61 (fun H locs hw => ?_)
          refine lv_aload_n hx hb dX5_takeByte_64 rfl (lv_at hl 0 rfl) ?_
          refine lv_iload_n hx hb dX5_takeByte_65 rfl (lv_at hl 1 rfl) ?_
          refine lv_iconst (v := 1) hx hb dX5_takeByte_66 (by decide) ?_
          refine lv_ishr hx hb dX5_takeByte_67 ?_
          refine zrd (x := (nI (num / 2))) (zbt_r _ (by omega)) ?_
          refine p_Two_address (a := q0) (v := (nI (num / 2))) C hw hK35 in_X5 (by decide +kernel) dX5_takeByte_68 (fun H locs hw => ?_)
          refine lv_goto (tgt := 148) hx hb dX5_takeByte_71 (by decide) ?_
          refine lv_aload_n hx hb dX5_takeByte_148 rfl (lv_at hl 0 rfl) ?_
          refine lv_dup hx hb dX5_takeByte_149 rfl ?_
          refine g_Two_bytes (a := q0) (v := (nI bt)) C hw hK35 in_X5 (by decide +kernel) (zI_t (S := (zsI S35 151 q0 w_11)) (t := 152) (a := q0) (v := (nI (num / 2))) (t' := 150) (a' := q0) (u := (nI bt)) (by decide) (zI_t (S := S35) (t := 151) (a := q0) (v := w_11) (t' := 150) (a' := q0) (u := (nI bt)) (by decide) hI35_150)) dX5_takeByte_150 ?_
          refine lv_iconst (v := 1) hx hb dX5_takeByte_153 (by decide) ?_
          refine lv_iadd hx hb dX5_takeByte_154 ?_
          refine zrd (x := (nI (bt + 1))) (nI_1 _) ?_
          refine p_Two_bytes (a := q0) (v := (nI (bt + 1))) C hw hK35 in_X5 (by decide +kernel) dX5_takeByte_155 (fun H locs hw => ?_)
          exact zrv C hw hr hlocks ⟨⟨hK35, hQ35_144, hQ35_145⟩, (zI_s (zsI (zsI S35 151 q0 w_11) 152 q0 (nI (num / 2))) 150 q0 (nI (bt + 1))), ((zI_t (S := (zsI (zsI S35 151 q0 w_11) 152 q0 (nI (num / 2)))) (t := 150) (a := q0) (v := (nI (bt + 1))) (t' := 151) (a' := q0) (u := w_11) (by decide) (zI_t (S := (zsI S35 151 q0 w_11)) (t := 152) (a := q0) (v := (nI (num / 2))) (t' := 151) (a' := q0) (u := w_11) (by decide) (zI_s S35 151 q0 w_11)))).trans (by unfold zyW; first | rw [if_pos d42, fw61] | rw [if_neg d42, if_pos d79, fw99] | rw [if_neg d42, if_neg d79]), ((zI_t (S := (zsI (zsI S35 151 q0 w_11) 152 q0 (nI (num / 2)))) (t := 150) (a := q0) (v := (nI (bt + 1))) (t' := 152) (a' := q0) (u := (nI (num / 2))) (by decide) (zI_s (zsI S35 151 q0 w_11) 152 q0 (nI (num / 2))))).trans (by unfold zyA; first | rw [if_pos d42] | rw [if_neg d42]), ((zI_t (S := (zsI (zsI S35 151 q0 w_11) 152 q0 (nI (num / 2)))) (t := 150) (a := q0) (v := (nI (bt + 1))) (t' := 153) (a' := q0) (u := (nI tg)) (by decide) (zI_t (S := (zsI S35 151 q0 w_11)) (t := 152) (a := q0) (v := (nI (num / 2))) (t' := 153) (a' := q0) (u := (nI tg)) (by decide) (zI_t (S := S35) (t := 151) (a := q0) (v := w_11) (t' := 153) (a' := q0) (u := (nI tg)) (by decide) hI35_153)))).trans (by unfold zyT; first | rw [if_pos d79] | rw [if_neg d79]), (hN35.nI ((zFr.I (TI := fun t _ => t ≠ 112) (TR := fun k a => k = 22 ∧ a = rA) (by decide)).tr ((zFr.I (TI := fun t _ => t ≠ 112) (TR := fun k a => k = 22 ∧ a = rA) (by decide)).tr (zFr.I (TI := fun t _ => t ≠ 112) (TR := fun k a => k = 22 ∧ a = rA) (by decide)))) hrA), (by show zR S35 22 rA = _; rw [hR35]; unfold zyR; rw [if_neg (by first | exact fun g => d118 g.1 | exact fun g => c125 g.2.1 | exact fun g => c129 g.2.2 | exact fun g => c118 (by rw [g.1]; rfl))]), ((((hp35.2.wy q0 rA)).tr (zFr.I (TI := zYI q0 t0) (TR := zWR k1 k2 k3 k4 k5 rA) (Or.inl ⟨rfl, by decide⟩))).tr (zFr.I (TI := zYI q0 t0) (TR := zWR k1 k2 k3 k4 k5 rA) (Or.inl ⟨rfl, by decide⟩))).tr (zFr.I (TI := zYI q0 t0) (TR := zWR k1 k2 k3 k4 k5 rA) (Or.inl ⟨rfl, by decide⟩))⟩ ⟨Nat.le_of_ble_eq_true rfl, Nat.le_of_ble_eq_true rfl⟩ dX5_takeByte_158
        refine lv_if_eq (tgt := 60) hx hb dX5_takeByte_47 (by decide) (fun c47 => ?_) (fun c47 => ?_)
        · replace c47 := zb0.mp c47
          refine lv_iconst (v := 0) hx hb dX5_takeByte_60 (by decide) ?_
          exact jn_10 0 _ _ _ hw (lv_sub hl [0, 1, 2, 3] rfl) (by first | exact zan_l c47 | exact zan_r (fun g => c53 ((zbt_i hnum).mpr (of_decide_eq_true g))) | exact zan_t c47 (decide_eq_true ((zbt_i hnum).mp c53)))
        · replace c47 := zb1.mp c47
          refine lv_iload_n hx hb dX5_takeByte_50 rfl (lv_at hl 1 rfl) ?_
          refine lv_iconst (v := 1) hx hb dX5_takeByte_51 (by decide) ?_
          refine lv_iand hx hb dX5_takeByte_52 ?_
          refine lv_if_ne (tgt := 60) hx hb dX5_takeByte_53 (by decide) (fun c53 => ?_) (fun c53 => ?_)
          · refine lv_iconst (v := 0) hx hb dX5_takeByte_60 (by decide) ?_
            exact jn_10 0 _ _ _ hw (lv_sub hl [0, 1, 2, 3] rfl) (by first | exact zan_l c47 | exact zan_r (fun g => c53 ((zbt_i hnum).mpr (of_decide_eq_true g))) | exact zan_t c47 (decide_eq_true ((zbt_i hnum).mp c53)))
          · refine lv_iconst (v := 1) hx hb dX5_takeByte_56 (by decide) ?_
            refine lv_goto (tgt := 61) hx hb dX5_takeByte_57 (by decide) ?_
            exact jn_10 1 _ _ _ hw (lv_sub hl [0, 1, 2, 3] rfl) (by first | exact zan_l c47 | exact zan_r (fun g => c53 ((zbt_i hnum).mpr (of_decide_eq_true g))) | exact zan_t c47 (decide_eq_true ((zbt_i hnum).mp c53)))
    refine lv_if_eq (tgt := 33) hx hb dX5_takeByte_25 (by decide) (fun c25 => ?_) (fun c25 => ?_)
    · replace c25 := zb0.mp c25
      refine lv_bipush (v := 110) hx hb dX5_takeByte_33 (by decide) ?_
      exact jn_4 110 _ _ _ hw (lv_sub hl [0, 1, 2, 3] rfl) (by first | rw [if_pos c25] | rw [if_neg c25])
    · replace c25 := zb1.mp c25
      refine lv_bipush (v := 45) hx hb dX5_takeByte_28 (by decide) ?_
      refine lv_goto (tgt := 35) hx hb dX5_takeByte_30 (by decide) ?_
      exact jn_4 45 _ _ _ hw (lv_sub hl [0, 1, 2, 3] rfl) (by first | rw [if_pos c25] | rw [if_neg c25])
  refine lv_if_ne (tgt := 16) hx hb dX5_takeByte_8 (by decide) (fun c8 => ?_) (fun c8 => ?_)
  · refine lv_bipush (v := 68) hx hb dX5_takeByte_16 (by decide) ?_
    exact jn_1 68 _ _ _ hw (lv_sub hl [0, 1, 2, 3] rfl) (by first | rw [if_pos ((nI_eq (b := 0) hbt (by decide)).mp c8)] | rw [if_neg (fun e => c8 (by rw [e]; rfl))])
  · refine lv_bipush (v := 65) hx hb dX5_takeByte_11 (by decide) ?_
    refine lv_goto (tgt := 18) hx hb dX5_takeByte_13 (by decide) ?_
    exact jn_1 65 _ _ _ hw (lv_sub hl [0, 1, 2, 3] rfl) (by first | rw [if_pos ((nI_eq (b := 0) hbt (by decide)).mp c8)] | rw [if_neg (fun e => c8 (by rw [e]; rfl))])

set_option maxHeartbeats 4000000 in
set_option maxRecDepth 100000 in
/-- X5_takeBit -/
theorem c_X5_takeBit (l : Launch) (D : va_G) (y : Nat → ClassId) (base : Nat) (S : zS) (q0 : Nat) (d0 : Nat) (t0 : Nat) (k1 : Nat) (k2 : Nat) (k3 : Nat) (k4 : Nat) (k5 : Nat) (rA : Nat) (st0 : Bool) (bs : List Bool) (fb : Nat) (bt : Nat) (wr : Bool) (ad : Nat) (tg : Nat) (L : List zNt) (rg : Nat → Int32) (b : Bool) (i : Nat) (hNt : zNts S t0 k1 k2 k3 k4 k5) (hDv : zDev S d0 rA) (hTw : zTw S q0 t0 d0 st0 bs fb bt wr ad tg) (hNo : zNo S t0 k1 k2 k3 k4 k5 L) (hNd : zNd k1 k2 k3 k4 k5) (hLl : L.length < 200) (hbl : bs.length < 9) (hbt : bt < 2 ^ 31) (had : ad < 128) (htg : tg < 16) (hrA : rA ≠ k2 ∧ rA ≠ k3 ∧ rA ≠ k4) (hrg : zR S 22 rA = rg) : zMv l yX5_takeBit wsX5_takeBit ({ frames := 2, cells := 0, slots := 0, locals := 48 }) [.ref q0, .int (zb (b = true)), .int (nI i)] D y base S (fun (S1 : zS) => zTP S1 q0 t0 d0 k1 k2 k3 k4 k5 rA (zTB b i (st0, bs, fb, bt, wr, ad, tg, L, rg)) ∧ zFr S S1 (zWI q0 t0) (zWR k1 k2 k3 k4 k5 rA)) 0 0 := by
  refine zMet_of (cc := cX5_takeBit) (maxL := 3) (ret := none) (own := RX5) (by decide +kernel) rfl rfl (Nat.le_of_ble_eq_true rfl) ?_
  intro p e s m args below meth c ls C hr hlocks hnm hw hl
  have hx := C.1
  have hb := C.2.1
  have hown := C.2.2.2.1
  have hts := C.2.2.2.2
  have hl : lv_has ls 3 [(0, .ref q0), (1, .int (zb (b = true))), (2, .int (nI i))] := hl
  have in_X5 : ∀ w ∈ wsX50, w ∈ wsX5_takeBit := by decide +kernel
  refine lv_aload_n hx hb dX5_takeBit_0 rfl (lv_at hl 0 rfl) ?_
  refine g_Two_isStarted (a := q0) (v := (zb (st0 = true))) C hw hTw.1 in_X5 (by decide +kernel) hTw.2.2.2.1 dX5_takeBit_1 ?_
  refine lv_if_ne (tgt := 8) hx hb dX5_takeBit_4 (by decide) (fun c4 => ?_) (fun c4 => ?_)
  · replace c4 := zb1.mp c4
    refine lv_aload_n hx hb dX5_takeBit_8 rfl (lv_at hl 0 rfl) ?_
    refine g_Two_bits (a := q0) (v := (nI bs.length)) C hw hTw.1 in_X5 (by decide +kernel) hTw.2.2.2.2.1 dX5_takeBit_9 ?_
    refine lv_if_ne (tgt := 25) hx hb dX5_takeBit_12 (by decide) (fun c12 => ?_) (fun c12 => ?_)
    · have hbs : ¬ bs = [] := fun e => c12 (by rw [e]; rfl)
      have hw9 := hTw.2.2.2.2.2.1 hbs
      refine lv_aload_n hx hb dX5_takeBit_25 rfl (lv_at hl 0 rfl) ?_
      refine lv_aload_n hx hb dX5_takeBit_26 rfl (lv_at hl 0 rfl) ?_
      refine g_Two_word (a := q0) (v := (nI (zval bs))) C hw hTw.1 in_X5 (by decide +kernel) hw9.1 dX5_takeBit_27 ?_
      refine lv_iconst (v := 1) hx hb dX5_takeBit_30 (by decide) ?_
      refine lv_ishl hx hb dX5_takeBit_31 ?_
      refine lv_iload_n hx hb dX5_takeBit_32 rfl (lv_at hl 1 rfl) ?_
      have jn_1 : ∀ (xb_2 : Int32) (H : Heap) (locs : List Loc) (ls : Array Slot), zW D y base S s H locs → lv_has ls 3 [(0, .ref q0), (1, .int (zb (b = true))), (2, .int (nI i))] → ((b = true ∧ xb_2 = 1) ∨ (b = false ∧ xb_2 = 0)) → W p l e (headSpec wsX5_takeBit ({ frames := 2, cells := 0, slots := 0, locals := 48 })).room s m args below meth c H locs 0 0 (MQ below (va_Qv (fun (S1 : zS) => zTP S1 q0 t0 d0 k1 k2 k3 k4 k5 rA (zTB b i (st0, bs, fb, bt, wr, ad, tg, L, rg)) ∧ zFr S S1 (zWI q0 t0) (zWR k1 k2 k3 k4 k5 rA)) (zPost D y base) (zA base)) args s 0 0 (zA base)) (F0 m 41 ls [.int xb_2, .int ((nI (zval bs)) <<< (1 &&& 31)), .ref q0]) := by
        intro xb_2 H locs ls hw hl f_3
        have fbit := f_3
        refine lv_ior hx hb dX5_takeBit_41 ?_
        refine zrd (x := (nI (zval (b :: bs)))) (zbt b (by omega) rfl fbit) ?_
        refine p_Two_word (a := q0) (v := (nI (zval (b :: bs)))) C hw hTw.1 in_X5 (by decide +kernel) dX5_takeBit_42 (fun H locs hw => ?_)
        refine lv_aload_n hx hb dX5_takeBit_45 rfl (lv_at hl 0 rfl) ?_
        refine lv_dup hx hb dX5_takeBit_46 rfl ?_
        refine g_Two_bits (a := q0) (v := (nI bs.length)) C hw hTw.1 in_X5 (by decide +kernel) (zI_t (S := S) (t := 148) (a := q0) (v := (nI (zval (b :: bs)))) (t' := 147) (a' := q0) (u := (nI bs.length)) (by decide) hTw.2.2.2.2.1) dX5_takeBit_47 ?_
        refine lv_iconst (v := 1) hx hb dX5_takeBit_50 (by decide) ?_
        refine lv_iadd hx hb dX5_takeBit_51 ?_
        refine zrd (x := (nI (bs.length + 1))) (nI_1 _) ?_
        refine p_Two_bits (a := q0) (v := (nI (bs.length + 1))) C hw hTw.1 in_X5 (by decide +kernel) dX5_takeBit_52 (fun H locs hw => ?_)
        refine lv_aload_n hx hb dX5_takeBit_55 rfl (lv_at hl 0 rfl) ?_
        have hF9 : zFr S (zsI (zsI S 148 q0 (nI (zval (b :: bs)))) 147 q0 (nI (bs.length + 1))) (fun t a => t ≠ 112 ∧ a = q0) (fun _ _ => False) := ((zFr.I (TI := fun t a => t ≠ 112 ∧ a = q0) (TR := fun _ _ => False) ⟨by decide, rfl⟩).tr (zFr.I (TI := fun t a => t ≠ 112 ∧ a = q0) (TR := fun _ _ => False) ⟨by decide, rfl⟩))
        have hNo9 : zNo (zsI (zsI S 148 q0 (nI (zval (b :: bs)))) 147 q0 (nI (bs.length + 1))) t0 k1 k2 k3 k4 k5 L := hNo.fr hF9 (fun g => g.1 rfl) (fun g => g) (fun g => g) (fun g => g) (fun g => g) (fun g => g)
        have hR9 : zR (zsI (zsI S 148 q0 (nI (zval (b :: bs)))) 147 q0 (nI (bs.length + 1))) 22 rA = rg := (hF9.2.2.1 22 rA (fun g => g)).trans hrg
        have hF8 := hF9.mono (TI' := zWI q0 t0) (TR' := zWR k1 k2 k3 k4 k5 rA) (fun _ _ g => Or.inl g.2) (fun _ _ g => g.elim)
        refine g_Two_bits (a := q0) (v := (nI (bs.length + 1))) C hw hTw.1 in_X5 (by decide +kernel) (zI_s (zsI S 148 q0 (nI (zval (b :: bs)))) 147 q0 (nI (bs.length + 1))) dX5_takeBit_56 ?_
        refine lv_bipush (v := 9) hx hb dX5_takeBit_59 (by decide) ?_
        refine lv_icmp_ne (tgt := 94) hx hb dX5_takeBit_61 (by decide) (fun c61 => ?_) (fun c61 => ?_)
        · exact zrv C hw hr hlocks (by have hnb : ¬ bs.length + 1 = 9 := fun e => c61 (by rw [e]; rfl); rw [zTB_n c4 hnb]; exact ⟨⟨⟨hTw.1, hTw.2.1, hTw.2.2.1, (zI_t (S := (zsI S 148 q0 (nI (zval (b :: bs))))) (t := 147) (a := q0) (v := (nI (bs.length + 1))) (t' := 146) (a' := q0) (u := (zb (st0 = true))) (by decide) (zI_t (S := S) (t := 148) (a := q0) (v := (nI (zval (b :: bs)))) (t' := 146) (a' := q0) (u := (zb (st0 = true))) (by decide) hTw.2.2.2.1)), (zI_s (zsI S 148 q0 (nI (zval (b :: bs)))) 147 q0 (nI (bs.length + 1))), (fun _ => ⟨(zI_t (S := (zsI S 148 q0 (nI (zval (b :: bs))))) (t := 147) (a := q0) (v := (nI (bs.length + 1))) (t' := 148) (a' := q0) (u := (nI (zval (b :: bs)))) (by decide) (zI_s S 148 q0 (nI (zval (b :: bs))))), (zI_t (S := (zsI S 148 q0 (nI (zval (b :: bs))))) (t := 147) (a := q0) (v := (nI (bs.length + 1))) (t' := 149) (a' := q0) (u := (nI (if bs = [] then i else fb))) (by decide) (zI_t (S := S) (t := 148) (a := q0) (v := (nI (zval (b :: bs)))) (t' := 149) (a' := q0) (u := (nI (if bs = [] then i else fb))) (by decide) (hw9.2.trans (by rw [if_neg hbs]))))⟩), (zI_t (S := (zsI S 148 q0 (nI (zval (b :: bs))))) (t := 147) (a := q0) (v := (nI (bs.length + 1))) (t' := 150) (a' := q0) (u := (nI bt)) (by decide) (zI_t (S := S) (t := 148) (a := q0) (v := (nI (zval (b :: bs)))) (t' := 150) (a' := q0) (u := (nI bt)) (by decide) hTw.2.2.2.2.2.2.1)), (zI_t (S := (zsI S 148 q0 (nI (zval (b :: bs))))) (t := 147) (a := q0) (v := (nI (bs.length + 1))) (t' := 151) (a' := q0) (u := (zb (wr = true))) (by decide) (zI_t (S := S) (t := 148) (a := q0) (v := (nI (zval (b :: bs)))) (t' := 151) (a' := q0) (u := (zb (wr = true))) (by decide) hTw.2.2.2.2.2.2.2.1)), (zI_t (S := (zsI S 148 q0 (nI (zval (b :: bs))))) (t := 147) (a := q0) (v := (nI (bs.length + 1))) (t' := 152) (a' := q0) (u := (nI ad)) (by decide) (zI_t (S := S) (t := 148) (a := q0) (v := (nI (zval (b :: bs)))) (t' := 152) (a' := q0) (u := (nI ad)) (by decide) hTw.2.2.2.2.2.2.2.2.1)), (zI_t (S := (zsI S 148 q0 (nI (zval (b :: bs))))) (t := 147) (a := q0) (v := (nI (bs.length + 1))) (t' := 153) (a' := q0) (u := (nI tg)) (by decide) (zI_t (S := S) (t := 148) (a := q0) (v := (nI (zval (b :: bs)))) (t' := 153) (a' := q0) (u := (nI tg)) (by decide) hTw.2.2.2.2.2.2.2.2.2))⟩, hNo9, hR9⟩, hF8⟩) ⟨Nat.le_of_ble_eq_true rfl, Nat.le_of_ble_eq_true rfl⟩ dX5_takeBit_94
        · have hb9 : bs.length + 1 = 9 := (nI_eq (b := 9) (by omega) (by decide)).mp c61
          have hzv : zval (b :: bs) < 512 := by have h := zval_lt (b :: bs); rw [show (b :: bs).length = 9 from hb9] at h; exact h
          have hzv2 : zval bs < 256 := by rw [zvl] at hzv; omega
          refine lv_aload_n hx hb dX5_takeBit_64 rfl (lv_at hl 0 rfl) ?_
          refine lv_aload_n hx hb dX5_takeBit_65 rfl (lv_at hl 0 rfl) ?_
          refine g_Two_word (a := q0) (v := (nI (zval (b :: bs)))) C hw hTw.1 in_X5 (by decide +kernel) (zI_t (S := (zsI S 148 q0 (nI (zval (b :: bs))))) (t := 147) (a := q0) (v := (nI (bs.length + 1))) (t' := 148) (a' := q0) (u := (nI (zval (b :: bs)))) (by decide) (zI_s S 148 q0 (nI (zval (b :: bs))))) dX5_takeBit_66 ?_
          refine lv_iconst (v := 1) hx hb dX5_takeBit_69 (by decide) ?_
          refine lv_ishr hx hb dX5_takeBit_70 ?_
          refine zrd (x := (nI (zval bs))) ((zbt_r _ hzv).trans (by rw [zvl]; congr 1; split <;> omega)) ?_
          refine lv_aload_n hx hb dX5_takeBit_71 rfl (lv_at hl 0 rfl) ?_
          refine g_Two_word (a := q0) (v := (nI (zval (b :: bs)))) C hw hTw.1 in_X5 (by decide +kernel) (zI_t (S := (zsI S 148 q0 (nI (zval (b :: bs))))) (t := 147) (a := q0) (v := (nI (bs.length + 1))) (t' := 148) (a' := q0) (u := (nI (zval (b :: bs)))) (by decide) (zI_s S 148 q0 (nI (zval (b :: bs))))) dX5_takeBit_72 ?_
          refine lv_iconst (v := 1) hx hb dX5_takeBit_75 (by decide) ?_
          refine lv_iand hx hb dX5_takeBit_76 ?_
          have jn_4 : ∀ (xa_5 : Int32) (H : Heap) (locs : List Loc) (ls : Array Slot), zW D y base (zsI (zsI S 148 q0 (nI (zval (b :: bs)))) 147 q0 (nI (bs.length + 1))) s H locs → lv_has ls 3 [(0, .ref q0), (1, .int (zb (b = true))), (2, .int (nI i))] → (xa_5 = zb ((!b) = true)) → W p l e (headSpec wsX5_takeBit ({ frames := 2, cells := 0, slots := 0, locals := 48 })).room s m args below meth c H locs 0 0 (MQ below (va_Qv (fun (S1 : zS) => zTP S1 q0 t0 d0 k1 k2 k3 k4 k5 rA (zTB b i (st0, bs, fb, bt, wr, ad, tg, L, rg)) ∧ zFr S S1 (zWI q0 t0) (zWR k1 k2 k3 k4 k5 rA)) (zPost D y base) (zA base)) args s 0 0 (zA base)) (F0 m 85 ls [.int xa_5, .int (nI (zval bs)), .ref q0]) := by
            intro xa_5 H locs ls hw hl f_6
            subst f_6
            refine lv_iload_n hx hb dX5_takeBit_85 rfl (lv_at hl 2 rfl) ?_
            refine zcV_v (As := [.int (nI (zval bs)), .int (zb ((!b) = true)), .int (nI i)]) (rest := []) (n9 := 3) (b := q0) C hw (c_X5_takeByte l D y base (zsI (zsI S 148 q0 (nI (zval (b :: bs)))) 147 q0 (nI (bs.length + 1))) q0 d0 t0 k1 k2 k3 k4 k5 rA (if bs = [] then i else fb) bt wr ad tg L (zval bs) (!b) i rg hNt hDv ⟨hTw.1, hTw.2.1, hTw.2.2.1⟩ (zI_t (S := (zsI S 148 q0 (nI (zval (b :: bs))))) (t := 147) (a := q0) (v := (nI (bs.length + 1))) (t' := 149) (a' := q0) (u := (nI (if bs = [] then i else fb))) (by decide) (zI_t (S := S) (t := 148) (a := q0) (v := (nI (zval (b :: bs)))) (t' := 149) (a' := q0) (u := (nI (if bs = [] then i else fb))) (by decide) (hw9.2.trans (by rw [if_neg hbs])))) (zI_t (S := (zsI S 148 q0 (nI (zval (b :: bs))))) (t := 147) (a := q0) (v := (nI (bs.length + 1))) (t' := 150) (a' := q0) (u := (nI bt)) (by decide) (zI_t (S := S) (t := 148) (a := q0) (v := (nI (zval (b :: bs)))) (t' := 150) (a' := q0) (u := (nI bt)) (by decide) hTw.2.2.2.2.2.2.1)) (zI_t (S := (zsI S 148 q0 (nI (zval (b :: bs))))) (t := 147) (a := q0) (v := (nI (bs.length + 1))) (t' := 151) (a' := q0) (u := (zb (wr = true))) (by decide) (zI_t (S := S) (t := 148) (a := q0) (v := (nI (zval (b :: bs)))) (t' := 151) (a' := q0) (u := (zb (wr = true))) (by decide) hTw.2.2.2.2.2.2.2.1)) (zI_t (S := (zsI S 148 q0 (nI (zval (b :: bs))))) (t := 147) (a := q0) (v := (nI (bs.length + 1))) (t' := 152) (a' := q0) (u := (nI ad)) (by decide) (zI_t (S := S) (t := 148) (a := q0) (v := (nI (zval (b :: bs)))) (t' := 152) (a' := q0) (u := (nI ad)) (by decide) hTw.2.2.2.2.2.2.2.2.1)) (zI_t (S := (zsI S 148 q0 (nI (zval (b :: bs))))) (t := 147) (a := q0) (v := (nI (bs.length + 1))) (t' := 153) (a' := q0) (u := (nI tg)) (by decide) (zI_t (S := S) (t := 148) (a := q0) (v := (nI (zval (b :: bs)))) (t' := 153) (a' := q0) (u := (nI tg)) (by decide) hTw.2.2.2.2.2.2.2.2.2)) hNo9 hNd hLl hzv2 hbt had htg hrA hR9) gX5_takeBit_X5_takeByte rfl (by decide +kernel) ⟨⟨rfl, rfl⟩, Nat.le_of_ble_eq_true rfl, Nat.le_of_ble_eq_true rfl⟩ hTw.1 ⟨by decide, by decide⟩ rfl rfl hl.1 rfl (Nat.le_of_ble_eq_true rfl) ⟨Nat.le_of_ble_eq_true rfl, Nat.le_of_ble_eq_true rfl⟩ dX5_takeBit_86 (fun S86 H locs hp86 hw => ?_)
            obtain ⟨⟨hu1, hu2, hu3⟩, hu4, hu5, hu6, hu7, hu8, hu9, hu10⟩ := hp86
            have hu0 : zI S86 146 q0 = zb (st0 = true) := (hu10.2.1 146 q0 (fun g => g.elim (fun g => absurd g.2 (by decide)) (fun g => absurd g.1 (by decide)))).trans (zI_t (S := (zsI S 148 q0 (nI (zval (b :: bs))))) (t := 147) (a := q0) (v := (nI (bs.length + 1))) (t' := 146) (a' := q0) (u := (zb (st0 = true))) (by decide) (zI_t (S := S) (t := 148) (a := q0) (v := (nI (zval (b :: bs)))) (t' := 146) (a' := q0) (u := (zb (st0 = true))) (by decide) hTw.2.2.2.1))
            refine lv_aload_n hx hb dX5_takeBit_89 rfl (lv_at hl 0 rfl) ?_
            refine lv_iconst (v := 0) hx hb dX5_takeBit_90 (by decide) ?_
            refine p_Two_bits (a := q0) (v := 0) C hw hu1 in_X5 (by decide +kernel) dX5_takeBit_91 (fun H locs hw => ?_)
            exact zrv C hw hr hlocks (by rw [zTB_9 c4 hb9]; exact ⟨⟨⟨hu1, hu2, hu3, zI_t (by decide) hu0, zI_s _ _ _ _, (fun h9 => absurd rfl h9), zI_t (by decide) hu4, zI_t (by decide) hu5, zI_t (by decide) hu6, zI_t (by decide) hu7⟩, hu8.nI (rA := rA) (zFr.I (by decide)) hrA, hu9⟩, (hF8.tr hu10.yw).tr (zFr.I (Or.inl rfl))⟩) ⟨Nat.le_of_ble_eq_true rfl, Nat.le_of_ble_eq_true rfl⟩ dX5_takeBit_94
          refine lv_if_ne (tgt := 84) hx hb dX5_takeBit_77 (by decide) (fun c77 => ?_) (fun c77 => ?_)
          · refine lv_iconst (v := 0) hx hb dX5_takeBit_84 (by decide) ?_
            exact jn_4 0 _ _ _ hw (lv_sub hl [0, 1, 2] rfl) (by first | exact zb_t ((zbt_b hzv).mp c77) | exact zb_f (fun g => c77 ((zbt_b hzv).mpr g)))
          · refine lv_iconst (v := 1) hx hb dX5_takeBit_80 (by decide) ?_
            refine lv_goto (tgt := 85) hx hb dX5_takeBit_81 (by decide) ?_
            exact jn_4 1 _ _ _ hw (lv_sub hl [0, 1, 2] rfl) (by first | exact zb_t ((zbt_b hzv).mp c77) | exact zb_f (fun g => c77 ((zbt_b hzv).mpr g)))
      refine lv_if_eq (tgt := 40) hx hb dX5_takeBit_33 (by decide) (fun c33 => ?_) (fun c33 => ?_)
      · replace c33 := zb0.mp c33
        refine lv_iconst (v := 0) hx hb dX5_takeBit_40 (by decide) ?_
        exact jn_1 0 _ _ _ hw (lv_sub hl [0, 1, 2] rfl) (by first | exact Or.inl ⟨c33, rfl⟩ | exact Or.inr ⟨Bool.eq_false_iff.mpr c33, rfl⟩)
      · replace c33 := zb1.mp c33
        refine lv_iconst (v := 1) hx hb dX5_takeBit_36 (by decide) ?_
        refine lv_goto (tgt := 41) hx hb dX5_takeBit_37 (by decide) ?_
        exact jn_1 1 _ _ _ hw (lv_sub hl [0, 1, 2] rfl) (by first | exact Or.inl ⟨c33, rfl⟩ | exact Or.inr ⟨Bool.eq_false_iff.mpr c33, rfl⟩)
    · refine lv_aload_n hx hb dX5_takeBit_15 rfl (lv_at hl 0 rfl) ?_
      refine lv_iload_n hx hb dX5_takeBit_16 rfl (lv_at hl 2 rfl) ?_
      refine p_Two_firstBit (a := q0) (v := (nI i)) C hw hTw.1 in_X5 (by decide +kernel) dX5_takeBit_17 (fun H locs hw => ?_)
      refine lv_aload_n hx hb dX5_takeBit_20 rfl (lv_at hl 0 rfl) ?_
      refine lv_iconst (v := 0) hx hb dX5_takeBit_21 (by decide) ?_
      refine p_Two_word (a := q0) (v := 0) C hw hTw.1 in_X5 (by decide +kernel) dX5_takeBit_22 (fun H locs hw => ?_)
      have hbs : bs = [] := List.eq_nil_of_length_eq_zero ((nI_eq (b := 0) (by omega) (by decide)).mp c12)
      refine lv_aload_n hx hb dX5_takeBit_25 rfl (lv_at hl 0 rfl) ?_
      refine lv_aload_n hx hb dX5_takeBit_26 rfl (lv_at hl 0 rfl) ?_
      refine g_Two_word (a := q0) (v := (nI (zval bs))) C hw hTw.1 in_X5 (by decide +kernel) (((zI_s (zsI S 149 q0 (nI i)) 148 q0 0)).trans (by rw [hbs]; rfl)) dX5_takeBit_27 ?_
      refine lv_iconst (v := 1) hx hb dX5_takeBit_30 (by decide) ?_
      refine lv_ishl hx hb dX5_takeBit_31 ?_
      refine lv_iload_n hx hb dX5_takeBit_32 rfl (lv_at hl 1 rfl) ?_
      have jn_7 : ∀ (xb_8 : Int32) (H : Heap) (locs : List Loc) (ls : Array Slot), zW D y base (zsI (zsI S 149 q0 (nI i)) 148 q0 0) s H locs → lv_has ls 3 [(0, .ref q0), (1, .int (zb (b = true))), (2, .int (nI i))] → ((b = true ∧ xb_8 = 1) ∨ (b = false ∧ xb_8 = 0)) → W p l e (headSpec wsX5_takeBit ({ frames := 2, cells := 0, slots := 0, locals := 48 })).room s m args below meth c H locs 0 0 (MQ below (va_Qv (fun (S1 : zS) => zTP S1 q0 t0 d0 k1 k2 k3 k4 k5 rA (zTB b i (st0, bs, fb, bt, wr, ad, tg, L, rg)) ∧ zFr S S1 (zWI q0 t0) (zWR k1 k2 k3 k4 k5 rA)) (zPost D y base) (zA base)) args s 0 0 (zA base)) (F0 m 41 ls [.int xb_8, .int ((nI (zval bs)) <<< (1 &&& 31)), .ref q0]) := by
        intro xb_8 H locs ls hw hl f_9
        have fbit := f_9
        refine lv_ior hx hb dX5_takeBit_41 ?_
        refine zrd (x := (nI (zval (b :: bs)))) (zbt b (by omega) rfl fbit) ?_
        refine p_Two_word (a := q0) (v := (nI (zval (b :: bs)))) C hw hTw.1 in_X5 (by decide +kernel) dX5_takeBit_42 (fun H locs hw => ?_)
        refine lv_aload_n hx hb dX5_takeBit_45 rfl (lv_at hl 0 rfl) ?_
        refine lv_dup hx hb dX5_takeBit_46 rfl ?_
        refine g_Two_bits (a := q0) (v := (nI bs.length)) C hw hTw.1 in_X5 (by decide +kernel) (zI_t (S := (zsI (zsI S 149 q0 (nI i)) 148 q0 0)) (t := 148) (a := q0) (v := (nI (zval (b :: bs)))) (t' := 147) (a' := q0) (u := (nI bs.length)) (by decide) (zI_t (S := (zsI S 149 q0 (nI i))) (t := 148) (a := q0) (v := 0) (t' := 147) (a' := q0) (u := (nI bs.length)) (by decide) (zI_t (S := S) (t := 149) (a := q0) (v := (nI i)) (t' := 147) (a' := q0) (u := (nI bs.length)) (by decide) hTw.2.2.2.2.1))) dX5_takeBit_47 ?_
        refine lv_iconst (v := 1) hx hb dX5_takeBit_50 (by decide) ?_
        refine lv_iadd hx hb dX5_takeBit_51 ?_
        refine zrd (x := (nI (bs.length + 1))) (nI_1 _) ?_
        refine p_Two_bits (a := q0) (v := (nI (bs.length + 1))) C hw hTw.1 in_X5 (by decide +kernel) dX5_takeBit_52 (fun H locs hw => ?_)
        refine lv_aload_n hx hb dX5_takeBit_55 rfl (lv_at hl 0 rfl) ?_
        have hF9 : zFr S (zsI (zsI (zsI (zsI S 149 q0 (nI i)) 148 q0 0) 148 q0 (nI (zval (b :: bs)))) 147 q0 (nI (bs.length + 1))) (fun t a => t ≠ 112 ∧ a = q0) (fun _ _ => False) := ((zFr.I (TI := fun t a => t ≠ 112 ∧ a = q0) (TR := fun _ _ => False) ⟨by decide, rfl⟩).tr ((zFr.I (TI := fun t a => t ≠ 112 ∧ a = q0) (TR := fun _ _ => False) ⟨by decide, rfl⟩).tr ((zFr.I (TI := fun t a => t ≠ 112 ∧ a = q0) (TR := fun _ _ => False) ⟨by decide, rfl⟩).tr (zFr.I (TI := fun t a => t ≠ 112 ∧ a = q0) (TR := fun _ _ => False) ⟨by decide, rfl⟩))))
        have hNo9 : zNo (zsI (zsI (zsI (zsI S 149 q0 (nI i)) 148 q0 0) 148 q0 (nI (zval (b :: bs)))) 147 q0 (nI (bs.length + 1))) t0 k1 k2 k3 k4 k5 L := hNo.fr hF9 (fun g => g.1 rfl) (fun g => g) (fun g => g) (fun g => g) (fun g => g) (fun g => g)
        have hR9 : zR (zsI (zsI (zsI (zsI S 149 q0 (nI i)) 148 q0 0) 148 q0 (nI (zval (b :: bs)))) 147 q0 (nI (bs.length + 1))) 22 rA = rg := (hF9.2.2.1 22 rA (fun g => g)).trans hrg
        have hF8 := hF9.mono (TI' := zWI q0 t0) (TR' := zWR k1 k2 k3 k4 k5 rA) (fun _ _ g => Or.inl g.2) (fun _ _ g => g.elim)
        refine g_Two_bits (a := q0) (v := (nI (bs.length + 1))) C hw hTw.1 in_X5 (by decide +kernel) (zI_s (zsI (zsI (zsI S 149 q0 (nI i)) 148 q0 0) 148 q0 (nI (zval (b :: bs)))) 147 q0 (nI (bs.length + 1))) dX5_takeBit_56 ?_
        refine lv_bipush (v := 9) hx hb dX5_takeBit_59 (by decide) ?_
        refine lv_icmp_ne (tgt := 94) hx hb dX5_takeBit_61 (by decide) (fun c61 => ?_) (fun c61 => ?_)
        · exact zrv C hw hr hlocks (by have hnb : ¬ bs.length + 1 = 9 := fun e => c61 (by rw [e]; rfl); rw [zTB_n c4 hnb]; exact ⟨⟨⟨hTw.1, hTw.2.1, hTw.2.2.1, (zI_t (S := (zsI (zsI (zsI S 149 q0 (nI i)) 148 q0 0) 148 q0 (nI (zval (b :: bs))))) (t := 147) (a := q0) (v := (nI (bs.length + 1))) (t' := 146) (a' := q0) (u := (zb (st0 = true))) (by decide) (zI_t (S := (zsI (zsI S 149 q0 (nI i)) 148 q0 0)) (t := 148) (a := q0) (v := (nI (zval (b :: bs)))) (t' := 146) (a' := q0) (u := (zb (st0 = true))) (by decide) (zI_t (S := (zsI S 149 q0 (nI i))) (t := 148) (a := q0) (v := 0) (t' := 146) (a' := q0) (u := (zb (st0 = true))) (by decide) (zI_t (S := S) (t := 149) (a := q0) (v := (nI i)) (t' := 146) (a' := q0) (u := (zb (st0 = true))) (by decide) hTw.2.2.2.1)))), (zI_s (zsI (zsI (zsI S 149 q0 (nI i)) 148 q0 0) 148 q0 (nI (zval (b :: bs)))) 147 q0 (nI (bs.length + 1))), (fun _ => ⟨(zI_t (S := (zsI (zsI (zsI S 149 q0 (nI i)) 148 q0 0) 148 q0 (nI (zval (b :: bs))))) (t := 147) (a := q0) (v := (nI (bs.length + 1))) (t' := 148) (a' := q0) (u := (nI (zval (b :: bs)))) (by decide) (zI_s (zsI (zsI S 149 q0 (nI i)) 148 q0 0) 148 q0 (nI (zval (b :: bs))))), (zI_t (S := (zsI (zsI (zsI S 149 q0 (nI i)) 148 q0 0) 148 q0 (nI (zval (b :: bs))))) (t := 147) (a := q0) (v := (nI (bs.length + 1))) (t' := 149) (a' := q0) (u := (nI (if bs = [] then i else fb))) (by decide) (zI_t (S := (zsI (zsI S 149 q0 (nI i)) 148 q0 0)) (t := 148) (a := q0) (v := (nI (zval (b :: bs)))) (t' := 149) (a' := q0) (u := (nI (if bs = [] then i else fb))) (by decide) (((zI_t (S := (zsI S 149 q0 (nI i))) (t := 148) (a := q0) (v := 0) (t' := 149) (a' := q0) (u := (nI i)) (by decide) (zI_s S 149 q0 (nI i)))).trans (by rw [if_pos hbs]))))⟩), (zI_t (S := (zsI (zsI (zsI S 149 q0 (nI i)) 148 q0 0) 148 q0 (nI (zval (b :: bs))))) (t := 147) (a := q0) (v := (nI (bs.length + 1))) (t' := 150) (a' := q0) (u := (nI bt)) (by decide) (zI_t (S := (zsI (zsI S 149 q0 (nI i)) 148 q0 0)) (t := 148) (a := q0) (v := (nI (zval (b :: bs)))) (t' := 150) (a' := q0) (u := (nI bt)) (by decide) (zI_t (S := (zsI S 149 q0 (nI i))) (t := 148) (a := q0) (v := 0) (t' := 150) (a' := q0) (u := (nI bt)) (by decide) (zI_t (S := S) (t := 149) (a := q0) (v := (nI i)) (t' := 150) (a' := q0) (u := (nI bt)) (by decide) hTw.2.2.2.2.2.2.1)))), (zI_t (S := (zsI (zsI (zsI S 149 q0 (nI i)) 148 q0 0) 148 q0 (nI (zval (b :: bs))))) (t := 147) (a := q0) (v := (nI (bs.length + 1))) (t' := 151) (a' := q0) (u := (zb (wr = true))) (by decide) (zI_t (S := (zsI (zsI S 149 q0 (nI i)) 148 q0 0)) (t := 148) (a := q0) (v := (nI (zval (b :: bs)))) (t' := 151) (a' := q0) (u := (zb (wr = true))) (by decide) (zI_t (S := (zsI S 149 q0 (nI i))) (t := 148) (a := q0) (v := 0) (t' := 151) (a' := q0) (u := (zb (wr = true))) (by decide) (zI_t (S := S) (t := 149) (a := q0) (v := (nI i)) (t' := 151) (a' := q0) (u := (zb (wr = true))) (by decide) hTw.2.2.2.2.2.2.2.1)))), (zI_t (S := (zsI (zsI (zsI S 149 q0 (nI i)) 148 q0 0) 148 q0 (nI (zval (b :: bs))))) (t := 147) (a := q0) (v := (nI (bs.length + 1))) (t' := 152) (a' := q0) (u := (nI ad)) (by decide) (zI_t (S := (zsI (zsI S 149 q0 (nI i)) 148 q0 0)) (t := 148) (a := q0) (v := (nI (zval (b :: bs)))) (t' := 152) (a' := q0) (u := (nI ad)) (by decide) (zI_t (S := (zsI S 149 q0 (nI i))) (t := 148) (a := q0) (v := 0) (t' := 152) (a' := q0) (u := (nI ad)) (by decide) (zI_t (S := S) (t := 149) (a := q0) (v := (nI i)) (t' := 152) (a' := q0) (u := (nI ad)) (by decide) hTw.2.2.2.2.2.2.2.2.1)))), (zI_t (S := (zsI (zsI (zsI S 149 q0 (nI i)) 148 q0 0) 148 q0 (nI (zval (b :: bs))))) (t := 147) (a := q0) (v := (nI (bs.length + 1))) (t' := 153) (a' := q0) (u := (nI tg)) (by decide) (zI_t (S := (zsI (zsI S 149 q0 (nI i)) 148 q0 0)) (t := 148) (a := q0) (v := (nI (zval (b :: bs)))) (t' := 153) (a' := q0) (u := (nI tg)) (by decide) (zI_t (S := (zsI S 149 q0 (nI i))) (t := 148) (a := q0) (v := 0) (t' := 153) (a' := q0) (u := (nI tg)) (by decide) (zI_t (S := S) (t := 149) (a := q0) (v := (nI i)) (t' := 153) (a' := q0) (u := (nI tg)) (by decide) hTw.2.2.2.2.2.2.2.2.2))))⟩, hNo9, hR9⟩, hF8⟩) ⟨Nat.le_of_ble_eq_true rfl, Nat.le_of_ble_eq_true rfl⟩ dX5_takeBit_94
        · have hb9 : bs.length + 1 = 9 := (nI_eq (b := 9) (by omega) (by decide)).mp c61
          have hzv : zval (b :: bs) < 512 := by have h := zval_lt (b :: bs); rw [show (b :: bs).length = 9 from hb9] at h; exact h
          have hzv2 : zval bs < 256 := by rw [zvl] at hzv; omega
          refine lv_aload_n hx hb dX5_takeBit_64 rfl (lv_at hl 0 rfl) ?_
          refine lv_aload_n hx hb dX5_takeBit_65 rfl (lv_at hl 0 rfl) ?_
          refine g_Two_word (a := q0) (v := (nI (zval (b :: bs)))) C hw hTw.1 in_X5 (by decide +kernel) (zI_t (S := (zsI (zsI (zsI S 149 q0 (nI i)) 148 q0 0) 148 q0 (nI (zval (b :: bs))))) (t := 147) (a := q0) (v := (nI (bs.length + 1))) (t' := 148) (a' := q0) (u := (nI (zval (b :: bs)))) (by decide) (zI_s (zsI (zsI S 149 q0 (nI i)) 148 q0 0) 148 q0 (nI (zval (b :: bs))))) dX5_takeBit_66 ?_
          refine lv_iconst (v := 1) hx hb dX5_takeBit_69 (by decide) ?_
          refine lv_ishr hx hb dX5_takeBit_70 ?_
          refine zrd (x := (nI (zval bs))) ((zbt_r _ hzv).trans (by rw [zvl]; congr 1; split <;> omega)) ?_
          refine lv_aload_n hx hb dX5_takeBit_71 rfl (lv_at hl 0 rfl) ?_
          refine g_Two_word (a := q0) (v := (nI (zval (b :: bs)))) C hw hTw.1 in_X5 (by decide +kernel) (zI_t (S := (zsI (zsI (zsI S 149 q0 (nI i)) 148 q0 0) 148 q0 (nI (zval (b :: bs))))) (t := 147) (a := q0) (v := (nI (bs.length + 1))) (t' := 148) (a' := q0) (u := (nI (zval (b :: bs)))) (by decide) (zI_s (zsI (zsI S 149 q0 (nI i)) 148 q0 0) 148 q0 (nI (zval (b :: bs))))) dX5_takeBit_72 ?_
          refine lv_iconst (v := 1) hx hb dX5_takeBit_75 (by decide) ?_
          refine lv_iand hx hb dX5_takeBit_76 ?_
          have jn_10 : ∀ (xa_11 : Int32) (H : Heap) (locs : List Loc) (ls : Array Slot), zW D y base (zsI (zsI (zsI (zsI S 149 q0 (nI i)) 148 q0 0) 148 q0 (nI (zval (b :: bs)))) 147 q0 (nI (bs.length + 1))) s H locs → lv_has ls 3 [(0, .ref q0), (1, .int (zb (b = true))), (2, .int (nI i))] → (xa_11 = zb ((!b) = true)) → W p l e (headSpec wsX5_takeBit ({ frames := 2, cells := 0, slots := 0, locals := 48 })).room s m args below meth c H locs 0 0 (MQ below (va_Qv (fun (S1 : zS) => zTP S1 q0 t0 d0 k1 k2 k3 k4 k5 rA (zTB b i (st0, bs, fb, bt, wr, ad, tg, L, rg)) ∧ zFr S S1 (zWI q0 t0) (zWR k1 k2 k3 k4 k5 rA)) (zPost D y base) (zA base)) args s 0 0 (zA base)) (F0 m 85 ls [.int xa_11, .int (nI (zval bs)), .ref q0]) := by
            intro xa_11 H locs ls hw hl f_12
            subst f_12
            refine lv_iload_n hx hb dX5_takeBit_85 rfl (lv_at hl 2 rfl) ?_
            refine zcV_v (As := [.int (nI (zval bs)), .int (zb ((!b) = true)), .int (nI i)]) (rest := []) (n9 := 3) (b := q0) C hw (c_X5_takeByte l D y base (zsI (zsI (zsI (zsI S 149 q0 (nI i)) 148 q0 0) 148 q0 (nI (zval (b :: bs)))) 147 q0 (nI (bs.length + 1))) q0 d0 t0 k1 k2 k3 k4 k5 rA (if bs = [] then i else fb) bt wr ad tg L (zval bs) (!b) i rg hNt hDv ⟨hTw.1, hTw.2.1, hTw.2.2.1⟩ (zI_t (S := (zsI (zsI (zsI S 149 q0 (nI i)) 148 q0 0) 148 q0 (nI (zval (b :: bs))))) (t := 147) (a := q0) (v := (nI (bs.length + 1))) (t' := 149) (a' := q0) (u := (nI (if bs = [] then i else fb))) (by decide) (zI_t (S := (zsI (zsI S 149 q0 (nI i)) 148 q0 0)) (t := 148) (a := q0) (v := (nI (zval (b :: bs)))) (t' := 149) (a' := q0) (u := (nI (if bs = [] then i else fb))) (by decide) (((zI_t (S := (zsI S 149 q0 (nI i))) (t := 148) (a := q0) (v := 0) (t' := 149) (a' := q0) (u := (nI i)) (by decide) (zI_s S 149 q0 (nI i)))).trans (by rw [if_pos hbs])))) (zI_t (S := (zsI (zsI (zsI S 149 q0 (nI i)) 148 q0 0) 148 q0 (nI (zval (b :: bs))))) (t := 147) (a := q0) (v := (nI (bs.length + 1))) (t' := 150) (a' := q0) (u := (nI bt)) (by decide) (zI_t (S := (zsI (zsI S 149 q0 (nI i)) 148 q0 0)) (t := 148) (a := q0) (v := (nI (zval (b :: bs)))) (t' := 150) (a' := q0) (u := (nI bt)) (by decide) (zI_t (S := (zsI S 149 q0 (nI i))) (t := 148) (a := q0) (v := 0) (t' := 150) (a' := q0) (u := (nI bt)) (by decide) (zI_t (S := S) (t := 149) (a := q0) (v := (nI i)) (t' := 150) (a' := q0) (u := (nI bt)) (by decide) hTw.2.2.2.2.2.2.1)))) (zI_t (S := (zsI (zsI (zsI S 149 q0 (nI i)) 148 q0 0) 148 q0 (nI (zval (b :: bs))))) (t := 147) (a := q0) (v := (nI (bs.length + 1))) (t' := 151) (a' := q0) (u := (zb (wr = true))) (by decide) (zI_t (S := (zsI (zsI S 149 q0 (nI i)) 148 q0 0)) (t := 148) (a := q0) (v := (nI (zval (b :: bs)))) (t' := 151) (a' := q0) (u := (zb (wr = true))) (by decide) (zI_t (S := (zsI S 149 q0 (nI i))) (t := 148) (a := q0) (v := 0) (t' := 151) (a' := q0) (u := (zb (wr = true))) (by decide) (zI_t (S := S) (t := 149) (a := q0) (v := (nI i)) (t' := 151) (a' := q0) (u := (zb (wr = true))) (by decide) hTw.2.2.2.2.2.2.2.1)))) (zI_t (S := (zsI (zsI (zsI S 149 q0 (nI i)) 148 q0 0) 148 q0 (nI (zval (b :: bs))))) (t := 147) (a := q0) (v := (nI (bs.length + 1))) (t' := 152) (a' := q0) (u := (nI ad)) (by decide) (zI_t (S := (zsI (zsI S 149 q0 (nI i)) 148 q0 0)) (t := 148) (a := q0) (v := (nI (zval (b :: bs)))) (t' := 152) (a' := q0) (u := (nI ad)) (by decide) (zI_t (S := (zsI S 149 q0 (nI i))) (t := 148) (a := q0) (v := 0) (t' := 152) (a' := q0) (u := (nI ad)) (by decide) (zI_t (S := S) (t := 149) (a := q0) (v := (nI i)) (t' := 152) (a' := q0) (u := (nI ad)) (by decide) hTw.2.2.2.2.2.2.2.2.1)))) (zI_t (S := (zsI (zsI (zsI S 149 q0 (nI i)) 148 q0 0) 148 q0 (nI (zval (b :: bs))))) (t := 147) (a := q0) (v := (nI (bs.length + 1))) (t' := 153) (a' := q0) (u := (nI tg)) (by decide) (zI_t (S := (zsI (zsI S 149 q0 (nI i)) 148 q0 0)) (t := 148) (a := q0) (v := (nI (zval (b :: bs)))) (t' := 153) (a' := q0) (u := (nI tg)) (by decide) (zI_t (S := (zsI S 149 q0 (nI i))) (t := 148) (a := q0) (v := 0) (t' := 153) (a' := q0) (u := (nI tg)) (by decide) (zI_t (S := S) (t := 149) (a := q0) (v := (nI i)) (t' := 153) (a' := q0) (u := (nI tg)) (by decide) hTw.2.2.2.2.2.2.2.2.2)))) hNo9 hNd hLl hzv2 hbt had htg hrA hR9) gX5_takeBit_X5_takeByte rfl (by decide +kernel) ⟨⟨rfl, rfl⟩, Nat.le_of_ble_eq_true rfl, Nat.le_of_ble_eq_true rfl⟩ hTw.1 ⟨by decide, by decide⟩ rfl rfl hl.1 rfl (Nat.le_of_ble_eq_true rfl) ⟨Nat.le_of_ble_eq_true rfl, Nat.le_of_ble_eq_true rfl⟩ dX5_takeBit_86 (fun S86 H locs hp86 hw => ?_)
            obtain ⟨⟨hu1, hu2, hu3⟩, hu4, hu5, hu6, hu7, hu8, hu9, hu10⟩ := hp86
            have hu0 : zI S86 146 q0 = zb (st0 = true) := (hu10.2.1 146 q0 (fun g => g.elim (fun g => absurd g.2 (by decide)) (fun g => absurd g.1 (by decide)))).trans (zI_t (S := (zsI (zsI (zsI S 149 q0 (nI i)) 148 q0 0) 148 q0 (nI (zval (b :: bs))))) (t := 147) (a := q0) (v := (nI (bs.length + 1))) (t' := 146) (a' := q0) (u := (zb (st0 = true))) (by decide) (zI_t (S := (zsI (zsI S 149 q0 (nI i)) 148 q0 0)) (t := 148) (a := q0) (v := (nI (zval (b :: bs)))) (t' := 146) (a' := q0) (u := (zb (st0 = true))) (by decide) (zI_t (S := (zsI S 149 q0 (nI i))) (t := 148) (a := q0) (v := 0) (t' := 146) (a' := q0) (u := (zb (st0 = true))) (by decide) (zI_t (S := S) (t := 149) (a := q0) (v := (nI i)) (t' := 146) (a' := q0) (u := (zb (st0 = true))) (by decide) hTw.2.2.2.1))))
            refine lv_aload_n hx hb dX5_takeBit_89 rfl (lv_at hl 0 rfl) ?_
            refine lv_iconst (v := 0) hx hb dX5_takeBit_90 (by decide) ?_
            refine p_Two_bits (a := q0) (v := 0) C hw hu1 in_X5 (by decide +kernel) dX5_takeBit_91 (fun H locs hw => ?_)
            exact zrv C hw hr hlocks (by rw [zTB_9 c4 hb9]; exact ⟨⟨⟨hu1, hu2, hu3, zI_t (by decide) hu0, zI_s _ _ _ _, (fun h9 => absurd rfl h9), zI_t (by decide) hu4, zI_t (by decide) hu5, zI_t (by decide) hu6, zI_t (by decide) hu7⟩, hu8.nI (rA := rA) (zFr.I (by decide)) hrA, hu9⟩, (hF8.tr hu10.yw).tr (zFr.I (Or.inl rfl))⟩) ⟨Nat.le_of_ble_eq_true rfl, Nat.le_of_ble_eq_true rfl⟩ dX5_takeBit_94
          refine lv_if_ne (tgt := 84) hx hb dX5_takeBit_77 (by decide) (fun c77 => ?_) (fun c77 => ?_)
          · refine lv_iconst (v := 0) hx hb dX5_takeBit_84 (by decide) ?_
            exact jn_10 0 _ _ _ hw (lv_sub hl [0, 1, 2] rfl) (by first | exact zb_t ((zbt_b hzv).mp c77) | exact zb_f (fun g => c77 ((zbt_b hzv).mpr g)))
          · refine lv_iconst (v := 1) hx hb dX5_takeBit_80 (by decide) ?_
            refine lv_goto (tgt := 85) hx hb dX5_takeBit_81 (by decide) ?_
            exact jn_10 1 _ _ _ hw (lv_sub hl [0, 1, 2] rfl) (by first | exact zb_t ((zbt_b hzv).mp c77) | exact zb_f (fun g => c77 ((zbt_b hzv).mpr g)))
      refine lv_if_eq (tgt := 40) hx hb dX5_takeBit_33 (by decide) (fun c33 => ?_) (fun c33 => ?_)
      · replace c33 := zb0.mp c33
        refine lv_iconst (v := 0) hx hb dX5_takeBit_40 (by decide) ?_
        exact jn_7 0 _ _ _ hw (lv_sub hl [0, 1, 2] rfl) (by first | exact Or.inl ⟨c33, rfl⟩ | exact Or.inr ⟨Bool.eq_false_iff.mpr c33, rfl⟩)
      · replace c33 := zb1.mp c33
        refine lv_iconst (v := 1) hx hb dX5_takeBit_36 (by decide) ?_
        refine lv_goto (tgt := 41) hx hb dX5_takeBit_37 (by decide) ?_
        exact jn_7 1 _ _ _ hw (lv_sub hl [0, 1, 2] rfl) (by first | exact Or.inl ⟨c33, rfl⟩ | exact Or.inr ⟨Bool.eq_false_iff.mpr c33, rfl⟩)
  · replace c4 := zb0.mp c4
    exact zrv C hw hr hlocks (by rw [zTB_0 c4]; exact ⟨⟨hTw, hNo, hrg⟩, zFr.rf⟩) ⟨Nat.le_of_ble_eq_true rfl, Nat.le_of_ble_eq_true rfl⟩ dX5_takeBit_7

