set_option maxHeartbeats 4000000 in
set_option maxRecDepth 100000 in
theorem law_part_7 {p : Program} {l : Launch} {e : Env} {s : State} {m : MethodId} {below : List Frame} {meth : Method} {c : Code} {H : Heap} {locs : List Loc} {ls : Array Slot} {D : va_G} {y : Nat → ClassId} {base : Nat} {S : zS} {a : Nat → Nat} {bs : Nat} (hst : l.stackTraces = false) (C : CallFix p m c code 2 s #[Value.ref bs] wsL_law RL) (hr : meth.sig.returnType = ret) (hlocks : meth.locks = false) (hy31 : y 99 < 2 ^ 31) (hNw : zNew S a) (hDs : zDs a) (hbase : base = s.heap.size) (hw : zW D y base S s H locs) (hl : lv_has ls 2 [(1, .ref (a 0)), (0, .ref (y 98))]) : W p l e room_1 s m #[Value.ref bs] below meth c H locs 357 7431 (lw_Z below #[Value.ref bs] s) (F0 m 1908 ls []) := by
  have hx := C.1
  have hb := C.2.1
  have hown := C.2.2.2.1
  have hts := C.2.2.2.2
  refine lv_aload_n hx hb dL_law_1908 rfl (lv_at hl 0 rfl) ?_
  refine lv_bipush (v := 111) hx hb dL_law_1909 (by decide) ?_
  refine lv_iconst (v := 1) hx hb dL_law_1911 (by decide) ?_
  refine znewI (N := 1) C hw (by decide +kernel) (by decide) (by decide) (Nat.le_of_ble_eq_true rfl) (Nat.le_of_ble_eq_true rfl) (Nat.le_of_ble_eq_true rfl) dL_law_1912 (fun q1912 H kq1912 hw => ?_)
  have hA : zAr S (znR S q1912 22 1 (fun _ => 0)) q1912 1 [] := zAr.new kq1912
  generalize (znR S q1912 22 1 (fun _ => 0)) = Sa1912 at hw hA
  refine lv_dup hx hb dL_law_1914 rfl ?_
  refine lv_iconst (v := 0) hx hb dL_law_1915 (by decide) ?_
  refine lv_bipush (v := 100) hx hb dL_law_1916 (by decide) ?_
  refine zast_I (a := q1912) C hw hA.2.1 hA.2.2.1 (zin_of (N := 1) (by decide) (by grind) (by grind)) dL_law_1918 (fun H locs hw => ?_)
  have hA : zAr S (zsR Sa1912 22 q1912 (upd (zR Sa1912 22 q1912) (0 : Int32).toNatClampNeg 100)) q1912 1 [100] := zAr.st (k := 0) hA kq1912 (by decide) rfl
  generalize (zsR Sa1912 22 q1912 (upd (zR Sa1912 22 q1912) (0 : Int32).toNatClampNeg 100)) = Sa1918 at hw hA
  obtain ⟨hG, hK9, hN9, hA⟩ := hA
  have hj0 : zR Sa1918 22 q1912 0 = 100 := (hA 0 100 rfl).trans rfl
  have hNw := zNew.gw hG hNw
  refine zcSW_i (As := [.ref (a 0), .int 111, .ref q1912]) (rest := []) (n9 := 3) C hw (c_L_ask_o_best_r l hst D y base Sa1918 a 100 q1912 hNw.1 hNw.2.1 hK9 hN9 hj0) gL_law_L_ask rfl (by decide +kernel) ⟨⟨rfl, rfl⟩, Nat.le_of_ble_eq_true rfl, Nat.le_of_ble_eq_true rfl⟩ rfl hl.1 rfl (Nat.le_of_ble_eq_true rfl) ⟨Nat.le_of_ble_eq_true rfl, Nat.le_of_ble_eq_true rfl⟩ dL_law_1919 (fun r1919 S1919 H locs hp1919 hw => ?_)
  have h9 : r1919 = (-2000000002) ∧ S1919 = Sa1918 := by
    rcases hp1919 with h | h
    · exact h.2
    · exact absurd h.1 (by decide +kernel)
  obtain ⟨rfl, hS9⟩ := h9
  have hS9 := hS9.symm
  subst hS9
  refine lv_ldc (own := RL) (v := (-2000000002)) hx hb hown (hts (.constant RL 71 (-2000000002)) (by decide +kernel)) dL_law_1922 ?_
  refine lv_icmp_ne (tgt := 1945) hx hb dL_law_1924 (by decide) (fun c1924 => absurd c1924 (by decide)) (fun _ => ?_)
  refine lv_aload_n hx hb dL_law_1927 rfl (lv_at hl 0 rfl) ?_
  refine lv_bipush (v := 111) hx hb dL_law_1928 (by decide) ?_
  refine lv_iconst (v := 1) hx hb dL_law_1930 (by decide) ?_
  refine znewI (N := 1) C hw (by decide +kernel) (by decide) (by decide) (Nat.le_of_ble_eq_true rfl) (Nat.le_of_ble_eq_true rfl) (Nat.le_of_ble_eq_true rfl) dL_law_1931 (fun q1931 H kq1931 hw => ?_)
  have hA : zAr Sa1918 (znR Sa1918 q1931 22 1 (fun _ => 0)) q1931 1 [] := zAr.new kq1931
  generalize (znR Sa1918 q1931 22 1 (fun _ => 0)) = Sa1931 at hw hA
  refine lv_dup hx hb dL_law_1933 rfl ?_
  refine lv_iconst (v := 0) hx hb dL_law_1934 (by decide) ?_
  refine lv_iconst (v := 0) hx hb dL_law_1935 (by decide) ?_
  refine zast_I (a := q1931) C hw hA.2.1 hA.2.2.1 (zin_of (N := 1) (by decide) (by grind) (by grind)) dL_law_1936 (fun H locs hw => ?_)
  have hA : zAr Sa1918 (zsR Sa1931 22 q1931 (upd (zR Sa1931 22 q1931) (0 : Int32).toNatClampNeg 0)) q1931 1 [0] := zAr.st (k := 0) hA kq1931 (by decide) rfl
  generalize (zsR Sa1931 22 q1931 (upd (zR Sa1931 22 q1931) (0 : Int32).toNatClampNeg 0)) = Sa1936 at hw hA
  obtain ⟨hG, hK9, hN9, hA⟩ := hA
  have hj0 : zR Sa1936 22 q1931 0 = 0 := (hA 0 0 rfl).trans rfl
  have hNw := zNew.gw hG hNw
  refine zcSW_i (As := [.ref (a 0), .int 111, .ref q1931]) (rest := []) (n9 := 3) C hw (c_L_ask_o_best_r l hst D y base Sa1936 a 0 q1931 hNw.1 hNw.2.1 hK9 hN9 hj0) gL_law_L_ask rfl (by decide +kernel) ⟨⟨rfl, rfl⟩, Nat.le_of_ble_eq_true rfl, Nat.le_of_ble_eq_true rfl⟩ rfl hl.1 rfl (Nat.le_of_ble_eq_true rfl) ⟨Nat.le_of_ble_eq_true rfl, Nat.le_of_ble_eq_true rfl⟩ dL_law_1937 (fun r1937 S1937 H locs hp1937 hw => ?_)
  have h9 : r1937 = (-2000000004) ∧ S1937 = Sa1936 := by
    rcases hp1937 with h | h
    · exact absurd h.1 (by decide +kernel)
    · exact h.2
  obtain ⟨rfl, hS9⟩ := h9
  have hS9 := hS9.symm
  subst hS9
  refine lv_ldc (own := RL) (v := (-2000000004)) hx hb hown (hts (.constant RL 77 (-2000000004)) (by decide +kernel)) dL_law_1940 ?_
  refine lv_icmp_eq (tgt := 1947) hx hb dL_law_1942 (by decide) (fun _ => ?_) (fun c1942 => absurd c1942 (by decide))
  refine lv_aload_n hx hb dL_law_1947 rfl (lv_at hl 1 rfl) ?_
  refine zcS_i (As := [.ref (y 98)]) (rest := []) (n9 := 1) C hw (c_L_serial l hst D y base Sa1936 hy31) gL_law_L_serial rfl (by decide +kernel) ⟨⟨rfl, rfl⟩, Nat.le_of_ble_eq_true rfl, Nat.le_of_ble_eq_true rfl⟩ rfl hl.1 rfl (Nat.le_of_ble_eq_true rfl) ⟨Nat.le_of_ble_eq_true rfl, Nat.le_of_ble_eq_true rfl⟩ dL_law_1948 (fun r1948 S1948 H locs hp1948 hw => ?_)
  obtain rfl := hp1948
  refine lv_if_eq (tgt := 1978) hx hb dL_law_1951 (by decide) (fun c1951 => absurd c1951 (by decide)) (fun _ => ?_)
  refine lv_aload_n hx hb dL_law_1954 rfl (lv_at hl 1 rfl) ?_
  refine zcS_i (As := [.ref (y 98)]) (rest := []) (n9 := 1) C hw (c_L_two l hst D y base S1948 hy31) gL_law_L_two rfl (by decide +kernel) ⟨⟨rfl, rfl⟩, Nat.le_of_ble_eq_true rfl, Nat.le_of_ble_eq_true rfl⟩ rfl hl.1 rfl (Nat.le_of_ble_eq_true rfl) ⟨Nat.le_of_ble_eq_true rfl, Nat.le_of_ble_eq_true rfl⟩ dL_law_1955 (fun r1955 S1955 H locs hp1955 hw => ?_)
  obtain rfl := hp1955
  refine lv_if_eq (tgt := 1978) hx hb dL_law_1958 (by decide) (fun c1958 => absurd c1958 (by decide)) (fun _ => ?_)
  refine lv_aload_n hx hb dL_law_1961 rfl (lv_at hl 1 rfl) ?_
  refine zcS_i (As := [.ref (y 98)]) (rest := []) (n9 := 1) C hw (c_L_four l hst D y base S1955 hy31) gL_law_L_four rfl (by decide +kernel) ⟨⟨rfl, rfl⟩, Nat.le_of_ble_eq_true rfl, Nat.le_of_ble_eq_true rfl⟩ rfl hl.1 rfl (Nat.le_of_ble_eq_true rfl) ⟨Nat.le_of_ble_eq_true rfl, Nat.le_of_ble_eq_true rfl⟩ dL_law_1962 (fun r1962 S1962 H locs hp1962 hw => ?_)
  obtain rfl := hp1962
  refine lv_if_eq (tgt := 1978) hx hb dL_law_1965 (by decide) (fun c1965 => absurd c1965 (by decide)) (fun _ => ?_)
  refine zcS_i (As := []) (rest := []) (n9 := 0) C hw (c_L_full l hst D y base S1962) gL_law_L_full rfl (by decide +kernel) ⟨⟨rfl, rfl⟩, Nat.le_of_ble_eq_true rfl, Nat.le_of_ble_eq_true rfl⟩ rfl hl.1 rfl (Nat.le_of_ble_eq_true rfl) ⟨Nat.le_of_ble_eq_true rfl, Nat.le_of_ble_eq_true rfl⟩ dL_law_1968 (fun r1968 S1968 H locs hp1968 hw => ?_)
  obtain rfl := hp1968
  refine lv_if_eq (tgt := 1978) hx hb dL_law_1971 (by decide) (fun c1971 => absurd c1971 (by decide)) (fun _ => ?_)
  refine lv_iconst (v := 1) hx hb dL_law_1974 (by decide) ?_
  refine lv_goto (tgt := 1979) hx hb dL_law_1975 (by decide) ?_
  subst hbase
  refine va_forget (fun q hq => hw.2.2.1.2.2 q hq) ?_
  refine W.widen (k := 600056) (n := 7301712) (Nat.le_of_ble_eq_true rfl) (Nat.le_of_ble_eq_true rfl) ?_
  exact lw_ret (d0 := s.drawn) (Drawn.sameBut.refl s.drawn lw_cs) hx hb hr hlocks dL_law_1979

set_option maxHeartbeats 4000000 in
set_option maxRecDepth 100000 in
theorem law_part_6 {p : Program} {l : Launch} {e : Env} {s : State} {m : MethodId} {below : List Frame} {meth : Method} {c : Code} {H : Heap} {locs : List Loc} {ls : Array Slot} {D : va_G} {y : Nat → ClassId} {base : Nat} {S : zS} {a : Nat → Nat} {bs : Nat} (hst : l.stackTraces = false) (C : CallFix p m c code 2 s #[Value.ref bs] wsL_law RL) (hr : meth.sig.returnType = ret) (hlocks : meth.locks = false) (hy31 : y 99 < 2 ^ 31) (hNw : zNew S a) (hDs : zDs a) (hbase : base = s.heap.size) (hw : zW D y base S s H locs) (hl : lv_has ls 2 [(1, .ref (a 0)), (0, .ref (y 98))]) : W p l e room_1 s m #[Value.ref bs] below meth c H locs 331 7314 (lw_Z below #[Value.ref bs] s) (F0 m 1719 ls []) := by
  have hx := C.1
  have hb := C.2.1
  have hown := C.2.2.2.1
  have hts := C.2.2.2.2
  refine lv_aload_n hx hb dL_law_1719 rfl (lv_at hl 0 rfl) ?_
  refine lv_bipush (v := 113) hx hb dL_law_1720 (by decide) ?_
  refine lv_iconst (v := 2) hx hb dL_law_1722 (by decide) ?_
  refine znewI (N := 2) C hw (by decide +kernel) (by decide) (by decide) (Nat.le_of_ble_eq_true rfl) (Nat.le_of_ble_eq_true rfl) (Nat.le_of_ble_eq_true rfl) dL_law_1723 (fun q1723 H kq1723 hw => ?_)
  have hA : zAr S (znR S q1723 22 2 (fun _ => 0)) q1723 2 [] := zAr.new kq1723
  generalize (znR S q1723 22 2 (fun _ => 0)) = Sa1723 at hw hA
  refine lv_dup hx hb dL_law_1725 rfl ?_
  refine lv_iconst (v := 0) hx hb dL_law_1726 (by decide) ?_
  refine lv_iconst (v := 0) hx hb dL_law_1727 (by decide) ?_
  refine zast_I (a := q1723) C hw hA.2.1 hA.2.2.1 (zin_of (N := 2) (by decide) (by grind) (by grind)) dL_law_1728 (fun H locs hw => ?_)
  have hA : zAr S (zsR Sa1723 22 q1723 (upd (zR Sa1723 22 q1723) (0 : Int32).toNatClampNeg 0)) q1723 2 [0] := zAr.st (k := 0) hA kq1723 (by decide) rfl
  generalize (zsR Sa1723 22 q1723 (upd (zR Sa1723 22 q1723) (0 : Int32).toNatClampNeg 0)) = Sa1728 at hw hA
  refine lv_dup hx hb dL_law_1729 rfl ?_
  refine lv_iconst (v := 1) hx hb dL_law_1730 (by decide) ?_
  refine lv_iconst (v := 0) hx hb dL_law_1731 (by decide) ?_
  refine zast_I (a := q1723) C hw hA.2.1 hA.2.2.1 (zin_of (N := 2) (by decide) (by grind) (by grind)) dL_law_1732 (fun H locs hw => ?_)
  have hA : zAr S (zsR Sa1728 22 q1723 (upd (zR Sa1728 22 q1723) (1 : Int32).toNatClampNeg 0)) q1723 2 [0, 0] := zAr.st (k := 1) hA kq1723 (by decide) rfl
  generalize (zsR Sa1728 22 q1723 (upd (zR Sa1728 22 q1723) (1 : Int32).toNatClampNeg 0)) = Sa1732 at hw hA
  obtain ⟨hG, hK9, hN9, hA⟩ := hA
  have hj0 : zR Sa1732 22 q1723 0 = 0 := (hA 0 0 rfl).trans rfl
  have hj1 : zR Sa1732 22 q1723 1 = 0 := (hA 1 0 rfl).trans rfl
  have hNw := zNew.gw hG hNw
  refine zcSW_i (As := [.ref (a 0), .int 113, .ref q1723]) (rest := []) (n9 := 3) C hw (c_L_ask_q_rate_r l hst D y base Sa1732 a 0 0 q1723 hNw.1 hNw.2.1 hK9 hN9 hj0 hj1) gL_law_L_ask rfl (by decide +kernel) ⟨⟨rfl, rfl⟩, Nat.le_of_ble_eq_true rfl, Nat.le_of_ble_eq_true rfl⟩ rfl hl.1 rfl (Nat.le_of_ble_eq_true rfl) ⟨Nat.le_of_ble_eq_true rfl, Nat.le_of_ble_eq_true rfl⟩ dL_law_1733 (fun r1733 S1733 H locs hp1733 hw => ?_)
  have h9 : r1733 = (-2000000005) ∧ S1733 = Sa1732 := by
    rcases hp1733 with h | h
    · exact absurd h.1 (by decide +kernel)
    · exact h.2
  obtain ⟨rfl, hS9⟩ := h9
  have hS9 := hS9.symm
  subst hS9
  refine lv_ldc (own := RL) (v := (-2000000005)) hx hb hown (hts (.constant RL 80 (-2000000005)) (by decide +kernel)) dL_law_1736 ?_
  refine lv_icmp_ne (tgt := 1945) hx hb dL_law_1738 (by decide) (fun c1738 => absurd c1738 (by decide)) (fun _ => ?_)
  refine lv_aload_n hx hb dL_law_1741 rfl (lv_at hl 0 rfl) ?_
  refine lv_bipush (v := 122) hx hb dL_law_1742 (by decide) ?_
  refine lv_iconst (v := 2) hx hb dL_law_1744 (by decide) ?_
  refine znewI (N := 2) C hw (by decide +kernel) (by decide) (by decide) (Nat.le_of_ble_eq_true rfl) (Nat.le_of_ble_eq_true rfl) (Nat.le_of_ble_eq_true rfl) dL_law_1745 (fun q1745 H kq1745 hw => ?_)
  have hA : zAr Sa1732 (znR Sa1732 q1745 22 2 (fun _ => 0)) q1745 2 [] := zAr.new kq1745
  generalize (znR Sa1732 q1745 22 2 (fun _ => 0)) = Sa1745 at hw hA
  refine lv_dup hx hb dL_law_1747 rfl ?_
  refine lv_iconst (v := 0) hx hb dL_law_1748 (by decide) ?_
  refine lv_sipush (v := 128) hx hb dL_law_1749 (by decide) ?_
  refine zast_I (a := q1745) C hw hA.2.1 hA.2.2.1 (zin_of (N := 2) (by decide) (by grind) (by grind)) dL_law_1752 (fun H locs hw => ?_)
  have hA : zAr Sa1732 (zsR Sa1745 22 q1745 (upd (zR Sa1745 22 q1745) (0 : Int32).toNatClampNeg 128)) q1745 2 [128] := zAr.st (k := 0) hA kq1745 (by decide) rfl
  generalize (zsR Sa1745 22 q1745 (upd (zR Sa1745 22 q1745) (0 : Int32).toNatClampNeg 128)) = Sa1752 at hw hA
  refine lv_dup hx hb dL_law_1753 rfl ?_
  refine lv_iconst (v := 1) hx hb dL_law_1754 (by decide) ?_
  refine lv_iconst (v := 0) hx hb dL_law_1755 (by decide) ?_
  refine zast_I (a := q1745) C hw hA.2.1 hA.2.2.1 (zin_of (N := 2) (by decide) (by grind) (by grind)) dL_law_1756 (fun H locs hw => ?_)
  have hA : zAr Sa1732 (zsR Sa1752 22 q1745 (upd (zR Sa1752 22 q1745) (1 : Int32).toNatClampNeg 0)) q1745 2 [128, 0] := zAr.st (k := 1) hA kq1745 (by decide) rfl
  generalize (zsR Sa1752 22 q1745 (upd (zR Sa1752 22 q1745) (1 : Int32).toNatClampNeg 0)) = Sa1756 at hw hA
  obtain ⟨hG, hK9, hN9, hA⟩ := hA
  have hj0 : zR Sa1756 22 q1745 0 = 128 := (hA 0 128 rfl).trans rfl
  have hj1 : zR Sa1756 22 q1745 1 = 0 := (hA 1 0 rfl).trans rfl
  have hNw := zNew.gw hG hNw
  refine zcSW_i (As := [.ref (a 0), .int 122, .ref q1745]) (rest := []) (n9 := 3) C hw (c_L_ask_z_register_r l hst D y base Sa1756 a 128 0 q1745 hNw.1 hNw.2.1 hK9 hN9 hj0 hj1) gL_law_L_ask rfl (by decide +kernel) ⟨⟨rfl, rfl⟩, Nat.le_of_ble_eq_true rfl, Nat.le_of_ble_eq_true rfl⟩ rfl hl.1 rfl (Nat.le_of_ble_eq_true rfl) ⟨Nat.le_of_ble_eq_true rfl, Nat.le_of_ble_eq_true rfl⟩ dL_law_1757 (fun r1757 S1757 H locs hp1757 hw => ?_)
  have h9 : r1757 = (-2000000002) ∧ S1757 = Sa1756 := by
    rcases hp1757 with h | h
    · exact h.2
    · exact absurd h.1 (by decide +kernel)
  obtain ⟨rfl, hS9⟩ := h9
  have hS9 := hS9.symm
  subst hS9
  refine lv_ldc (own := RL) (v := (-2000000002)) hx hb hown (hts (.constant RL 71 (-2000000002)) (by decide +kernel)) dL_law_1760 ?_
  refine lv_icmp_ne (tgt := 1945) hx hb dL_law_1762 (by decide) (fun c1762 => absurd c1762 (by decide)) (fun _ => ?_)
  refine lv_aload_n hx hb dL_law_1765 rfl (lv_at hl 0 rfl) ?_
  refine lv_bipush (v := 122) hx hb dL_law_1766 (by decide) ?_
  refine lv_iconst (v := 2) hx hb dL_law_1768 (by decide) ?_
  refine znewI (N := 2) C hw (by decide +kernel) (by decide) (by decide) (Nat.le_of_ble_eq_true rfl) (Nat.le_of_ble_eq_true rfl) (Nat.le_of_ble_eq_true rfl) dL_law_1769 (fun q1769 H kq1769 hw => ?_)
  have hA : zAr Sa1756 (znR Sa1756 q1769 22 2 (fun _ => 0)) q1769 2 [] := zAr.new kq1769
  generalize (znR Sa1756 q1769 22 2 (fun _ => 0)) = Sa1769 at hw hA
  refine lv_dup hx hb dL_law_1771 rfl ?_
  refine lv_iconst (v := 0) hx hb dL_law_1772 (by decide) ?_
  refine lv_iconst (v := 0) hx hb dL_law_1773 (by decide) ?_
  refine zast_I (a := q1769) C hw hA.2.1 hA.2.2.1 (zin_of (N := 2) (by decide) (by grind) (by grind)) dL_law_1774 (fun H locs hw => ?_)
  have hA : zAr Sa1756 (zsR Sa1769 22 q1769 (upd (zR Sa1769 22 q1769) (0 : Int32).toNatClampNeg 0)) q1769 2 [0] := zAr.st (k := 0) hA kq1769 (by decide) rfl
  generalize (zsR Sa1769 22 q1769 (upd (zR Sa1769 22 q1769) (0 : Int32).toNatClampNeg 0)) = Sa1774 at hw hA
  refine lv_dup hx hb dL_law_1775 rfl ?_
  refine lv_iconst (v := 1) hx hb dL_law_1776 (by decide) ?_
  refine lv_bipush (v := 16) hx hb dL_law_1777 (by decide) ?_
  refine zast_I (a := q1769) C hw hA.2.1 hA.2.2.1 (zin_of (N := 2) (by decide) (by grind) (by grind)) dL_law_1779 (fun H locs hw => ?_)
  have hA : zAr Sa1756 (zsR Sa1774 22 q1769 (upd (zR Sa1774 22 q1769) (1 : Int32).toNatClampNeg 16)) q1769 2 [0, 16] := zAr.st (k := 1) hA kq1769 (by decide) rfl
  generalize (zsR Sa1774 22 q1769 (upd (zR Sa1774 22 q1769) (1 : Int32).toNatClampNeg 16)) = Sa1779 at hw hA
  obtain ⟨hG, hK9, hN9, hA⟩ := hA
  have hj0 : zR Sa1779 22 q1769 0 = 0 := (hA 0 0 rfl).trans rfl
  have hj1 : zR Sa1779 22 q1769 1 = 16 := (hA 1 16 rfl).trans rfl
  have hNw := zNew.gw hG hNw
  refine zcSW_i (As := [.ref (a 0), .int 122, .ref q1769]) (rest := []) (n9 := 3) C hw (c_L_ask_z_register_r l hst D y base Sa1779 a 0 16 q1769 hNw.1 hNw.2.1 hK9 hN9 hj0 hj1) gL_law_L_ask rfl (by decide +kernel) ⟨⟨rfl, rfl⟩, Nat.le_of_ble_eq_true rfl, Nat.le_of_ble_eq_true rfl⟩ rfl hl.1 rfl (Nat.le_of_ble_eq_true rfl) ⟨Nat.le_of_ble_eq_true rfl, Nat.le_of_ble_eq_true rfl⟩ dL_law_1780 (fun r1780 S1780 H locs hp1780 hw => ?_)
  have h9 : r1780 = (-2000000002) ∧ S1780 = Sa1779 := by
    rcases hp1780 with h | h
    · exact h.2
    · exact absurd h.1 (by decide +kernel)
  obtain ⟨rfl, hS9⟩ := h9
  have hS9 := hS9.symm
  subst hS9
  refine lv_ldc (own := RL) (v := (-2000000002)) hx hb hown (hts (.constant RL 71 (-2000000002)) (by decide +kernel)) dL_law_1783 ?_
  refine lv_icmp_ne (tgt := 1945) hx hb dL_law_1785 (by decide) (fun c1785 => absurd c1785 (by decide)) (fun _ => ?_)
  refine lv_aload_n hx hb dL_law_1788 rfl (lv_at hl 0 rfl) ?_
  refine lv_bipush (v := 122) hx hb dL_law_1789 (by decide) ?_
  refine lv_iconst (v := 2) hx hb dL_law_1791 (by decide) ?_
  refine znewI (N := 2) C hw (by decide +kernel) (by decide) (by decide) (Nat.le_of_ble_eq_true rfl) (Nat.le_of_ble_eq_true rfl) (Nat.le_of_ble_eq_true rfl) dL_law_1792 (fun q1792 H kq1792 hw => ?_)
  have hA : zAr Sa1779 (znR Sa1779 q1792 22 2 (fun _ => 0)) q1792 2 [] := zAr.new kq1792
  generalize (znR Sa1779 q1792 22 2 (fun _ => 0)) = Sa1792 at hw hA
  refine lv_dup hx hb dL_law_1794 rfl ?_
  refine lv_iconst (v := 0) hx hb dL_law_1795 (by decide) ?_
  refine lv_bipush (v := 127) hx hb dL_law_1796 (by decide) ?_
  refine zast_I (a := q1792) C hw hA.2.1 hA.2.2.1 (zin_of (N := 2) (by decide) (by grind) (by grind)) dL_law_1798 (fun H locs hw => ?_)
  have hA : zAr Sa1779 (zsR Sa1792 22 q1792 (upd (zR Sa1792 22 q1792) (0 : Int32).toNatClampNeg 127)) q1792 2 [127] := zAr.st (k := 0) hA kq1792 (by decide) rfl
  generalize (zsR Sa1792 22 q1792 (upd (zR Sa1792 22 q1792) (0 : Int32).toNatClampNeg 127)) = Sa1798 at hw hA
  refine lv_dup hx hb dL_law_1799 rfl ?_
  refine lv_iconst (v := 1) hx hb dL_law_1800 (by decide) ?_
  refine lv_bipush (v := 15) hx hb dL_law_1801 (by decide) ?_
  refine zast_I (a := q1792) C hw hA.2.1 hA.2.2.1 (zin_of (N := 2) (by decide) (by grind) (by grind)) dL_law_1803 (fun H locs hw => ?_)
  have hA : zAr Sa1779 (zsR Sa1798 22 q1792 (upd (zR Sa1798 22 q1792) (1 : Int32).toNatClampNeg 15)) q1792 2 [127, 15] := zAr.st (k := 1) hA kq1792 (by decide) rfl
  generalize (zsR Sa1798 22 q1792 (upd (zR Sa1798 22 q1792) (1 : Int32).toNatClampNeg 15)) = Sa1803 at hw hA
  obtain ⟨hG, hK9, hN9, hA⟩ := hA
  have hj0 : zR Sa1803 22 q1792 0 = 127 := (hA 0 127 rfl).trans rfl
  have hj1 : zR Sa1803 22 q1792 1 = 15 := (hA 1 15 rfl).trans rfl
  have hNw := zNew.gw hG hNw
  refine zcSW_i (As := [.ref (a 0), .int 122, .ref q1792]) (rest := []) (n9 := 3) C hw (c_L_ask_z_register_r l hst D y base Sa1803 a 127 15 q1792 hNw.1 hNw.2.1 hK9 hN9 hj0 hj1) gL_law_L_ask rfl (by decide +kernel) ⟨⟨rfl, rfl⟩, Nat.le_of_ble_eq_true rfl, Nat.le_of_ble_eq_true rfl⟩ rfl hl.1 rfl (Nat.le_of_ble_eq_true rfl) ⟨Nat.le_of_ble_eq_true rfl, Nat.le_of_ble_eq_true rfl⟩ dL_law_1804 (fun r1804 S1804 H locs hp1804 hw => ?_)
  have h9 : r1804 = (0) ∧ S1804 = Sa1803 := by
    rcases hp1804 with h | h
    · exact absurd h.1 (by decide +kernel)
    · exact h.2
  obtain ⟨rfl, hS9⟩ := h9
  have hS9 := hS9.symm
  subst hS9
  refine lv_if_ne (tgt := 1945) hx hb dL_law_1807 (by decide) (fun c1807 => absurd c1807 (by decide)) (fun _ => ?_)
  refine lv_aload_n hx hb dL_law_1810 rfl (lv_at hl 0 rfl) ?_
  refine lv_bipush (v := 119) hx hb dL_law_1811 (by decide) ?_
  refine lv_iconst (v := 2) hx hb dL_law_1813 (by decide) ?_
  refine znewI (N := 2) C hw (by decide +kernel) (by decide) (by decide) (Nat.le_of_ble_eq_true rfl) (Nat.le_of_ble_eq_true rfl) (Nat.le_of_ble_eq_true rfl) dL_law_1814 (fun q1814 H kq1814 hw => ?_)
  have hA : zAr Sa1803 (znR Sa1803 q1814 22 2 (fun _ => 0)) q1814 2 [] := zAr.new kq1814
  generalize (znR Sa1803 q1814 22 2 (fun _ => 0)) = Sa1814 at hw hA
  refine lv_dup hx hb dL_law_1816 rfl ?_
  refine lv_iconst (v := 0) hx hb dL_law_1817 (by decide) ?_
  refine lv_sipush (v := 256) hx hb dL_law_1818 (by decide) ?_
  refine zast_I (a := q1814) C hw hA.2.1 hA.2.2.1 (zin_of (N := 2) (by decide) (by grind) (by grind)) dL_law_1821 (fun H locs hw => ?_)
  have hA : zAr Sa1803 (zsR Sa1814 22 q1814 (upd (zR Sa1814 22 q1814) (0 : Int32).toNatClampNeg 256)) q1814 2 [256] := zAr.st (k := 0) hA kq1814 (by decide) rfl
  generalize (zsR Sa1814 22 q1814 (upd (zR Sa1814 22 q1814) (0 : Int32).toNatClampNeg 256)) = Sa1821 at hw hA
  refine lv_dup hx hb dL_law_1822 rfl ?_
  refine lv_iconst (v := 1) hx hb dL_law_1823 (by decide) ?_
  refine lv_iconst (v := 0) hx hb dL_law_1824 (by decide) ?_
  refine zast_I (a := q1814) C hw hA.2.1 hA.2.2.1 (zin_of (N := 2) (by decide) (by grind) (by grind)) dL_law_1825 (fun H locs hw => ?_)
  have hA : zAr Sa1803 (zsR Sa1821 22 q1814 (upd (zR Sa1821 22 q1814) (1 : Int32).toNatClampNeg 0)) q1814 2 [256, 0] := zAr.st (k := 1) hA kq1814 (by decide) rfl
  generalize (zsR Sa1821 22 q1814 (upd (zR Sa1821 22 q1814) (1 : Int32).toNatClampNeg 0)) = Sa1825 at hw hA
  obtain ⟨hG, hK9, hN9, hA⟩ := hA
  have hj0 : zR Sa1825 22 q1814 0 = 256 := (hA 0 256 rfl).trans rfl
  have hj1 : zR Sa1825 22 q1814 1 = 0 := (hA 1 0 rfl).trans rfl
  have hNw := zNew.gw hG hNw
  refine zcSW_i (As := [.ref (a 0), .int 119, .ref q1814]) (rest := []) (n9 := 3) C hw (c_L_ask_w_follows_r l hst D y base Sa1825 a 256 0 q1814 hNw.1 hNw.2.1 hK9 hN9 hj0 hj1) gL_law_L_ask rfl (by decide +kernel) ⟨⟨rfl, rfl⟩, Nat.le_of_ble_eq_true rfl, Nat.le_of_ble_eq_true rfl⟩ rfl hl.1 rfl (Nat.le_of_ble_eq_true rfl) ⟨Nat.le_of_ble_eq_true rfl, Nat.le_of_ble_eq_true rfl⟩ dL_law_1826 (fun r1826 S1826 H locs hp1826 hw => ?_)
  have h9 : r1826 = (-2000000002) ∧ S1826 = Sa1825 := by
    rcases hp1826 with h | h
    · exact h.2
    · exact absurd h.1 (by decide +kernel)
  obtain ⟨rfl, hS9⟩ := h9
  have hS9 := hS9.symm
  subst hS9
  refine lv_ldc (own := RL) (v := (-2000000002)) hx hb hown (hts (.constant RL 71 (-2000000002)) (by decide +kernel)) dL_law_1829 ?_
  refine lv_icmp_ne (tgt := 1945) hx hb dL_law_1831 (by decide) (fun c1831 => absurd c1831 (by decide)) (fun _ => ?_)
  refine lv_aload_n hx hb dL_law_1834 rfl (lv_at hl 0 rfl) ?_
  refine lv_bipush (v := 119) hx hb dL_law_1835 (by decide) ?_
  refine lv_iconst (v := 2) hx hb dL_law_1837 (by decide) ?_
  refine znewI (N := 2) C hw (by decide +kernel) (by decide) (by decide) (Nat.le_of_ble_eq_true rfl) (Nat.le_of_ble_eq_true rfl) (Nat.le_of_ble_eq_true rfl) dL_law_1838 (fun q1838 H kq1838 hw => ?_)
  have hA : zAr Sa1825 (znR Sa1825 q1838 22 2 (fun _ => 0)) q1838 2 [] := zAr.new kq1838
  generalize (znR Sa1825 q1838 22 2 (fun _ => 0)) = Sa1838 at hw hA
  refine lv_dup hx hb dL_law_1840 rfl ?_
  refine lv_iconst (v := 0) hx hb dL_law_1841 (by decide) ?_
  refine lv_iconst (v := 0) hx hb dL_law_1842 (by decide) ?_
  refine zast_I (a := q1838) C hw hA.2.1 hA.2.2.1 (zin_of (N := 2) (by decide) (by grind) (by grind)) dL_law_1843 (fun H locs hw => ?_)
  have hA : zAr Sa1825 (zsR Sa1838 22 q1838 (upd (zR Sa1838 22 q1838) (0 : Int32).toNatClampNeg 0)) q1838 2 [0] := zAr.st (k := 0) hA kq1838 (by decide) rfl
  generalize (zsR Sa1838 22 q1838 (upd (zR Sa1838 22 q1838) (0 : Int32).toNatClampNeg 0)) = Sa1843 at hw hA
  refine lv_dup hx hb dL_law_1844 rfl ?_
  refine lv_iconst (v := 1) hx hb dL_law_1845 (by decide) ?_
  refine lv_iconst (v := 0) hx hb dL_law_1846 (by decide) ?_
  refine zast_I (a := q1838) C hw hA.2.1 hA.2.2.1 (zin_of (N := 2) (by decide) (by grind) (by grind)) dL_law_1847 (fun H locs hw => ?_)
  have hA : zAr Sa1825 (zsR Sa1843 22 q1838 (upd (zR Sa1843 22 q1838) (1 : Int32).toNatClampNeg 0)) q1838 2 [0, 0] := zAr.st (k := 1) hA kq1838 (by decide) rfl
  generalize (zsR Sa1843 22 q1838 (upd (zR Sa1843 22 q1838) (1 : Int32).toNatClampNeg 0)) = Sa1847 at hw hA
  obtain ⟨hG, hK9, hN9, hA⟩ := hA
  have hj0 : zR Sa1847 22 q1838 0 = 0 := (hA 0 0 rfl).trans rfl
  have hj1 : zR Sa1847 22 q1838 1 = 0 := (hA 1 0 rfl).trans rfl
  have hNw := zNew.gw hG hNw
  refine zcSW_i (As := [.ref (a 0), .int 119, .ref q1838]) (rest := []) (n9 := 3) C hw (c_L_ask_w_follows_r l hst D y base Sa1847 a 0 0 q1838 hNw.1 hNw.2.1 hK9 hN9 hj0 hj1) gL_law_L_ask rfl (by decide +kernel) ⟨⟨rfl, rfl⟩, Nat.le_of_ble_eq_true rfl, Nat.le_of_ble_eq_true rfl⟩ rfl hl.1 rfl (Nat.le_of_ble_eq_true rfl) ⟨Nat.le_of_ble_eq_true rfl, Nat.le_of_ble_eq_true rfl⟩ dL_law_1848 (fun r1848 S1848 H locs hp1848 hw => ?_)
  have h9 : r1848 = (0) ∧ S1848 = Sa1847 := by
    rcases hp1848 with h | h
    · exact absurd h.1 (by decide +kernel)
    · exact h.2
  obtain ⟨rfl, hS9⟩ := h9
  have hS9 := hS9.symm
  subst hS9
  refine lv_if_ne (tgt := 1945) hx hb dL_law_1851 (by decide) (fun c1851 => absurd c1851 (by decide)) (fun _ => ?_)
  refine lv_aload_n hx hb dL_law_1854 rfl (lv_at hl 0 rfl) ?_
  refine lv_bipush (v := 65) hx hb dL_law_1855 (by decide) ?_
  refine lv_iconst (v := 1) hx hb dL_law_1857 (by decide) ?_
  refine znewI (N := 1) C hw (by decide +kernel) (by decide) (by decide) (Nat.le_of_ble_eq_true rfl) (Nat.le_of_ble_eq_true rfl) (Nat.le_of_ble_eq_true rfl) dL_law_1858 (fun q1858 H kq1858 hw => ?_)
  have hA : zAr Sa1847 (znR Sa1847 q1858 22 1 (fun _ => 0)) q1858 1 [] := zAr.new kq1858
  generalize (znR Sa1847 q1858 22 1 (fun _ => 0)) = Sa1858 at hw hA
  refine lv_dup hx hb dL_law_1860 rfl ?_
  refine lv_iconst (v := 0) hx hb dL_law_1861 (by decide) ?_
  refine lv_sipush (v := 400) hx hb dL_law_1862 (by decide) ?_
  refine zast_I (a := q1858) C hw hA.2.1 hA.2.2.1 (zin_of (N := 1) (by decide) (by grind) (by grind)) dL_law_1865 (fun H locs hw => ?_)
  have hA : zAr Sa1847 (zsR Sa1858 22 q1858 (upd (zR Sa1858 22 q1858) (0 : Int32).toNatClampNeg 400)) q1858 1 [400] := zAr.st (k := 0) hA kq1858 (by decide) rfl
  generalize (zsR Sa1858 22 q1858 (upd (zR Sa1858 22 q1858) (0 : Int32).toNatClampNeg 400)) = Sa1865 at hw hA
  obtain ⟨hG, hK9, hN9, hA⟩ := hA
  have hj0 : zR Sa1865 22 q1858 0 = 400 := (hA 0 400 rfl).trans rfl
  have hNw := zNew.gw hG hNw
  refine zcSW_i (As := [.ref (a 0), .int 65, .ref q1858]) (rest := []) (n9 := 3) C hw (c_L_ask_A_alike_r l hst D y base Sa1865 a 400 q1858 hNw.1 hNw.2.1 hK9 hN9 hj0) gL_law_L_ask rfl (by decide +kernel) ⟨⟨rfl, rfl⟩, Nat.le_of_ble_eq_true rfl, Nat.le_of_ble_eq_true rfl⟩ rfl hl.1 rfl (Nat.le_of_ble_eq_true rfl) ⟨Nat.le_of_ble_eq_true rfl, Nat.le_of_ble_eq_true rfl⟩ dL_law_1866 (fun r1866 S1866 H locs hp1866 hw => ?_)
  have h9 : r1866 = (-2000000002) ∧ S1866 = Sa1865 := by
    rcases hp1866 with h | h
    · exact h.2
    · exact absurd h.1 (by decide +kernel)
  obtain ⟨rfl, hS9⟩ := h9
  have hS9 := hS9.symm
  subst hS9
  refine lv_ldc (own := RL) (v := (-2000000002)) hx hb hown (hts (.constant RL 71 (-2000000002)) (by decide +kernel)) dL_law_1869 ?_
  refine lv_icmp_ne (tgt := 1945) hx hb dL_law_1871 (by decide) (fun c1871 => absurd c1871 (by decide)) (fun _ => ?_)
  refine lv_aload_n hx hb dL_law_1874 rfl (lv_at hl 0 rfl) ?_
  refine lv_bipush (v := 65) hx hb dL_law_1875 (by decide) ?_
  refine lv_iconst (v := 1) hx hb dL_law_1877 (by decide) ?_
  refine znewI (N := 1) C hw (by decide +kernel) (by decide) (by decide) (Nat.le_of_ble_eq_true rfl) (Nat.le_of_ble_eq_true rfl) (Nat.le_of_ble_eq_true rfl) dL_law_1878 (fun q1878 H kq1878 hw => ?_)
  have hA : zAr Sa1865 (znR Sa1865 q1878 22 1 (fun _ => 0)) q1878 1 [] := zAr.new kq1878
  generalize (znR Sa1865 q1878 22 1 (fun _ => 0)) = Sa1878 at hw hA
  refine lv_dup hx hb dL_law_1880 rfl ?_
  refine lv_iconst (v := 0) hx hb dL_law_1881 (by decide) ?_
  refine lv_iconst (v := 0) hx hb dL_law_1882 (by decide) ?_
  refine zast_I (a := q1878) C hw hA.2.1 hA.2.2.1 (zin_of (N := 1) (by decide) (by grind) (by grind)) dL_law_1883 (fun H locs hw => ?_)
  have hA : zAr Sa1865 (zsR Sa1878 22 q1878 (upd (zR Sa1878 22 q1878) (0 : Int32).toNatClampNeg 0)) q1878 1 [0] := zAr.st (k := 0) hA kq1878 (by decide) rfl
  generalize (zsR Sa1878 22 q1878 (upd (zR Sa1878 22 q1878) (0 : Int32).toNatClampNeg 0)) = Sa1883 at hw hA
  obtain ⟨hG, hK9, hN9, hA⟩ := hA
  have hj0 : zR Sa1883 22 q1878 0 = 0 := (hA 0 0 rfl).trans rfl
  have hNw := zNew.gw hG hNw
  refine zcSW_i (As := [.ref (a 0), .int 65, .ref q1878]) (rest := []) (n9 := 3) C hw (c_L_ask_A_alike_r l hst D y base Sa1883 a 0 q1878 hNw.1 hNw.2.1 hK9 hN9 hj0) gL_law_L_ask rfl (by decide +kernel) ⟨⟨rfl, rfl⟩, Nat.le_of_ble_eq_true rfl, Nat.le_of_ble_eq_true rfl⟩ rfl hl.1 rfl (Nat.le_of_ble_eq_true rfl) ⟨Nat.le_of_ble_eq_true rfl, Nat.le_of_ble_eq_true rfl⟩ dL_law_1884 (fun r1884 S1884 H locs hp1884 hw => ?_)
  have h9 : r1884 = (0) ∧ S1884 = Sa1883 := by
    rcases hp1884 with h | h
    · exact absurd h.1 (by decide +kernel)
    · exact h.2
  obtain ⟨rfl, hS9⟩ := h9
  have hS9 := hS9.symm
  subst hS9
  refine lv_if_ne (tgt := 1945) hx hb dL_law_1887 (by decide) (fun c1887 => absurd c1887 (by decide)) (fun _ => ?_)
  refine lv_aload_n hx hb dL_law_1890 rfl (lv_at hl 0 rfl) ?_
  refine lv_bipush (v := 100) hx hb dL_law_1891 (by decide) ?_
  refine lv_iconst (v := 1) hx hb dL_law_1893 (by decide) ?_
  refine znewI (N := 1) C hw (by decide +kernel) (by decide) (by decide) (Nat.le_of_ble_eq_true rfl) (Nat.le_of_ble_eq_true rfl) (Nat.le_of_ble_eq_true rfl) dL_law_1894 (fun q1894 H kq1894 hw => ?_)
  have hA : zAr Sa1883 (znR Sa1883 q1894 22 1 (fun _ => 0)) q1894 1 [] := zAr.new kq1894
  generalize (znR Sa1883 q1894 22 1 (fun _ => 0)) = Sa1894 at hw hA
  refine lv_dup hx hb dL_law_1896 rfl ?_
  refine lv_iconst (v := 0) hx hb dL_law_1897 (by decide) ?_
  refine lv_iconst (v := 0) hx hb dL_law_1898 (by decide) ?_
  refine zast_I (a := q1894) C hw hA.2.1 hA.2.2.1 (zin_of (N := 1) (by decide) (by grind) (by grind)) dL_law_1899 (fun H locs hw => ?_)
  have hA : zAr Sa1883 (zsR Sa1894 22 q1894 (upd (zR Sa1894 22 q1894) (0 : Int32).toNatClampNeg 0)) q1894 1 [0] := zAr.st (k := 0) hA kq1894 (by decide) rfl
  generalize (zsR Sa1894 22 q1894 (upd (zR Sa1894 22 q1894) (0 : Int32).toNatClampNeg 0)) = Sa1899 at hw hA
  obtain ⟨hG, hK9, hN9, hA⟩ := hA
  have hj0 : zR Sa1899 22 q1894 0 = 0 := (hA 0 0 rfl).trans rfl
  have hNw := zNew.gw hG hNw
  refine zcSW_i (As := [.ref (a 0), .int 100, .ref q1894]) (rest := []) (n9 := 3) C hw (c_L_ask_d_differs_r l hst D y base Sa1899 a 0 q1894 hNw.1 hNw.2.1 hK9 hN9 hj0) gL_law_L_ask rfl (by decide +kernel) ⟨⟨rfl, rfl⟩, Nat.le_of_ble_eq_true rfl, Nat.le_of_ble_eq_true rfl⟩ rfl hl.1 rfl (Nat.le_of_ble_eq_true rfl) ⟨Nat.le_of_ble_eq_true rfl, Nat.le_of_ble_eq_true rfl⟩ dL_law_1900 (fun r1900 S1900 H locs hp1900 hw => ?_)
  have h9 : r1900 = (-2000000005) ∧ S1900 = Sa1899 := by
    rcases hp1900 with h | h
    · exact absurd h.1 (by decide +kernel)
    · exact h.2
  obtain ⟨rfl, hS9⟩ := h9
  have hS9 := hS9.symm
  subst hS9
  refine lv_ldc (own := RL) (v := (-2000000005)) hx hb hown (hts (.constant RL 80 (-2000000005)) (by decide +kernel)) dL_law_1903 ?_
  refine lv_icmp_ne (tgt := 1945) hx hb dL_law_1905 (by decide) (fun c1905 => absurd c1905 (by decide)) (fun _ => ?_)
  exact law_part_7 hst C hr hlocks hy31 hNw hDs hbase hw hl

set_option maxHeartbeats 4000000 in
set_option maxRecDepth 100000 in
theorem law_part_5 {p : Program} {l : Launch} {e : Env} {s : State} {m : MethodId} {below : List Frame} {meth : Method} {c : Code} {H : Heap} {locs : List Loc} {ls : Array Slot} {D : va_G} {y : Nat → ClassId} {base : Nat} {S : zS} {a : Nat → Nat} {bs : Nat} (hst : l.stackTraces = false) (C : CallFix p m c code 2 s #[Value.ref bs] wsL_law RL) (hr : meth.sig.returnType = ret) (hlocks : meth.locks = false) (hy31 : y 99 < 2 ^ 31) (hNw : zNew S a) (hDs : zDs a) (hbase : base = s.heap.size) (hw : zW D y base S s H locs) (hl : lv_has ls 2 [(1, .ref (a 0)), (0, .ref (y 98))]) : W p l e room_1 s m #[Value.ref bs] below meth c H locs 283 7050 (lw_Z below #[Value.ref bs] s) (F0 m 1469 ls []) := by
  have hx := C.1
  have hb := C.2.1
  have hown := C.2.2.2.1
  have hts := C.2.2.2.2
  refine lv_aload_n hx hb dL_law_1469 rfl (lv_at hl 0 rfl) ?_
  refine lv_bipush (v := 84) hx hb dL_law_1470 (by decide) ?_
  refine lv_iconst (v := 1) hx hb dL_law_1472 (by decide) ?_
  refine znewI (N := 1) C hw (by decide +kernel) (by decide) (by decide) (Nat.le_of_ble_eq_true rfl) (Nat.le_of_ble_eq_true rfl) (Nat.le_of_ble_eq_true rfl) dL_law_1473 (fun q1473 H kq1473 hw => ?_)
  have hA : zAr S (znR S q1473 22 1 (fun _ => 0)) q1473 1 [] := zAr.new kq1473
  generalize (znR S q1473 22 1 (fun _ => 0)) = Sa1473 at hw hA
  refine lv_dup hx hb dL_law_1475 rfl ?_
  refine lv_iconst (v := 0) hx hb dL_law_1476 (by decide) ?_
  refine lv_iconst (v := 2) hx hb dL_law_1477 (by decide) ?_
  refine zast_I (a := q1473) C hw hA.2.1 hA.2.2.1 (zin_of (N := 1) (by decide) (by grind) (by grind)) dL_law_1478 (fun H locs hw => ?_)
  have hA : zAr S (zsR Sa1473 22 q1473 (upd (zR Sa1473 22 q1473) (0 : Int32).toNatClampNeg 2)) q1473 1 [2] := zAr.st (k := 0) hA kq1473 (by decide) rfl
  generalize (zsR Sa1473 22 q1473 (upd (zR Sa1473 22 q1473) (0 : Int32).toNatClampNeg 2)) = Sa1478 at hw hA
  obtain ⟨hG, hK9, hN9, hA⟩ := hA
  have hj0 : zR Sa1478 22 q1473 0 = 2 := (hA 0 2 rfl).trans rfl
  have hNw := zNew.gw hG hNw
  refine zcSW_i (As := [.ref (a 0), .int 84, .ref q1473]) (rest := []) (n9 := 3) C hw (c_L_ask_T_trigger_r l hst D y base Sa1478 a 2 q1473 hNw.1 hNw.2.1 hK9 hN9 hj0) gL_law_L_ask rfl (by decide +kernel) ⟨⟨rfl, rfl⟩, Nat.le_of_ble_eq_true rfl, Nat.le_of_ble_eq_true rfl⟩ rfl hl.1 rfl (Nat.le_of_ble_eq_true rfl) ⟨Nat.le_of_ble_eq_true rfl, Nat.le_of_ble_eq_true rfl⟩ dL_law_1479 (fun r1479 S1479 H locs hp1479 hw => ?_)
  have h9 : r1479 = (-2000000001) ∧ S1479 = Sa1478 := by
    rcases hp1479 with h | h
    · exact h.2
    · exact absurd h.1 (by decide +kernel)
  obtain ⟨rfl, hS9⟩ := h9
  have hS9 := hS9.symm
  subst hS9
  refine lv_ldc (own := RL) (v := (-2000000001)) hx hb hown (hts (.constant RL 68 (-2000000001)) (by decide +kernel)) dL_law_1482 ?_
  refine lv_icmp_ne (tgt := 1945) hx hb dL_law_1484 (by decide) (fun c1484 => absurd c1484 (by decide)) (fun _ => ?_)
  refine lv_aload_n hx hb dL_law_1487 rfl (lv_at hl 0 rfl) ?_
  refine lv_bipush (v := 49) hx hb dL_law_1488 (by decide) ?_
  refine lv_iconst (v := 4) hx hb dL_law_1490 (by decide) ?_
  refine znewI (N := 4) C hw (by decide +kernel) (by decide) (by decide) (Nat.le_of_ble_eq_true rfl) (Nat.le_of_ble_eq_true rfl) (Nat.le_of_ble_eq_true rfl) dL_law_1491 (fun q1491 H kq1491 hw => ?_)
  have hA : zAr Sa1478 (znR Sa1478 q1491 22 4 (fun _ => 0)) q1491 4 [] := zAr.new kq1491
  generalize (znR Sa1478 q1491 22 4 (fun _ => 0)) = Sa1491 at hw hA
  refine lv_dup hx hb dL_law_1493 rfl ?_
  refine lv_iconst (v := 0) hx hb dL_law_1494 (by decide) ?_
  refine lv_iconst (v := 0) hx hb dL_law_1495 (by decide) ?_
  refine zast_I (a := q1491) C hw hA.2.1 hA.2.2.1 (zin_of (N := 4) (by decide) (by grind) (by grind)) dL_law_1496 (fun H locs hw => ?_)
  have hA : zAr Sa1478 (zsR Sa1491 22 q1491 (upd (zR Sa1491 22 q1491) (0 : Int32).toNatClampNeg 0)) q1491 4 [0] := zAr.st (k := 0) hA kq1491 (by decide) rfl
  generalize (zsR Sa1491 22 q1491 (upd (zR Sa1491 22 q1491) (0 : Int32).toNatClampNeg 0)) = Sa1496 at hw hA
  refine lv_dup hx hb dL_law_1497 rfl ?_
  refine lv_iconst (v := 1) hx hb dL_law_1498 (by decide) ?_
  refine lv_iconst (v := 0) hx hb dL_law_1499 (by decide) ?_
  refine zast_I (a := q1491) C hw hA.2.1 hA.2.2.1 (zin_of (N := 4) (by decide) (by grind) (by grind)) dL_law_1500 (fun H locs hw => ?_)
  have hA : zAr Sa1478 (zsR Sa1496 22 q1491 (upd (zR Sa1496 22 q1491) (1 : Int32).toNatClampNeg 0)) q1491 4 [0, 0] := zAr.st (k := 1) hA kq1491 (by decide) rfl
  generalize (zsR Sa1496 22 q1491 (upd (zR Sa1496 22 q1491) (1 : Int32).toNatClampNeg 0)) = Sa1500 at hw hA
  refine lv_dup hx hb dL_law_1501 rfl ?_
  refine lv_iconst (v := 2) hx hb dL_law_1502 (by decide) ?_
  refine lv_bipush (v := 9) hx hb dL_law_1503 (by decide) ?_
  refine zast_I (a := q1491) C hw hA.2.1 hA.2.2.1 (zin_of (N := 4) (by decide) (by grind) (by grind)) dL_law_1505 (fun H locs hw => ?_)
  have hA : zAr Sa1478 (zsR Sa1500 22 q1491 (upd (zR Sa1500 22 q1491) (2 : Int32).toNatClampNeg 9)) q1491 4 [0, 0, 9] := zAr.st (k := 2) hA kq1491 (by decide) rfl
  generalize (zsR Sa1500 22 q1491 (upd (zR Sa1500 22 q1491) (2 : Int32).toNatClampNeg 9)) = Sa1505 at hw hA
  refine lv_dup hx hb dL_law_1506 rfl ?_
  refine lv_iconst (v := 3) hx hb dL_law_1507 (by decide) ?_
  refine lv_bipush (v := 110) hx hb dL_law_1508 (by decide) ?_
  refine zast_I (a := q1491) C hw hA.2.1 hA.2.2.1 (zin_of (N := 4) (by decide) (by grind) (by grind)) dL_law_1510 (fun H locs hw => ?_)
  have hA : zAr Sa1478 (zsR Sa1505 22 q1491 (upd (zR Sa1505 22 q1491) (3 : Int32).toNatClampNeg 110)) q1491 4 [0, 0, 9, 110] := zAr.st (k := 3) hA kq1491 (by decide) rfl
  generalize (zsR Sa1505 22 q1491 (upd (zR Sa1505 22 q1491) (3 : Int32).toNatClampNeg 110)) = Sa1510 at hw hA
  obtain ⟨hG, hK9, hN9, hA⟩ := hA
  have hj0 : zR Sa1510 22 q1491 0 = 0 := (hA 0 0 rfl).trans rfl
  have hj1 : zR Sa1510 22 q1491 1 = 0 := (hA 1 0 rfl).trans rfl
  have hj2 : zR Sa1510 22 q1491 2 = 9 := (hA 2 9 rfl).trans rfl
  have hj3 : zR Sa1510 22 q1491 3 = 110 := (hA 3 110 rfl).trans rfl
  have hNw := zNew.gw hG hNw
  refine zcSW_i (As := [.ref (a 0), .int 49, .ref q1491]) (rest := []) (n9 := 3) C hw (c_L_ask_1_decodeSerial_r l hst D y base Sa1510 a 0 0 9 110 q1491 hNw.1 hNw.2.1 hK9 hN9 hj0 hj1 hj2 hj3 (by decide)) gL_law_L_ask rfl (by decide +kernel) ⟨⟨rfl, rfl⟩, Nat.le_of_ble_eq_true rfl, Nat.le_of_ble_eq_true rfl⟩ rfl hl.1 rfl (Nat.le_of_ble_eq_true rfl) ⟨Nat.le_of_ble_eq_true rfl, Nat.le_of_ble_eq_true rfl⟩ dL_law_1511 (fun r1511 S1511 H locs hp1511 hw => ?_)
  have h9 : r1511 = (-2000000002) ∧ S1511 = Sa1510 := by
    rcases hp1511 with h | h | h
    · exact absurd h.1 (by decide +kernel)
    · exact h.2
    · exact absurd h.1 (by decide +kernel)
  obtain ⟨rfl, hS9⟩ := h9
  have hS9 := hS9.symm
  subst hS9
  refine lv_ldc (own := RL) (v := (-2000000002)) hx hb hown (hts (.constant RL 71 (-2000000002)) (by decide +kernel)) dL_law_1514 ?_
  refine lv_icmp_ne (tgt := 1945) hx hb dL_law_1516 (by decide) (fun c1516 => absurd c1516 (by decide)) (fun _ => ?_)
  refine lv_aload_n hx hb dL_law_1519 rfl (lv_at hl 0 rfl) ?_
  refine lv_bipush (v := 49) hx hb dL_law_1520 (by decide) ?_
  refine lv_iconst (v := 4) hx hb dL_law_1522 (by decide) ?_
  refine znewI (N := 4) C hw (by decide +kernel) (by decide) (by decide) (Nat.le_of_ble_eq_true rfl) (Nat.le_of_ble_eq_true rfl) (Nat.le_of_ble_eq_true rfl) dL_law_1523 (fun q1523 H kq1523 hw => ?_)
  have hA : zAr Sa1510 (znR Sa1510 q1523 22 4 (fun _ => 0)) q1523 4 [] := zAr.new kq1523
  generalize (znR Sa1510 q1523 22 4 (fun _ => 0)) = Sa1523 at hw hA
  refine lv_dup hx hb dL_law_1525 rfl ?_
  refine lv_iconst (v := 0) hx hb dL_law_1526 (by decide) ?_
  refine lv_iconst (v := 0) hx hb dL_law_1527 (by decide) ?_
  refine zast_I (a := q1523) C hw hA.2.1 hA.2.2.1 (zin_of (N := 4) (by decide) (by grind) (by grind)) dL_law_1528 (fun H locs hw => ?_)
  have hA : zAr Sa1510 (zsR Sa1523 22 q1523 (upd (zR Sa1523 22 q1523) (0 : Int32).toNatClampNeg 0)) q1523 4 [0] := zAr.st (k := 0) hA kq1523 (by decide) rfl
  generalize (zsR Sa1523 22 q1523 (upd (zR Sa1523 22 q1523) (0 : Int32).toNatClampNeg 0)) = Sa1528 at hw hA
  refine lv_dup hx hb dL_law_1529 rfl ?_
  refine lv_iconst (v := 1) hx hb dL_law_1530 (by decide) ?_
  refine lv_iconst (v := 0) hx hb dL_law_1531 (by decide) ?_
  refine zast_I (a := q1523) C hw hA.2.1 hA.2.2.1 (zin_of (N := 4) (by decide) (by grind) (by grind)) dL_law_1532 (fun H locs hw => ?_)
  have hA : zAr Sa1510 (zsR Sa1528 22 q1523 (upd (zR Sa1528 22 q1523) (1 : Int32).toNatClampNeg 0)) q1523 4 [0, 0] := zAr.st (k := 1) hA kq1523 (by decide) rfl
  generalize (zsR Sa1528 22 q1523 (upd (zR Sa1528 22 q1523) (1 : Int32).toNatClampNeg 0)) = Sa1532 at hw hA
  refine lv_dup hx hb dL_law_1533 rfl ?_
  refine lv_iconst (v := 2) hx hb dL_law_1534 (by decide) ?_
  refine lv_bipush (v := 10) hx hb dL_law_1535 (by decide) ?_
  refine zast_I (a := q1523) C hw hA.2.1 hA.2.2.1 (zin_of (N := 4) (by decide) (by grind) (by grind)) dL_law_1537 (fun H locs hw => ?_)
  have hA : zAr Sa1510 (zsR Sa1532 22 q1523 (upd (zR Sa1532 22 q1523) (2 : Int32).toNatClampNeg 10)) q1523 4 [0, 0, 10] := zAr.st (k := 2) hA kq1523 (by decide) rfl
  generalize (zsR Sa1532 22 q1523 (upd (zR Sa1532 22 q1523) (2 : Int32).toNatClampNeg 10)) = Sa1537 at hw hA
  refine lv_dup hx hb dL_law_1538 rfl ?_
  refine lv_iconst (v := 3) hx hb dL_law_1539 (by decide) ?_
  refine lv_bipush (v := 120) hx hb dL_law_1540 (by decide) ?_
  refine zast_I (a := q1523) C hw hA.2.1 hA.2.2.1 (zin_of (N := 4) (by decide) (by grind) (by grind)) dL_law_1542 (fun H locs hw => ?_)
  have hA : zAr Sa1510 (zsR Sa1537 22 q1523 (upd (zR Sa1537 22 q1523) (3 : Int32).toNatClampNeg 120)) q1523 4 [0, 0, 10, 120] := zAr.st (k := 3) hA kq1523 (by decide) rfl
  generalize (zsR Sa1537 22 q1523 (upd (zR Sa1537 22 q1523) (3 : Int32).toNatClampNeg 120)) = Sa1542 at hw hA
  obtain ⟨hG, hK9, hN9, hA⟩ := hA
  have hj0 : zR Sa1542 22 q1523 0 = 0 := (hA 0 0 rfl).trans rfl
  have hj1 : zR Sa1542 22 q1523 1 = 0 := (hA 1 0 rfl).trans rfl
  have hj2 : zR Sa1542 22 q1523 2 = 10 := (hA 2 10 rfl).trans rfl
  have hj3 : zR Sa1542 22 q1523 3 = 120 := (hA 3 120 rfl).trans rfl
  have hNw := zNew.gw hG hNw
  refine zcSW_i (As := [.ref (a 0), .int 49, .ref q1523]) (rest := []) (n9 := 3) C hw (c_L_ask_1_decodeSerial_r l hst D y base Sa1542 a 0 0 10 120 q1523 hNw.1 hNw.2.1 hK9 hN9 hj0 hj1 hj2 hj3 (by decide)) gL_law_L_ask rfl (by decide +kernel) ⟨⟨rfl, rfl⟩, Nat.le_of_ble_eq_true rfl, Nat.le_of_ble_eq_true rfl⟩ rfl hl.1 rfl (Nat.le_of_ble_eq_true rfl) ⟨Nat.le_of_ble_eq_true rfl, Nat.le_of_ble_eq_true rfl⟩ dL_law_1543 (fun r1543 S1543 H locs hp1543 hw => ?_)
  have h9 : r1543 = (-2000000002) ∧ S1543 = Sa1542 := by
    rcases hp1543 with h | h | h
    · exact absurd h.1 (by decide +kernel)
    · exact h.2
    · exact absurd h.1 (by decide +kernel)
  obtain ⟨rfl, hS9⟩ := h9
  have hS9 := hS9.symm
  subst hS9
  refine lv_ldc (own := RL) (v := (-2000000002)) hx hb hown (hts (.constant RL 71 (-2000000002)) (by decide +kernel)) dL_law_1546 ?_
  refine lv_icmp_ne (tgt := 1945) hx hb dL_law_1548 (by decide) (fun c1548 => absurd c1548 (by decide)) (fun _ => ?_)
  refine lv_aload_n hx hb dL_law_1551 rfl (lv_at hl 0 rfl) ?_
  refine lv_bipush (v := 49) hx hb dL_law_1552 (by decide) ?_
  refine lv_iconst (v := 4) hx hb dL_law_1554 (by decide) ?_
  refine znewI (N := 4) C hw (by decide +kernel) (by decide) (by decide) (Nat.le_of_ble_eq_true rfl) (Nat.le_of_ble_eq_true rfl) (Nat.le_of_ble_eq_true rfl) dL_law_1555 (fun q1555 H kq1555 hw => ?_)
  have hA : zAr Sa1542 (znR Sa1542 q1555 22 4 (fun _ => 0)) q1555 4 [] := zAr.new kq1555
  generalize (znR Sa1542 q1555 22 4 (fun _ => 0)) = Sa1555 at hw hA
  refine lv_dup hx hb dL_law_1557 rfl ?_
  refine lv_iconst (v := 0) hx hb dL_law_1558 (by decide) ?_
  refine lv_iconst (v := 0) hx hb dL_law_1559 (by decide) ?_
  refine zast_I (a := q1555) C hw hA.2.1 hA.2.2.1 (zin_of (N := 4) (by decide) (by grind) (by grind)) dL_law_1560 (fun H locs hw => ?_)
  have hA : zAr Sa1542 (zsR Sa1555 22 q1555 (upd (zR Sa1555 22 q1555) (0 : Int32).toNatClampNeg 0)) q1555 4 [0] := zAr.st (k := 0) hA kq1555 (by decide) rfl
  generalize (zsR Sa1555 22 q1555 (upd (zR Sa1555 22 q1555) (0 : Int32).toNatClampNeg 0)) = Sa1560 at hw hA
  refine lv_dup hx hb dL_law_1561 rfl ?_
  refine lv_iconst (v := 1) hx hb dL_law_1562 (by decide) ?_
  refine lv_iconst (v := 0) hx hb dL_law_1563 (by decide) ?_
  refine zast_I (a := q1555) C hw hA.2.1 hA.2.2.1 (zin_of (N := 4) (by decide) (by grind) (by grind)) dL_law_1564 (fun H locs hw => ?_)
  have hA : zAr Sa1542 (zsR Sa1560 22 q1555 (upd (zR Sa1560 22 q1555) (1 : Int32).toNatClampNeg 0)) q1555 4 [0, 0] := zAr.st (k := 1) hA kq1555 (by decide) rfl
  generalize (zsR Sa1560 22 q1555 (upd (zR Sa1560 22 q1555) (1 : Int32).toNatClampNeg 0)) = Sa1564 at hw hA
  refine lv_dup hx hb dL_law_1565 rfl ?_
  refine lv_iconst (v := 2) hx hb dL_law_1566 (by decide) ?_
  refine lv_bipush (v := 10) hx hb dL_law_1567 (by decide) ?_
  refine zast_I (a := q1555) C hw hA.2.1 hA.2.2.1 (zin_of (N := 4) (by decide) (by grind) (by grind)) dL_law_1569 (fun H locs hw => ?_)
  have hA : zAr Sa1542 (zsR Sa1564 22 q1555 (upd (zR Sa1564 22 q1555) (2 : Int32).toNatClampNeg 10)) q1555 4 [0, 0, 10] := zAr.st (k := 2) hA kq1555 (by decide) rfl
  generalize (zsR Sa1564 22 q1555 (upd (zR Sa1564 22 q1555) (2 : Int32).toNatClampNeg 10)) = Sa1569 at hw hA
  refine lv_dup hx hb dL_law_1570 rfl ?_
  refine lv_iconst (v := 3) hx hb dL_law_1571 (by decide) ?_
  refine lv_bipush (v := 110) hx hb dL_law_1572 (by decide) ?_
  refine zast_I (a := q1555) C hw hA.2.1 hA.2.2.1 (zin_of (N := 4) (by decide) (by grind) (by grind)) dL_law_1574 (fun H locs hw => ?_)
  have hA : zAr Sa1542 (zsR Sa1569 22 q1555 (upd (zR Sa1569 22 q1555) (3 : Int32).toNatClampNeg 110)) q1555 4 [0, 0, 10, 110] := zAr.st (k := 3) hA kq1555 (by decide) rfl
  generalize (zsR Sa1569 22 q1555 (upd (zR Sa1569 22 q1555) (3 : Int32).toNatClampNeg 110)) = Sa1574 at hw hA
  obtain ⟨hG, hK9, hN9, hA⟩ := hA
  have hj0 : zR Sa1574 22 q1555 0 = 0 := (hA 0 0 rfl).trans rfl
  have hj1 : zR Sa1574 22 q1555 1 = 0 := (hA 1 0 rfl).trans rfl
  have hj2 : zR Sa1574 22 q1555 2 = 10 := (hA 2 10 rfl).trans rfl
  have hj3 : zR Sa1574 22 q1555 3 = 110 := (hA 3 110 rfl).trans rfl
  have hNw := zNew.gw hG hNw
  refine zcSW_i (As := [.ref (a 0), .int 49, .ref q1555]) (rest := []) (n9 := 3) C hw (c_L_ask_1_decodeSerial_r l hst D y base Sa1574 a 0 0 10 110 q1555 hNw.1 hNw.2.1 hK9 hN9 hj0 hj1 hj2 hj3 (by decide)) gL_law_L_ask rfl (by decide +kernel) ⟨⟨rfl, rfl⟩, Nat.le_of_ble_eq_true rfl, Nat.le_of_ble_eq_true rfl⟩ rfl hl.1 rfl (Nat.le_of_ble_eq_true rfl) ⟨Nat.le_of_ble_eq_true rfl, Nat.le_of_ble_eq_true rfl⟩ dL_law_1575 (fun r1575 S1575 H locs hp1575 hw => ?_)
  have h9 : r1575 = (0) ∧ S1575 = zsI Sa1574 112 (a 4) 0 := by
    rcases hp1575 with h | h | h
    · exact absurd h.1 (by decide +kernel)
    · exact absurd h.1 (by decide +kernel)
    · exact h.2
  obtain ⟨rfl, hS9⟩ := h9
  have hNw : zNew S1575 a := by rw [hS9]; exact zNew.same hNw hNw.2.1.2.2.2.1
  refine lv_if_ne (tgt := 1945) hx hb dL_law_1578 (by decide) (fun c1578 => absurd c1578 (by decide)) (fun _ => ?_)
  refine lv_aload_n hx hb dL_law_1581 rfl (lv_at hl 0 rfl) ?_
  refine lv_bipush (v := 50) hx hb dL_law_1582 (by decide) ?_
  refine lv_iconst (v := 3) hx hb dL_law_1584 (by decide) ?_
  refine znewI (N := 3) C hw (by decide +kernel) (by decide) (by decide) (Nat.le_of_ble_eq_true rfl) (Nat.le_of_ble_eq_true rfl) (Nat.le_of_ble_eq_true rfl) dL_law_1585 (fun q1585 H kq1585 hw => ?_)
  have hA : zAr S1575 (znR S1575 q1585 22 3 (fun _ => 0)) q1585 3 [] := zAr.new kq1585
  generalize (znR S1575 q1585 22 3 (fun _ => 0)) = Sa1585 at hw hA
  refine lv_dup hx hb dL_law_1587 rfl ?_
  refine lv_iconst (v := 0) hx hb dL_law_1588 (by decide) ?_
  refine lv_iconst (v := 0) hx hb dL_law_1589 (by decide) ?_
  refine zast_I (a := q1585) C hw hA.2.1 hA.2.2.1 (zin_of (N := 3) (by decide) (by grind) (by grind)) dL_law_1590 (fun H locs hw => ?_)
  have hA : zAr S1575 (zsR Sa1585 22 q1585 (upd (zR Sa1585 22 q1585) (0 : Int32).toNatClampNeg 0)) q1585 3 [0] := zAr.st (k := 0) hA kq1585 (by decide) rfl
  generalize (zsR Sa1585 22 q1585 (upd (zR Sa1585 22 q1585) (0 : Int32).toNatClampNeg 0)) = Sa1590 at hw hA
  refine lv_dup hx hb dL_law_1591 rfl ?_
  refine lv_iconst (v := 1) hx hb dL_law_1592 (by decide) ?_
  refine lv_iconst (v := 1) hx hb dL_law_1593 (by decide) ?_
  refine zast_I (a := q1585) C hw hA.2.1 hA.2.2.1 (zin_of (N := 3) (by decide) (by grind) (by grind)) dL_law_1594 (fun H locs hw => ?_)
  have hA : zAr S1575 (zsR Sa1590 22 q1585 (upd (zR Sa1590 22 q1585) (1 : Int32).toNatClampNeg 1)) q1585 3 [0, 1] := zAr.st (k := 1) hA kq1585 (by decide) rfl
  generalize (zsR Sa1590 22 q1585 (upd (zR Sa1590 22 q1585) (1 : Int32).toNatClampNeg 1)) = Sa1594 at hw hA
  refine lv_dup hx hb dL_law_1595 rfl ?_
  refine lv_iconst (v := 2) hx hb dL_law_1596 (by decide) ?_
  refine lv_iconst (v := 1) hx hb dL_law_1597 (by decide) ?_
  refine zast_I (a := q1585) C hw hA.2.1 hA.2.2.1 (zin_of (N := 3) (by decide) (by grind) (by grind)) dL_law_1598 (fun H locs hw => ?_)
  have hA : zAr S1575 (zsR Sa1594 22 q1585 (upd (zR Sa1594 22 q1585) (2 : Int32).toNatClampNeg 1)) q1585 3 [0, 1, 1] := zAr.st (k := 2) hA kq1585 (by decide) rfl
  generalize (zsR Sa1594 22 q1585 (upd (zR Sa1594 22 q1585) (2 : Int32).toNatClampNeg 1)) = Sa1598 at hw hA
  obtain ⟨hG, hK9, hN9, hA⟩ := hA
  have hj0 : zR Sa1598 22 q1585 0 = 0 := (hA 0 0 rfl).trans rfl
  have hj1 : zR Sa1598 22 q1585 1 = 1 := (hA 1 1 rfl).trans rfl
  have hj2 : zR Sa1598 22 q1585 2 = 1 := (hA 2 1 rfl).trans rfl
  have hNw := zNew.gw hG hNw
  refine zcSW_i (As := [.ref (a 0), .int 50, .ref q1585]) (rest := []) (n9 := 3) C hw (c_L_ask_2_decodeTwo_r l hst D y base Sa1598 a 0 1 1 q1585 hNw.1 hNw.2.1 (by decide +kernel) hK9 hN9 hj0 hj1 hj2) gL_law_L_ask rfl (by decide +kernel) ⟨⟨rfl, rfl⟩, Nat.le_of_ble_eq_true rfl, Nat.le_of_ble_eq_true rfl⟩ rfl hl.1 rfl (Nat.le_of_ble_eq_true rfl) ⟨Nat.le_of_ble_eq_true rfl, Nat.le_of_ble_eq_true rfl⟩ dL_law_1599 (fun r1599 S1599 H locs hp1599 hw => ?_)
  have h9 : r1599 = (-2000000002) ∧ S1599 = Sa1598 := by
    rcases hp1599 with h | h
    · exact absurd h.1 (by decide +kernel)
    · exact h.2
  obtain ⟨rfl, hS9⟩ := h9
  have hS9 := hS9.symm
  subst hS9
  refine lv_ldc (own := RL) (v := (-2000000002)) hx hb hown (hts (.constant RL 71 (-2000000002)) (by decide +kernel)) dL_law_1602 ?_
  refine lv_icmp_ne (tgt := 1945) hx hb dL_law_1604 (by decide) (fun c1604 => absurd c1604 (by decide)) (fun _ => ?_)
  refine lv_aload_n hx hb dL_law_1607 rfl (lv_at hl 0 rfl) ?_
  refine lv_bipush (v := 50) hx hb dL_law_1608 (by decide) ?_
  refine lv_iconst (v := 3) hx hb dL_law_1610 (by decide) ?_
  refine znewI (N := 3) C hw (by decide +kernel) (by decide) (by decide) (Nat.le_of_ble_eq_true rfl) (Nat.le_of_ble_eq_true rfl) (Nat.le_of_ble_eq_true rfl) dL_law_1611 (fun q1611 H kq1611 hw => ?_)
  have hA : zAr Sa1598 (znR Sa1598 q1611 22 3 (fun _ => 0)) q1611 3 [] := zAr.new kq1611
  generalize (znR Sa1598 q1611 22 3 (fun _ => 0)) = Sa1611 at hw hA
  refine lv_dup hx hb dL_law_1613 rfl ?_
  refine lv_iconst (v := 0) hx hb dL_law_1614 (by decide) ?_
  refine lv_iconst (v := 0) hx hb dL_law_1615 (by decide) ?_
  refine zast_I (a := q1611) C hw hA.2.1 hA.2.2.1 (zin_of (N := 3) (by decide) (by grind) (by grind)) dL_law_1616 (fun H locs hw => ?_)
  have hA : zAr Sa1598 (zsR Sa1611 22 q1611 (upd (zR Sa1611 22 q1611) (0 : Int32).toNatClampNeg 0)) q1611 3 [0] := zAr.st (k := 0) hA kq1611 (by decide) rfl
  generalize (zsR Sa1611 22 q1611 (upd (zR Sa1611 22 q1611) (0 : Int32).toNatClampNeg 0)) = Sa1616 at hw hA
  refine lv_dup hx hb dL_law_1617 rfl ?_
  refine lv_iconst (v := 1) hx hb dL_law_1618 (by decide) ?_
  refine lv_iconst (v := 4) hx hb dL_law_1619 (by decide) ?_
  refine zast_I (a := q1611) C hw hA.2.1 hA.2.2.1 (zin_of (N := 3) (by decide) (by grind) (by grind)) dL_law_1620 (fun H locs hw => ?_)
  have hA : zAr Sa1598 (zsR Sa1616 22 q1611 (upd (zR Sa1616 22 q1611) (1 : Int32).toNatClampNeg 4)) q1611 3 [0, 4] := zAr.st (k := 1) hA kq1611 (by decide) rfl
  generalize (zsR Sa1616 22 q1611 (upd (zR Sa1616 22 q1611) (1 : Int32).toNatClampNeg 4)) = Sa1620 at hw hA
  refine lv_dup hx hb dL_law_1621 rfl ?_
  refine lv_iconst (v := 2) hx hb dL_law_1622 (by decide) ?_
  refine lv_iconst (v := 1) hx hb dL_law_1623 (by decide) ?_
  refine zast_I (a := q1611) C hw hA.2.1 hA.2.2.1 (zin_of (N := 3) (by decide) (by grind) (by grind)) dL_law_1624 (fun H locs hw => ?_)
  have hA : zAr Sa1598 (zsR Sa1620 22 q1611 (upd (zR Sa1620 22 q1611) (2 : Int32).toNatClampNeg 1)) q1611 3 [0, 4, 1] := zAr.st (k := 2) hA kq1611 (by decide) rfl
  generalize (zsR Sa1620 22 q1611 (upd (zR Sa1620 22 q1611) (2 : Int32).toNatClampNeg 1)) = Sa1624 at hw hA
  obtain ⟨hG, hK9, hN9, hA⟩ := hA
  have hj0 : zR Sa1624 22 q1611 0 = 0 := (hA 0 0 rfl).trans rfl
  have hj1 : zR Sa1624 22 q1611 1 = 4 := (hA 1 4 rfl).trans rfl
  have hj2 : zR Sa1624 22 q1611 2 = 1 := (hA 2 1 rfl).trans rfl
  have hNw := zNew.gw hG hNw
  refine zcSW_i (As := [.ref (a 0), .int 50, .ref q1611]) (rest := []) (n9 := 3) C hw (c_L_ask_2_decodeTwo_r l hst D y base Sa1624 a 0 4 1 q1611 hNw.1 hNw.2.1 (by decide +kernel) hK9 hN9 hj0 hj1 hj2) gL_law_L_ask rfl (by decide +kernel) ⟨⟨rfl, rfl⟩, Nat.le_of_ble_eq_true rfl, Nat.le_of_ble_eq_true rfl⟩ rfl hl.1 rfl (Nat.le_of_ble_eq_true rfl) ⟨Nat.le_of_ble_eq_true rfl, Nat.le_of_ble_eq_true rfl⟩ dL_law_1625 (fun r1625 S1625 H locs hp1625 hw => ?_)
  have h9 : r1625 = (-2000000001) ∧ S1625 = Sa1624 := by
    rcases hp1625 with h | h
    · exact h.2
    · exact absurd h.1 (by decide +kernel)
  obtain ⟨rfl, hS9⟩ := h9
  have hS9 := hS9.symm
  subst hS9
  refine lv_ldc (own := RL) (v := (-2000000001)) hx hb hown (hts (.constant RL 68 (-2000000001)) (by decide +kernel)) dL_law_1628 ?_
  refine lv_icmp_ne (tgt := 1945) hx hb dL_law_1630 (by decide) (fun c1630 => absurd c1630 (by decide)) (fun _ => ?_)
  refine lv_aload_n hx hb dL_law_1633 rfl (lv_at hl 0 rfl) ?_
  refine lv_bipush (v := 52) hx hb dL_law_1634 (by decide) ?_
  refine lv_iconst (v := 5) hx hb dL_law_1636 (by decide) ?_
  refine znewI (N := 5) C hw (by decide +kernel) (by decide) (by decide) (Nat.le_of_ble_eq_true rfl) (Nat.le_of_ble_eq_true rfl) (Nat.le_of_ble_eq_true rfl) dL_law_1637 (fun q1637 H kq1637 hw => ?_)
  have hA : zAr Sa1624 (znR Sa1624 q1637 22 5 (fun _ => 0)) q1637 5 [] := zAr.new kq1637
  generalize (znR Sa1624 q1637 22 5 (fun _ => 0)) = Sa1637 at hw hA
  refine lv_dup hx hb dL_law_1639 rfl ?_
  refine lv_iconst (v := 0) hx hb dL_law_1640 (by decide) ?_
  refine lv_iconst (v := 0) hx hb dL_law_1641 (by decide) ?_
  refine zast_I (a := q1637) C hw hA.2.1 hA.2.2.1 (zin_of (N := 5) (by decide) (by grind) (by grind)) dL_law_1642 (fun H locs hw => ?_)
  have hA : zAr Sa1624 (zsR Sa1637 22 q1637 (upd (zR Sa1637 22 q1637) (0 : Int32).toNatClampNeg 0)) q1637 5 [0] := zAr.st (k := 0) hA kq1637 (by decide) rfl
  generalize (zsR Sa1637 22 q1637 (upd (zR Sa1637 22 q1637) (0 : Int32).toNatClampNeg 0)) = Sa1642 at hw hA
  refine lv_dup hx hb dL_law_1643 rfl ?_
  refine lv_iconst (v := 1) hx hb dL_law_1644 (by decide) ?_
  refine lv_iconst (v := 0) hx hb dL_law_1645 (by decide) ?_
  refine zast_I (a := q1637) C hw hA.2.1 hA.2.2.1 (zin_of (N := 5) (by decide) (by grind) (by grind)) dL_law_1646 (fun H locs hw => ?_)
  have hA : zAr Sa1624 (zsR Sa1642 22 q1637 (upd (zR Sa1642 22 q1637) (1 : Int32).toNatClampNeg 0)) q1637 5 [0, 0] := zAr.st (k := 1) hA kq1637 (by decide) rfl
  generalize (zsR Sa1642 22 q1637 (upd (zR Sa1642 22 q1637) (1 : Int32).toNatClampNeg 0)) = Sa1646 at hw hA
  refine lv_dup hx hb dL_law_1647 rfl ?_
  refine lv_iconst (v := 2) hx hb dL_law_1648 (by decide) ?_
  refine lv_iconst (v := 1) hx hb dL_law_1649 (by decide) ?_
  refine zast_I (a := q1637) C hw hA.2.1 hA.2.2.1 (zin_of (N := 5) (by decide) (by grind) (by grind)) dL_law_1650 (fun H locs hw => ?_)
  have hA : zAr Sa1624 (zsR Sa1646 22 q1637 (upd (zR Sa1646 22 q1637) (2 : Int32).toNatClampNeg 1)) q1637 5 [0, 0, 1] := zAr.st (k := 2) hA kq1637 (by decide) rfl
  generalize (zsR Sa1646 22 q1637 (upd (zR Sa1646 22 q1637) (2 : Int32).toNatClampNeg 1)) = Sa1650 at hw hA
  refine lv_dup hx hb dL_law_1651 rfl ?_
  refine lv_iconst (v := 3) hx hb dL_law_1652 (by decide) ?_
  refine lv_iconst (v := 2) hx hb dL_law_1653 (by decide) ?_
  refine zast_I (a := q1637) C hw hA.2.1 hA.2.2.1 (zin_of (N := 5) (by decide) (by grind) (by grind)) dL_law_1654 (fun H locs hw => ?_)
  have hA : zAr Sa1624 (zsR Sa1650 22 q1637 (upd (zR Sa1650 22 q1637) (3 : Int32).toNatClampNeg 2)) q1637 5 [0, 0, 1, 2] := zAr.st (k := 3) hA kq1637 (by decide) rfl
  generalize (zsR Sa1650 22 q1637 (upd (zR Sa1650 22 q1637) (3 : Int32).toNatClampNeg 2)) = Sa1654 at hw hA
  refine lv_dup hx hb dL_law_1655 rfl ?_
  refine lv_iconst (v := 4) hx hb dL_law_1656 (by decide) ?_
  refine lv_iconst (v := 4) hx hb dL_law_1657 (by decide) ?_
  refine zast_I (a := q1637) C hw hA.2.1 hA.2.2.1 (zin_of (N := 5) (by decide) (by grind) (by grind)) dL_law_1658 (fun H locs hw => ?_)
  have hA : zAr Sa1624 (zsR Sa1654 22 q1637 (upd (zR Sa1654 22 q1637) (4 : Int32).toNatClampNeg 4)) q1637 5 [0, 0, 1, 2, 4] := zAr.st (k := 4) hA kq1637 (by decide) rfl
  generalize (zsR Sa1654 22 q1637 (upd (zR Sa1654 22 q1637) (4 : Int32).toNatClampNeg 4)) = Sa1658 at hw hA
  obtain ⟨hG, hK9, hN9, hA⟩ := hA
  have hj0 : zR Sa1658 22 q1637 0 = 0 := (hA 0 0 rfl).trans rfl
  have hj1 : zR Sa1658 22 q1637 1 = 0 := (hA 1 0 rfl).trans rfl
  have hj2 : zR Sa1658 22 q1637 2 = 1 := (hA 2 1 rfl).trans rfl
  have hj3 : zR Sa1658 22 q1637 3 = 2 := (hA 3 2 rfl).trans rfl
  have hj4 : zR Sa1658 22 q1637 4 = 4 := (hA 4 4 rfl).trans rfl
  have hNw := zNew.gw hG hNw
  refine zcSW_i (As := [.ref (a 0), .int 52, .ref q1637]) (rest := []) (n9 := 3) C hw (c_L_ask_4_decodeFour_r l hst D y base Sa1658 a 0 0 1 2 4 q1637 hNw.1 hNw.2.1 (by decide +kernel) hK9 hN9 hj0 hj1 hj2 hj3 hj4) gL_law_L_ask rfl (by decide +kernel) ⟨⟨rfl, rfl⟩, Nat.le_of_ble_eq_true rfl, Nat.le_of_ble_eq_true rfl⟩ rfl hl.1 rfl (Nat.le_of_ble_eq_true rfl) ⟨Nat.le_of_ble_eq_true rfl, Nat.le_of_ble_eq_true rfl⟩ dL_law_1659 (fun r1659 S1659 H locs hp1659 hw => ?_)
  have h9 : r1659 = (-2000000002) ∧ S1659 = Sa1658 := by
    rcases hp1659 with h | h
    · exact absurd h.1 (by decide +kernel)
    · exact h.2
  obtain ⟨rfl, hS9⟩ := h9
  have hS9 := hS9.symm
  subst hS9
  refine lv_ldc (own := RL) (v := (-2000000002)) hx hb hown (hts (.constant RL 71 (-2000000002)) (by decide +kernel)) dL_law_1662 ?_
  refine lv_icmp_ne (tgt := 1945) hx hb dL_law_1664 (by decide) (fun c1664 => absurd c1664 (by decide)) (fun _ => ?_)
  refine lv_aload_n hx hb dL_law_1667 rfl (lv_at hl 0 rfl) ?_
  refine lv_bipush (v := 52) hx hb dL_law_1668 (by decide) ?_
  refine lv_iconst (v := 5) hx hb dL_law_1670 (by decide) ?_
  refine znewI (N := 5) C hw (by decide +kernel) (by decide) (by decide) (Nat.le_of_ble_eq_true rfl) (Nat.le_of_ble_eq_true rfl) (Nat.le_of_ble_eq_true rfl) dL_law_1671 (fun q1671 H kq1671 hw => ?_)
  have hA : zAr Sa1658 (znR Sa1658 q1671 22 5 (fun _ => 0)) q1671 5 [] := zAr.new kq1671
  generalize (znR Sa1658 q1671 22 5 (fun _ => 0)) = Sa1671 at hw hA
  refine lv_dup hx hb dL_law_1673 rfl ?_
  refine lv_iconst (v := 0) hx hb dL_law_1674 (by decide) ?_
  refine lv_iconst (v := 0) hx hb dL_law_1675 (by decide) ?_
  refine zast_I (a := q1671) C hw hA.2.1 hA.2.2.1 (zin_of (N := 5) (by decide) (by grind) (by grind)) dL_law_1676 (fun H locs hw => ?_)
  have hA : zAr Sa1658 (zsR Sa1671 22 q1671 (upd (zR Sa1671 22 q1671) (0 : Int32).toNatClampNeg 0)) q1671 5 [0] := zAr.st (k := 0) hA kq1671 (by decide) rfl
  generalize (zsR Sa1671 22 q1671 (upd (zR Sa1671 22 q1671) (0 : Int32).toNatClampNeg 0)) = Sa1676 at hw hA
  refine lv_dup hx hb dL_law_1677 rfl ?_
  refine lv_iconst (v := 1) hx hb dL_law_1678 (by decide) ?_
  refine lv_iconst (v := 0) hx hb dL_law_1679 (by decide) ?_
  refine zast_I (a := q1671) C hw hA.2.1 hA.2.2.1 (zin_of (N := 5) (by decide) (by grind) (by grind)) dL_law_1680 (fun H locs hw => ?_)
  have hA : zAr Sa1658 (zsR Sa1676 22 q1671 (upd (zR Sa1676 22 q1671) (1 : Int32).toNatClampNeg 0)) q1671 5 [0, 0] := zAr.st (k := 1) hA kq1671 (by decide) rfl
  generalize (zsR Sa1676 22 q1671 (upd (zR Sa1676 22 q1671) (1 : Int32).toNatClampNeg 0)) = Sa1680 at hw hA
  refine lv_dup hx hb dL_law_1681 rfl ?_
  refine lv_iconst (v := 2) hx hb dL_law_1682 (by decide) ?_
  refine lv_iconst (v := 1) hx hb dL_law_1683 (by decide) ?_
  refine zast_I (a := q1671) C hw hA.2.1 hA.2.2.1 (zin_of (N := 5) (by decide) (by grind) (by grind)) dL_law_1684 (fun H locs hw => ?_)
  have hA : zAr Sa1658 (zsR Sa1680 22 q1671 (upd (zR Sa1680 22 q1671) (2 : Int32).toNatClampNeg 1)) q1671 5 [0, 0, 1] := zAr.st (k := 2) hA kq1671 (by decide) rfl
  generalize (zsR Sa1680 22 q1671 (upd (zR Sa1680 22 q1671) (2 : Int32).toNatClampNeg 1)) = Sa1684 at hw hA
  refine lv_dup hx hb dL_law_1685 rfl ?_
  refine lv_iconst (v := 3) hx hb dL_law_1686 (by decide) ?_
  refine lv_iconst (v := 1) hx hb dL_law_1687 (by decide) ?_
  refine zast_I (a := q1671) C hw hA.2.1 hA.2.2.1 (zin_of (N := 5) (by decide) (by grind) (by grind)) dL_law_1688 (fun H locs hw => ?_)
  have hA : zAr Sa1658 (zsR Sa1684 22 q1671 (upd (zR Sa1684 22 q1671) (3 : Int32).toNatClampNeg 1)) q1671 5 [0, 0, 1, 1] := zAr.st (k := 3) hA kq1671 (by decide) rfl
  generalize (zsR Sa1684 22 q1671 (upd (zR Sa1684 22 q1671) (3 : Int32).toNatClampNeg 1)) = Sa1688 at hw hA
  refine lv_dup hx hb dL_law_1689 rfl ?_
  refine lv_iconst (v := 4) hx hb dL_law_1690 (by decide) ?_
  refine lv_iconst (v := 0) hx hb dL_law_1691 (by decide) ?_
  refine zast_I (a := q1671) C hw hA.2.1 hA.2.2.1 (zin_of (N := 5) (by decide) (by grind) (by grind)) dL_law_1692 (fun H locs hw => ?_)
  have hA : zAr Sa1658 (zsR Sa1688 22 q1671 (upd (zR Sa1688 22 q1671) (4 : Int32).toNatClampNeg 0)) q1671 5 [0, 0, 1, 1, 0] := zAr.st (k := 4) hA kq1671 (by decide) rfl
  generalize (zsR Sa1688 22 q1671 (upd (zR Sa1688 22 q1671) (4 : Int32).toNatClampNeg 0)) = Sa1692 at hw hA
  obtain ⟨hG, hK9, hN9, hA⟩ := hA
  have hj0 : zR Sa1692 22 q1671 0 = 0 := (hA 0 0 rfl).trans rfl
  have hj1 : zR Sa1692 22 q1671 1 = 0 := (hA 1 0 rfl).trans rfl
  have hj2 : zR Sa1692 22 q1671 2 = 1 := (hA 2 1 rfl).trans rfl
  have hj3 : zR Sa1692 22 q1671 3 = 1 := (hA 3 1 rfl).trans rfl
  have hj4 : zR Sa1692 22 q1671 4 = 0 := (hA 4 0 rfl).trans rfl
  have hNw := zNew.gw hG hNw
  refine zcSW_i (As := [.ref (a 0), .int 52, .ref q1671]) (rest := []) (n9 := 3) C hw (c_L_ask_4_decodeFour_r l hst D y base Sa1692 a 0 0 1 1 0 q1671 hNw.1 hNw.2.1 (by decide +kernel) hK9 hN9 hj0 hj1 hj2 hj3 hj4) gL_law_L_ask rfl (by decide +kernel) ⟨⟨rfl, rfl⟩, Nat.le_of_ble_eq_true rfl, Nat.le_of_ble_eq_true rfl⟩ rfl hl.1 rfl (Nat.le_of_ble_eq_true rfl) ⟨Nat.le_of_ble_eq_true rfl, Nat.le_of_ble_eq_true rfl⟩ dL_law_1693 (fun r1693 S1693 H locs hp1693 hw => ?_)
  have h9 : r1693 = (-2000000002) ∧ S1693 = Sa1692 := by
    rcases hp1693 with h | h
    · exact absurd h.1 (by decide +kernel)
    · exact h.2
  obtain ⟨rfl, hS9⟩ := h9
  have hS9 := hS9.symm
  subst hS9
  refine lv_ldc (own := RL) (v := (-2000000002)) hx hb hown (hts (.constant RL 71 (-2000000002)) (by decide +kernel)) dL_law_1696 ?_
  refine lv_icmp_ne (tgt := 1945) hx hb dL_law_1698 (by decide) (fun c1698 => absurd c1698 (by decide)) (fun _ => ?_)
  refine lv_aload_n hx hb dL_law_1701 rfl (lv_at hl 0 rfl) ?_
  refine lv_bipush (v := 107) hx hb dL_law_1702 (by decide) ?_
  refine lv_iconst (v := 1) hx hb dL_law_1704 (by decide) ?_
  refine znewI (N := 1) C hw (by decide +kernel) (by decide) (by decide) (Nat.le_of_ble_eq_true rfl) (Nat.le_of_ble_eq_true rfl) (Nat.le_of_ble_eq_true rfl) dL_law_1705 (fun q1705 H kq1705 hw => ?_)
  have hA : zAr Sa1692 (znR Sa1692 q1705 22 1 (fun _ => 0)) q1705 1 [] := zAr.new kq1705
  generalize (znR Sa1692 q1705 22 1 (fun _ => 0)) = Sa1705 at hw hA
  refine lv_dup hx hb dL_law_1707 rfl ?_
  refine lv_iconst (v := 0) hx hb dL_law_1708 (by decide) ?_
  refine lv_iconst (v := 0) hx hb dL_law_1709 (by decide) ?_
  refine zast_I (a := q1705) C hw hA.2.1 hA.2.2.1 (zin_of (N := 1) (by decide) (by grind) (by grind)) dL_law_1710 (fun H locs hw => ?_)
  have hA : zAr Sa1692 (zsR Sa1705 22 q1705 (upd (zR Sa1705 22 q1705) (0 : Int32).toNatClampNeg 0)) q1705 1 [0] := zAr.st (k := 0) hA kq1705 (by decide) rfl
  generalize (zsR Sa1705 22 q1705 (upd (zR Sa1705 22 q1705) (0 : Int32).toNatClampNeg 0)) = Sa1710 at hw hA
  obtain ⟨hG, hK9, hN9, hA⟩ := hA
  have hj0 : zR Sa1710 22 q1705 0 = 0 := (hA 0 0 rfl).trans rfl
  have hNw := zNew.gw hG hNw
  refine zcSW_i (As := [.ref (a 0), .int 107, .ref q1705]) (rest := []) (n9 := 3) C hw (c_L_ask_k_kind_r l hst D y base Sa1710 a 0 q1705 hNw.1 hNw.2.1 hK9 hN9 hj0) gL_law_L_ask rfl (by decide +kernel) ⟨⟨rfl, rfl⟩, Nat.le_of_ble_eq_true rfl, Nat.le_of_ble_eq_true rfl⟩ rfl hl.1 rfl (Nat.le_of_ble_eq_true rfl) ⟨Nat.le_of_ble_eq_true rfl, Nat.le_of_ble_eq_true rfl⟩ dL_law_1711 (fun r1711 S1711 H locs hp1711 hw => ?_)
  have h9 : r1711 = (-2000000001) ∧ S1711 = Sa1710 := hp1711.2
  obtain ⟨rfl, hS9⟩ := h9
  have hS9 := hS9.symm
  subst hS9
  refine lv_ldc (own := RL) (v := (-2000000001)) hx hb hown (hts (.constant RL 68 (-2000000001)) (by decide +kernel)) dL_law_1714 ?_
  refine lv_icmp_ne (tgt := 1945) hx hb dL_law_1716 (by decide) (fun c1716 => absurd c1716 (by decide)) (fun _ => ?_)
  exact law_part_6 hst C hr hlocks hy31 hNw hDs hbase hw hl

set_option maxHeartbeats 4000000 in
set_option maxRecDepth 100000 in
theorem law_part_4 {p : Program} {l : Launch} {e : Env} {s : State} {m : MethodId} {below : List Frame} {meth : Method} {c : Code} {H : Heap} {locs : List Loc} {ls : Array Slot} {D : va_G} {y : Nat → ClassId} {base : Nat} {S : zS} {a : Nat → Nat} {bs : Nat} (hst : l.stackTraces = false) (C : CallFix p m c code 2 s #[Value.ref bs] wsL_law RL) (hr : meth.sig.returnType = ret) (hlocks : meth.locks = false) (hy31 : y 99 < 2 ^ 31) (hNw : zNew S a) (hDs : zDs a) (hbase : base = s.heap.size) (hw : zW D y base S s H locs) (hl : lv_has ls 2 [(1, .ref (a 0)), (0, .ref (y 98))]) : W p l e room_1 s m #[Value.ref bs] below meth c H locs 246 6856 (lw_Z below #[Value.ref bs] s) (F0 m 1232 ls []) := by
  have hx := C.1
  have hb := C.2.1
  have hown := C.2.2.2.1
  have hts := C.2.2.2.2
  refine lv_aload_n hx hb dL_law_1232 rfl (lv_at hl 0 rfl) ?_
  refine lv_bipush (v := 82) hx hb dL_law_1233 (by decide) ?_
  refine lv_iconst (v := 3) hx hb dL_law_1235 (by decide) ?_
  refine znewI (N := 3) C hw (by decide +kernel) (by decide) (by decide) (Nat.le_of_ble_eq_true rfl) (Nat.le_of_ble_eq_true rfl) (Nat.le_of_ble_eq_true rfl) dL_law_1236 (fun q1236 H kq1236 hw => ?_)
  have hA : zAr S (znR S q1236 22 3 (fun _ => 0)) q1236 3 [] := zAr.new kq1236
  generalize (znR S q1236 22 3 (fun _ => 0)) = Sa1236 at hw hA
  refine lv_dup hx hb dL_law_1238 rfl ?_
  refine lv_iconst (v := 0) hx hb dL_law_1239 (by decide) ?_
  refine lv_iconst (v := 0) hx hb dL_law_1240 (by decide) ?_
  refine zast_I (a := q1236) C hw hA.2.1 hA.2.2.1 (zin_of (N := 3) (by decide) (by grind) (by grind)) dL_law_1241 (fun H locs hw => ?_)
  have hA : zAr S (zsR Sa1236 22 q1236 (upd (zR Sa1236 22 q1236) (0 : Int32).toNatClampNeg 0)) q1236 3 [0] := zAr.st (k := 0) hA kq1236 (by decide) rfl
  generalize (zsR Sa1236 22 q1236 (upd (zR Sa1236 22 q1236) (0 : Int32).toNatClampNeg 0)) = Sa1241 at hw hA
  refine lv_dup hx hb dL_law_1242 rfl ?_
  refine lv_iconst (v := 1) hx hb dL_law_1243 (by decide) ?_
  refine lv_iconst (v := 0) hx hb dL_law_1244 (by decide) ?_
  refine zast_I (a := q1236) C hw hA.2.1 hA.2.2.1 (zin_of (N := 3) (by decide) (by grind) (by grind)) dL_law_1245 (fun H locs hw => ?_)
  have hA : zAr S (zsR Sa1241 22 q1236 (upd (zR Sa1241 22 q1236) (1 : Int32).toNatClampNeg 0)) q1236 3 [0, 0] := zAr.st (k := 1) hA kq1236 (by decide) rfl
  generalize (zsR Sa1241 22 q1236 (upd (zR Sa1241 22 q1236) (1 : Int32).toNatClampNeg 0)) = Sa1245 at hw hA
  refine lv_dup hx hb dL_law_1246 rfl ?_
  refine lv_iconst (v := 2) hx hb dL_law_1247 (by decide) ?_
  refine lv_iconst (v := 0) hx hb dL_law_1248 (by decide) ?_
  refine zast_I (a := q1236) C hw hA.2.1 hA.2.2.1 (zin_of (N := 3) (by decide) (by grind) (by grind)) dL_law_1249 (fun H locs hw => ?_)
  have hA : zAr S (zsR Sa1245 22 q1236 (upd (zR Sa1245 22 q1236) (2 : Int32).toNatClampNeg 0)) q1236 3 [0, 0, 0] := zAr.st (k := 2) hA kq1236 (by decide) rfl
  generalize (zsR Sa1245 22 q1236 (upd (zR Sa1245 22 q1236) (2 : Int32).toNatClampNeg 0)) = Sa1249 at hw hA
  obtain ⟨hG, hK9, hN9, hA⟩ := hA
  have hj0 : zR Sa1249 22 q1236 0 = 0 := (hA 0 0 rfl).trans rfl
  have hj1 : zR Sa1249 22 q1236 1 = 0 := (hA 1 0 rfl).trans rfl
  have hj2 : zR Sa1249 22 q1236 2 = 0 := (hA 2 0 rfl).trans rfl
  have hNw := zNew.gw hG hNw
  refine zcSW_i (As := [.ref (a 0), .int 82, .ref q1236]) (rest := []) (n9 := 3) C hw (c_L_ask_R_run_r l hst D y base Sa1249 a 0 0 0 q1236 hNw.1 hNw.2.1 hK9 hN9 hj0 hj1 hj2) gL_law_L_ask rfl (by decide +kernel) ⟨⟨rfl, rfl⟩, Nat.le_of_ble_eq_true rfl, Nat.le_of_ble_eq_true rfl⟩ rfl hl.1 rfl (Nat.le_of_ble_eq_true rfl) ⟨Nat.le_of_ble_eq_true rfl, Nat.le_of_ble_eq_true rfl⟩ dL_law_1250 (fun r1250 S1250 H locs hp1250 hw => ?_)
  have h9 : r1250 = (-2000000005) ∧ S1250 = Sa1249 := by
    rcases hp1250 with h | h
    · exact absurd h.1 (by decide +kernel)
    · exact h.2
  obtain ⟨rfl, hS9⟩ := h9
  have hS9 := hS9.symm
  subst hS9
  refine lv_ldc (own := RL) (v := (-2000000005)) hx hb hown (hts (.constant RL 80 (-2000000005)) (by decide +kernel)) dL_law_1253 ?_
  refine lv_icmp_ne (tgt := 1945) hx hb dL_law_1255 (by decide) (fun c1255 => absurd c1255 (by decide)) (fun _ => ?_)
  refine lv_aload_n hx hb dL_law_1258 rfl (lv_at hl 0 rfl) ?_
  refine lv_bipush (v := 104) hx hb dL_law_1259 (by decide) ?_
  refine lv_iconst (v := 2) hx hb dL_law_1261 (by decide) ?_
  refine znewI (N := 2) C hw (by decide +kernel) (by decide) (by decide) (Nat.le_of_ble_eq_true rfl) (Nat.le_of_ble_eq_true rfl) (Nat.le_of_ble_eq_true rfl) dL_law_1262 (fun q1262 H kq1262 hw => ?_)
  have hA : zAr Sa1249 (znR Sa1249 q1262 22 2 (fun _ => 0)) q1262 2 [] := zAr.new kq1262
  generalize (znR Sa1249 q1262 22 2 (fun _ => 0)) = Sa1262 at hw hA
  refine lv_dup hx hb dL_law_1264 rfl ?_
  refine lv_iconst (v := 0) hx hb dL_law_1265 (by decide) ?_
  refine lv_iconst (v := 0) hx hb dL_law_1266 (by decide) ?_
  refine zast_I (a := q1262) C hw hA.2.1 hA.2.2.1 (zin_of (N := 2) (by decide) (by grind) (by grind)) dL_law_1267 (fun H locs hw => ?_)
  have hA : zAr Sa1249 (zsR Sa1262 22 q1262 (upd (zR Sa1262 22 q1262) (0 : Int32).toNatClampNeg 0)) q1262 2 [0] := zAr.st (k := 0) hA kq1262 (by decide) rfl
  generalize (zsR Sa1262 22 q1262 (upd (zR Sa1262 22 q1262) (0 : Int32).toNatClampNeg 0)) = Sa1267 at hw hA
  refine lv_dup hx hb dL_law_1268 rfl ?_
  refine lv_iconst (v := 1) hx hb dL_law_1269 (by decide) ?_
  refine lv_iconst (v := 0) hx hb dL_law_1270 (by decide) ?_
  refine zast_I (a := q1262) C hw hA.2.1 hA.2.2.1 (zin_of (N := 2) (by decide) (by grind) (by grind)) dL_law_1271 (fun H locs hw => ?_)
  have hA : zAr Sa1249 (zsR Sa1267 22 q1262 (upd (zR Sa1267 22 q1262) (1 : Int32).toNatClampNeg 0)) q1262 2 [0, 0] := zAr.st (k := 1) hA kq1262 (by decide) rfl
  generalize (zsR Sa1267 22 q1262 (upd (zR Sa1267 22 q1262) (1 : Int32).toNatClampNeg 0)) = Sa1271 at hw hA
  obtain ⟨hG, hK9, hN9, hA⟩ := hA
  have hj0 : zR Sa1271 22 q1262 0 = 0 := (hA 0 0 rfl).trans rfl
  have hj1 : zR Sa1271 22 q1262 1 = 0 := (hA 1 0 rfl).trans rfl
  have hNw := zNew.gw hG hNw
  refine zcSW_i (As := [.ref (a 0), .int 104, .ref q1262]) (rest := []) (n9 := 3) C hw (c_L_ask_h_shortest_r l hst D y base Sa1271 a 0 0 q1262 hNw.1 hNw.2.1 hK9 hN9 hj0 hj1) gL_law_L_ask rfl (by decide +kernel) ⟨⟨rfl, rfl⟩, Nat.le_of_ble_eq_true rfl, Nat.le_of_ble_eq_true rfl⟩ rfl hl.1 rfl (Nat.le_of_ble_eq_true rfl) ⟨Nat.le_of_ble_eq_true rfl, Nat.le_of_ble_eq_true rfl⟩ dL_law_1272 (fun r1272 S1272 H locs hp1272 hw => ?_)
  have h9 : r1272 = (-2000000005) ∧ S1272 = Sa1271 := by
    rcases hp1272 with h | h
    · exact absurd h.1 (by decide +kernel)
    · exact h.2
  obtain ⟨rfl, hS9⟩ := h9
  have hS9 := hS9.symm
  subst hS9
  refine lv_ldc (own := RL) (v := (-2000000005)) hx hb hown (hts (.constant RL 80 (-2000000005)) (by decide +kernel)) dL_law_1275 ?_
  refine lv_icmp_ne (tgt := 1945) hx hb dL_law_1277 (by decide) (fun c1277 => absurd c1277 (by decide)) (fun _ => ?_)
  refine lv_aload_n hx hb dL_law_1280 rfl (lv_at hl 0 rfl) ?_
  refine lv_bipush (v := 66) hx hb dL_law_1281 (by decide) ?_
  refine lv_iconst (v := 4) hx hb dL_law_1283 (by decide) ?_
  refine znewI (N := 4) C hw (by decide +kernel) (by decide) (by decide) (Nat.le_of_ble_eq_true rfl) (Nat.le_of_ble_eq_true rfl) (Nat.le_of_ble_eq_true rfl) dL_law_1284 (fun q1284 H kq1284 hw => ?_)
  have hA : zAr Sa1271 (znR Sa1271 q1284 22 4 (fun _ => 0)) q1284 4 [] := zAr.new kq1284
  generalize (znR Sa1271 q1284 22 4 (fun _ => 0)) = Sa1284 at hw hA
  refine lv_dup hx hb dL_law_1286 rfl ?_
  refine lv_iconst (v := 0) hx hb dL_law_1287 (by decide) ?_
  refine lv_iconst (v := 0) hx hb dL_law_1288 (by decide) ?_
  refine zast_I (a := q1284) C hw hA.2.1 hA.2.2.1 (zin_of (N := 4) (by decide) (by grind) (by grind)) dL_law_1289 (fun H locs hw => ?_)
  have hA : zAr Sa1271 (zsR Sa1284 22 q1284 (upd (zR Sa1284 22 q1284) (0 : Int32).toNatClampNeg 0)) q1284 4 [0] := zAr.st (k := 0) hA kq1284 (by decide) rfl
  generalize (zsR Sa1284 22 q1284 (upd (zR Sa1284 22 q1284) (0 : Int32).toNatClampNeg 0)) = Sa1289 at hw hA
  refine lv_dup hx hb dL_law_1290 rfl ?_
  refine lv_iconst (v := 1) hx hb dL_law_1291 (by decide) ?_
  refine lv_iconst (v := 0) hx hb dL_law_1292 (by decide) ?_
  refine zast_I (a := q1284) C hw hA.2.1 hA.2.2.1 (zin_of (N := 4) (by decide) (by grind) (by grind)) dL_law_1293 (fun H locs hw => ?_)
  have hA : zAr Sa1271 (zsR Sa1289 22 q1284 (upd (zR Sa1289 22 q1284) (1 : Int32).toNatClampNeg 0)) q1284 4 [0, 0] := zAr.st (k := 1) hA kq1284 (by decide) rfl
  generalize (zsR Sa1289 22 q1284 (upd (zR Sa1289 22 q1284) (1 : Int32).toNatClampNeg 0)) = Sa1293 at hw hA
  refine lv_dup hx hb dL_law_1294 rfl ?_
  refine lv_iconst (v := 2) hx hb dL_law_1295 (by decide) ?_
  refine lv_bipush (v := 10) hx hb dL_law_1296 (by decide) ?_
  refine zast_I (a := q1284) C hw hA.2.1 hA.2.2.1 (zin_of (N := 4) (by decide) (by grind) (by grind)) dL_law_1298 (fun H locs hw => ?_)
  have hA : zAr Sa1271 (zsR Sa1293 22 q1284 (upd (zR Sa1293 22 q1284) (2 : Int32).toNatClampNeg 10)) q1284 4 [0, 0, 10] := zAr.st (k := 2) hA kq1284 (by decide) rfl
  generalize (zsR Sa1293 22 q1284 (upd (zR Sa1293 22 q1284) (2 : Int32).toNatClampNeg 10)) = Sa1298 at hw hA
  refine lv_dup hx hb dL_law_1299 rfl ?_
  refine lv_iconst (v := 3) hx hb dL_law_1300 (by decide) ?_
  refine lv_iconst (v := 0) hx hb dL_law_1301 (by decide) ?_
  refine zast_I (a := q1284) C hw hA.2.1 hA.2.2.1 (zin_of (N := 4) (by decide) (by grind) (by grind)) dL_law_1302 (fun H locs hw => ?_)
  have hA : zAr Sa1271 (zsR Sa1298 22 q1284 (upd (zR Sa1298 22 q1284) (3 : Int32).toNatClampNeg 0)) q1284 4 [0, 0, 10, 0] := zAr.st (k := 3) hA kq1284 (by decide) rfl
  generalize (zsR Sa1298 22 q1284 (upd (zR Sa1298 22 q1284) (3 : Int32).toNatClampNeg 0)) = Sa1302 at hw hA
  obtain ⟨hG, hK9, hN9, hA⟩ := hA
  have hj0 : zR Sa1302 22 q1284 0 = 0 := (hA 0 0 rfl).trans rfl
  have hj1 : zR Sa1302 22 q1284 1 = 0 := (hA 1 0 rfl).trans rfl
  have hj2 : zR Sa1302 22 q1284 2 = 10 := (hA 2 10 rfl).trans rfl
  have hj3 : zR Sa1302 22 q1284 3 = 0 := (hA 3 0 rfl).trans rfl
  have hNw := zNew.gw hG hNw
  refine zcSW_i (As := [.ref (a 0), .int 66, .ref q1284]) (rest := []) (n9 := 3) C hw (c_L_ask_B_block_r l hst D y base Sa1302 a 0 0 10 0 q1284 hNw.1 hNw.2.1 hK9 hN9 hj0 hj1 hj2 hj3) gL_law_L_ask rfl (by decide +kernel) ⟨⟨rfl, rfl⟩, Nat.le_of_ble_eq_true rfl, Nat.le_of_ble_eq_true rfl⟩ rfl hl.1 rfl (Nat.le_of_ble_eq_true rfl) ⟨Nat.le_of_ble_eq_true rfl, Nat.le_of_ble_eq_true rfl⟩ dL_law_1303 (fun r1303 S1303 H locs hp1303 hw => ?_)
  have h9 : r1303 = (-2000000002) ∧ S1303 = Sa1302 := by
    rcases hp1303 with h | h | h
    · exact absurd h.1 (by decide +kernel)
    · exact h.2
    · exact absurd h.1 (by decide +kernel)
  obtain ⟨rfl, hS9⟩ := h9
  have hS9 := hS9.symm
  subst hS9
  refine lv_ldc (own := RL) (v := (-2000000002)) hx hb hown (hts (.constant RL 71 (-2000000002)) (by decide +kernel)) dL_law_1306 ?_
  refine lv_icmp_ne (tgt := 1945) hx hb dL_law_1308 (by decide) (fun c1308 => absurd c1308 (by decide)) (fun _ => ?_)
  refine lv_aload_n hx hb dL_law_1311 rfl (lv_at hl 0 rfl) ?_
  refine lv_bipush (v := 66) hx hb dL_law_1312 (by decide) ?_
  refine lv_iconst (v := 4) hx hb dL_law_1314 (by decide) ?_
  refine znewI (N := 4) C hw (by decide +kernel) (by decide) (by decide) (Nat.le_of_ble_eq_true rfl) (Nat.le_of_ble_eq_true rfl) (Nat.le_of_ble_eq_true rfl) dL_law_1315 (fun q1315 H kq1315 hw => ?_)
  have hA : zAr Sa1302 (znR Sa1302 q1315 22 4 (fun _ => 0)) q1315 4 [] := zAr.new kq1315
  generalize (znR Sa1302 q1315 22 4 (fun _ => 0)) = Sa1315 at hw hA
  refine lv_dup hx hb dL_law_1317 rfl ?_
  refine lv_iconst (v := 0) hx hb dL_law_1318 (by decide) ?_
  refine lv_iconst (v := 0) hx hb dL_law_1319 (by decide) ?_
  refine zast_I (a := q1315) C hw hA.2.1 hA.2.2.1 (zin_of (N := 4) (by decide) (by grind) (by grind)) dL_law_1320 (fun H locs hw => ?_)
  have hA : zAr Sa1302 (zsR Sa1315 22 q1315 (upd (zR Sa1315 22 q1315) (0 : Int32).toNatClampNeg 0)) q1315 4 [0] := zAr.st (k := 0) hA kq1315 (by decide) rfl
  generalize (zsR Sa1315 22 q1315 (upd (zR Sa1315 22 q1315) (0 : Int32).toNatClampNeg 0)) = Sa1320 at hw hA
  refine lv_dup hx hb dL_law_1321 rfl ?_
  refine lv_iconst (v := 1) hx hb dL_law_1322 (by decide) ?_
  refine lv_iconst (v := 0) hx hb dL_law_1323 (by decide) ?_
  refine zast_I (a := q1315) C hw hA.2.1 hA.2.2.1 (zin_of (N := 4) (by decide) (by grind) (by grind)) dL_law_1324 (fun H locs hw => ?_)
  have hA : zAr Sa1302 (zsR Sa1320 22 q1315 (upd (zR Sa1320 22 q1315) (1 : Int32).toNatClampNeg 0)) q1315 4 [0, 0] := zAr.st (k := 1) hA kq1315 (by decide) rfl
  generalize (zsR Sa1320 22 q1315 (upd (zR Sa1320 22 q1315) (1 : Int32).toNatClampNeg 0)) = Sa1324 at hw hA
  refine lv_dup hx hb dL_law_1325 rfl ?_
  refine lv_iconst (v := 2) hx hb dL_law_1326 (by decide) ?_
  refine lv_iconst (v := 0) hx hb dL_law_1327 (by decide) ?_
  refine zast_I (a := q1315) C hw hA.2.1 hA.2.2.1 (zin_of (N := 4) (by decide) (by grind) (by grind)) dL_law_1328 (fun H locs hw => ?_)
  have hA : zAr Sa1302 (zsR Sa1324 22 q1315 (upd (zR Sa1324 22 q1315) (2 : Int32).toNatClampNeg 0)) q1315 4 [0, 0, 0] := zAr.st (k := 2) hA kq1315 (by decide) rfl
  generalize (zsR Sa1324 22 q1315 (upd (zR Sa1324 22 q1315) (2 : Int32).toNatClampNeg 0)) = Sa1328 at hw hA
  refine lv_dup hx hb dL_law_1329 rfl ?_
  refine lv_iconst (v := 3) hx hb dL_law_1330 (by decide) ?_
  refine lv_iconst (v := 0) hx hb dL_law_1331 (by decide) ?_
  refine zast_I (a := q1315) C hw hA.2.1 hA.2.2.1 (zin_of (N := 4) (by decide) (by grind) (by grind)) dL_law_1332 (fun H locs hw => ?_)
  have hA : zAr Sa1302 (zsR Sa1328 22 q1315 (upd (zR Sa1328 22 q1315) (3 : Int32).toNatClampNeg 0)) q1315 4 [0, 0, 0, 0] := zAr.st (k := 3) hA kq1315 (by decide) rfl
  generalize (zsR Sa1328 22 q1315 (upd (zR Sa1328 22 q1315) (3 : Int32).toNatClampNeg 0)) = Sa1332 at hw hA
  obtain ⟨hG, hK9, hN9, hA⟩ := hA
  have hj0 : zR Sa1332 22 q1315 0 = 0 := (hA 0 0 rfl).trans rfl
  have hj1 : zR Sa1332 22 q1315 1 = 0 := (hA 1 0 rfl).trans rfl
  have hj2 : zR Sa1332 22 q1315 2 = 0 := (hA 2 0 rfl).trans rfl
  have hj3 : zR Sa1332 22 q1315 3 = 0 := (hA 3 0 rfl).trans rfl
  have hNw := zNew.gw hG hNw
  refine zcSW_i (As := [.ref (a 0), .int 66, .ref q1315]) (rest := []) (n9 := 3) C hw (c_L_ask_B_block_r l hst D y base Sa1332 a 0 0 0 0 q1315 hNw.1 hNw.2.1 hK9 hN9 hj0 hj1 hj2 hj3) gL_law_L_ask rfl (by decide +kernel) ⟨⟨rfl, rfl⟩, Nat.le_of_ble_eq_true rfl, Nat.le_of_ble_eq_true rfl⟩ rfl hl.1 rfl (Nat.le_of_ble_eq_true rfl) ⟨Nat.le_of_ble_eq_true rfl, Nat.le_of_ble_eq_true rfl⟩ dL_law_1333 (fun r1333 S1333 H locs hp1333 hw => ?_)
  have h9 : r1333 = (-2000000005) ∧ S1333 = Sa1332 := by
    rcases hp1333 with h | h | h
    · exact absurd h.1 (by decide +kernel)
    · exact absurd h.1 (by decide +kernel)
    · exact h.2
  obtain ⟨rfl, hS9⟩ := h9
  have hS9 := hS9.symm
  subst hS9
  refine lv_ldc (own := RL) (v := (-2000000005)) hx hb hown (hts (.constant RL 80 (-2000000005)) (by decide +kernel)) dL_law_1336 ?_
  refine lv_icmp_ne (tgt := 1945) hx hb dL_law_1338 (by decide) (fun c1338 => absurd c1338 (by decide)) (fun _ => ?_)
  refine lv_aload_n hx hb dL_law_1341 rfl (lv_at hl 0 rfl) ?_
  refine lv_bipush (v := 112) hx hb dL_law_1342 (by decide) ?_
  refine lv_iconst (v := 3) hx hb dL_law_1344 (by decide) ?_
  refine znewI (N := 3) C hw (by decide +kernel) (by decide) (by decide) (Nat.le_of_ble_eq_true rfl) (Nat.le_of_ble_eq_true rfl) (Nat.le_of_ble_eq_true rfl) dL_law_1345 (fun q1345 H kq1345 hw => ?_)
  have hA : zAr Sa1332 (znR Sa1332 q1345 22 3 (fun _ => 0)) q1345 3 [] := zAr.new kq1345
  generalize (znR Sa1332 q1345 22 3 (fun _ => 0)) = Sa1345 at hw hA
  refine lv_dup hx hb dL_law_1347 rfl ?_
  refine lv_iconst (v := 0) hx hb dL_law_1348 (by decide) ?_
  refine lv_bipush (v := 114) hx hb dL_law_1349 (by decide) ?_
  refine zast_I (a := q1345) C hw hA.2.1 hA.2.2.1 (zin_of (N := 3) (by decide) (by grind) (by grind)) dL_law_1351 (fun H locs hw => ?_)
  have hA : zAr Sa1332 (zsR Sa1345 22 q1345 (upd (zR Sa1345 22 q1345) (0 : Int32).toNatClampNeg 114)) q1345 3 [114] := zAr.st (k := 0) hA kq1345 (by decide) rfl
  generalize (zsR Sa1345 22 q1345 (upd (zR Sa1345 22 q1345) (0 : Int32).toNatClampNeg 114)) = Sa1351 at hw hA
  refine lv_dup hx hb dL_law_1352 rfl ?_
  refine lv_iconst (v := 1) hx hb dL_law_1353 (by decide) ?_
  refine lv_iconst (v := 4) hx hb dL_law_1354 (by decide) ?_
  refine zast_I (a := q1345) C hw hA.2.1 hA.2.2.1 (zin_of (N := 3) (by decide) (by grind) (by grind)) dL_law_1355 (fun H locs hw => ?_)
  have hA : zAr Sa1332 (zsR Sa1351 22 q1345 (upd (zR Sa1351 22 q1345) (1 : Int32).toNatClampNeg 4)) q1345 3 [114, 4] := zAr.st (k := 1) hA kq1345 (by decide) rfl
  generalize (zsR Sa1351 22 q1345 (upd (zR Sa1351 22 q1345) (1 : Int32).toNatClampNeg 4)) = Sa1355 at hw hA
  refine lv_dup hx hb dL_law_1356 rfl ?_
  refine lv_iconst (v := 2) hx hb dL_law_1357 (by decide) ?_
  refine lv_iconst (v := 1) hx hb dL_law_1358 (by decide) ?_
  refine zast_I (a := q1345) C hw hA.2.1 hA.2.2.1 (zin_of (N := 3) (by decide) (by grind) (by grind)) dL_law_1359 (fun H locs hw => ?_)
  have hA : zAr Sa1332 (zsR Sa1355 22 q1345 (upd (zR Sa1355 22 q1345) (2 : Int32).toNatClampNeg 1)) q1345 3 [114, 4, 1] := zAr.st (k := 2) hA kq1345 (by decide) rfl
  generalize (zsR Sa1355 22 q1345 (upd (zR Sa1355 22 q1345) (2 : Int32).toNatClampNeg 1)) = Sa1359 at hw hA
  obtain ⟨hG, hK9, hN9, hA⟩ := hA
  have hj0 : zR Sa1359 22 q1345 0 = 114 := (hA 0 114 rfl).trans rfl
  have hj1 : zR Sa1359 22 q1345 1 = 4 := (hA 1 4 rfl).trans rfl
  have hj2 : zR Sa1359 22 q1345 2 = 1 := (hA 2 1 rfl).trans rfl
  have hNw := zNew.gw hG hNw
  refine zcSW_i (As := [.ref (a 0), .int 112, .ref q1345]) (rest := []) (n9 := 3) C hw (c_L_ask_p_step_r l hst D y base Sa1359 a 114 4 1 q1345 hNw.1 hNw.2.1 (by decide +kernel) hK9 hN9 hj0 hj1 hj2 (by decide)) gL_law_L_ask rfl (by decide +kernel) ⟨⟨rfl, rfl⟩, Nat.le_of_ble_eq_true rfl, Nat.le_of_ble_eq_true rfl⟩ rfl hl.1 rfl (Nat.le_of_ble_eq_true rfl) ⟨Nat.le_of_ble_eq_true rfl, Nat.le_of_ble_eq_true rfl⟩ dL_law_1360 (fun r1360 S1360 H locs hp1360 hw => ?_)
  have h9 : r1360 = (-2000000001) ∧ S1360 = Sa1359 := by
    rcases hp1360 with h | h
    · exact h.2
    · exact absurd h.1 (by decide +kernel)
  obtain ⟨rfl, hS9⟩ := h9
  have hS9 := hS9.symm
  subst hS9
  refine lv_ldc (own := RL) (v := (-2000000001)) hx hb hown (hts (.constant RL 68 (-2000000001)) (by decide +kernel)) dL_law_1363 ?_
  refine lv_icmp_ne (tgt := 1945) hx hb dL_law_1365 (by decide) (fun c1365 => absurd c1365 (by decide)) (fun _ => ?_)
  refine lv_aload_n hx hb dL_law_1368 rfl (lv_at hl 0 rfl) ?_
  refine lv_bipush (v := 112) hx hb dL_law_1369 (by decide) ?_
  refine lv_iconst (v := 3) hx hb dL_law_1371 (by decide) ?_
  refine znewI (N := 3) C hw (by decide +kernel) (by decide) (by decide) (Nat.le_of_ble_eq_true rfl) (Nat.le_of_ble_eq_true rfl) (Nat.le_of_ble_eq_true rfl) dL_law_1372 (fun q1372 H kq1372 hw => ?_)
  have hA : zAr Sa1359 (znR Sa1359 q1372 22 3 (fun _ => 0)) q1372 3 [] := zAr.new kq1372
  generalize (znR Sa1359 q1372 22 3 (fun _ => 0)) = Sa1372 at hw hA
  refine lv_dup hx hb dL_law_1374 rfl ?_
  refine lv_iconst (v := 0) hx hb dL_law_1375 (by decide) ?_
  refine lv_bipush (v := 120) hx hb dL_law_1376 (by decide) ?_
  refine zast_I (a := q1372) C hw hA.2.1 hA.2.2.1 (zin_of (N := 3) (by decide) (by grind) (by grind)) dL_law_1378 (fun H locs hw => ?_)
  have hA : zAr Sa1359 (zsR Sa1372 22 q1372 (upd (zR Sa1372 22 q1372) (0 : Int32).toNatClampNeg 120)) q1372 3 [120] := zAr.st (k := 0) hA kq1372 (by decide) rfl
  generalize (zsR Sa1372 22 q1372 (upd (zR Sa1372 22 q1372) (0 : Int32).toNatClampNeg 120)) = Sa1378 at hw hA
  refine lv_dup hx hb dL_law_1379 rfl ?_
  refine lv_iconst (v := 1) hx hb dL_law_1380 (by decide) ?_
  refine lv_iconst (v := 0) hx hb dL_law_1381 (by decide) ?_
  refine zast_I (a := q1372) C hw hA.2.1 hA.2.2.1 (zin_of (N := 3) (by decide) (by grind) (by grind)) dL_law_1382 (fun H locs hw => ?_)
  have hA : zAr Sa1359 (zsR Sa1378 22 q1372 (upd (zR Sa1378 22 q1372) (1 : Int32).toNatClampNeg 0)) q1372 3 [120, 0] := zAr.st (k := 1) hA kq1372 (by decide) rfl
  generalize (zsR Sa1378 22 q1372 (upd (zR Sa1378 22 q1372) (1 : Int32).toNatClampNeg 0)) = Sa1382 at hw hA
  refine lv_dup hx hb dL_law_1383 rfl ?_
  refine lv_iconst (v := 2) hx hb dL_law_1384 (by decide) ?_
  refine lv_iconst (v := 1) hx hb dL_law_1385 (by decide) ?_
  refine zast_I (a := q1372) C hw hA.2.1 hA.2.2.1 (zin_of (N := 3) (by decide) (by grind) (by grind)) dL_law_1386 (fun H locs hw => ?_)
  have hA : zAr Sa1359 (zsR Sa1382 22 q1372 (upd (zR Sa1382 22 q1372) (2 : Int32).toNatClampNeg 1)) q1372 3 [120, 0, 1] := zAr.st (k := 2) hA kq1372 (by decide) rfl
  generalize (zsR Sa1382 22 q1372 (upd (zR Sa1382 22 q1372) (2 : Int32).toNatClampNeg 1)) = Sa1386 at hw hA
  obtain ⟨hG, hK9, hN9, hA⟩ := hA
  have hj0 : zR Sa1386 22 q1372 0 = 120 := (hA 0 120 rfl).trans rfl
  have hj1 : zR Sa1386 22 q1372 1 = 0 := (hA 1 0 rfl).trans rfl
  have hj2 : zR Sa1386 22 q1372 2 = 1 := (hA 2 1 rfl).trans rfl
  have hNw := zNew.gw hG hNw
  refine zcSW_i (As := [.ref (a 0), .int 112, .ref q1372]) (rest := []) (n9 := 3) C hw (c_L_ask_p_step_r l hst D y base Sa1386 a 120 0 1 q1372 hNw.1 hNw.2.1 (by decide +kernel) hK9 hN9 hj0 hj1 hj2 (by decide)) gL_law_L_ask rfl (by decide +kernel) ⟨⟨rfl, rfl⟩, Nat.le_of_ble_eq_true rfl, Nat.le_of_ble_eq_true rfl⟩ rfl hl.1 rfl (Nat.le_of_ble_eq_true rfl) ⟨Nat.le_of_ble_eq_true rfl, Nat.le_of_ble_eq_true rfl⟩ dL_law_1387 (fun r1387 S1387 H locs hp1387 hw => ?_)
  have h9 : r1387 = (-2000000002) ∧ S1387 = Sa1386 := by
    rcases hp1387 with h | h
    · exact absurd h.1 (by decide +kernel)
    · exact h.2
  obtain ⟨rfl, hS9⟩ := h9
  have hS9 := hS9.symm
  subst hS9
  refine lv_ldc (own := RL) (v := (-2000000002)) hx hb hown (hts (.constant RL 71 (-2000000002)) (by decide +kernel)) dL_law_1390 ?_
  refine lv_icmp_ne (tgt := 1945) hx hb dL_law_1392 (by decide) (fun c1392 => absurd c1392 (by decide)) (fun _ => ?_)
  refine lv_aload_n hx hb dL_law_1395 rfl (lv_at hl 0 rfl) ?_
  refine lv_bipush (v := 112) hx hb dL_law_1396 (by decide) ?_
  refine lv_iconst (v := 3) hx hb dL_law_1398 (by decide) ?_
  refine znewI (N := 3) C hw (by decide +kernel) (by decide) (by decide) (Nat.le_of_ble_eq_true rfl) (Nat.le_of_ble_eq_true rfl) (Nat.le_of_ble_eq_true rfl) dL_law_1399 (fun q1399 H kq1399 hw => ?_)
  have hA : zAr Sa1386 (znR Sa1386 q1399 22 3 (fun _ => 0)) q1399 3 [] := zAr.new kq1399
  generalize (znR Sa1386 q1399 22 3 (fun _ => 0)) = Sa1399 at hw hA
  refine lv_dup hx hb dL_law_1401 rfl ?_
  refine lv_iconst (v := 0) hx hb dL_law_1402 (by decide) ?_
  refine lv_bipush (v := 114) hx hb dL_law_1403 (by decide) ?_
  refine zast_I (a := q1399) C hw hA.2.1 hA.2.2.1 (zin_of (N := 3) (by decide) (by grind) (by grind)) dL_law_1405 (fun H locs hw => ?_)
  have hA : zAr Sa1386 (zsR Sa1399 22 q1399 (upd (zR Sa1399 22 q1399) (0 : Int32).toNatClampNeg 114)) q1399 3 [114] := zAr.st (k := 0) hA kq1399 (by decide) rfl
  generalize (zsR Sa1399 22 q1399 (upd (zR Sa1399 22 q1399) (0 : Int32).toNatClampNeg 114)) = Sa1405 at hw hA
  refine lv_dup hx hb dL_law_1406 rfl ?_
  refine lv_iconst (v := 1) hx hb dL_law_1407 (by decide) ?_
  refine lv_iconst (v := 0) hx hb dL_law_1408 (by decide) ?_
  refine zast_I (a := q1399) C hw hA.2.1 hA.2.2.1 (zin_of (N := 3) (by decide) (by grind) (by grind)) dL_law_1409 (fun H locs hw => ?_)
  have hA : zAr Sa1386 (zsR Sa1405 22 q1399 (upd (zR Sa1405 22 q1399) (1 : Int32).toNatClampNeg 0)) q1399 3 [114, 0] := zAr.st (k := 1) hA kq1399 (by decide) rfl
  generalize (zsR Sa1405 22 q1399 (upd (zR Sa1405 22 q1399) (1 : Int32).toNatClampNeg 0)) = Sa1409 at hw hA
  refine lv_dup hx hb dL_law_1410 rfl ?_
  refine lv_iconst (v := 2) hx hb dL_law_1411 (by decide) ?_
  refine lv_iconst (v := 0) hx hb dL_law_1412 (by decide) ?_
  refine zast_I (a := q1399) C hw hA.2.1 hA.2.2.1 (zin_of (N := 3) (by decide) (by grind) (by grind)) dL_law_1413 (fun H locs hw => ?_)
  have hA : zAr Sa1386 (zsR Sa1409 22 q1399 (upd (zR Sa1409 22 q1399) (2 : Int32).toNatClampNeg 0)) q1399 3 [114, 0, 0] := zAr.st (k := 2) hA kq1399 (by decide) rfl
  generalize (zsR Sa1409 22 q1399 (upd (zR Sa1409 22 q1399) (2 : Int32).toNatClampNeg 0)) = Sa1413 at hw hA
  obtain ⟨hG, hK9, hN9, hA⟩ := hA
  have hj0 : zR Sa1413 22 q1399 0 = 114 := (hA 0 114 rfl).trans rfl
  have hj1 : zR Sa1413 22 q1399 1 = 0 := (hA 1 0 rfl).trans rfl
  have hj2 : zR Sa1413 22 q1399 2 = 0 := (hA 2 0 rfl).trans rfl
  have hNw := zNew.gw hG hNw
  refine zcSW_i (As := [.ref (a 0), .int 112, .ref q1399]) (rest := []) (n9 := 3) C hw (c_L_ask_p_step_r l hst D y base Sa1413 a 114 0 0 q1399 hNw.1 hNw.2.1 (by decide +kernel) hK9 hN9 hj0 hj1 hj2 (by decide)) gL_law_L_ask rfl (by decide +kernel) ⟨⟨rfl, rfl⟩, Nat.le_of_ble_eq_true rfl, Nat.le_of_ble_eq_true rfl⟩ rfl hl.1 rfl (Nat.le_of_ble_eq_true rfl) ⟨Nat.le_of_ble_eq_true rfl, Nat.le_of_ble_eq_true rfl⟩ dL_law_1414 (fun r1414 S1414 H locs hp1414 hw => ?_)
  have h9 : r1414 = (-2000000002) ∧ S1414 = Sa1413 := by
    rcases hp1414 with h | h
    · exact absurd h.1 (by decide +kernel)
    · exact h.2
  obtain ⟨rfl, hS9⟩ := h9
  have hS9 := hS9.symm
  subst hS9
  refine lv_ldc (own := RL) (v := (-2000000002)) hx hb hown (hts (.constant RL 71 (-2000000002)) (by decide +kernel)) dL_law_1417 ?_
  refine lv_icmp_ne (tgt := 1945) hx hb dL_law_1419 (by decide) (fun c1419 => absurd c1419 (by decide)) (fun _ => ?_)
  refine lv_aload_n hx hb dL_law_1422 rfl (lv_at hl 0 rfl) ?_
  refine lv_bipush (v := 112) hx hb dL_law_1423 (by decide) ?_
  refine lv_iconst (v := 3) hx hb dL_law_1425 (by decide) ?_
  refine znewI (N := 3) C hw (by decide +kernel) (by decide) (by decide) (Nat.le_of_ble_eq_true rfl) (Nat.le_of_ble_eq_true rfl) (Nat.le_of_ble_eq_true rfl) dL_law_1426 (fun q1426 H kq1426 hw => ?_)
  have hA : zAr Sa1413 (znR Sa1413 q1426 22 3 (fun _ => 0)) q1426 3 [] := zAr.new kq1426
  generalize (znR Sa1413 q1426 22 3 (fun _ => 0)) = Sa1426 at hw hA
  refine lv_dup hx hb dL_law_1428 rfl ?_
  refine lv_iconst (v := 0) hx hb dL_law_1429 (by decide) ?_
  refine lv_bipush (v := 112) hx hb dL_law_1430 (by decide) ?_
  refine zast_I (a := q1426) C hw hA.2.1 hA.2.2.1 (zin_of (N := 3) (by decide) (by grind) (by grind)) dL_law_1432 (fun H locs hw => ?_)
  have hA : zAr Sa1413 (zsR Sa1426 22 q1426 (upd (zR Sa1426 22 q1426) (0 : Int32).toNatClampNeg 112)) q1426 3 [112] := zAr.st (k := 0) hA kq1426 (by decide) rfl
  generalize (zsR Sa1426 22 q1426 (upd (zR Sa1426 22 q1426) (0 : Int32).toNatClampNeg 112)) = Sa1432 at hw hA
  refine lv_dup hx hb dL_law_1433 rfl ?_
  refine lv_iconst (v := 1) hx hb dL_law_1434 (by decide) ?_
  refine lv_bipush (v := 9) hx hb dL_law_1435 (by decide) ?_
  refine zast_I (a := q1426) C hw hA.2.1 hA.2.2.1 (zin_of (N := 3) (by decide) (by grind) (by grind)) dL_law_1437 (fun H locs hw => ?_)
  have hA : zAr Sa1413 (zsR Sa1432 22 q1426 (upd (zR Sa1432 22 q1426) (1 : Int32).toNatClampNeg 9)) q1426 3 [112, 9] := zAr.st (k := 1) hA kq1426 (by decide) rfl
  generalize (zsR Sa1432 22 q1426 (upd (zR Sa1432 22 q1426) (1 : Int32).toNatClampNeg 9)) = Sa1437 at hw hA
  refine lv_dup hx hb dL_law_1438 rfl ?_
  refine lv_iconst (v := 2) hx hb dL_law_1439 (by decide) ?_
  refine lv_bipush (v := 16) hx hb dL_law_1440 (by decide) ?_
  refine zast_I (a := q1426) C hw hA.2.1 hA.2.2.1 (zin_of (N := 3) (by decide) (by grind) (by grind)) dL_law_1442 (fun H locs hw => ?_)
  have hA : zAr Sa1413 (zsR Sa1437 22 q1426 (upd (zR Sa1437 22 q1426) (2 : Int32).toNatClampNeg 16)) q1426 3 [112, 9, 16] := zAr.st (k := 2) hA kq1426 (by decide) rfl
  generalize (zsR Sa1437 22 q1426 (upd (zR Sa1437 22 q1426) (2 : Int32).toNatClampNeg 16)) = Sa1442 at hw hA
  obtain ⟨hG, hK9, hN9, hA⟩ := hA
  have hj0 : zR Sa1442 22 q1426 0 = 112 := (hA 0 112 rfl).trans rfl
  have hj1 : zR Sa1442 22 q1426 1 = 9 := (hA 1 9 rfl).trans rfl
  have hj2 : zR Sa1442 22 q1426 2 = 16 := (hA 2 16 rfl).trans rfl
  have hNw := zNew.gw hG hNw
  refine zcSW_i (As := [.ref (a 0), .int 112, .ref q1426]) (rest := []) (n9 := 3) C hw (c_L_ask_p_step_r l hst D y base Sa1442 a 112 9 16 q1426 hNw.1 hNw.2.1 (by decide +kernel) hK9 hN9 hj0 hj1 hj2 (by decide)) gL_law_L_ask rfl (by decide +kernel) ⟨⟨rfl, rfl⟩, Nat.le_of_ble_eq_true rfl, Nat.le_of_ble_eq_true rfl⟩ rfl hl.1 rfl (Nat.le_of_ble_eq_true rfl) ⟨Nat.le_of_ble_eq_true rfl, Nat.le_of_ble_eq_true rfl⟩ dL_law_1443 (fun r1443 S1443 H locs hp1443 hw => ?_)
  have h9 : r1443 = (-2000000002) ∧ S1443 = Sa1442 := by
    rcases hp1443 with h | h
    · exact absurd h.1 (by decide +kernel)
    · exact h.2
  obtain ⟨rfl, hS9⟩ := h9
  have hS9 := hS9.symm
  subst hS9
  refine lv_ldc (own := RL) (v := (-2000000002)) hx hb hown (hts (.constant RL 71 (-2000000002)) (by decide +kernel)) dL_law_1446 ?_
  refine lv_icmp_ne (tgt := 1945) hx hb dL_law_1448 (by decide) (fun c1448 => absurd c1448 (by decide)) (fun _ => ?_)
  refine lv_aload_n hx hb dL_law_1451 rfl (lv_at hl 0 rfl) ?_
  refine lv_bipush (v := 84) hx hb dL_law_1452 (by decide) ?_
  refine lv_iconst (v := 1) hx hb dL_law_1454 (by decide) ?_
  refine znewI (N := 1) C hw (by decide +kernel) (by decide) (by decide) (Nat.le_of_ble_eq_true rfl) (Nat.le_of_ble_eq_true rfl) (Nat.le_of_ble_eq_true rfl) dL_law_1455 (fun q1455 H kq1455 hw => ?_)
  have hA : zAr Sa1442 (znR Sa1442 q1455 22 1 (fun _ => 0)) q1455 1 [] := zAr.new kq1455
  generalize (znR Sa1442 q1455 22 1 (fun _ => 0)) = Sa1455 at hw hA
  refine lv_dup hx hb dL_law_1457 rfl ?_
  refine lv_iconst (v := 0) hx hb dL_law_1458 (by decide) ?_
  refine lv_iconst (v := 0) hx hb dL_law_1459 (by decide) ?_
  refine zast_I (a := q1455) C hw hA.2.1 hA.2.2.1 (zin_of (N := 1) (by decide) (by grind) (by grind)) dL_law_1460 (fun H locs hw => ?_)
  have hA : zAr Sa1442 (zsR Sa1455 22 q1455 (upd (zR Sa1455 22 q1455) (0 : Int32).toNatClampNeg 0)) q1455 1 [0] := zAr.st (k := 0) hA kq1455 (by decide) rfl
  generalize (zsR Sa1455 22 q1455 (upd (zR Sa1455 22 q1455) (0 : Int32).toNatClampNeg 0)) = Sa1460 at hw hA
  obtain ⟨hG, hK9, hN9, hA⟩ := hA
  have hj0 : zR Sa1460 22 q1455 0 = 0 := (hA 0 0 rfl).trans rfl
  have hNw := zNew.gw hG hNw
  refine zcSW_i (As := [.ref (a 0), .int 84, .ref q1455]) (rest := []) (n9 := 3) C hw (c_L_ask_T_trigger_r l hst D y base Sa1460 a 0 q1455 hNw.1 hNw.2.1 hK9 hN9 hj0) gL_law_L_ask rfl (by decide +kernel) ⟨⟨rfl, rfl⟩, Nat.le_of_ble_eq_true rfl, Nat.le_of_ble_eq_true rfl⟩ rfl hl.1 rfl (Nat.le_of_ble_eq_true rfl) ⟨Nat.le_of_ble_eq_true rfl, Nat.le_of_ble_eq_true rfl⟩ dL_law_1461 (fun r1461 S1461 H locs hp1461 hw => ?_)
  have h9 : r1461 = (-2000000004) ∧ S1461 = Sa1460 := by
    rcases hp1461 with h | h
    · exact absurd h.1 (by decide +kernel)
    · exact h.2
  obtain ⟨rfl, hS9⟩ := h9
  have hS9 := hS9.symm
  subst hS9
  refine lv_ldc (own := RL) (v := (-2000000004)) hx hb hown (hts (.constant RL 77 (-2000000004)) (by decide +kernel)) dL_law_1464 ?_
  refine lv_icmp_ne (tgt := 1945) hx hb dL_law_1466 (by decide) (fun c1466 => absurd c1466 (by decide)) (fun _ => ?_)
  exact law_part_5 hst C hr hlocks hy31 hNw hDs hbase hw hl

