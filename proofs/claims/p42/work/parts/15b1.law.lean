set_option maxHeartbeats 4000000 in
set_option maxRecDepth 100000 in
theorem law_part_31 {p : Program} {l : Launch} {e : Env} {s : State} {m : MethodId} {below : List Frame} {meth : Method} {c : Code} {H : Heap} {locs : List Loc} {ls : Array Slot} {D : va_G} {y : Nat → ClassId} {base : Nat} {S : zS} {a : Nat → Nat} {bs : Nat} (hst : l.stackTraces = false) (C : CallFix p m c code 2 s #[Value.ref bs] wsL_law RL) (hr : meth.sig.returnType = ret) (hlocks : meth.locks = false) (hy31 : y 99 < 2 ^ 31) (hNw : zNew S a) (hDs : zDs a) (hbase : base = s.heap.size) (hw : zW D y base S s H locs) (hl : lv_has ls 2 [(1, .ref (a 0)), (0, .ref (y 98))]) : W p l e room_1 s m #[Value.ref bs] below meth c H locs 352 7411 (lw_Z below #[Value.ref bs] s) (F0 m 1874 ls []) := by
  have hx := C.1
  have hb := C.2.1
  have hown := C.2.2.2.1
  have hts := C.2.2.2.2
  refine lv_aload_n hx hb dL_law_1874 rfl (lv_at hl 0 rfl) ?_
  refine lv_bipush (v := 65) hx hb dL_law_1875 (by decide) ?_
  refine lv_iconst (v := 1) hx hb dL_law_1877 (by decide) ?_
  refine znewI (N := 1) C hw (by decide +kernel) (by decide) (by decide) (Nat.le_of_ble_eq_true rfl) (Nat.le_of_ble_eq_true rfl) (Nat.le_of_ble_eq_true rfl) dL_law_1878 (fun q1878 H kq1878 hw => ?_)
  have hA : zAr S (znR S q1878 22 1 (fun _ => 0)) q1878 1 [] := zAr.new kq1878
  generalize (znR S q1878 22 1 (fun _ => 0)) = Sa1878 at hw hA
  refine lv_dup hx hb dL_law_1880 rfl ?_
  refine lv_iconst (v := 0) hx hb dL_law_1881 (by decide) ?_
  refine lv_iconst (v := 0) hx hb dL_law_1882 (by decide) ?_
  refine zast_I (a := q1878) C hw hA.2.1 hA.2.2.1 (zin_of (N := 1) (by decide) (by grind) (by grind)) dL_law_1883 (fun H locs hw => ?_)
  have hA : zAr S (zsR Sa1878 22 q1878 (upd (zR Sa1878 22 q1878) (0 : Int32).toNatClampNeg 0)) q1878 1 [0] := zAr.st (k := 0) hA kq1878 (by decide) rfl
  generalize (zsR Sa1878 22 q1878 (upd (zR Sa1878 22 q1878) (0 : Int32).toNatClampNeg 0)) = Sa1883 at hw hA
  obtain ⟨hG, hK9, hN9, hA⟩ := hA
  have hj0 : zR Sa1883 22 q1878 0 = 0 := (hA 0 0 rfl).trans rfl
  have hNw := zNew.gw hG hNw
  refine zcSW_i (As := [.ref (a 0), .int 65, .ref q1878]) (rest := []) (n9 := 3) C hw (c_L_ask_A_alike_r l hst D y base Sa1883 a 0 q1878 hNw.1 hNw.2.1 hK9 hN9 hj0) gL_law_L_ask rfl (by decide +kernel) ⟨⟨rfl, rfl⟩, Nat.le_of_ble_eq_true rfl, Nat.le_of_ble_eq_true rfl⟩ rfl hl.1 rfl (Nat.le_of_ble_eq_true rfl) ⟨Nat.le_of_ble_eq_true rfl, Nat.le_of_ble_eq_true rfl⟩ dL_law_1884 (fun r1884 S1884 H locs hp1884 hw => ?_)
  have h9 : r1884 = (0) ∧ S1884 = Sa1883 := by
    rcases hp1884 with h | h
    · exact absurd h.1 (by decide +kernel)
    · exact h.2
  obtain ⟨rfl, hS9⟩ := h9
  have hS9 := hS9.symm
  subst hS9
  refine lv_if_ne (tgt := 1945) hx hb dL_law_1887 (by decide) (fun c1887 => absurd c1887 (by decide)) (fun _ => ?_)
  refine lv_aload_n hx hb dL_law_1890 rfl (lv_at hl 0 rfl) ?_
  refine lv_bipush (v := 100) hx hb dL_law_1891 (by decide) ?_
  refine lv_iconst (v := 1) hx hb dL_law_1893 (by decide) ?_
  refine znewI (N := 1) C hw (by decide +kernel) (by decide) (by decide) (Nat.le_of_ble_eq_true rfl) (Nat.le_of_ble_eq_true rfl) (Nat.le_of_ble_eq_true rfl) dL_law_1894 (fun q1894 H kq1894 hw => ?_)
  have hA : zAr Sa1883 (znR Sa1883 q1894 22 1 (fun _ => 0)) q1894 1 [] := zAr.new kq1894
  generalize (znR Sa1883 q1894 22 1 (fun _ => 0)) = Sa1894 at hw hA
  refine lv_dup hx hb dL_law_1896 rfl ?_
  refine lv_iconst (v := 0) hx hb dL_law_1897 (by decide) ?_
  refine lv_iconst (v := 0) hx hb dL_law_1898 (by decide) ?_
  refine zast_I (a := q1894) C hw hA.2.1 hA.2.2.1 (zin_of (N := 1) (by decide) (by grind) (by grind)) dL_law_1899 (fun H locs hw => ?_)
  have hA : zAr Sa1883 (zsR Sa1894 22 q1894 (upd (zR Sa1894 22 q1894) (0 : Int32).toNatClampNeg 0)) q1894 1 [0] := zAr.st (k := 0) hA kq1894 (by decide) rfl
  generalize (zsR Sa1894 22 q1894 (upd (zR Sa1894 22 q1894) (0 : Int32).toNatClampNeg 0)) = Sa1899 at hw hA
  obtain ⟨hG, hK9, hN9, hA⟩ := hA
  have hj0 : zR Sa1899 22 q1894 0 = 0 := (hA 0 0 rfl).trans rfl
  have hNw := zNew.gw hG hNw
  refine zcSW_i (As := [.ref (a 0), .int 100, .ref q1894]) (rest := []) (n9 := 3) C hw (c_L_ask_d_differs_r l hst D y base Sa1899 a 0 q1894 hNw.1 hNw.2.1 hK9 hN9 hj0) gL_law_L_ask rfl (by decide +kernel) ⟨⟨rfl, rfl⟩, Nat.le_of_ble_eq_true rfl, Nat.le_of_ble_eq_true rfl⟩ rfl hl.1 rfl (Nat.le_of_ble_eq_true rfl) ⟨Nat.le_of_ble_eq_true rfl, Nat.le_of_ble_eq_true rfl⟩ dL_law_1900 (fun r1900 S1900 H locs hp1900 hw => ?_)
  have h9 : r1900 = (-2000000005) ∧ S1900 = Sa1899 := by
    rcases hp1900 with h | h
    · exact absurd h.1 (by decide +kernel)
    · exact h.2
  obtain ⟨rfl, hS9⟩ := h9
  have hS9 := hS9.symm
  subst hS9
  refine lv_ldc (own := RL) (v := (-2000000005)) hx hb hown (hts (.constant RL 80 (-2000000005)) (by decide +kernel)) dL_law_1903 ?_
  refine lv_icmp_ne (tgt := 1945) hx hb dL_law_1905 (by decide) (fun c1905 => absurd c1905 (by decide)) (fun _ => ?_)
  refine lv_aload_n hx hb dL_law_1908 rfl (lv_at hl 0 rfl) ?_
  refine lv_bipush (v := 111) hx hb dL_law_1909 (by decide) ?_
  refine lv_iconst (v := 1) hx hb dL_law_1911 (by decide) ?_
  refine znewI (N := 1) C hw (by decide +kernel) (by decide) (by decide) (Nat.le_of_ble_eq_true rfl) (Nat.le_of_ble_eq_true rfl) (Nat.le_of_ble_eq_true rfl) dL_law_1912 (fun q1912 H kq1912 hw => ?_)
  have hA : zAr Sa1899 (znR Sa1899 q1912 22 1 (fun _ => 0)) q1912 1 [] := zAr.new kq1912
  generalize (znR Sa1899 q1912 22 1 (fun _ => 0)) = Sa1912 at hw hA
  refine lv_dup hx hb dL_law_1914 rfl ?_
  refine lv_iconst (v := 0) hx hb dL_law_1915 (by decide) ?_
  refine lv_bipush (v := 100) hx hb dL_law_1916 (by decide) ?_
  refine zast_I (a := q1912) C hw hA.2.1 hA.2.2.1 (zin_of (N := 1) (by decide) (by grind) (by grind)) dL_law_1918 (fun H locs hw => ?_)
  have hA : zAr Sa1899 (zsR Sa1912 22 q1912 (upd (zR Sa1912 22 q1912) (0 : Int32).toNatClampNeg 100)) q1912 1 [100] := zAr.st (k := 0) hA kq1912 (by decide) rfl
  generalize (zsR Sa1912 22 q1912 (upd (zR Sa1912 22 q1912) (0 : Int32).toNatClampNeg 100)) = Sa1918 at hw hA
  obtain ⟨hG, hK9, hN9, hA⟩ := hA
  have hj0 : zR Sa1918 22 q1912 0 = 100 := (hA 0 100 rfl).trans rfl
  have hNw := zNew.gw hG hNw
  refine zcSW_i (As := [.ref (a 0), .int 111, .ref q1912]) (rest := []) (n9 := 3) C hw (c_L_ask_o_best_r l hst D y base Sa1918 a 100 q1912 hNw.1 hNw.2.1 hK9 hN9 hj0) gL_law_L_ask rfl (by decide +kernel) ⟨⟨rfl, rfl⟩, Nat.le_of_ble_eq_true rfl, Nat.le_of_ble_eq_true rfl⟩ rfl hl.1 rfl (Nat.le_of_ble_eq_true rfl) ⟨Nat.le_of_ble_eq_true rfl, Nat.le_of_ble_eq_true rfl⟩ dL_law_1919 (fun r1919 S1919 H locs hp1919 hw => ?_)
  have h9 : r1919 = (-2000000002) ∧ S1919 = Sa1918 := by
    rcases hp1919 with h | h
    · exact h.2
    · exact absurd h.1 (by decide +kernel)
  obtain ⟨rfl, hS9⟩ := h9
  have hS9 := hS9.symm
  subst hS9
  refine lv_ldc (own := RL) (v := (-2000000002)) hx hb hown (hts (.constant RL 71 (-2000000002)) (by decide +kernel)) dL_law_1922 ?_
  refine lv_icmp_ne (tgt := 1945) hx hb dL_law_1924 (by decide) (fun c1924 => absurd c1924 (by decide)) (fun _ => ?_)
  refine lv_aload_n hx hb dL_law_1927 rfl (lv_at hl 0 rfl) ?_
  refine lv_bipush (v := 111) hx hb dL_law_1928 (by decide) ?_
  refine lv_iconst (v := 1) hx hb dL_law_1930 (by decide) ?_
  refine znewI (N := 1) C hw (by decide +kernel) (by decide) (by decide) (Nat.le_of_ble_eq_true rfl) (Nat.le_of_ble_eq_true rfl) (Nat.le_of_ble_eq_true rfl) dL_law_1931 (fun q1931 H kq1931 hw => ?_)
  have hA : zAr Sa1918 (znR Sa1918 q1931 22 1 (fun _ => 0)) q1931 1 [] := zAr.new kq1931
  generalize (znR Sa1918 q1931 22 1 (fun _ => 0)) = Sa1931 at hw hA
  refine lv_dup hx hb dL_law_1933 rfl ?_
  refine lv_iconst (v := 0) hx hb dL_law_1934 (by decide) ?_
  refine lv_iconst (v := 0) hx hb dL_law_1935 (by decide) ?_
  refine zast_I (a := q1931) C hw hA.2.1 hA.2.2.1 (zin_of (N := 1) (by decide) (by grind) (by grind)) dL_law_1936 (fun H locs hw => ?_)
  have hA : zAr Sa1918 (zsR Sa1931 22 q1931 (upd (zR Sa1931 22 q1931) (0 : Int32).toNatClampNeg 0)) q1931 1 [0] := zAr.st (k := 0) hA kq1931 (by decide) rfl
  generalize (zsR Sa1931 22 q1931 (upd (zR Sa1931 22 q1931) (0 : Int32).toNatClampNeg 0)) = Sa1936 at hw hA
  obtain ⟨hG, hK9, hN9, hA⟩ := hA
  have hj0 : zR Sa1936 22 q1931 0 = 0 := (hA 0 0 rfl).trans rfl
  have hNw := zNew.gw hG hNw
  refine zcSW_i (As := [.ref (a 0), .int 111, .ref q1931]) (rest := []) (n9 := 3) C hw (c_L_ask_o_best_r l hst D y base Sa1936 a 0 q1931 hNw.1 hNw.2.1 hK9 hN9 hj0) gL_law_L_ask rfl (by decide +kernel) ⟨⟨rfl, rfl⟩, Nat.le_of_ble_eq_true rfl, Nat.le_of_ble_eq_true rfl⟩ rfl hl.1 rfl (Nat.le_of_ble_eq_true rfl) ⟨Nat.le_of_ble_eq_true rfl, Nat.le_of_ble_eq_true rfl⟩ dL_law_1937 (fun r1937 S1937 H locs hp1937 hw => ?_)
  have h9 : r1937 = (-2000000004) ∧ S1937 = Sa1936 := by
    rcases hp1937 with h | h
    · exact absurd h.1 (by decide +kernel)
    · exact h.2
  obtain ⟨rfl, hS9⟩ := h9
  have hS9 := hS9.symm
  subst hS9
  refine lv_ldc (own := RL) (v := (-2000000004)) hx hb hown (hts (.constant RL 77 (-2000000004)) (by decide +kernel)) dL_law_1940 ?_
  refine lv_icmp_eq (tgt := 1947) hx hb dL_law_1942 (by decide) (fun _ => ?_) (fun c1942 => absurd c1942 (by decide))
  refine lv_aload_n hx hb dL_law_1947 rfl (lv_at hl 1 rfl) ?_
  refine zcS_i (As := [.ref (y 98)]) (rest := []) (n9 := 1) C hw (c_L_serial l hst D y base Sa1936 hy31) gL_law_L_serial rfl (by decide +kernel) ⟨⟨rfl, rfl⟩, Nat.le_of_ble_eq_true rfl, Nat.le_of_ble_eq_true rfl⟩ rfl hl.1 rfl (Nat.le_of_ble_eq_true rfl) ⟨Nat.le_of_ble_eq_true rfl, Nat.le_of_ble_eq_true rfl⟩ dL_law_1948 (fun r1948 S1948 H locs hp1948 hw => ?_)
  obtain rfl := hp1948
  refine lv_if_eq (tgt := 1978) hx hb dL_law_1951 (by decide) (fun c1951 => absurd c1951 (by decide)) (fun _ => ?_)
  refine lv_aload_n hx hb dL_law_1954 rfl (lv_at hl 1 rfl) ?_
  refine zcS_i (As := [.ref (y 98)]) (rest := []) (n9 := 1) C hw (c_L_two l hst D y base S1948 hy31) gL_law_L_two rfl (by decide +kernel) ⟨⟨rfl, rfl⟩, Nat.le_of_ble_eq_true rfl, Nat.le_of_ble_eq_true rfl⟩ rfl hl.1 rfl (Nat.le_of_ble_eq_true rfl) ⟨Nat.le_of_ble_eq_true rfl, Nat.le_of_ble_eq_true rfl⟩ dL_law_1955 (fun r1955 S1955 H locs hp1955 hw => ?_)
  obtain rfl := hp1955
  refine lv_if_eq (tgt := 1978) hx hb dL_law_1958 (by decide) (fun c1958 => absurd c1958 (by decide)) (fun _ => ?_)
  refine lv_aload_n hx hb dL_law_1961 rfl (lv_at hl 1 rfl) ?_
  refine zcS_i (As := [.ref (y 98)]) (rest := []) (n9 := 1) C hw (c_L_four l hst D y base S1955 hy31) gL_law_L_four rfl (by decide +kernel) ⟨⟨rfl, rfl⟩, Nat.le_of_ble_eq_true rfl, Nat.le_of_ble_eq_true rfl⟩ rfl hl.1 rfl (Nat.le_of_ble_eq_true rfl) ⟨Nat.le_of_ble_eq_true rfl, Nat.le_of_ble_eq_true rfl⟩ dL_law_1962 (fun r1962 S1962 H locs hp1962 hw => ?_)
  obtain rfl := hp1962
  refine lv_if_eq (tgt := 1978) hx hb dL_law_1965 (by decide) (fun c1965 => absurd c1965 (by decide)) (fun _ => ?_)
  refine zcS_i (As := []) (rest := []) (n9 := 0) C hw (c_L_full l hst D y base S1962) gL_law_L_full rfl (by decide +kernel) ⟨⟨rfl, rfl⟩, Nat.le_of_ble_eq_true rfl, Nat.le_of_ble_eq_true rfl⟩ rfl hl.1 rfl (Nat.le_of_ble_eq_true rfl) ⟨Nat.le_of_ble_eq_true rfl, Nat.le_of_ble_eq_true rfl⟩ dL_law_1968 (fun r1968 S1968 H locs hp1968 hw => ?_)
  obtain rfl := hp1968
  refine lv_if_eq (tgt := 1978) hx hb dL_law_1971 (by decide) (fun c1971 => absurd c1971 (by decide)) (fun _ => ?_)
  refine lv_iconst (v := 1) hx hb dL_law_1974 (by decide) ?_
  refine lv_goto (tgt := 1979) hx hb dL_law_1975 (by decide) ?_
  subst hbase
  refine va_forget (fun q hq => hw.2.2.1.2.2 q hq) ?_
  refine W.widen (k := 600056) (n := 7301712) (Nat.le_of_ble_eq_true rfl) (Nat.le_of_ble_eq_true rfl) ?_
  exact lw_ret (d0 := s.drawn) (Drawn.sameBut.refl s.drawn lw_cs) hx hb hr hlocks dL_law_1979

set_option maxHeartbeats 4000000 in
set_option maxRecDepth 100000 in
theorem law_part_30 {p : Program} {l : Launch} {e : Env} {s : State} {m : MethodId} {below : List Frame} {meth : Method} {c : Code} {H : Heap} {locs : List Loc} {ls : Array Slot} {D : va_G} {y : Nat → ClassId} {base : Nat} {S : zS} {a : Nat → Nat} {bs : Nat} (hst : l.stackTraces = false) (C : CallFix p m c code 2 s #[Value.ref bs] wsL_law RL) (hr : meth.sig.returnType = ret) (hlocks : meth.locks = false) (hy31 : y 99 < 2 ^ 31) (hNw : zNew S a) (hDs : zDs a) (hbase : base = s.heap.size) (hw : zW D y base S s H locs) (hl : lv_has ls 2 [(1, .ref (a 0)), (0, .ref (y 98))]) : W p l e room_1 s m #[Value.ref bs] below meth c H locs 344 7376 (lw_Z below #[Value.ref bs] s) (F0 m 1810 ls []) := by
  have hx := C.1
  have hb := C.2.1
  have hown := C.2.2.2.1
  have hts := C.2.2.2.2
  refine lv_aload_n hx hb dL_law_1810 rfl (lv_at hl 0 rfl) ?_
  refine lv_bipush (v := 119) hx hb dL_law_1811 (by decide) ?_
  refine lv_iconst (v := 2) hx hb dL_law_1813 (by decide) ?_
  refine znewI (N := 2) C hw (by decide +kernel) (by decide) (by decide) (Nat.le_of_ble_eq_true rfl) (Nat.le_of_ble_eq_true rfl) (Nat.le_of_ble_eq_true rfl) dL_law_1814 (fun q1814 H kq1814 hw => ?_)
  have hA : zAr S (znR S q1814 22 2 (fun _ => 0)) q1814 2 [] := zAr.new kq1814
  generalize (znR S q1814 22 2 (fun _ => 0)) = Sa1814 at hw hA
  refine lv_dup hx hb dL_law_1816 rfl ?_
  refine lv_iconst (v := 0) hx hb dL_law_1817 (by decide) ?_
  refine lv_sipush (v := 256) hx hb dL_law_1818 (by decide) ?_
  refine zast_I (a := q1814) C hw hA.2.1 hA.2.2.1 (zin_of (N := 2) (by decide) (by grind) (by grind)) dL_law_1821 (fun H locs hw => ?_)
  have hA : zAr S (zsR Sa1814 22 q1814 (upd (zR Sa1814 22 q1814) (0 : Int32).toNatClampNeg 256)) q1814 2 [256] := zAr.st (k := 0) hA kq1814 (by decide) rfl
  generalize (zsR Sa1814 22 q1814 (upd (zR Sa1814 22 q1814) (0 : Int32).toNatClampNeg 256)) = Sa1821 at hw hA
  refine lv_dup hx hb dL_law_1822 rfl ?_
  refine lv_iconst (v := 1) hx hb dL_law_1823 (by decide) ?_
  refine lv_iconst (v := 0) hx hb dL_law_1824 (by decide) ?_
  refine zast_I (a := q1814) C hw hA.2.1 hA.2.2.1 (zin_of (N := 2) (by decide) (by grind) (by grind)) dL_law_1825 (fun H locs hw => ?_)
  have hA : zAr S (zsR Sa1821 22 q1814 (upd (zR Sa1821 22 q1814) (1 : Int32).toNatClampNeg 0)) q1814 2 [256, 0] := zAr.st (k := 1) hA kq1814 (by decide) rfl
  generalize (zsR Sa1821 22 q1814 (upd (zR Sa1821 22 q1814) (1 : Int32).toNatClampNeg 0)) = Sa1825 at hw hA
  obtain ⟨hG, hK9, hN9, hA⟩ := hA
  have hj0 : zR Sa1825 22 q1814 0 = 256 := (hA 0 256 rfl).trans rfl
  have hj1 : zR Sa1825 22 q1814 1 = 0 := (hA 1 0 rfl).trans rfl
  have hNw := zNew.gw hG hNw
  refine zcSW_i (As := [.ref (a 0), .int 119, .ref q1814]) (rest := []) (n9 := 3) C hw (c_L_ask_w_follows_r l hst D y base Sa1825 a 256 0 q1814 hNw.1 hNw.2.1 hK9 hN9 hj0 hj1) gL_law_L_ask rfl (by decide +kernel) ⟨⟨rfl, rfl⟩, Nat.le_of_ble_eq_true rfl, Nat.le_of_ble_eq_true rfl⟩ rfl hl.1 rfl (Nat.le_of_ble_eq_true rfl) ⟨Nat.le_of_ble_eq_true rfl, Nat.le_of_ble_eq_true rfl⟩ dL_law_1826 (fun r1826 S1826 H locs hp1826 hw => ?_)
  have h9 : r1826 = (-2000000002) ∧ S1826 = Sa1825 := by
    rcases hp1826 with h | h
    · exact h.2
    · exact absurd h.1 (by decide +kernel)
  obtain ⟨rfl, hS9⟩ := h9
  have hS9 := hS9.symm
  subst hS9
  refine lv_ldc (own := RL) (v := (-2000000002)) hx hb hown (hts (.constant RL 71 (-2000000002)) (by decide +kernel)) dL_law_1829 ?_
  refine lv_icmp_ne (tgt := 1945) hx hb dL_law_1831 (by decide) (fun c1831 => absurd c1831 (by decide)) (fun _ => ?_)
  refine lv_aload_n hx hb dL_law_1834 rfl (lv_at hl 0 rfl) ?_
  refine lv_bipush (v := 119) hx hb dL_law_1835 (by decide) ?_
  refine lv_iconst (v := 2) hx hb dL_law_1837 (by decide) ?_
  refine znewI (N := 2) C hw (by decide +kernel) (by decide) (by decide) (Nat.le_of_ble_eq_true rfl) (Nat.le_of_ble_eq_true rfl) (Nat.le_of_ble_eq_true rfl) dL_law_1838 (fun q1838 H kq1838 hw => ?_)
  have hA : zAr Sa1825 (znR Sa1825 q1838 22 2 (fun _ => 0)) q1838 2 [] := zAr.new kq1838
  generalize (znR Sa1825 q1838 22 2 (fun _ => 0)) = Sa1838 at hw hA
  refine lv_dup hx hb dL_law_1840 rfl ?_
  refine lv_iconst (v := 0) hx hb dL_law_1841 (by decide) ?_
  refine lv_iconst (v := 0) hx hb dL_law_1842 (by decide) ?_
  refine zast_I (a := q1838) C hw hA.2.1 hA.2.2.1 (zin_of (N := 2) (by decide) (by grind) (by grind)) dL_law_1843 (fun H locs hw => ?_)
  have hA : zAr Sa1825 (zsR Sa1838 22 q1838 (upd (zR Sa1838 22 q1838) (0 : Int32).toNatClampNeg 0)) q1838 2 [0] := zAr.st (k := 0) hA kq1838 (by decide) rfl
  generalize (zsR Sa1838 22 q1838 (upd (zR Sa1838 22 q1838) (0 : Int32).toNatClampNeg 0)) = Sa1843 at hw hA
  refine lv_dup hx hb dL_law_1844 rfl ?_
  refine lv_iconst (v := 1) hx hb dL_law_1845 (by decide) ?_
  refine lv_iconst (v := 0) hx hb dL_law_1846 (by decide) ?_
  refine zast_I (a := q1838) C hw hA.2.1 hA.2.2.1 (zin_of (N := 2) (by decide) (by grind) (by grind)) dL_law_1847 (fun H locs hw => ?_)
  have hA : zAr Sa1825 (zsR Sa1843 22 q1838 (upd (zR Sa1843 22 q1838) (1 : Int32).toNatClampNeg 0)) q1838 2 [0, 0] := zAr.st (k := 1) hA kq1838 (by decide) rfl
  generalize (zsR Sa1843 22 q1838 (upd (zR Sa1843 22 q1838) (1 : Int32).toNatClampNeg 0)) = Sa1847 at hw hA
  obtain ⟨hG, hK9, hN9, hA⟩ := hA
  have hj0 : zR Sa1847 22 q1838 0 = 0 := (hA 0 0 rfl).trans rfl
  have hj1 : zR Sa1847 22 q1838 1 = 0 := (hA 1 0 rfl).trans rfl
  have hNw := zNew.gw hG hNw
  refine zcSW_i (As := [.ref (a 0), .int 119, .ref q1838]) (rest := []) (n9 := 3) C hw (c_L_ask_w_follows_r l hst D y base Sa1847 a 0 0 q1838 hNw.1 hNw.2.1 hK9 hN9 hj0 hj1) gL_law_L_ask rfl (by decide +kernel) ⟨⟨rfl, rfl⟩, Nat.le_of_ble_eq_true rfl, Nat.le_of_ble_eq_true rfl⟩ rfl hl.1 rfl (Nat.le_of_ble_eq_true rfl) ⟨Nat.le_of_ble_eq_true rfl, Nat.le_of_ble_eq_true rfl⟩ dL_law_1848 (fun r1848 S1848 H locs hp1848 hw => ?_)
  have h9 : r1848 = (0) ∧ S1848 = Sa1847 := by
    rcases hp1848 with h | h
    · exact absurd h.1 (by decide +kernel)
    · exact h.2
  obtain ⟨rfl, hS9⟩ := h9
  have hS9 := hS9.symm
  subst hS9
  refine lv_if_ne (tgt := 1945) hx hb dL_law_1851 (by decide) (fun c1851 => absurd c1851 (by decide)) (fun _ => ?_)
  refine lv_aload_n hx hb dL_law_1854 rfl (lv_at hl 0 rfl) ?_
  refine lv_bipush (v := 65) hx hb dL_law_1855 (by decide) ?_
  refine lv_iconst (v := 1) hx hb dL_law_1857 (by decide) ?_
  refine znewI (N := 1) C hw (by decide +kernel) (by decide) (by decide) (Nat.le_of_ble_eq_true rfl) (Nat.le_of_ble_eq_true rfl) (Nat.le_of_ble_eq_true rfl) dL_law_1858 (fun q1858 H kq1858 hw => ?_)
  have hA : zAr Sa1847 (znR Sa1847 q1858 22 1 (fun _ => 0)) q1858 1 [] := zAr.new kq1858
  generalize (znR Sa1847 q1858 22 1 (fun _ => 0)) = Sa1858 at hw hA
  refine lv_dup hx hb dL_law_1860 rfl ?_
  refine lv_iconst (v := 0) hx hb dL_law_1861 (by decide) ?_
  refine lv_sipush (v := 400) hx hb dL_law_1862 (by decide) ?_
  refine zast_I (a := q1858) C hw hA.2.1 hA.2.2.1 (zin_of (N := 1) (by decide) (by grind) (by grind)) dL_law_1865 (fun H locs hw => ?_)
  have hA : zAr Sa1847 (zsR Sa1858 22 q1858 (upd (zR Sa1858 22 q1858) (0 : Int32).toNatClampNeg 400)) q1858 1 [400] := zAr.st (k := 0) hA kq1858 (by decide) rfl
  generalize (zsR Sa1858 22 q1858 (upd (zR Sa1858 22 q1858) (0 : Int32).toNatClampNeg 400)) = Sa1865 at hw hA
  obtain ⟨hG, hK9, hN9, hA⟩ := hA
  have hj0 : zR Sa1865 22 q1858 0 = 400 := (hA 0 400 rfl).trans rfl
  have hNw := zNew.gw hG hNw
  refine zcSW_i (As := [.ref (a 0), .int 65, .ref q1858]) (rest := []) (n9 := 3) C hw (c_L_ask_A_alike_r l hst D y base Sa1865 a 400 q1858 hNw.1 hNw.2.1 hK9 hN9 hj0) gL_law_L_ask rfl (by decide +kernel) ⟨⟨rfl, rfl⟩, Nat.le_of_ble_eq_true rfl, Nat.le_of_ble_eq_true rfl⟩ rfl hl.1 rfl (Nat.le_of_ble_eq_true rfl) ⟨Nat.le_of_ble_eq_true rfl, Nat.le_of_ble_eq_true rfl⟩ dL_law_1866 (fun r1866 S1866 H locs hp1866 hw => ?_)
  have h9 : r1866 = (-2000000002) ∧ S1866 = Sa1865 := by
    rcases hp1866 with h | h
    · exact h.2
    · exact absurd h.1 (by decide +kernel)
  obtain ⟨rfl, hS9⟩ := h9
  have hS9 := hS9.symm
  subst hS9
  refine lv_ldc (own := RL) (v := (-2000000002)) hx hb hown (hts (.constant RL 71 (-2000000002)) (by decide +kernel)) dL_law_1869 ?_
  refine lv_icmp_ne (tgt := 1945) hx hb dL_law_1871 (by decide) (fun c1871 => absurd c1871 (by decide)) (fun _ => ?_)
  exact law_part_31 hst C hr hlocks hy31 hNw hDs hbase hw hl

set_option maxHeartbeats 4000000 in
set_option maxRecDepth 100000 in
theorem law_part_29 {p : Program} {l : Launch} {e : Env} {s : State} {m : MethodId} {below : List Frame} {meth : Method} {c : Code} {H : Heap} {locs : List Loc} {ls : Array Slot} {D : va_G} {y : Nat → ClassId} {base : Nat} {S : zS} {a : Nat → Nat} {bs : Nat} (hst : l.stackTraces = false) (C : CallFix p m c code 2 s #[Value.ref bs] wsL_law RL) (hr : meth.sig.returnType = ret) (hlocks : meth.locks = false) (hy31 : y 99 < 2 ^ 31) (hNw : zNew S a) (hDs : zDs a) (hbase : base = s.heap.size) (hw : zW D y base S s H locs) (hl : lv_has ls 2 [(1, .ref (a 0)), (0, .ref (y 98))]) : W p l e room_1 s m #[Value.ref bs] below meth c H locs 335 7334 (lw_Z below #[Value.ref bs] s) (F0 m 1741 ls []) := by
  have hx := C.1
  have hb := C.2.1
  have hown := C.2.2.2.1
  have hts := C.2.2.2.2
  refine lv_aload_n hx hb dL_law_1741 rfl (lv_at hl 0 rfl) ?_
  refine lv_bipush (v := 122) hx hb dL_law_1742 (by decide) ?_
  refine lv_iconst (v := 2) hx hb dL_law_1744 (by decide) ?_
  refine znewI (N := 2) C hw (by decide +kernel) (by decide) (by decide) (Nat.le_of_ble_eq_true rfl) (Nat.le_of_ble_eq_true rfl) (Nat.le_of_ble_eq_true rfl) dL_law_1745 (fun q1745 H kq1745 hw => ?_)
  have hA : zAr S (znR S q1745 22 2 (fun _ => 0)) q1745 2 [] := zAr.new kq1745
  generalize (znR S q1745 22 2 (fun _ => 0)) = Sa1745 at hw hA
  refine lv_dup hx hb dL_law_1747 rfl ?_
  refine lv_iconst (v := 0) hx hb dL_law_1748 (by decide) ?_
  refine lv_sipush (v := 128) hx hb dL_law_1749 (by decide) ?_
  refine zast_I (a := q1745) C hw hA.2.1 hA.2.2.1 (zin_of (N := 2) (by decide) (by grind) (by grind)) dL_law_1752 (fun H locs hw => ?_)
  have hA : zAr S (zsR Sa1745 22 q1745 (upd (zR Sa1745 22 q1745) (0 : Int32).toNatClampNeg 128)) q1745 2 [128] := zAr.st (k := 0) hA kq1745 (by decide) rfl
  generalize (zsR Sa1745 22 q1745 (upd (zR Sa1745 22 q1745) (0 : Int32).toNatClampNeg 128)) = Sa1752 at hw hA
  refine lv_dup hx hb dL_law_1753 rfl ?_
  refine lv_iconst (v := 1) hx hb dL_law_1754 (by decide) ?_
  refine lv_iconst (v := 0) hx hb dL_law_1755 (by decide) ?_
  refine zast_I (a := q1745) C hw hA.2.1 hA.2.2.1 (zin_of (N := 2) (by decide) (by grind) (by grind)) dL_law_1756 (fun H locs hw => ?_)
  have hA : zAr S (zsR Sa1752 22 q1745 (upd (zR Sa1752 22 q1745) (1 : Int32).toNatClampNeg 0)) q1745 2 [128, 0] := zAr.st (k := 1) hA kq1745 (by decide) rfl
  generalize (zsR Sa1752 22 q1745 (upd (zR Sa1752 22 q1745) (1 : Int32).toNatClampNeg 0)) = Sa1756 at hw hA
  obtain ⟨hG, hK9, hN9, hA⟩ := hA
  have hj0 : zR Sa1756 22 q1745 0 = 128 := (hA 0 128 rfl).trans rfl
  have hj1 : zR Sa1756 22 q1745 1 = 0 := (hA 1 0 rfl).trans rfl
  have hNw := zNew.gw hG hNw
  refine zcSW_i (As := [.ref (a 0), .int 122, .ref q1745]) (rest := []) (n9 := 3) C hw (c_L_ask_z_register_r l hst D y base Sa1756 a 128 0 q1745 hNw.1 hNw.2.1 hK9 hN9 hj0 hj1) gL_law_L_ask rfl (by decide +kernel) ⟨⟨rfl, rfl⟩, Nat.le_of_ble_eq_true rfl, Nat.le_of_ble_eq_true rfl⟩ rfl hl.1 rfl (Nat.le_of_ble_eq_true rfl) ⟨Nat.le_of_ble_eq_true rfl, Nat.le_of_ble_eq_true rfl⟩ dL_law_1757 (fun r1757 S1757 H locs hp1757 hw => ?_)
  have h9 : r1757 = (-2000000002) ∧ S1757 = Sa1756 := by
    rcases hp1757 with h | h
    · exact h.2
    · exact absurd h.1 (by decide +kernel)
  obtain ⟨rfl, hS9⟩ := h9
  have hS9 := hS9.symm
  subst hS9
  refine lv_ldc (own := RL) (v := (-2000000002)) hx hb hown (hts (.constant RL 71 (-2000000002)) (by decide +kernel)) dL_law_1760 ?_
  refine lv_icmp_ne (tgt := 1945) hx hb dL_law_1762 (by decide) (fun c1762 => absurd c1762 (by decide)) (fun _ => ?_)
  refine lv_aload_n hx hb dL_law_1765 rfl (lv_at hl 0 rfl) ?_
  refine lv_bipush (v := 122) hx hb dL_law_1766 (by decide) ?_
  refine lv_iconst (v := 2) hx hb dL_law_1768 (by decide) ?_
  refine znewI (N := 2) C hw (by decide +kernel) (by decide) (by decide) (Nat.le_of_ble_eq_true rfl) (Nat.le_of_ble_eq_true rfl) (Nat.le_of_ble_eq_true rfl) dL_law_1769 (fun q1769 H kq1769 hw => ?_)
  have hA : zAr Sa1756 (znR Sa1756 q1769 22 2 (fun _ => 0)) q1769 2 [] := zAr.new kq1769
  generalize (znR Sa1756 q1769 22 2 (fun _ => 0)) = Sa1769 at hw hA
  refine lv_dup hx hb dL_law_1771 rfl ?_
  refine lv_iconst (v := 0) hx hb dL_law_1772 (by decide) ?_
  refine lv_iconst (v := 0) hx hb dL_law_1773 (by decide) ?_
  refine zast_I (a := q1769) C hw hA.2.1 hA.2.2.1 (zin_of (N := 2) (by decide) (by grind) (by grind)) dL_law_1774 (fun H locs hw => ?_)
  have hA : zAr Sa1756 (zsR Sa1769 22 q1769 (upd (zR Sa1769 22 q1769) (0 : Int32).toNatClampNeg 0)) q1769 2 [0] := zAr.st (k := 0) hA kq1769 (by decide) rfl
  generalize (zsR Sa1769 22 q1769 (upd (zR Sa1769 22 q1769) (0 : Int32).toNatClampNeg 0)) = Sa1774 at hw hA
  refine lv_dup hx hb dL_law_1775 rfl ?_
  refine lv_iconst (v := 1) hx hb dL_law_1776 (by decide) ?_
  refine lv_bipush (v := 16) hx hb dL_law_1777 (by decide) ?_
  refine zast_I (a := q1769) C hw hA.2.1 hA.2.2.1 (zin_of (N := 2) (by decide) (by grind) (by grind)) dL_law_1779 (fun H locs hw => ?_)
  have hA : zAr Sa1756 (zsR Sa1774 22 q1769 (upd (zR Sa1774 22 q1769) (1 : Int32).toNatClampNeg 16)) q1769 2 [0, 16] := zAr.st (k := 1) hA kq1769 (by decide) rfl
  generalize (zsR Sa1774 22 q1769 (upd (zR Sa1774 22 q1769) (1 : Int32).toNatClampNeg 16)) = Sa1779 at hw hA
  obtain ⟨hG, hK9, hN9, hA⟩ := hA
  have hj0 : zR Sa1779 22 q1769 0 = 0 := (hA 0 0 rfl).trans rfl
  have hj1 : zR Sa1779 22 q1769 1 = 16 := (hA 1 16 rfl).trans rfl
  have hNw := zNew.gw hG hNw
  refine zcSW_i (As := [.ref (a 0), .int 122, .ref q1769]) (rest := []) (n9 := 3) C hw (c_L_ask_z_register_r l hst D y base Sa1779 a 0 16 q1769 hNw.1 hNw.2.1 hK9 hN9 hj0 hj1) gL_law_L_ask rfl (by decide +kernel) ⟨⟨rfl, rfl⟩, Nat.le_of_ble_eq_true rfl, Nat.le_of_ble_eq_true rfl⟩ rfl hl.1 rfl (Nat.le_of_ble_eq_true rfl) ⟨Nat.le_of_ble_eq_true rfl, Nat.le_of_ble_eq_true rfl⟩ dL_law_1780 (fun r1780 S1780 H locs hp1780 hw => ?_)
  have h9 : r1780 = (-2000000002) ∧ S1780 = Sa1779 := by
    rcases hp1780 with h | h
    · exact h.2
    · exact absurd h.1 (by decide +kernel)
  obtain ⟨rfl, hS9⟩ := h9
  have hS9 := hS9.symm
  subst hS9
  refine lv_ldc (own := RL) (v := (-2000000002)) hx hb hown (hts (.constant RL 71 (-2000000002)) (by decide +kernel)) dL_law_1783 ?_
  refine lv_icmp_ne (tgt := 1945) hx hb dL_law_1785 (by decide) (fun c1785 => absurd c1785 (by decide)) (fun _ => ?_)
  refine lv_aload_n hx hb dL_law_1788 rfl (lv_at hl 0 rfl) ?_
  refine lv_bipush (v := 122) hx hb dL_law_1789 (by decide) ?_
  refine lv_iconst (v := 2) hx hb dL_law_1791 (by decide) ?_
  refine znewI (N := 2) C hw (by decide +kernel) (by decide) (by decide) (Nat.le_of_ble_eq_true rfl) (Nat.le_of_ble_eq_true rfl) (Nat.le_of_ble_eq_true rfl) dL_law_1792 (fun q1792 H kq1792 hw => ?_)
  have hA : zAr Sa1779 (znR Sa1779 q1792 22 2 (fun _ => 0)) q1792 2 [] := zAr.new kq1792
  generalize (znR Sa1779 q1792 22 2 (fun _ => 0)) = Sa1792 at hw hA
  refine lv_dup hx hb dL_law_1794 rfl ?_
  refine lv_iconst (v := 0) hx hb dL_law_1795 (by decide) ?_
  refine lv_bipush (v := 127) hx hb dL_law_1796 (by decide) ?_
  refine zast_I (a := q1792) C hw hA.2.1 hA.2.2.1 (zin_of (N := 2) (by decide) (by grind) (by grind)) dL_law_1798 (fun H locs hw => ?_)
  have hA : zAr Sa1779 (zsR Sa1792 22 q1792 (upd (zR Sa1792 22 q1792) (0 : Int32).toNatClampNeg 127)) q1792 2 [127] := zAr.st (k := 0) hA kq1792 (by decide) rfl
  generalize (zsR Sa1792 22 q1792 (upd (zR Sa1792 22 q1792) (0 : Int32).toNatClampNeg 127)) = Sa1798 at hw hA
  refine lv_dup hx hb dL_law_1799 rfl ?_
  refine lv_iconst (v := 1) hx hb dL_law_1800 (by decide) ?_
  refine lv_bipush (v := 15) hx hb dL_law_1801 (by decide) ?_
  refine zast_I (a := q1792) C hw hA.2.1 hA.2.2.1 (zin_of (N := 2) (by decide) (by grind) (by grind)) dL_law_1803 (fun H locs hw => ?_)
  have hA : zAr Sa1779 (zsR Sa1798 22 q1792 (upd (zR Sa1798 22 q1792) (1 : Int32).toNatClampNeg 15)) q1792 2 [127, 15] := zAr.st (k := 1) hA kq1792 (by decide) rfl
  generalize (zsR Sa1798 22 q1792 (upd (zR Sa1798 22 q1792) (1 : Int32).toNatClampNeg 15)) = Sa1803 at hw hA
  obtain ⟨hG, hK9, hN9, hA⟩ := hA
  have hj0 : zR Sa1803 22 q1792 0 = 127 := (hA 0 127 rfl).trans rfl
  have hj1 : zR Sa1803 22 q1792 1 = 15 := (hA 1 15 rfl).trans rfl
  have hNw := zNew.gw hG hNw
  refine zcSW_i (As := [.ref (a 0), .int 122, .ref q1792]) (rest := []) (n9 := 3) C hw (c_L_ask_z_register_r l hst D y base Sa1803 a 127 15 q1792 hNw.1 hNw.2.1 hK9 hN9 hj0 hj1) gL_law_L_ask rfl (by decide +kernel) ⟨⟨rfl, rfl⟩, Nat.le_of_ble_eq_true rfl, Nat.le_of_ble_eq_true rfl⟩ rfl hl.1 rfl (Nat.le_of_ble_eq_true rfl) ⟨Nat.le_of_ble_eq_true rfl, Nat.le_of_ble_eq_true rfl⟩ dL_law_1804 (fun r1804 S1804 H locs hp1804 hw => ?_)
  have h9 : r1804 = (0) ∧ S1804 = Sa1803 := by
    rcases hp1804 with h | h
    · exact absurd h.1 (by decide +kernel)
    · exact h.2
  obtain ⟨rfl, hS9⟩ := h9
  have hS9 := hS9.symm
  subst hS9
  refine lv_if_ne (tgt := 1945) hx hb dL_law_1807 (by decide) (fun c1807 => absurd c1807 (by decide)) (fun _ => ?_)
  exact law_part_30 hst C hr hlocks hy31 hNw hDs hbase hw hl

set_option maxHeartbeats 4000000 in
set_option maxRecDepth 100000 in
theorem law_part_28 {p : Program} {l : Launch} {e : Env} {s : State} {m : MethodId} {below : List Frame} {meth : Method} {c : Code} {H : Heap} {locs : List Loc} {ls : Array Slot} {D : va_G} {y : Nat → ClassId} {base : Nat} {S : zS} {a : Nat → Nat} {bs : Nat} (hst : l.stackTraces = false) (C : CallFix p m c code 2 s #[Value.ref bs] wsL_law RL) (hr : meth.sig.returnType = ret) (hlocks : meth.locks = false) (hy31 : y 99 < 2 ^ 31) (hNw : zNew S a) (hDs : zDs a) (hbase : base = s.heap.size) (hw : zW D y base S s H locs) (hl : lv_has ls 2 [(1, .ref (a 0)), (0, .ref (y 98))]) : W p l e room_1 s m #[Value.ref bs] below meth c H locs 320 7254 (lw_Z below #[Value.ref bs] s) (F0 m 1667 ls []) := by
  have hx := C.1
  have hb := C.2.1
  have hown := C.2.2.2.1
  have hts := C.2.2.2.2
  refine lv_aload_n hx hb dL_law_1667 rfl (lv_at hl 0 rfl) ?_
  refine lv_bipush (v := 52) hx hb dL_law_1668 (by decide) ?_
  refine lv_iconst (v := 5) hx hb dL_law_1670 (by decide) ?_
  refine znewI (N := 5) C hw (by decide +kernel) (by decide) (by decide) (Nat.le_of_ble_eq_true rfl) (Nat.le_of_ble_eq_true rfl) (Nat.le_of_ble_eq_true rfl) dL_law_1671 (fun q1671 H kq1671 hw => ?_)
  have hA : zAr S (znR S q1671 22 5 (fun _ => 0)) q1671 5 [] := zAr.new kq1671
  generalize (znR S q1671 22 5 (fun _ => 0)) = Sa1671 at hw hA
  refine lv_dup hx hb dL_law_1673 rfl ?_
  refine lv_iconst (v := 0) hx hb dL_law_1674 (by decide) ?_
  refine lv_iconst (v := 0) hx hb dL_law_1675 (by decide) ?_
  refine zast_I (a := q1671) C hw hA.2.1 hA.2.2.1 (zin_of (N := 5) (by decide) (by grind) (by grind)) dL_law_1676 (fun H locs hw => ?_)
  have hA : zAr S (zsR Sa1671 22 q1671 (upd (zR Sa1671 22 q1671) (0 : Int32).toNatClampNeg 0)) q1671 5 [0] := zAr.st (k := 0) hA kq1671 (by decide) rfl
  generalize (zsR Sa1671 22 q1671 (upd (zR Sa1671 22 q1671) (0 : Int32).toNatClampNeg 0)) = Sa1676 at hw hA
  refine lv_dup hx hb dL_law_1677 rfl ?_
  refine lv_iconst (v := 1) hx hb dL_law_1678 (by decide) ?_
  refine lv_iconst (v := 0) hx hb dL_law_1679 (by decide) ?_
  refine zast_I (a := q1671) C hw hA.2.1 hA.2.2.1 (zin_of (N := 5) (by decide) (by grind) (by grind)) dL_law_1680 (fun H locs hw => ?_)
  have hA : zAr S (zsR Sa1676 22 q1671 (upd (zR Sa1676 22 q1671) (1 : Int32).toNatClampNeg 0)) q1671 5 [0, 0] := zAr.st (k := 1) hA kq1671 (by decide) rfl
  generalize (zsR Sa1676 22 q1671 (upd (zR Sa1676 22 q1671) (1 : Int32).toNatClampNeg 0)) = Sa1680 at hw hA
  refine lv_dup hx hb dL_law_1681 rfl ?_
  refine lv_iconst (v := 2) hx hb dL_law_1682 (by decide) ?_
  refine lv_iconst (v := 1) hx hb dL_law_1683 (by decide) ?_
  refine zast_I (a := q1671) C hw hA.2.1 hA.2.2.1 (zin_of (N := 5) (by decide) (by grind) (by grind)) dL_law_1684 (fun H locs hw => ?_)
  have hA : zAr S (zsR Sa1680 22 q1671 (upd (zR Sa1680 22 q1671) (2 : Int32).toNatClampNeg 1)) q1671 5 [0, 0, 1] := zAr.st (k := 2) hA kq1671 (by decide) rfl
  generalize (zsR Sa1680 22 q1671 (upd (zR Sa1680 22 q1671) (2 : Int32).toNatClampNeg 1)) = Sa1684 at hw hA
  refine lv_dup hx hb dL_law_1685 rfl ?_
  refine lv_iconst (v := 3) hx hb dL_law_1686 (by decide) ?_
  refine lv_iconst (v := 1) hx hb dL_law_1687 (by decide) ?_
  refine zast_I (a := q1671) C hw hA.2.1 hA.2.2.1 (zin_of (N := 5) (by decide) (by grind) (by grind)) dL_law_1688 (fun H locs hw => ?_)
  have hA : zAr S (zsR Sa1684 22 q1671 (upd (zR Sa1684 22 q1671) (3 : Int32).toNatClampNeg 1)) q1671 5 [0, 0, 1, 1] := zAr.st (k := 3) hA kq1671 (by decide) rfl
  generalize (zsR Sa1684 22 q1671 (upd (zR Sa1684 22 q1671) (3 : Int32).toNatClampNeg 1)) = Sa1688 at hw hA
  refine lv_dup hx hb dL_law_1689 rfl ?_
  refine lv_iconst (v := 4) hx hb dL_law_1690 (by decide) ?_
  refine lv_iconst (v := 0) hx hb dL_law_1691 (by decide) ?_
  refine zast_I (a := q1671) C hw hA.2.1 hA.2.2.1 (zin_of (N := 5) (by decide) (by grind) (by grind)) dL_law_1692 (fun H locs hw => ?_)
  have hA : zAr S (zsR Sa1688 22 q1671 (upd (zR Sa1688 22 q1671) (4 : Int32).toNatClampNeg 0)) q1671 5 [0, 0, 1, 1, 0] := zAr.st (k := 4) hA kq1671 (by decide) rfl
  generalize (zsR Sa1688 22 q1671 (upd (zR Sa1688 22 q1671) (4 : Int32).toNatClampNeg 0)) = Sa1692 at hw hA
  obtain ⟨hG, hK9, hN9, hA⟩ := hA
  have hj0 : zR Sa1692 22 q1671 0 = 0 := (hA 0 0 rfl).trans rfl
  have hj1 : zR Sa1692 22 q1671 1 = 0 := (hA 1 0 rfl).trans rfl
  have hj2 : zR Sa1692 22 q1671 2 = 1 := (hA 2 1 rfl).trans rfl
  have hj3 : zR Sa1692 22 q1671 3 = 1 := (hA 3 1 rfl).trans rfl
  have hj4 : zR Sa1692 22 q1671 4 = 0 := (hA 4 0 rfl).trans rfl
  have hNw := zNew.gw hG hNw
  refine zcSW_i (As := [.ref (a 0), .int 52, .ref q1671]) (rest := []) (n9 := 3) C hw (c_L_ask_4_decodeFour_r l hst D y base Sa1692 a 0 0 1 1 0 q1671 hNw.1 hNw.2.1 (by decide +kernel) hK9 hN9 hj0 hj1 hj2 hj3 hj4) gL_law_L_ask rfl (by decide +kernel) ⟨⟨rfl, rfl⟩, Nat.le_of_ble_eq_true rfl, Nat.le_of_ble_eq_true rfl⟩ rfl hl.1 rfl (Nat.le_of_ble_eq_true rfl) ⟨Nat.le_of_ble_eq_true rfl, Nat.le_of_ble_eq_true rfl⟩ dL_law_1693 (fun r1693 S1693 H locs hp1693 hw => ?_)
  have h9 : r1693 = (-2000000002) ∧ S1693 = Sa1692 := by
    rcases hp1693 with h | h
    · exact absurd h.1 (by decide +kernel)
    · exact h.2
  obtain ⟨rfl, hS9⟩ := h9
  have hS9 := hS9.symm
  subst hS9
  refine lv_ldc (own := RL) (v := (-2000000002)) hx hb hown (hts (.constant RL 71 (-2000000002)) (by decide +kernel)) dL_law_1696 ?_
  refine lv_icmp_ne (tgt := 1945) hx hb dL_law_1698 (by decide) (fun c1698 => absurd c1698 (by decide)) (fun _ => ?_)
  refine lv_aload_n hx hb dL_law_1701 rfl (lv_at hl 0 rfl) ?_
  refine lv_bipush (v := 107) hx hb dL_law_1702 (by decide) ?_
  refine lv_iconst (v := 1) hx hb dL_law_1704 (by decide) ?_
  refine znewI (N := 1) C hw (by decide +kernel) (by decide) (by decide) (Nat.le_of_ble_eq_true rfl) (Nat.le_of_ble_eq_true rfl) (Nat.le_of_ble_eq_true rfl) dL_law_1705 (fun q1705 H kq1705 hw => ?_)
  have hA : zAr Sa1692 (znR Sa1692 q1705 22 1 (fun _ => 0)) q1705 1 [] := zAr.new kq1705
  generalize (znR Sa1692 q1705 22 1 (fun _ => 0)) = Sa1705 at hw hA
  refine lv_dup hx hb dL_law_1707 rfl ?_
  refine lv_iconst (v := 0) hx hb dL_law_1708 (by decide) ?_
  refine lv_iconst (v := 0) hx hb dL_law_1709 (by decide) ?_
  refine zast_I (a := q1705) C hw hA.2.1 hA.2.2.1 (zin_of (N := 1) (by decide) (by grind) (by grind)) dL_law_1710 (fun H locs hw => ?_)
  have hA : zAr Sa1692 (zsR Sa1705 22 q1705 (upd (zR Sa1705 22 q1705) (0 : Int32).toNatClampNeg 0)) q1705 1 [0] := zAr.st (k := 0) hA kq1705 (by decide) rfl
  generalize (zsR Sa1705 22 q1705 (upd (zR Sa1705 22 q1705) (0 : Int32).toNatClampNeg 0)) = Sa1710 at hw hA
  obtain ⟨hG, hK9, hN9, hA⟩ := hA
  have hj0 : zR Sa1710 22 q1705 0 = 0 := (hA 0 0 rfl).trans rfl
  have hNw := zNew.gw hG hNw
  refine zcSW_i (As := [.ref (a 0), .int 107, .ref q1705]) (rest := []) (n9 := 3) C hw (c_L_ask_k_kind_r l hst D y base Sa1710 a 0 q1705 hNw.1 hNw.2.1 hK9 hN9 hj0) gL_law_L_ask rfl (by decide +kernel) ⟨⟨rfl, rfl⟩, Nat.le_of_ble_eq_true rfl, Nat.le_of_ble_eq_true rfl⟩ rfl hl.1 rfl (Nat.le_of_ble_eq_true rfl) ⟨Nat.le_of_ble_eq_true rfl, Nat.le_of_ble_eq_true rfl⟩ dL_law_1711 (fun r1711 S1711 H locs hp1711 hw => ?_)
  have h9 : r1711 = (-2000000001) ∧ S1711 = Sa1710 := hp1711.2
  obtain ⟨rfl, hS9⟩ := h9
  have hS9 := hS9.symm
  subst hS9
  refine lv_ldc (own := RL) (v := (-2000000001)) hx hb hown (hts (.constant RL 68 (-2000000001)) (by decide +kernel)) dL_law_1714 ?_
  refine lv_icmp_ne (tgt := 1945) hx hb dL_law_1716 (by decide) (fun c1716 => absurd c1716 (by decide)) (fun _ => ?_)
  refine lv_aload_n hx hb dL_law_1719 rfl (lv_at hl 0 rfl) ?_
  refine lv_bipush (v := 113) hx hb dL_law_1720 (by decide) ?_
  refine lv_iconst (v := 2) hx hb dL_law_1722 (by decide) ?_
  refine znewI (N := 2) C hw (by decide +kernel) (by decide) (by decide) (Nat.le_of_ble_eq_true rfl) (Nat.le_of_ble_eq_true rfl) (Nat.le_of_ble_eq_true rfl) dL_law_1723 (fun q1723 H kq1723 hw => ?_)
  have hA : zAr Sa1710 (znR Sa1710 q1723 22 2 (fun _ => 0)) q1723 2 [] := zAr.new kq1723
  generalize (znR Sa1710 q1723 22 2 (fun _ => 0)) = Sa1723 at hw hA
  refine lv_dup hx hb dL_law_1725 rfl ?_
  refine lv_iconst (v := 0) hx hb dL_law_1726 (by decide) ?_
  refine lv_iconst (v := 0) hx hb dL_law_1727 (by decide) ?_
  refine zast_I (a := q1723) C hw hA.2.1 hA.2.2.1 (zin_of (N := 2) (by decide) (by grind) (by grind)) dL_law_1728 (fun H locs hw => ?_)
  have hA : zAr Sa1710 (zsR Sa1723 22 q1723 (upd (zR Sa1723 22 q1723) (0 : Int32).toNatClampNeg 0)) q1723 2 [0] := zAr.st (k := 0) hA kq1723 (by decide) rfl
  generalize (zsR Sa1723 22 q1723 (upd (zR Sa1723 22 q1723) (0 : Int32).toNatClampNeg 0)) = Sa1728 at hw hA
  refine lv_dup hx hb dL_law_1729 rfl ?_
  refine lv_iconst (v := 1) hx hb dL_law_1730 (by decide) ?_
  refine lv_iconst (v := 0) hx hb dL_law_1731 (by decide) ?_
  refine zast_I (a := q1723) C hw hA.2.1 hA.2.2.1 (zin_of (N := 2) (by decide) (by grind) (by grind)) dL_law_1732 (fun H locs hw => ?_)
  have hA : zAr Sa1710 (zsR Sa1728 22 q1723 (upd (zR Sa1728 22 q1723) (1 : Int32).toNatClampNeg 0)) q1723 2 [0, 0] := zAr.st (k := 1) hA kq1723 (by decide) rfl
  generalize (zsR Sa1728 22 q1723 (upd (zR Sa1728 22 q1723) (1 : Int32).toNatClampNeg 0)) = Sa1732 at hw hA
  obtain ⟨hG, hK9, hN9, hA⟩ := hA
  have hj0 : zR Sa1732 22 q1723 0 = 0 := (hA 0 0 rfl).trans rfl
  have hj1 : zR Sa1732 22 q1723 1 = 0 := (hA 1 0 rfl).trans rfl
  have hNw := zNew.gw hG hNw
  refine zcSW_i (As := [.ref (a 0), .int 113, .ref q1723]) (rest := []) (n9 := 3) C hw (c_L_ask_q_rate_r l hst D y base Sa1732 a 0 0 q1723 hNw.1 hNw.2.1 hK9 hN9 hj0 hj1) gL_law_L_ask rfl (by decide +kernel) ⟨⟨rfl, rfl⟩, Nat.le_of_ble_eq_true rfl, Nat.le_of_ble_eq_true rfl⟩ rfl hl.1 rfl (Nat.le_of_ble_eq_true rfl) ⟨Nat.le_of_ble_eq_true rfl, Nat.le_of_ble_eq_true rfl⟩ dL_law_1733 (fun r1733 S1733 H locs hp1733 hw => ?_)
  have h9 : r1733 = (-2000000005) ∧ S1733 = Sa1732 := by
    rcases hp1733 with h | h
    · exact absurd h.1 (by decide +kernel)
    · exact h.2
  obtain ⟨rfl, hS9⟩ := h9
  have hS9 := hS9.symm
  subst hS9
  refine lv_ldc (own := RL) (v := (-2000000005)) hx hb hown (hts (.constant RL 80 (-2000000005)) (by decide +kernel)) dL_law_1736 ?_
  refine lv_icmp_ne (tgt := 1945) hx hb dL_law_1738 (by decide) (fun c1738 => absurd c1738 (by decide)) (fun _ => ?_)
  exact law_part_29 hst C hr hlocks hy31 hNw hDs hbase hw hl

set_option maxHeartbeats 4000000 in
set_option maxRecDepth 100000 in
theorem law_part_27 {p : Program} {l : Launch} {e : Env} {s : State} {m : MethodId} {below : List Frame} {meth : Method} {c : Code} {H : Heap} {locs : List Loc} {ls : Array Slot} {D : va_G} {y : Nat → ClassId} {base : Nat} {S : zS} {a : Nat → Nat} {bs : Nat} (hst : l.stackTraces = false) (C : CallFix p m c code 2 s #[Value.ref bs] wsL_law RL) (hr : meth.sig.returnType = ret) (hlocks : meth.locks = false) (hy31 : y 99 < 2 ^ 31) (hNw : zNew S a) (hDs : zDs a) (hbase : base = s.heap.size) (hw : zW D y base S s H locs) (hl : lv_has ls 2 [(1, .ref (a 0)), (0, .ref (y 98))]) : W p l e room_1 s m #[Value.ref bs] below meth c H locs 306 7174 (lw_Z below #[Value.ref bs] s) (F0 m 1607 ls []) := by
  have hx := C.1
  have hb := C.2.1
  have hown := C.2.2.2.1
  have hts := C.2.2.2.2
  refine lv_aload_n hx hb dL_law_1607 rfl (lv_at hl 0 rfl) ?_
  refine lv_bipush (v := 50) hx hb dL_law_1608 (by decide) ?_
  refine lv_iconst (v := 3) hx hb dL_law_1610 (by decide) ?_
  refine znewI (N := 3) C hw (by decide +kernel) (by decide) (by decide) (Nat.le_of_ble_eq_true rfl) (Nat.le_of_ble_eq_true rfl) (Nat.le_of_ble_eq_true rfl) dL_law_1611 (fun q1611 H kq1611 hw => ?_)
  have hA : zAr S (znR S q1611 22 3 (fun _ => 0)) q1611 3 [] := zAr.new kq1611
  generalize (znR S q1611 22 3 (fun _ => 0)) = Sa1611 at hw hA
  refine lv_dup hx hb dL_law_1613 rfl ?_
  refine lv_iconst (v := 0) hx hb dL_law_1614 (by decide) ?_
  refine lv_iconst (v := 0) hx hb dL_law_1615 (by decide) ?_
  refine zast_I (a := q1611) C hw hA.2.1 hA.2.2.1 (zin_of (N := 3) (by decide) (by grind) (by grind)) dL_law_1616 (fun H locs hw => ?_)
  have hA : zAr S (zsR Sa1611 22 q1611 (upd (zR Sa1611 22 q1611) (0 : Int32).toNatClampNeg 0)) q1611 3 [0] := zAr.st (k := 0) hA kq1611 (by decide) rfl
  generalize (zsR Sa1611 22 q1611 (upd (zR Sa1611 22 q1611) (0 : Int32).toNatClampNeg 0)) = Sa1616 at hw hA
  refine lv_dup hx hb dL_law_1617 rfl ?_
  refine lv_iconst (v := 1) hx hb dL_law_1618 (by decide) ?_
  refine lv_iconst (v := 4) hx hb dL_law_1619 (by decide) ?_
  refine zast_I (a := q1611) C hw hA.2.1 hA.2.2.1 (zin_of (N := 3) (by decide) (by grind) (by grind)) dL_law_1620 (fun H locs hw => ?_)
  have hA : zAr S (zsR Sa1616 22 q1611 (upd (zR Sa1616 22 q1611) (1 : Int32).toNatClampNeg 4)) q1611 3 [0, 4] := zAr.st (k := 1) hA kq1611 (by decide) rfl
  generalize (zsR Sa1616 22 q1611 (upd (zR Sa1616 22 q1611) (1 : Int32).toNatClampNeg 4)) = Sa1620 at hw hA
  refine lv_dup hx hb dL_law_1621 rfl ?_
  refine lv_iconst (v := 2) hx hb dL_law_1622 (by decide) ?_
  refine lv_iconst (v := 1) hx hb dL_law_1623 (by decide) ?_
  refine zast_I (a := q1611) C hw hA.2.1 hA.2.2.1 (zin_of (N := 3) (by decide) (by grind) (by grind)) dL_law_1624 (fun H locs hw => ?_)
  have hA : zAr S (zsR Sa1620 22 q1611 (upd (zR Sa1620 22 q1611) (2 : Int32).toNatClampNeg 1)) q1611 3 [0, 4, 1] := zAr.st (k := 2) hA kq1611 (by decide) rfl
  generalize (zsR Sa1620 22 q1611 (upd (zR Sa1620 22 q1611) (2 : Int32).toNatClampNeg 1)) = Sa1624 at hw hA
  obtain ⟨hG, hK9, hN9, hA⟩ := hA
  have hj0 : zR Sa1624 22 q1611 0 = 0 := (hA 0 0 rfl).trans rfl
  have hj1 : zR Sa1624 22 q1611 1 = 4 := (hA 1 4 rfl).trans rfl
  have hj2 : zR Sa1624 22 q1611 2 = 1 := (hA 2 1 rfl).trans rfl
  have hNw := zNew.gw hG hNw
  refine zcSW_i (As := [.ref (a 0), .int 50, .ref q1611]) (rest := []) (n9 := 3) C hw (c_L_ask_2_decodeTwo_r l hst D y base Sa1624 a 0 4 1 q1611 hNw.1 hNw.2.1 (by decide +kernel) hK9 hN9 hj0 hj1 hj2) gL_law_L_ask rfl (by decide +kernel) ⟨⟨rfl, rfl⟩, Nat.le_of_ble_eq_true rfl, Nat.le_of_ble_eq_true rfl⟩ rfl hl.1 rfl (Nat.le_of_ble_eq_true rfl) ⟨Nat.le_of_ble_eq_true rfl, Nat.le_of_ble_eq_true rfl⟩ dL_law_1625 (fun r1625 S1625 H locs hp1625 hw => ?_)
  have h9 : r1625 = (-2000000001) ∧ S1625 = Sa1624 := by
    rcases hp1625 with h | h
    · exact h.2
    · exact absurd h.1 (by decide +kernel)
  obtain ⟨rfl, hS9⟩ := h9
  have hS9 := hS9.symm
  subst hS9
  refine lv_ldc (own := RL) (v := (-2000000001)) hx hb hown (hts (.constant RL 68 (-2000000001)) (by decide +kernel)) dL_law_1628 ?_
  refine lv_icmp_ne (tgt := 1945) hx hb dL_law_1630 (by decide) (fun c1630 => absurd c1630 (by decide)) (fun _ => ?_)
  refine lv_aload_n hx hb dL_law_1633 rfl (lv_at hl 0 rfl) ?_
  refine lv_bipush (v := 52) hx hb dL_law_1634 (by decide) ?_
  refine lv_iconst (v := 5) hx hb dL_law_1636 (by decide) ?_
  refine znewI (N := 5) C hw (by decide +kernel) (by decide) (by decide) (Nat.le_of_ble_eq_true rfl) (Nat.le_of_ble_eq_true rfl) (Nat.le_of_ble_eq_true rfl) dL_law_1637 (fun q1637 H kq1637 hw => ?_)
  have hA : zAr Sa1624 (znR Sa1624 q1637 22 5 (fun _ => 0)) q1637 5 [] := zAr.new kq1637
  generalize (znR Sa1624 q1637 22 5 (fun _ => 0)) = Sa1637 at hw hA
  refine lv_dup hx hb dL_law_1639 rfl ?_
  refine lv_iconst (v := 0) hx hb dL_law_1640 (by decide) ?_
  refine lv_iconst (v := 0) hx hb dL_law_1641 (by decide) ?_
  refine zast_I (a := q1637) C hw hA.2.1 hA.2.2.1 (zin_of (N := 5) (by decide) (by grind) (by grind)) dL_law_1642 (fun H locs hw => ?_)
  have hA : zAr Sa1624 (zsR Sa1637 22 q1637 (upd (zR Sa1637 22 q1637) (0 : Int32).toNatClampNeg 0)) q1637 5 [0] := zAr.st (k := 0) hA kq1637 (by decide) rfl
  generalize (zsR Sa1637 22 q1637 (upd (zR Sa1637 22 q1637) (0 : Int32).toNatClampNeg 0)) = Sa1642 at hw hA
  refine lv_dup hx hb dL_law_1643 rfl ?_
  refine lv_iconst (v := 1) hx hb dL_law_1644 (by decide) ?_
  refine lv_iconst (v := 0) hx hb dL_law_1645 (by decide) ?_
  refine zast_I (a := q1637) C hw hA.2.1 hA.2.2.1 (zin_of (N := 5) (by decide) (by grind) (by grind)) dL_law_1646 (fun H locs hw => ?_)
  have hA : zAr Sa1624 (zsR Sa1642 22 q1637 (upd (zR Sa1642 22 q1637) (1 : Int32).toNatClampNeg 0)) q1637 5 [0, 0] := zAr.st (k := 1) hA kq1637 (by decide) rfl
  generalize (zsR Sa1642 22 q1637 (upd (zR Sa1642 22 q1637) (1 : Int32).toNatClampNeg 0)) = Sa1646 at hw hA
  refine lv_dup hx hb dL_law_1647 rfl ?_
  refine lv_iconst (v := 2) hx hb dL_law_1648 (by decide) ?_
  refine lv_iconst (v := 1) hx hb dL_law_1649 (by decide) ?_
  refine zast_I (a := q1637) C hw hA.2.1 hA.2.2.1 (zin_of (N := 5) (by decide) (by grind) (by grind)) dL_law_1650 (fun H locs hw => ?_)
  have hA : zAr Sa1624 (zsR Sa1646 22 q1637 (upd (zR Sa1646 22 q1637) (2 : Int32).toNatClampNeg 1)) q1637 5 [0, 0, 1] := zAr.st (k := 2) hA kq1637 (by decide) rfl
  generalize (zsR Sa1646 22 q1637 (upd (zR Sa1646 22 q1637) (2 : Int32).toNatClampNeg 1)) = Sa1650 at hw hA
  refine lv_dup hx hb dL_law_1651 rfl ?_
  refine lv_iconst (v := 3) hx hb dL_law_1652 (by decide) ?_
  refine lv_iconst (v := 2) hx hb dL_law_1653 (by decide) ?_
  refine zast_I (a := q1637) C hw hA.2.1 hA.2.2.1 (zin_of (N := 5) (by decide) (by grind) (by grind)) dL_law_1654 (fun H locs hw => ?_)
  have hA : zAr Sa1624 (zsR Sa1650 22 q1637 (upd (zR Sa1650 22 q1637) (3 : Int32).toNatClampNeg 2)) q1637 5 [0, 0, 1, 2] := zAr.st (k := 3) hA kq1637 (by decide) rfl
  generalize (zsR Sa1650 22 q1637 (upd (zR Sa1650 22 q1637) (3 : Int32).toNatClampNeg 2)) = Sa1654 at hw hA
  refine lv_dup hx hb dL_law_1655 rfl ?_
  refine lv_iconst (v := 4) hx hb dL_law_1656 (by decide) ?_
  refine lv_iconst (v := 4) hx hb dL_law_1657 (by decide) ?_
  refine zast_I (a := q1637) C hw hA.2.1 hA.2.2.1 (zin_of (N := 5) (by decide) (by grind) (by grind)) dL_law_1658 (fun H locs hw => ?_)
  have hA : zAr Sa1624 (zsR Sa1654 22 q1637 (upd (zR Sa1654 22 q1637) (4 : Int32).toNatClampNeg 4)) q1637 5 [0, 0, 1, 2, 4] := zAr.st (k := 4) hA kq1637 (by decide) rfl
  generalize (zsR Sa1654 22 q1637 (upd (zR Sa1654 22 q1637) (4 : Int32).toNatClampNeg 4)) = Sa1658 at hw hA
  obtain ⟨hG, hK9, hN9, hA⟩ := hA
  have hj0 : zR Sa1658 22 q1637 0 = 0 := (hA 0 0 rfl).trans rfl
  have hj1 : zR Sa1658 22 q1637 1 = 0 := (hA 1 0 rfl).trans rfl
  have hj2 : zR Sa1658 22 q1637 2 = 1 := (hA 2 1 rfl).trans rfl
  have hj3 : zR Sa1658 22 q1637 3 = 2 := (hA 3 2 rfl).trans rfl
  have hj4 : zR Sa1658 22 q1637 4 = 4 := (hA 4 4 rfl).trans rfl
  have hNw := zNew.gw hG hNw
  refine zcSW_i (As := [.ref (a 0), .int 52, .ref q1637]) (rest := []) (n9 := 3) C hw (c_L_ask_4_decodeFour_r l hst D y base Sa1658 a 0 0 1 2 4 q1637 hNw.1 hNw.2.1 (by decide +kernel) hK9 hN9 hj0 hj1 hj2 hj3 hj4) gL_law_L_ask rfl (by decide +kernel) ⟨⟨rfl, rfl⟩, Nat.le_of_ble_eq_true rfl, Nat.le_of_ble_eq_true rfl⟩ rfl hl.1 rfl (Nat.le_of_ble_eq_true rfl) ⟨Nat.le_of_ble_eq_true rfl, Nat.le_of_ble_eq_true rfl⟩ dL_law_1659 (fun r1659 S1659 H locs hp1659 hw => ?_)
  have h9 : r1659 = (-2000000002) ∧ S1659 = Sa1658 := by
    rcases hp1659 with h | h
    · exact absurd h.1 (by decide +kernel)
    · exact h.2
  obtain ⟨rfl, hS9⟩ := h9
  have hS9 := hS9.symm
  subst hS9
  refine lv_ldc (own := RL) (v := (-2000000002)) hx hb hown (hts (.constant RL 71 (-2000000002)) (by decide +kernel)) dL_law_1662 ?_
  refine lv_icmp_ne (tgt := 1945) hx hb dL_law_1664 (by decide) (fun c1664 => absurd c1664 (by decide)) (fun _ => ?_)
  exact law_part_28 hst C hr hlocks hy31 hNw hDs hbase hw hl
