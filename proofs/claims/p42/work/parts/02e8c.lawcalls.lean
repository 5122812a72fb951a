set_option maxRecDepth 20000 in
theorem ggL_law_L_full_xwsX60 : GoodIn wsL_law wsX60 := goodIn_r _ [668, 669, 670, 671, 672, 673] (by decide +kernel) (by decide +kernel)
set_option maxRecDepth 20000 in
theorem ggL_law_L_full_xwsX00 : GoodIn wsL_law wsX00 := goodIn_r _ [674, 675] (by decide +kernel) (by decide +kernel)
set_option maxRecDepth 20000 in
theorem ggL_law_L_full_xwsX40 : GoodIn wsL_law wsX40 := goodIn_r _ [676, 677, 678, 679] (by decide +kernel) (by decide +kernel)
set_option maxRecDepth 20000 in
theorem ggL_law_L_full_xwsX30 : GoodIn wsL_law wsX30 := goodIn_r _ [680, 681, 682, 683, 684, 685] (by decide +kernel) (by decide +kernel)
set_option maxRecDepth 20000 in
theorem ggL_law_L_full_xwsX10 : GoodIn wsL_law wsX10 := goodIn_r _ [686] (by decide +kernel) (by decide +kernel)
set_option maxRecDepth 20000 in
theorem ggL_law_L_full_xwsX50 : GoodIn wsL_law wsX50 := goodIn_r _ [687, 688, 689, 690, 691, 692, 693, 694, 695, 696] (by decide +kernel) (by decide +kernel)
set_option maxRecDepth 20000 in
theorem ggL_law_L_full_xwsX20 : GoodIn wsL_law wsX20 := goodIn_r _ [697, 698, 699, 700] (by decide +kernel) (by decide +kernel)
set_option maxRecDepth 20000 in
theorem ggL_law_L_full : GoodIn wsL_law wsL_full := goodIn_ca (goodIn_ca (goodIn_ca (goodIn_ca (goodIn_ca (goodIn_app (a := [_]) ggL_law_L_full_c (goodIn_app (goodIn_app (goodIn_app (goodIn_app (goodIn_app (goodIn_app (goodIn_app (goodIn_app (goodIn_app ggL_law_L_full_1 (goodIn_app ggL_law_L_full_2 (goodIn_app ggL_law_L_full_3 (goodIn_app ggL_law_L_full_4 (goodIn_app ggL_law_L_full_5 (goodIn_app ggL_law_L_full_6 (goodIn_app ggL_law_L_full_7 (goodIn_app ggL_law_L_full_8 (goodIn_app ggL_law_L_full_9 (goodIn_app ggL_law_L_full_10 (goodIn_app ggL_law_L_full_11 (goodIn_app ggL_law_L_full_12 (goodIn_app ggL_law_L_full_13 (goodIn_app ggL_law_L_full_14 (goodIn_app ggL_law_L_full_15 (goodIn_app ggL_law_L_full_16 (goodIn_app ggL_law_L_full_17 (goodIn_app ggL_law_L_full_18 (goodIn_app ggL_law_L_full_19 (goodIn_app ggL_law_L_full_20 (goodIn_app ggL_law_L_full_21 (goodIn_app ggL_law_L_full_22 (goodIn_app ggL_law_L_full_23 (ggL_law_L_full_24)))))))))))))))))))))))) ggL_law_L_full_xwsX70) ggL_law_L_full_xwsX60) ggL_law_L_full_xwsX00) ggL_law_L_full_xwsX40) ggL_law_L_full_xwsX30) ggL_law_L_full_xwsX10) ggL_law_L_full_xwsX50) ggL_law_L_full_xwsX20)) (goodIn_sub (fun _ h => List.mem_append_left _ (List.mem_append_left _ (List.mem_append_left _ (List.mem_append_left _ (List.mem_append_right _ h))))) (by decide +kernel))) (goodIn_sub (fun _ h => List.mem_append_left _ (List.mem_append_left _ (List.mem_append_right _ h))) (by decide +kernel))) (goodIn_sub (fun _ h => List.mem_append_left _ (List.mem_append_right _ h)) (by decide +kernel))) (goodIn_sub (fun _ h => List.mem_append_left _ (List.mem_append_left _ (List.mem_append_left _ (List.mem_append_right _ h)))) (by decide +kernel))) (goodIn_sub (fun _ h => List.mem_append_right _ h) (by decide +kernel))
set_option maxRecDepth 20000 in
theorem gL_law_L_full : GoodIn wsL_law (va_wsS RL 186 yL_full wsL_full) := goodIn_app (goodIn_of _ (by decide +kernel)) ggL_law_L_full
