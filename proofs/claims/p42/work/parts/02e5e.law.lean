theorem wq_wsX70 : ∀ w ∈ wsX70, w ∈ lw_tbl := by decide +kernel
theorem wq_wsX60 : ∀ w ∈ wsX60, w ∈ lw_tbl := by decide +kernel
theorem wq_wsX00 : ∀ w ∈ wsX00, w ∈ lw_tbl := by decide +kernel
theorem wq_wsX40 : ∀ w ∈ wsX40, w ∈ lw_tbl := by decide +kernel
theorem wq_wsX30 : ∀ w ∈ wsX30, w ∈ lw_tbl := by decide +kernel
theorem wq_wsX10 : ∀ w ∈ wsX10, w ∈ lw_tbl := by decide +kernel
theorem wq_wsX50 : ∀ w ∈ wsX50, w ∈ lw_tbl := by decide +kernel
theorem wq_wsX20 : ∀ w ∈ wsX20, w ∈ lw_tbl := by decide +kernel
set_option maxRecDepth 20000 in
theorem wsL_law_in0 : ∀ w ∈ wsL_law0, w ∈ lw_tbl := fun w h => by
  unfold wsL_law0 at h
  replace h := (List.mem_append.mp h).resolve_right (fun h => absurd h List.not_mem_nil)
  refine (List.mem_append.mp h).elim (fun h => ?_) (fun h9 => wq_wsX20 w h9)
  refine (List.mem_append.mp h).elim (fun h => ?_) (fun h9 => wq_wsX50 w h9)
  refine (List.mem_append.mp h).elim (fun h => ?_) (fun h9 => wq_wsX10 w h9)
  refine (List.mem_append.mp h).elim (fun h => ?_) (fun h9 => wq_wsX30 w h9)
  refine (List.mem_append.mp h).elim (fun h => ?_) (fun h9 => wq_wsX40 w h9)
  refine (List.mem_append.mp h).elim (fun h => ?_) (fun h9 => wq_wsX00 w h9)
  refine (List.mem_append.mp h).elim (fun h => ?_) (fun h9 => wq_wsX60 w h9)
  refine (List.mem_append.mp h).elim (fun h => ?_) (fun h9 => wq_wsX70 w h9)
  rcases List.mem_append.mp h with h | h
  · exact wsL_law0q_r1_in w h
  rcases List.mem_append.mp h with h | h
  · exact wsL_law0q_r2_in w h
  rcases List.mem_append.mp h with h | h
  · exact wsL_law0q_r3_in w h
  rcases List.mem_append.mp h with h | h
  · exact wsL_law0q_r4_in w h
  rcases List.mem_append.mp h with h | h
  · exact wsL_law0q_r5_in w h
  rcases List.mem_append.mp h with h | h
  · exact wsL_law0q_r6_in w h
  rcases List.mem_append.mp h with h | h
  · exact wsL_law0q_r7_in w h
  rcases List.mem_append.mp h with h | h
  · exact wsL_law0q_r8_in w h
  rcases List.mem_append.mp h with h | h
  · exact wsL_law0q_r9_in w h
  rcases List.mem_append.mp h with h | h
  · exact wsL_law0q_r10_in w h
  rcases List.mem_append.mp h with h | h
  · exact wsL_law0q_r11_in w h
  rcases List.mem_append.mp h with h | h
  · exact wsL_law0q_r12_in w h
  rcases List.mem_append.mp h with h | h
  · exact wsL_law0q_r13_in w h
  rcases List.mem_append.mp h with h | h
  · exact wsL_law0q_r14_in w h
  rcases List.mem_append.mp h with h | h
  · exact wsL_law0q_r15_in w h
  rcases List.mem_append.mp h with h | h
  · exact wsL_law0q_r16_in w h
  rcases List.mem_append.mp h with h | h
  · exact wsL_law0q_r17_in w h
  rcases List.mem_append.mp h with h | h
  · exact wsL_law0q_r18_in w h
  rcases List.mem_append.mp h with h | h
  · exact wsL_law0q_r19_in w h
  rcases List.mem_append.mp h with h | h
  · exact wsL_law0q_r20_in w h
  rcases List.mem_append.mp h with h | h
  · exact wsL_law0q_r21_in w h
  rcases List.mem_append.mp h with h | h
  · exact wsL_law0q_r22_in w h
  rcases List.mem_append.mp h with h | h
  · exact wsL_law0q_r23_in w h
  rcases List.mem_append.mp h with h | h
  · exact wsL_law0q_r24_in w h
  rcases List.mem_append.mp h with h | h
  · exact wsL_law0q_r25_in w h
  rcases List.mem_append.mp h with h | h
  · exact wsL_law0q_r26_in w h
  rcases List.mem_append.mp h with h | h
  · exact wsL_law0q_r27_in w h
  exact wsL_law0q_r28_in w h
