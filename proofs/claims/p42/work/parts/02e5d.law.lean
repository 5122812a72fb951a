set_option maxRecDepth 20000 in
theorem wsL_law_at_two : Cond.code yL_two cL_two 12 (some .boolean) ∈ lw_tbl := by
  refine List.mem_append_right _ (List.mem_append_right _ (List.mem_append_right _ (List.mem_append_right _ ?_)))
  show _ ∈ tables_1_4
  first
  | exact List.mem_of_getElem? (i := 166) rfl
  | (unfold tables_1_4; repeat (first | exact List.mem_cons_self | refine List.mem_cons_of_mem _ ?_))
set_option maxRecDepth 20000 in
theorem wsL_law_at_four : Cond.code yL_four cL_four 8 (some .boolean) ∈ lw_tbl := by
  refine List.mem_append_right _ (List.mem_append_right _ (List.mem_append_right _ (List.mem_append_right _ ?_)))
  show _ ∈ tables_1_4
  first
  | exact List.mem_of_getElem? (i := 169) rfl
  | (unfold tables_1_4; repeat (first | exact List.mem_cons_self | refine List.mem_cons_of_mem _ ?_))
set_option maxRecDepth 20000 in
theorem wsL_law_at_full : Cond.code yL_full cL_full 2 (some .boolean) ∈ lw_tbl := by
  refine List.mem_append_right _ (List.mem_append_right _ (List.mem_append_right _ (List.mem_append_right _ ?_)))
  show _ ∈ tables_1_4
  first
  | exact List.mem_of_getElem? (i := 172) rfl
  | (unfold tables_1_4; repeat (first | exact List.mem_cons_self | refine List.mem_cons_of_mem _ ?_))
theorem wsL_law0q_r28_w : ∀ w ∈ [Cond.fieldLink RJ2 44 "java/lang/StringUTF16" "$assertionsDisabled" "Z", Cond.fieldLink RJ2 59 "java/lang/StringUTF16" "HI_BYTE_SHIFT" "I", Cond.fieldLink RJ2 63 "java/lang/StringUTF16" "LO_BYTE_SHIFT" "I", Cond.methodLink RL 180 yL_two, Cond.static yL_two, Cond.methodLink RL 183 yL_four, Cond.static yL_four, Cond.methodLink RL 186 yL_full, Cond.static yL_full], w ∈ lw_tbl := by decide +kernel
theorem wsL_law0q_r28_in : ∀ w ∈ wsL_law0_r28, w ∈ lw_tbl := by
  intro w h
  have hw := wsL_law0q_r28_w w
  unfold wsL_law0_r28 at h
  simp only [List.mem_cons, List.not_mem_nil, or_false] at h hw
  rcases h with h | h | h | h | h | h | h | h | h | h | h | h
  · exact hw (Or.inl h)
  · exact hw (Or.inr (Or.inl h))
  · exact hw (Or.inr (Or.inr (Or.inl h)))
  · exact hw (Or.inr (Or.inr (Or.inr (Or.inl h))))
  · exact hw (Or.inr (Or.inr (Or.inr (Or.inr (Or.inl h)))))
  · rw [h]; exact wsL_law_at_two
  · exact hw (Or.inr (Or.inr (Or.inr (Or.inr (Or.inr (Or.inl h))))))
  · exact hw (Or.inr (Or.inr (Or.inr (Or.inr (Or.inr (Or.inr (Or.inl h)))))))
  · rw [h]; exact wsL_law_at_four
  · exact hw (Or.inr (Or.inr (Or.inr (Or.inr (Or.inr (Or.inr (Or.inr (Or.inl h))))))))
  · exact hw (Or.inr (Or.inr (Or.inr (Or.inr (Or.inr (Or.inr (Or.inr (Or.inr h))))))))
  · rw [h]; exact wsL_law_at_full
