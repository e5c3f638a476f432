theorem wsL_law_in : ∀ w ∈ wsL_law, w ∈ lw_tbl := by
  intro w h
  unfold wsL_law at h
  rcases List.mem_append.mp h with h | h
  rotate_left
  · exact absurd h List.not_mem_nil
  rcases List.mem_append.mp h with h | h
  rotate_left
  · exact wsL_in_x4 w h
  rcases List.mem_append.mp h with h | h
  rotate_left
  · exact wsL_in_x0 w h
  rcases List.mem_append.mp h with h | h
  rotate_left
  · exact wsL_in_x3 w h
  rcases List.mem_append.mp h with h | h
  rotate_left
  · exact wsL_in_x2 w h
  rcases List.mem_append.mp h with h | h
  rotate_left
  · exact wsL_in_x6 w h
  rcases List.mem_append.mp h with h | h
  rotate_left
  · exact wsL_in_x5 w h
  rcases List.mem_append.mp h with h | h
  rotate_left
  · exact wsL_in_x1 w h
  rcases List.mem_append.mp h with h | h
  rotate_left
  · exact wsL_in_x7 w h
  rcases List.mem_append.mp h with h | h
  · exact wsL_in_r1 w h
  rcases List.mem_append.mp h with h | h
  · exact wsL_in_r2 w h
  rcases List.mem_append.mp h with h | h
  · exact wsL_in_r3 w h
  rcases List.mem_append.mp h with h | h
  · exact wsL_in_r4 w h
  rcases List.mem_append.mp h with h | h
  · exact wsL_in_r5 w h
  rcases List.mem_append.mp h with h | h
  · exact wsL_in_r6 w h
  rcases List.mem_append.mp h with h | h
  · exact wsL_in_r7 w h
  rcases List.mem_append.mp h with h | h
  · exact wsL_in_r8 w h
  rcases List.mem_append.mp h with h | h
  · exact wsL_in_r9 w h
  rcases List.mem_append.mp h with h | h
  · exact wsL_in_r10 w h
  rcases List.mem_append.mp h with h | h
  · exact wsL_in_r11 w h
  rcases List.mem_append.mp h with h | h
  · exact wsL_in_r12 w h
  rcases List.mem_append.mp h with h | h
  · exact wsL_in_r13 w h
  rcases List.mem_append.mp h with h | h
  · exact wsL_in_r14 w h
  rcases List.mem_append.mp h with h | h
  · exact wsL_in_r15 w h
  rcases List.mem_append.mp h with h | h
  · exact wsL_in_r16 w h
  rcases List.mem_append.mp h with h | h
  · exact wsL_in_r17 w h
  rcases List.mem_append.mp h with h | h
  · exact wsL_in_r18 w h
  rcases List.mem_append.mp h with h | h
  · exact wsL_in_r19 w h
  rcases List.mem_append.mp h with h | h
  · exact wsL_in_r20 w h
  rcases List.mem_append.mp h with h | h
  · exact wsL_in_r21 w h
  rcases List.mem_append.mp h with h | h
  · exact wsL_in_r22 w h
  exact wsL_in_r23 w h
