set_option maxRecDepth 100000 in
theorem wsL_in_r14 : ∀ w ∈ wsL_law_r14, w ∈ lw_tbl := fun w h => (goodIn_p wsL_law_r14 [361, 427, 432, 437, 453] rfl (by decide +kernel) w h).1
set_option maxRecDepth 100000 in
theorem wsL_in_r15 : ∀ w ∈ wsL_law_r15, w ∈ lw_tbl := fun w h => (goodIn_p wsL_law_r15 [444, 449, 457, 461, 466] rfl (by decide +kernel) w h).1
set_option maxRecDepth 100000 in
theorem wsL_in_r16 : ∀ w ∈ wsL_law_r16, w ∈ lw_tbl := fun w h => (goodIn_p wsL_law_r16 [470, 477, 510, 514, 518] rfl (by decide +kernel) w h).1
set_option maxRecDepth 100000 in
theorem wsL_in_r17 : ∀ w ∈ wsL_law_r17, w ∈ lw_tbl := fun w h => (goodIn_p wsL_law_r17 [522, 526, 580, 584, 588] rfl (by decide +kernel) w h).1
set_option maxRecDepth 100000 in
theorem wsL_in_r18 : ∀ w ∈ wsL_law_r18, w ∈ lw_tbl := fun w h => (goodIn_p wsL_law_r18 [593, 600, 604, 608, 570] rfl (by decide +kernel) w h).1
set_option maxRecDepth 100000 in
theorem wsL_in_r19 : ∀ w ∈ wsL_law_r19, w ∈ lw_tbl := fun w h => (goodIn_p wsL_law_r19 [574, 626, 630, 634, 366, 374] rfl (by decide +kernel) w h).1
set_option maxRecDepth 100000 in
theorem wsL_in_r20 : ∀ w ∈ wsL_law_r20, w ∈ lw_tbl := fun w h => (goodIn_p wsL_law_r20 [506, 481, 530, 534, 538, 542] rfl (by decide +kernel) w h).1
set_option maxRecDepth 100000 in
theorem wsL_in_r21 : ∀ w ∈ wsL_law_r21, w ∈ lw_tbl := fun w h => (goodIn_p wsL_law_r21 [546, 486, 490, 498, 502, 549] rfl (by decide +kernel) w h).1
set_option maxRecDepth 100000 in
theorem wsL_in_r22 : ∀ w ∈ wsL_law_r22, w ∈ lw_tbl := fun w h => (goodIn_p wsL_law_r22 [553, 557, 561, 566, 611, 615] rfl (by decide +kernel) w h).1
set_option maxRecDepth 100000 in
theorem wsL_in_r23 : ∀ w ∈ wsL_law_r23, w ∈ lw_tbl := fun w h => (goodIn_p wsL_law_r23 [619] rfl (by decide +kernel) w h).1
theorem wsL_in_x0 : ∀ w ∈ wsX00, w ∈ lw_tbl := by decide +kernel
theorem wsL_in_x1 : ∀ w ∈ wsX10, w ∈ lw_tbl := by decide +kernel
theorem wsL_in_x2 : ∀ w ∈ wsX20, w ∈ lw_tbl := by decide +kernel
