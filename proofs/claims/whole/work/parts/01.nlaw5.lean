theorem in_wsX90 : ∀ w ∈ wsX90, w ∈ lw_tbl := by decide +kernel
theorem in_wsX100 : ∀ w ∈ wsX100, w ∈ lw_tbl := by decide +kernel
theorem in_wsX60 : ∀ w ∈ wsX60, w ∈ lw_tbl := by decide +kernel
theorem in_wsX30 : ∀ w ∈ wsX30, w ∈ lw_tbl := by decide +kernel
theorem in_wsX70 : ∀ w ∈ wsX70, w ∈ lw_tbl := by decide +kernel
theorem in_wsX50 : ∀ w ∈ wsX50, w ∈ lw_tbl := by decide +kernel
theorem in_wsX80 : ∀ w ∈ wsX80, w ∈ lw_tbl := by decide +kernel
theorem in_wsX20 : ∀ w ∈ wsX20, w ∈ lw_tbl := by decide +kernel
theorem in_wsX40 : ∀ w ∈ wsX40, w ∈ lw_tbl := by decide +kernel
theorem in_wsX10 : ∀ w ∈ wsX10, w ∈ lw_tbl := by decide +kernel
theorem wsL_law_in : ∀ w ∈ wsL_law, w ∈ lw_tbl := by
  intro w h
  unfold wsL_law at h
  rcases List.mem_append.mp h with h | h
  rotate_left
  · exact absurd h List.not_mem_nil
  rcases List.mem_append.mp h with h | h
  rotate_left
  · exact in_wsX10 w h
  rcases List.mem_append.mp h with h | h
  rotate_left
  · exact in_wsX40 w h
  rcases List.mem_append.mp h with h | h
  rotate_left
  · exact in_wsX20 w h
  rcases List.mem_append.mp h with h | h
  rotate_left
  · exact in_wsX80 w h
  rcases List.mem_append.mp h with h | h
  rotate_left
  · exact in_wsX50 w h
  rcases List.mem_append.mp h with h | h
  rotate_left
  · exact in_wsX70 w h
  rcases List.mem_append.mp h with h | h
  rotate_left
  · exact in_wsX30 w h
  rcases List.mem_append.mp h with h | h
  rotate_left
  · exact in_wsX60 w h
  rcases List.mem_append.mp h with h | h
  rotate_left
  · exact in_wsX100 w h
  rcases List.mem_append.mp h with h | h
  rotate_left
  · exact in_wsX90 w h
  rcases List.mem_append.mp h with h | h
  · exact in_r1 w h
  rcases List.mem_append.mp h with h | h
  · exact in_r2 w h
  rcases List.mem_append.mp h with h | h
  · exact in_r3 w h
  rcases List.mem_append.mp h with h | h
  · exact in_r4 w h
  rcases List.mem_append.mp h with h | h
  · exact in_r5 w h
  rcases List.mem_append.mp h with h | h
  · exact in_r6 w h
  rcases List.mem_append.mp h with h | h
  · exact in_r7 w h
  rcases List.mem_append.mp h with h | h
  · exact in_r8 w h
  rcases List.mem_append.mp h with h | h
  · exact in_r9 w h
  rcases List.mem_append.mp h with h | h
  · exact in_r10 w h
  rcases List.mem_append.mp h with h | h
  · exact in_r11 w h
  rcases List.mem_append.mp h with h | h
  · exact in_r12 w h
  rcases List.mem_append.mp h with h | h
  · exact in_r13 w h
  rcases List.mem_append.mp h with h | h
  · exact in_r14 w h
  rcases List.mem_append.mp h with h | h
  · exact in_r15 w h
  rcases List.mem_append.mp h with h | h
  · exact in_r16 w h
  rcases List.mem_append.mp h with h | h
  · exact in_r17 w h
  rcases List.mem_append.mp h with h | h
  · exact in_r18 w h
  rcases List.mem_append.mp h with h | h
  · exact in_r19 w h
  rcases List.mem_append.mp h with h | h
  · exact in_r20 w h
  rcases List.mem_append.mp h with h | h
  · exact in_r21 w h
  rcases List.mem_append.mp h with h | h
  · exact in_r22 w h
  rcases List.mem_append.mp h with h | h
  · exact in_r23 w h
  rcases List.mem_append.mp h with h | h
  · exact in_r24 w h
  rcases List.mem_append.mp h with h | h
  · exact in_r25 w h
  rcases List.mem_append.mp h with h | h
  · exact in_r26 w h
  rcases List.mem_append.mp h with h | h
  · exact in_r27 w h
  rcases List.mem_append.mp h with h | h
  · exact in_r28 w h
  rcases List.mem_append.mp h with h | h
  · exact in_r29 w h
  rcases List.mem_append.mp h with h | h
  · exact in_r30 w h
  rcases List.mem_append.mp h with h | h
  · exact in_r31 w h
  rcases List.mem_append.mp h with h | h
  · exact in_r32 w h
  rcases List.mem_append.mp h with h | h
  · exact in_r33 w h
  rcases List.mem_append.mp h with h | h
  · exact in_r34 w h
  rcases List.mem_append.mp h with h | h
  · exact in_r35 w h
  rcases List.mem_append.mp h with h | h
  · exact in_r36 w h
  rcases List.mem_append.mp h with h | h
  · exact in_r37 w h
  rcases List.mem_append.mp h with h | h
  · exact in_r38 w h
  rcases List.mem_append.mp h with h | h
  · exact in_r39 w h
  rcases List.mem_append.mp h with h | h
  · exact in_r40 w h
  rcases List.mem_append.mp h with h | h
  · exact in_r41 w h
  rcases List.mem_append.mp h with h | h
  · exact in_r42 w h
  rcases List.mem_append.mp h with h | h
  · exact in_r43 w h
  rcases List.mem_append.mp h with h | h
  · exact in_r44 w h
  rcases List.mem_append.mp h with h | h
  · exact in_r45 w h
  rcases List.mem_append.mp h with h | h
  · exact in_r46 w h
  rcases List.mem_append.mp h with h | h
  · exact in_r47 w h
  exact in_r48 w h
