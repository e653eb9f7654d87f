theorem wsX0_inT : ∀ w ∈ wsX00, w ∈ lw_tbl := by decide +kernel
theorem wsX1_inT : ∀ w ∈ wsX10, w ∈ lw_tbl := by decide +kernel
set_option maxRecDepth 20000 in
theorem wsL_law_in0 : ∀ w ∈ wsL_law0, w ∈ lw_tbl := by
  have q15 := wsL_in_r15
  have q14 := lw_app2 wsL_in_r14 q15
  have q13 := lw_app2 wsL_in_r13 q14
  have q12 := lw_app2 wsL_in_r12 q13
  have q11 := lw_app2 wsL_in_r11 q12
  have q10 := lw_app2 wsL_in_r10 q11
  have q9 := lw_app2 wsL_in_r9 q10
  have q8 := lw_app2 wsL_in_r8 q9
  have q7 := lw_app2 wsL_in_r7 q8
  have q6 := lw_app2 wsL_in_r6 q7
  have q5 := lw_app2 wsL_in_r5 q6
  have q4 := lw_app2 wsL_in_r4 q5
  have q3 := lw_app2 wsL_in_r3 q4
  have q2 := lw_app2 wsL_in_r2 q3
  have q1 := lw_app2 wsL_in_r1 q2
  unfold wsL_law0
  exact lw_app2 (lw_app2 (lw_app2 q1 wsX0_inT) wsX1_inT) (fun w h => absurd h List.not_mem_nil)
theorem wsL_law_x0 : ∀ w ∈ (vx_atS RX0 52 "java/lang/IllegalStateException" ["java/lang/RuntimeException", "java/lang/Exception"]).filter goodWord, w ∈ lw_tbl := by decide +kernel
theorem wsL_law_x1 : ∀ w ∈ (vx_atS RX0 194 "java/lang/IndexOutOfBoundsException" ["java/lang/RuntimeException", "java/lang/Exception"]).filter goodWord, w ∈ lw_tbl := by decide +kernel
theorem wsL_law_x2 : ∀ w ∈ (vx_atS RX0 207 "java/lang/IllegalArgumentException" ["java/lang/RuntimeException", "java/lang/Exception"]).filter goodWord, w ∈ lw_tbl := by decide +kernel
theorem wsL_law_in : ∀ w ∈ wsL_law, w ∈ lw_tbl := fun w h => (List.mem_append.mp h).elim (fun h => (List.mem_append.mp h).elim (fun h => (List.mem_append.mp h).elim (fun h => wsL_law_in0 w h) (fun h => wsL_law_x0 w h)) (fun h => wsL_law_x1 w h)) (fun h => wsL_law_x2 w h)
theorem inlX0 : ∀ w ∈ wsX00, w ∈ wsL_law := fun _ h => List.mem_append_left _ (List.mem_append_left _ (List.mem_append_left _ (List.mem_append_left _ (List.mem_append_left _ (List.mem_append_right _ h)))))
theorem inX0 : ∀ w ∈ wsX00, w ∈ lw_tbl := fun w h => wsL_law_in w (inlX0 w h)
theorem inlX1 : ∀ w ∈ wsX10, w ∈ wsL_law := fun _ h => List.mem_append_left _ (List.mem_append_left _ (List.mem_append_left _ (List.mem_append_left _ (List.mem_append_right _ h))))
theorem inX1 : ∀ w ∈ wsX10, w ∈ lw_tbl := fun w h => wsL_law_in w (inlX1 w h)
theorem inX2 : ∀ w ∈ wsX20, w ∈ lw_tbl := by decide +kernel
theorem inJ9 : ∀ w ∈ wsJ90, w ∈ lw_tbl := by decide +kernel
theorem inJ0 : ∀ w ∈ wsJ00, w ∈ lw_tbl := by decide +kernel
