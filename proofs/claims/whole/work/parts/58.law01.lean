set_option maxRecDepth 20000 in
theorem wsX10_tb : ∀ w ∈ wsX10, w ∈ lw_tbl := by decide +kernel
set_option maxRecDepth 20000 in
theorem wsX30_tb : ∀ w ∈ wsX30, w ∈ lw_tbl := by decide +kernel
set_option maxRecDepth 20000 in
theorem wsX50_tb : ∀ w ∈ wsX50, w ∈ lw_tbl := by decide +kernel
set_option maxRecDepth 20000 in
theorem wsX40_tb : ∀ w ∈ wsX40, w ∈ lw_tbl := by decide +kernel
set_option maxRecDepth 20000 in
theorem wsX00_tb : ∀ w ∈ wsX00, w ∈ lw_tbl := by decide +kernel
set_option maxRecDepth 20000 in
theorem wsX20_tb : ∀ w ∈ wsX20, w ∈ lw_tbl := by decide +kernel
set_option maxRecDepth 20000 in
theorem wsX70_tb : ∀ w ∈ wsX70, w ∈ lw_tbl := by decide +kernel
set_option maxRecDepth 20000 in
theorem wsX60_tb : ∀ w ∈ wsX60, w ∈ lw_tbl := by decide +kernel
set_option maxRecDepth 20000 in
theorem wsL_law_in0 : ∀ w ∈ wsL_law0, w ∈ lw_tbl := by
  intro w h
  unfold wsL_law0 at h
  rcases List.mem_append.mp h with h | h
  case inr => exact absurd h List.not_mem_nil
  rcases List.mem_append.mp h with h | h
  case inr => exact wsX10_tb w h
  rcases List.mem_append.mp h with h | h
  case inr => exact wsX30_tb w h
  rcases List.mem_append.mp h with h | h
  case inr => exact wsX50_tb w h
  rcases List.mem_append.mp h with h | h
  case inr => exact wsX40_tb w h
  rcases List.mem_append.mp h with h | h
  case inr => exact wsX00_tb w h
  rcases List.mem_append.mp h with h | h
  case inr => exact wsX20_tb w h
  rcases List.mem_append.mp h with h | h
  case inr => exact wsX70_tb w h
  rcases List.mem_append.mp h with h | h
  case inr => exact wsX60_tb w h
  rcases List.mem_append.mp h with h | h
  · exact wsL_law0_r1_in w h
  rcases List.mem_append.mp h with h | h
  · exact wsL_law0_r2_in w h
  rcases List.mem_append.mp h with h | h
  · exact wsL_law0_r3_in w h
  rcases List.mem_append.mp h with h | h
  · exact wsL_law0_r4_in w h
  rcases List.mem_append.mp h with h | h
  · exact wsL_law0_r5_in w h
  rcases List.mem_append.mp h with h | h
  · exact wsL_law0_r6_in w h
  rcases List.mem_append.mp h with h | h
  · exact wsL_law0_r7_in w h
  rcases List.mem_append.mp h with h | h
  · exact wsL_law0_r8_in w h
  rcases List.mem_append.mp h with h | h
  · exact wsL_law0_r9_in w h
  rcases List.mem_append.mp h with h | h
  · exact wsL_law0_r10_in w h
  rcases List.mem_append.mp h with h | h
  · exact wsL_law0_r11_in w h
  rcases List.mem_append.mp h with h | h
  · exact wsL_law0_r12_in w h
  rcases List.mem_append.mp h with h | h
  · exact wsL_law0_r13_in w h
  rcases List.mem_append.mp h with h | h
  · exact wsL_law0_r14_in w h
  rcases List.mem_append.mp h with h | h
  · exact wsL_law0_r15_in w h
  rcases List.mem_append.mp h with h | h
  · exact wsL_law0_r16_in w h
  rcases List.mem_append.mp h with h | h
  · exact wsL_law0_r17_in w h
  rcases List.mem_append.mp h with h | h
  · exact wsL_law0_r18_in w h
  rcases List.mem_append.mp h with h | h
  · exact wsL_law0_r19_in w h
  rcases List.mem_append.mp h with h | h
  · exact wsL_law0_r20_in w h
  rcases List.mem_append.mp h with h | h
  · exact wsL_law0_r21_in w h
  rcases List.mem_append.mp h with h | h
  · exact wsL_law0_r22_in w h
  rcases List.mem_append.mp h with h | h
  · exact wsL_law0_r23_in w h
  rcases List.mem_append.mp h with h | h
  · exact wsL_law0_r24_in w h
  rcases List.mem_append.mp h with h | h
  · exact wsL_law0_r25_in w h
  rcases List.mem_append.mp h with h | h
  · exact wsL_law0_r26_in w h
  rcases List.mem_append.mp h with h | h
  · exact wsL_law0_r27_in w h
  rcases List.mem_append.mp h with h | h
  · exact wsL_law0_r28_in w h
  rcases List.mem_append.mp h with h | h
  · exact wsL_law0_r29_in w h
  rcases List.mem_append.mp h with h | h
  · exact wsL_law0_r30_in w h
  rcases List.mem_append.mp h with h | h
  · exact wsL_law0_r31_in w h
  rcases List.mem_append.mp h with h | h
  · exact wsL_law0_r32_in w h
  rcases List.mem_append.mp h with h | h
  · exact wsL_law0_r33_in w h
  rcases List.mem_append.mp h with h | h
  · exact wsL_law0_r34_in w h
  rcases List.mem_append.mp h with h | h
  · exact wsL_law0_r35_in w h
  rcases List.mem_append.mp h with h | h
  · exact wsL_law0_r36_in w h
  rcases List.mem_append.mp h with h | h
  · exact wsL_law0_r37_in w h
  exact wsL_law0_r38_in w h
theorem wsL_law_x0 : ∀ w ∈ (vx_atS RX6 67 "java/lang/IllegalArgumentException" ["java/lang/RuntimeException", "java/lang/Exception"]).filter goodWord, w ∈ lw_tbl := by decide +kernel
theorem wsL_law_x1 : ∀ w ∈ (vx_atS RX6 96 "java/lang/IllegalStateException" ["java/lang/RuntimeException", "java/lang/Exception"]).filter goodWord, w ∈ lw_tbl := by decide +kernel
theorem wsL_law_x2 : ∀ w ∈ (vx_atS RX6 197 "java/lang/IndexOutOfBoundsException" ["java/lang/RuntimeException", "java/lang/Exception"]).filter goodWord, w ∈ lw_tbl := by decide +kernel
theorem wsL_law_in : ∀ w ∈ wsL_law, w ∈ lw_tbl := fun w h => (List.mem_append.mp h).elim (fun h => (List.mem_append.mp h).elim (fun h => (List.mem_append.mp h).elim (fun h => wsL_law_in0 w h) (fun h => wsL_law_x0 w h)) (fun h => wsL_law_x1 w h)) (fun h => wsL_law_x2 w h)
theorem inlX0 : ∀ w ∈ wsX00, w ∈ wsL_law := fun _ h => List.mem_append_left _ (List.mem_append_left _ (List.mem_append_left _ (List.mem_append_left _ (List.mem_append_left _ (List.mem_append_left _ (List.mem_append_left _ (List.mem_append_left _ (List.mem_append_right _ h))))))))
theorem inX0 : ∀ w ∈ wsX00, w ∈ lw_tbl := fun w h => wsL_law_in w (inlX0 w h)
theorem inlX1 : ∀ w ∈ wsX10, w ∈ wsL_law := fun _ h => List.mem_append_left _ (List.mem_append_left _ (List.mem_append_left _ (List.mem_append_left _ (List.mem_append_right _ h))))
theorem inX1 : ∀ w ∈ wsX10, w ∈ lw_tbl := fun w h => wsL_law_in w (inlX1 w h)
theorem inlX2 : ∀ w ∈ wsX20, w ∈ wsL_law := fun _ h => List.mem_append_left _ (List.mem_append_left _ (List.mem_append_left _ (List.mem_append_left _ (List.mem_append_left _ (List.mem_append_left _ (List.mem_append_left _ (List.mem_append_left _ (List.mem_append_left _ (List.mem_append_right _ h)))))))))
theorem inX2 : ∀ w ∈ wsX20, w ∈ lw_tbl := fun w h => wsL_law_in w (inlX2 w h)
theorem inlX3 : ∀ w ∈ wsX30, w ∈ wsL_law := fun _ h => List.mem_append_left _ (List.mem_append_left _ (List.mem_append_left _ (List.mem_append_left _ (List.mem_append_left _ (List.mem_append_right _ h)))))
theorem inX3 : ∀ w ∈ wsX30, w ∈ lw_tbl := fun w h => wsL_law_in w (inlX3 w h)
theorem inlX4 : ∀ w ∈ wsX40, w ∈ wsL_law := fun _ h => List.mem_append_left _ (List.mem_append_left _ (List.mem_append_left _ (List.mem_append_left _ (List.mem_append_left _ (List.mem_append_left _ (List.mem_append_left _ (List.mem_append_right _ h)))))))
theorem inX4 : ∀ w ∈ wsX40, w ∈ lw_tbl := fun w h => wsL_law_in w (inlX4 w h)
theorem inlX5 : ∀ w ∈ wsX50, w ∈ wsL_law := fun _ h => List.mem_append_left _ (List.mem_append_left _ (List.mem_append_left _ (List.mem_append_left _ (List.mem_append_left _ (List.mem_append_left _ (List.mem_append_right _ h))))))
theorem inX5 : ∀ w ∈ wsX50, w ∈ lw_tbl := fun w h => wsL_law_in w (inlX5 w h)
theorem inlX6 : ∀ w ∈ wsX60, w ∈ wsL_law := fun _ h => List.mem_append_left _ (List.mem_append_left _ (List.mem_append_left _ (List.mem_append_left _ (List.mem_append_left _ (List.mem_append_left _ (List.mem_append_left _ (List.mem_append_left _ (List.mem_append_left _ (List.mem_append_left _ (List.mem_append_left _ (List.mem_append_right _ h)))))))))))
theorem inX6 : ∀ w ∈ wsX60, w ∈ lw_tbl := fun w h => wsL_law_in w (inlX6 w h)
theorem inlX7 : ∀ w ∈ wsX70, w ∈ wsL_law := fun _ h => List.mem_append_left _ (List.mem_append_left _ (List.mem_append_left _ (List.mem_append_left _ (List.mem_append_left _ (List.mem_append_left _ (List.mem_append_left _ (List.mem_append_left _ (List.mem_append_left _ (List.mem_append_left _ (List.mem_append_right _ h))))))))))
theorem inX7 : ∀ w ∈ wsX70, w ∈ lw_tbl := fun w h => wsL_law_in w (inlX7 w h)
theorem inJx145de : ∀ w ∈ wsJx145de0, w ∈ lw_tbl := by decide +kernel
theorem inJ9 : ∀ w ∈ wsJ90, w ∈ lw_tbl := by decide +kernel
theorem inJ0 : ∀ w ∈ wsJ00, w ∈ lw_tbl := by decide +kernel
theorem inJ7 : ∀ w ∈ wsJ70, w ∈ lw_tbl := by decide +kernel
