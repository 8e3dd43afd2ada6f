theorem wsL_law_c1 : ∀ w ∈ wsL_law0_r1, w ∈ lw_tbl := by decide +kernel
theorem wsL_law_c2 : ∀ w ∈ wsL_law0_r2, w ∈ lw_tbl := by decide +kernel
theorem wsL_law_c3 : ∀ w ∈ wsL_law0_r3, w ∈ lw_tbl := by decide +kernel
theorem wsL_law_c4 : ∀ w ∈ wsL_law0_r4, w ∈ lw_tbl := by decide +kernel
theorem wsL_law_c5 : ∀ w ∈ wsL_law0_r5, w ∈ lw_tbl := by decide +kernel
theorem wsL_law_c6 : ∀ w ∈ wsL_law0_r6, w ∈ lw_tbl := by decide +kernel
theorem wsL_law_c7 : ∀ w ∈ wsL_law0_r7, w ∈ lw_tbl := by decide +kernel
theorem wsL_law_c8 : ∀ w ∈ wsL_law0_r8, w ∈ lw_tbl := by decide +kernel
theorem wsL_law_c9 : ∀ w ∈ wsL_law0_r9, w ∈ lw_tbl := by decide +kernel
theorem wsL_law_c10 : ∀ w ∈ wsL_law0_r10, w ∈ lw_tbl := by decide +kernel
theorem wsL_law_c11 : ∀ w ∈ wsL_law0_r11, w ∈ lw_tbl := by decide +kernel
theorem wsL_law_c12 : ∀ w ∈ wsL_law0_r12, w ∈ lw_tbl := by decide +kernel
theorem wsL_law_c13 : ∀ w ∈ wsL_law0_r13, w ∈ lw_tbl := by decide +kernel
theorem wsL_law_c14 : ∀ w ∈ wsL_law0_r14, w ∈ lw_tbl := by decide +kernel
theorem wsL_law_c15 : ∀ w ∈ wsL_law0_r15, w ∈ lw_tbl := by decide +kernel
theorem wsL_law_c16 : ∀ w ∈ wsL_law0_r16, w ∈ lw_tbl := by decide +kernel
theorem wsL_law_c17 : ∀ w ∈ wsL_law0_r17, w ∈ lw_tbl := by decide +kernel
theorem wsL_law_c18 : ∀ w ∈ wsL_law0_r18, w ∈ lw_tbl := by decide +kernel
theorem wsL_law_c19 : ∀ w ∈ wsL_law0_r19, w ∈ lw_tbl := by decide +kernel
theorem wsL_law_c20 : ∀ w ∈ wsL_law0_r20, w ∈ lw_tbl := by decide +kernel
theorem wsL_law_c21 : ∀ w ∈ wsL_law0_r21, w ∈ lw_tbl := by decide +kernel
theorem wsL_law_c22 : ∀ w ∈ wsL_law0_r22, w ∈ lw_tbl := by decide +kernel
theorem wsL_law_c23 : ∀ w ∈ wsL_law0_r23, w ∈ lw_tbl := by decide +kernel
theorem wsL_law_c24 : ∀ w ∈ wsL_law0_r24, w ∈ lw_tbl := by decide +kernel
theorem wsL_law_c25 : ∀ w ∈ wsL_law0_r25, w ∈ lw_tbl := by decide +kernel
theorem wsL_law_c26 : ∀ w ∈ wsL_law0_r26, w ∈ lw_tbl := by decide +kernel
theorem wsL_law_c27 : ∀ w ∈ wsL_law0_r27, w ∈ lw_tbl := by decide +kernel
theorem wsL_law_c28 : ∀ w ∈ wsL_law0_r28, w ∈ lw_tbl := by decide +kernel
theorem wsL_law_c29 : ∀ w ∈ wsL_law0_r29, w ∈ lw_tbl := by decide +kernel
theorem wsL_law_c30 : ∀ w ∈ wsL_law0_r30, w ∈ lw_tbl := by decide +kernel
theorem wsL_law_c31 : ∀ w ∈ wsL_law0_r31, w ∈ lw_tbl := by decide +kernel
theorem wsL_law_c32 : ∀ w ∈ wsL_law0_r32, w ∈ lw_tbl := by decide +kernel
theorem wsL_law_in0 : ∀ w ∈ wsL_law0, w ∈ lw_tbl := fun w h => (List.mem_append.mp h).elim (wsL_law_c1 w) ((fun w h => (List.mem_append.mp h).elim (wsL_law_c2 w) ((fun w h => (List.mem_append.mp h).elim (wsL_law_c3 w) ((fun w h => (List.mem_append.mp h).elim (wsL_law_c4 w) ((fun w h => (List.mem_append.mp h).elim (wsL_law_c5 w) ((fun w h => (List.mem_append.mp h).elim (wsL_law_c6 w) ((fun w h => (List.mem_append.mp h).elim (wsL_law_c7 w) ((fun w h => (List.mem_append.mp h).elim (wsL_law_c8 w) ((fun w h => (List.mem_append.mp h).elim (wsL_law_c9 w) ((fun w h => (List.mem_append.mp h).elim (wsL_law_c10 w) ((fun w h => (List.mem_append.mp h).elim (wsL_law_c11 w) ((fun w h => (List.mem_append.mp h).elim (wsL_law_c12 w) ((fun w h => (List.mem_append.mp h).elim (wsL_law_c13 w) ((fun w h => (List.mem_append.mp h).elim (wsL_law_c14 w) ((fun w h => (List.mem_append.mp h).elim (wsL_law_c15 w) ((fun w h => (List.mem_append.mp h).elim (wsL_law_c16 w) ((fun w h => (List.mem_append.mp h).elim (wsL_law_c17 w) ((fun w h => (List.mem_append.mp h).elim (wsL_law_c18 w) ((fun w h => (List.mem_append.mp h).elim (wsL_law_c19 w) ((fun w h => (List.mem_append.mp h).elim (wsL_law_c20 w) ((fun w h => (List.mem_append.mp h).elim (wsL_law_c21 w) ((fun w h => (List.mem_append.mp h).elim (wsL_law_c22 w) ((fun w h => (List.mem_append.mp h).elim (wsL_law_c23 w) ((fun w h => (List.mem_append.mp h).elim (wsL_law_c24 w) ((fun w h => (List.mem_append.mp h).elim (wsL_law_c25 w) ((fun w h => (List.mem_append.mp h).elim (wsL_law_c26 w) ((fun w h => (List.mem_append.mp h).elim (wsL_law_c27 w) ((fun w h => (List.mem_append.mp h).elim (wsL_law_c28 w) ((fun w h => (List.mem_append.mp h).elim (wsL_law_c29 w) ((fun w h => (List.mem_append.mp h).elim (wsL_law_c30 w) ((fun w h => (List.mem_append.mp h).elim (wsL_law_c31 w) ((fun w h => wsL_law_c32 w h) w)) w)) w)) w)) w)) w)) w)) w)) w)) w)) w)) w)) w)) w)) w)) w)) w)) w)) w)) w)) w)) w)) w)) w)) w)) w)) w)) w)) w)) w)) w)
theorem wsL_law_x0 : ∀ w ∈ (vx_atS RX9 84 "java/lang/IllegalArgumentException" ["java/lang/RuntimeException", "java/lang/Exception"]).filter goodWord, w ∈ lw_tbl := by decide +kernel
theorem wsL_law_x1 : ∀ w ∈ (vx_atS RX9 95 "java/lang/IllegalStateException" ["java/lang/RuntimeException", "java/lang/Exception"]).filter goodWord, w ∈ lw_tbl := by decide +kernel
theorem wsL_law_x2 : ∀ w ∈ (vx_atS RX9 155 "java/util/NoSuchElementException" ["java/lang/RuntimeException", "java/lang/Exception"]).filter goodWord, w ∈ lw_tbl := by decide +kernel
theorem wsL_law_in : ∀ w ∈ wsL_law, w ∈ lw_tbl := fun w h => (List.mem_append.mp h).elim (fun h => (List.mem_append.mp h).elim (fun h => (List.mem_append.mp h).elim (fun h => wsL_law_in0 w h) (fun h => wsL_law_x0 w h)) (fun h => wsL_law_x1 w h)) (fun h => wsL_law_x2 w h)
theorem inlX0 : ∀ w ∈ wsX00, w ∈ wsL_law := fun _ h => List.mem_append_left _ (List.mem_append_left _ (List.mem_append_left _ (List.mem_append_left _ (List.mem_append_left _ (List.mem_append_left _ (List.mem_append_left _ (List.mem_append_left _ (List.mem_append_left _ (List.mem_append_left _ (List.mem_append_right _ h))))))))))
theorem inX0 : ∀ w ∈ wsX00, w ∈ lw_tbl := fun w h => wsL_law_in w (inlX0 w h)
theorem inlX1 : ∀ w ∈ wsX10, w ∈ wsL_law := fun _ h => List.mem_append_left _ (List.mem_append_left _ (List.mem_append_left _ (List.mem_append_left _ (List.mem_append_left _ (List.mem_append_left _ (List.mem_append_left _ (List.mem_append_left _ (List.mem_append_left _ (List.mem_append_right _ h)))))))))
theorem inX1 : ∀ w ∈ wsX10, w ∈ lw_tbl := fun w h => wsL_law_in w (inlX1 w h)
theorem inlX2 : ∀ w ∈ wsX20, w ∈ wsL_law := fun _ h => List.mem_append_left _ (List.mem_append_left _ (List.mem_append_left _ (List.mem_append_left _ (List.mem_append_left _ (List.mem_append_left _ (List.mem_append_left _ (List.mem_append_left _ (List.mem_append_right _ h))))))))
theorem inX2 : ∀ w ∈ wsX20, w ∈ lw_tbl := fun w h => wsL_law_in w (inlX2 w h)
theorem inlX3 : ∀ w ∈ wsX30, w ∈ wsL_law := fun _ h => List.mem_append_left _ (List.mem_append_left _ (List.mem_append_left _ (List.mem_append_left _ (List.mem_append_left _ (List.mem_append_left _ (List.mem_append_left _ (List.mem_append_right _ h)))))))
theorem inX3 : ∀ w ∈ wsX30, w ∈ lw_tbl := fun w h => wsL_law_in w (inlX3 w h)
theorem inlX4 : ∀ w ∈ wsX40, w ∈ wsL_law := fun _ h => List.mem_append_left _ (List.mem_append_left _ (List.mem_append_left _ (List.mem_append_left _ (List.mem_append_left _ (List.mem_append_left _ (List.mem_append_right _ h))))))
theorem inX4 : ∀ w ∈ wsX40, w ∈ lw_tbl := fun w h => wsL_law_in w (inlX4 w h)
theorem inlX5 : ∀ w ∈ wsX50, w ∈ wsL_law := fun _ h => List.mem_append_left _ (List.mem_append_left _ (List.mem_append_left _ (List.mem_append_left _ (List.mem_append_left _ (List.mem_append_right _ h)))))
theorem inX5 : ∀ w ∈ wsX50, w ∈ lw_tbl := fun w h => wsL_law_in w (inlX5 w h)
theorem inlX6 : ∀ w ∈ wsX60, w ∈ wsL_law := fun _ h => List.mem_append_left _ (List.mem_append_left _ (List.mem_append_left _ (List.mem_append_left _ (List.mem_append_left _ (List.mem_append_left _ (List.mem_append_left _ (List.mem_append_left _ (List.mem_append_left _ (List.mem_append_left _ (List.mem_append_left _ (List.mem_append_right _ h)))))))))))
theorem inX6 : ∀ w ∈ wsX60, w ∈ lw_tbl := fun w h => wsL_law_in w (inlX6 w h)
theorem inlX7 : ∀ w ∈ wsX70, w ∈ wsL_law := fun _ h => List.mem_append_left _ (List.mem_append_left _ (List.mem_append_left _ (List.mem_append_left _ (List.mem_append_right _ h))))
theorem inX7 : ∀ w ∈ wsX70, w ∈ lw_tbl := fun w h => wsL_law_in w (inlX7 w h)
theorem inlX8 : ∀ w ∈ wsX80, w ∈ wsL_law := fun _ h => List.mem_append_left _ (List.mem_append_left _ (List.mem_append_left _ (List.mem_append_left _ (List.mem_append_left _ (List.mem_append_left _ (List.mem_append_left _ (List.mem_append_left _ (List.mem_append_left _ (List.mem_append_left _ (List.mem_append_left _ (List.mem_append_left _ (List.mem_append_right _ h))))))))))))
theorem inX8 : ∀ w ∈ wsX80, w ∈ lw_tbl := fun w h => wsL_law_in w (inlX8 w h)
theorem inlX9 : ∀ w ∈ wsX90, w ∈ wsL_law := fun _ h => List.mem_append_left _ (List.mem_append_left _ (List.mem_append_left _ (List.mem_append_left _ (List.mem_append_left _ (List.mem_append_left _ (List.mem_append_left _ (List.mem_append_left _ (List.mem_append_left _ (List.mem_append_left _ (List.mem_append_left _ (List.mem_append_left _ (List.mem_append_left _ (List.mem_append_left _ (List.mem_append_right _ h))))))))))))))
theorem inX9 : ∀ w ∈ wsX90, w ∈ lw_tbl := fun w h => wsL_law_in w (inlX9 w h)
theorem inlX10 : ∀ w ∈ wsX100, w ∈ wsL_law := fun _ h => List.mem_append_left _ (List.mem_append_left _ (List.mem_append_left _ (List.mem_append_left _ (List.mem_append_left _ (List.mem_append_left _ (List.mem_append_left _ (List.mem_append_left _ (List.mem_append_left _ (List.mem_append_left _ (List.mem_append_left _ (List.mem_append_left _ (List.mem_append_left _ (List.mem_append_right _ h)))))))))))))
theorem inX10 : ∀ w ∈ wsX100, w ∈ lw_tbl := fun w h => wsL_law_in w (inlX10 w h)
theorem inJx145de : ∀ w ∈ wsJx145de0, w ∈ lw_tbl := by decide +kernel
theorem inJ9 : ∀ w ∈ wsJ90, w ∈ lw_tbl := by decide +kernel
theorem inJ0 : ∀ w ∈ wsJ00, w ∈ lw_tbl := by decide +kernel
