theorem inA {a b c : List Cond} (ha : ∀ w ∈ a, w ∈ c) (hb : ∀ w ∈ b, w ∈ c) : ∀ w ∈ a ++ b, w ∈ c := fun w h => (List.mem_append.mp h).elim (ha w) (hb w)
theorem lin_1 : ∀ w ∈ wsL_law0_r1, w ∈ lw_tbl := by decide +kernel
theorem lin_2 : ∀ w ∈ wsL_law0_r2, w ∈ lw_tbl := by decide +kernel
theorem lin_3 : ∀ w ∈ wsL_law0_r3, w ∈ lw_tbl := by decide +kernel
theorem lin_4 : ∀ w ∈ wsL_law0_r4, w ∈ lw_tbl := by decide +kernel
theorem lin_5 : ∀ w ∈ wsL_law0_r5, w ∈ lw_tbl := by decide +kernel
theorem lin_6 : ∀ w ∈ wsL_law0_r6, w ∈ lw_tbl := by decide +kernel
theorem lin_7 : ∀ w ∈ wsL_law0_r7, w ∈ lw_tbl := by decide +kernel
theorem lin_8 : ∀ w ∈ wsL_law0_r8, w ∈ lw_tbl := by decide +kernel
theorem lin_9 : ∀ w ∈ wsL_law0_r9, w ∈ lw_tbl := by decide +kernel
theorem lin_10 : ∀ w ∈ wsL_law0_r10, w ∈ lw_tbl := by decide +kernel
theorem lin_11 : ∀ w ∈ wsL_law0_r11, w ∈ lw_tbl := by decide +kernel
theorem lin_12 : ∀ w ∈ wsL_law0_r12, w ∈ lw_tbl := by decide +kernel
theorem lin_13 : ∀ w ∈ wsL_law0_r13, w ∈ lw_tbl := by decide +kernel
theorem lin_14 : ∀ w ∈ wsL_law0_r14, w ∈ lw_tbl := by decide +kernel
theorem lin_15 : ∀ w ∈ wsL_law0_r15, w ∈ lw_tbl := by decide +kernel
theorem lin_16 : ∀ w ∈ wsL_law0_r16, w ∈ lw_tbl := by decide +kernel
theorem lin_17 : ∀ w ∈ wsL_law0_r17, w ∈ lw_tbl := by decide +kernel
theorem lin_18 : ∀ w ∈ wsL_law0_r18, w ∈ lw_tbl := by decide +kernel
theorem lin_19 : ∀ w ∈ wsL_law0_r19, w ∈ lw_tbl := by decide +kernel
theorem lin_20 : ∀ w ∈ wsL_law0_r20, w ∈ lw_tbl := by decide +kernel
theorem lin_21 : ∀ w ∈ wsL_law0_r21, w ∈ lw_tbl := by decide +kernel
theorem lin_22 : ∀ w ∈ wsL_law0_r22, w ∈ lw_tbl := by decide +kernel
theorem lin_23 : ∀ w ∈ wsL_law0_r23, w ∈ lw_tbl := by decide +kernel
theorem lin_24 : ∀ w ∈ wsL_law0_r24, w ∈ lw_tbl := by decide +kernel
theorem lin_25 : ∀ w ∈ wsL_law0_r25, w ∈ lw_tbl := by decide +kernel
theorem lin_26 : ∀ w ∈ wsL_law0_r26, w ∈ lw_tbl := by decide +kernel
theorem lin_X50 : ∀ w ∈ wsX50, w ∈ lw_tbl := by decide +kernel
theorem lin_X60 : ∀ w ∈ wsX60, w ∈ lw_tbl := by decide +kernel
theorem lin_X40 : ∀ w ∈ wsX40, w ∈ lw_tbl := by decide +kernel
theorem lin_Jx4a65c0 : ∀ w ∈ wsJx4a65c0, w ∈ lw_tbl := by decide +kernel
theorem lin_X00 : ∀ w ∈ wsX00, w ∈ lw_tbl := by decide +kernel
theorem lin_X30 : ∀ w ∈ wsX30, w ∈ lw_tbl := by decide +kernel
theorem lin_X20 : ∀ w ∈ wsX20, w ∈ lw_tbl := by decide +kernel
theorem lin_X10 : ∀ w ∈ wsX10, w ∈ lw_tbl := by decide +kernel
theorem wsL_law_in0 : ∀ w ∈ wsL_law0, w ∈ lw_tbl := inA (inA (inA (inA (inA (inA (inA (inA (inA (inA lin_1 (inA lin_2 (inA lin_3 (inA lin_4 (inA lin_5 (inA lin_6 (inA lin_7 (inA lin_8 (inA lin_9 (inA lin_10 (inA lin_11 (inA lin_12 (inA lin_13 (inA lin_14 (inA lin_15 (inA lin_16 (inA lin_17 (inA lin_18 (inA lin_19 (inA lin_20 (inA lin_21 (inA lin_22 (inA lin_23 (inA lin_24 (inA lin_25 lin_26))))))))))))))))))))))))) lin_X50) lin_X60) lin_X40) lin_Jx4a65c0) lin_X00) lin_X30) lin_X20) lin_X10) (fun _ h => absurd h List.not_mem_nil)
theorem wsL_law_x0 : ∀ w ∈ (vx_atS RX5 40 "java/lang/IllegalArgumentException" ["java/lang/RuntimeException", "java/lang/Exception"]).filter goodWord, w ∈ lw_tbl := by decide +kernel
theorem wsL_law_x1 : ∀ w ∈ (vx_atS RX5 51 "java/lang/UnsupportedOperationException" ["java/lang/RuntimeException", "java/lang/Exception"]).filter goodWord, w ∈ lw_tbl := by decide +kernel
theorem wsL_law_x2 : ∀ w ∈ (vx_atS RX5 198 "java/lang/IndexOutOfBoundsException" ["java/lang/RuntimeException", "java/lang/Exception"]).filter goodWord, w ∈ lw_tbl := by decide +kernel
theorem wsL_law_x3 : ∀ w ∈ (vx_atS RX5 133 "java/lang/IllegalStateException" ["java/lang/RuntimeException", "java/lang/Exception"]).filter goodWord, w ∈ lw_tbl := by decide +kernel
theorem wsL_law_in : ∀ w ∈ wsL_law, w ∈ lw_tbl := fun w h => (List.mem_append.mp h).elim (fun h => (List.mem_append.mp h).elim (fun h => (List.mem_append.mp h).elim (fun h => (List.mem_append.mp h).elim (fun h => wsL_law_in0 w h) (fun h => wsL_law_x0 w h)) (fun h => wsL_law_x1 w h)) (fun h => wsL_law_x2 w h)) (fun h => wsL_law_x3 w h)
theorem inlX0 : ∀ w ∈ wsX00, w ∈ wsL_law := fun _ h => List.mem_append_left _ (List.mem_append_left _ (List.mem_append_left _ (List.mem_append_left _ (List.mem_append_left _ (List.mem_append_left _ (List.mem_append_left _ (List.mem_append_left _ (List.mem_append_right _ h))))))))
theorem inX0 : ∀ w ∈ wsX00, w ∈ lw_tbl := fun w h => wsL_law_in w (inlX0 w h)
theorem inlX1 : ∀ w ∈ wsX10, w ∈ wsL_law := fun _ h => List.mem_append_left _ (List.mem_append_left _ (List.mem_append_left _ (List.mem_append_left _ (List.mem_append_left _ (List.mem_append_right _ h)))))
theorem inX1 : ∀ w ∈ wsX10, w ∈ lw_tbl := fun w h => wsL_law_in w (inlX1 w h)
theorem inlX2 : ∀ w ∈ wsX20, w ∈ wsL_law := fun _ h => List.mem_append_left _ (List.mem_append_left _ (List.mem_append_left _ (List.mem_append_left _ (List.mem_append_left _ (List.mem_append_left _ (List.mem_append_right _ h))))))
theorem inX2 : ∀ w ∈ wsX20, w ∈ lw_tbl := fun w h => wsL_law_in w (inlX2 w h)
theorem inlX3 : ∀ w ∈ wsX30, w ∈ wsL_law := fun _ h => List.mem_append_left _ (List.mem_append_left _ (List.mem_append_left _ (List.mem_append_left _ (List.mem_append_left _ (List.mem_append_left _ (List.mem_append_left _ (List.mem_append_right _ h)))))))
theorem inX3 : ∀ w ∈ wsX30, w ∈ lw_tbl := fun w h => wsL_law_in w (inlX3 w h)
theorem inlX4 : ∀ w ∈ wsX40, w ∈ wsL_law := fun _ h => List.mem_append_left _ (List.mem_append_left _ (List.mem_append_left _ (List.mem_append_left _ (List.mem_append_left _ (List.mem_append_left _ (List.mem_append_left _ (List.mem_append_left _ (List.mem_append_left _ (List.mem_append_left _ (List.mem_append_right _ h))))))))))
theorem inX4 : ∀ w ∈ wsX40, w ∈ lw_tbl := fun w h => wsL_law_in w (inlX4 w h)
theorem inlX5 : ∀ w ∈ wsX50, w ∈ wsL_law := fun _ h => List.mem_append_left _ (List.mem_append_left _ (List.mem_append_left _ (List.mem_append_left _ (List.mem_append_left _ (List.mem_append_left _ (List.mem_append_left _ (List.mem_append_left _ (List.mem_append_left _ (List.mem_append_left _ (List.mem_append_left _ (List.mem_append_left _ (List.mem_append_right _ h))))))))))))
theorem inX5 : ∀ w ∈ wsX50, w ∈ lw_tbl := fun w h => wsL_law_in w (inlX5 w h)
theorem inlX6 : ∀ w ∈ wsX60, w ∈ wsL_law := fun _ h => List.mem_append_left _ (List.mem_append_left _ (List.mem_append_left _ (List.mem_append_left _ (List.mem_append_left _ (List.mem_append_left _ (List.mem_append_left _ (List.mem_append_left _ (List.mem_append_left _ (List.mem_append_left _ (List.mem_append_left _ (List.mem_append_right _ h)))))))))))
theorem inX6 : ∀ w ∈ wsX60, w ∈ lw_tbl := fun w h => wsL_law_in w (inlX6 w h)
theorem inlJx4a65c : ∀ w ∈ wsJx4a65c0, w ∈ wsL_law := fun _ h => List.mem_append_left _ (List.mem_append_left _ (List.mem_append_left _ (List.mem_append_left _ (List.mem_append_left _ (List.mem_append_left _ (List.mem_append_left _ (List.mem_append_left _ (List.mem_append_left _ (List.mem_append_right _ h)))))))))
theorem inJx4a65c : ∀ w ∈ wsJx4a65c0, w ∈ lw_tbl := fun w h => wsL_law_in w (inlJx4a65c w h)
