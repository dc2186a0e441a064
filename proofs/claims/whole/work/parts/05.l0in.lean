/-! The law's words are the tables'. -/
theorem zw_in {big ws : List Cond} (ps : List Nat) (h : ws = ps.filterMap (fun i => big[i]?)) : ∀ w ∈ ws, w ∈ big := fun w hw => by
  rw [h] at hw
  obtain ⟨i, -, hi⟩ := List.mem_filterMap.mp hw
  exact List.mem_of_getElem? hi
set_option maxRecDepth 20000 in
theorem zL_in_wsL_law0_r1 : ∀ w ∈ wsL_law0_r1, w ∈ lw_tbl := by decide +kernel
set_option maxRecDepth 20000 in
theorem zL_in_wsL_law0_r2 : ∀ w ∈ wsL_law0_r2, w ∈ lw_tbl := by decide +kernel
set_option maxRecDepth 20000 in
theorem zL_in_wsL_law0_r3 : ∀ w ∈ wsL_law0_r3, w ∈ lw_tbl := by decide +kernel
set_option maxRecDepth 20000 in
theorem zL_in_wsL_law0_r4 : ∀ w ∈ wsL_law0_r4, w ∈ lw_tbl := by decide +kernel
set_option maxRecDepth 20000 in
theorem zL_in_wsL_law0_r5 : ∀ w ∈ wsL_law0_r5, w ∈ lw_tbl := by decide +kernel
set_option maxRecDepth 20000 in
theorem zL_in_wsL_law0_r6 : ∀ w ∈ wsL_law0_r6, w ∈ lw_tbl := by decide +kernel
set_option maxRecDepth 20000 in
theorem zL_in_wsL_law0_r7 : ∀ w ∈ wsL_law0_r7, w ∈ lw_tbl := by decide +kernel
set_option maxRecDepth 20000 in
theorem zL_in_wsL_law0_r8 : ∀ w ∈ wsL_law0_r8, w ∈ lw_tbl := by decide +kernel
set_option maxRecDepth 20000 in
theorem zL_in_wsL_law0_r9 : ∀ w ∈ wsL_law0_r9, w ∈ lw_tbl := by decide +kernel
set_option maxRecDepth 20000 in
theorem zL_in_wsL_law0_r10 : ∀ w ∈ wsL_law0_r10, w ∈ lw_tbl := by decide +kernel
set_option maxRecDepth 20000 in
theorem zL_in_wsL_law0_r11 : ∀ w ∈ wsL_law0_r11, w ∈ lw_tbl := by decide +kernel
set_option maxRecDepth 20000 in
theorem zL_in_wsL_law0_r12 : ∀ w ∈ wsL_law0_r12, w ∈ lw_tbl := by decide +kernel
set_option maxRecDepth 20000 in
theorem zL_in_wsL_law0_r13 : ∀ w ∈ wsL_law0_r13, w ∈ lw_tbl := by decide +kernel
set_option maxRecDepth 20000 in
theorem zL_in_wsL_law0_r14 : ∀ w ∈ wsL_law0_r14, w ∈ lw_tbl := by decide +kernel
set_option maxRecDepth 20000 in
theorem zL_in_wsL_law0_r15 : ∀ w ∈ wsL_law0_r15, w ∈ lw_tbl := by decide +kernel
set_option maxRecDepth 20000 in
theorem zL_in_wsL_law0_r16 : ∀ w ∈ wsL_law0_r16, w ∈ lw_tbl := by decide +kernel
set_option maxRecDepth 20000 in
theorem zL_in_wsL_law0_r17 : ∀ w ∈ wsL_law0_r17, w ∈ lw_tbl := by decide +kernel
set_option maxRecDepth 20000 in
theorem zL_in_wsL_law0_r18 : ∀ w ∈ wsL_law0_r18, w ∈ lw_tbl := by decide +kernel
set_option maxRecDepth 20000 in
theorem zL_in_wsL_law0_r19 : ∀ w ∈ wsL_law0_r19, w ∈ lw_tbl := by decide +kernel
set_option maxRecDepth 20000 in
theorem zL_in_wsL_law0_r20 : ∀ w ∈ wsL_law0_r20, w ∈ lw_tbl := by decide +kernel
set_option maxRecDepth 20000 in
theorem zL_in_wsL_law0_r21 : ∀ w ∈ wsL_law0_r21, w ∈ lw_tbl := by decide +kernel
set_option maxRecDepth 20000 in
theorem zL_in_wsL_law0_r22 : ∀ w ∈ wsL_law0_r22, w ∈ lw_tbl := by decide +kernel
set_option maxRecDepth 20000 in
theorem zL_in_wsL_law0_r23 : ∀ w ∈ wsL_law0_r23, w ∈ lw_tbl := by decide +kernel
set_option maxRecDepth 20000 in
theorem zL_in_wsL_law0_r24 : ∀ w ∈ wsL_law0_r24, w ∈ lw_tbl := by decide +kernel
set_option maxRecDepth 20000 in
theorem zL_in_wsL_law0_r25 : ∀ w ∈ wsL_law0_r25, w ∈ lw_tbl := by decide +kernel
set_option maxRecDepth 20000 in
theorem zL_in_wsL_law0_r26 : ∀ w ∈ wsL_law0_r26, w ∈ lw_tbl := by decide +kernel
set_option maxRecDepth 20000 in
theorem zL_in_wsL_law0_r27 : ∀ w ∈ wsL_law0_r27, w ∈ lw_tbl := by decide +kernel
set_option maxRecDepth 20000 in
theorem zL_in_wsL_law0_r28 : ∀ w ∈ wsL_law0_r28, w ∈ lw_tbl := by decide +kernel
set_option maxRecDepth 20000 in
theorem zL_in_wsX60 : ∀ w ∈ wsX60, w ∈ lw_tbl := by decide +kernel
set_option maxRecDepth 20000 in
theorem zL_in_wsX70 : ∀ w ∈ wsX70, w ∈ lw_tbl := by decide +kernel
set_option maxRecDepth 20000 in
theorem zL_in_wsX00 : ∀ w ∈ wsX00, w ∈ lw_tbl := by decide +kernel
set_option maxRecDepth 20000 in
theorem zL_in_wsX20 : ∀ w ∈ wsX20, w ∈ lw_tbl := by decide +kernel
set_option maxRecDepth 20000 in
theorem zL_in_wsX10 : ∀ w ∈ wsX10, w ∈ lw_tbl := by decide +kernel
set_option maxRecDepth 20000 in
theorem zL_in_wsX30 : ∀ w ∈ wsX30, w ∈ lw_tbl := by decide +kernel
set_option maxRecDepth 20000 in
theorem zL_in_wsX50 : ∀ w ∈ wsX50, w ∈ lw_tbl := by decide +kernel
set_option maxRecDepth 20000 in
theorem zL_in_wsX40 : ∀ w ∈ wsX40, w ∈ lw_tbl := by decide +kernel
set_option maxRecDepth 20000 in
theorem zL_in_wsJx000600 : ∀ w ∈ wsJx000600, w ∈ lw_tbl := by decide +kernel
theorem wsL_law_in0 : ∀ w ∈ wsL_law0, w ∈ lw_tbl := fun w h => (List.mem_append.mp h).elim (fun h => (List.mem_append.mp h).elim (fun h => (List.mem_append.mp h).elim (fun h => (List.mem_append.mp h).elim (fun h => (List.mem_append.mp h).elim (fun h => (List.mem_append.mp h).elim (fun h => (List.mem_append.mp h).elim (fun h => (List.mem_append.mp h).elim (fun h => (List.mem_append.mp h).elim (fun h => (List.mem_append.mp h).elim (fun h => (List.mem_append.mp h).elim (fun h => zL_in_wsL_law0_r1 w h) (fun h => (List.mem_append.mp h).elim (fun h => zL_in_wsL_law0_r2 w h) (fun h => (List.mem_append.mp h).elim (fun h => zL_in_wsL_law0_r3 w h) (fun h => (List.mem_append.mp h).elim (fun h => zL_in_wsL_law0_r4 w h) (fun h => (List.mem_append.mp h).elim (fun h => zL_in_wsL_law0_r5 w h) (fun h => (List.mem_append.mp h).elim (fun h => zL_in_wsL_law0_r6 w h) (fun h => (List.mem_append.mp h).elim (fun h => zL_in_wsL_law0_r7 w h) (fun h => (List.mem_append.mp h).elim (fun h => zL_in_wsL_law0_r8 w h) (fun h => (List.mem_append.mp h).elim (fun h => zL_in_wsL_law0_r9 w h) (fun h => (List.mem_append.mp h).elim (fun h => zL_in_wsL_law0_r10 w h) (fun h => (List.mem_append.mp h).elim (fun h => zL_in_wsL_law0_r11 w h) (fun h => (List.mem_append.mp h).elim (fun h => zL_in_wsL_law0_r12 w h) (fun h => (List.mem_append.mp h).elim (fun h => zL_in_wsL_law0_r13 w h) (fun h => (List.mem_append.mp h).elim (fun h => zL_in_wsL_law0_r14 w h) (fun h => (List.mem_append.mp h).elim (fun h => zL_in_wsL_law0_r15 w h) (fun h => (List.mem_append.mp h).elim (fun h => zL_in_wsL_law0_r16 w h) (fun h => (List.mem_append.mp h).elim (fun h => zL_in_wsL_law0_r17 w h) (fun h => (List.mem_append.mp h).elim (fun h => zL_in_wsL_law0_r18 w h) (fun h => (List.mem_append.mp h).elim (fun h => zL_in_wsL_law0_r19 w h) (fun h => (List.mem_append.mp h).elim (fun h => zL_in_wsL_law0_r20 w h) (fun h => (List.mem_append.mp h).elim (fun h => zL_in_wsL_law0_r21 w h) (fun h => (List.mem_append.mp h).elim (fun h => zL_in_wsL_law0_r22 w h) (fun h => (List.mem_append.mp h).elim (fun h => zL_in_wsL_law0_r23 w h) (fun h => (List.mem_append.mp h).elim (fun h => zL_in_wsL_law0_r24 w h) (fun h => (List.mem_append.mp h).elim (fun h => zL_in_wsL_law0_r25 w h) (fun h => (List.mem_append.mp h).elim (fun h => zL_in_wsL_law0_r26 w h) (fun h => (List.mem_append.mp h).elim (fun h => zL_in_wsL_law0_r27 w h) (fun h => zL_in_wsL_law0_r28 w h)))))))))))))))))))))))))))) (fun h => zL_in_wsX60 w h)) (fun h => zL_in_wsX70 w h)) (fun h => zL_in_wsX00 w h)) (fun h => zL_in_wsX20 w h)) (fun h => zL_in_wsX10 w h)) (fun h => zL_in_wsX30 w h)) (fun h => zL_in_wsX50 w h)) (fun h => zL_in_wsX40 w h)) (fun h => zL_in_wsJx000600 w h)) (fun h => nomatch h)
theorem wsL_law_x0 : ∀ w ∈ (vx_atS RX6 88 "java/lang/IllegalArgumentException" ["java/lang/RuntimeException", "java/lang/Exception"]).filter goodWord, w ∈ lw_tbl := by decide +kernel
theorem wsL_law_x1 : ∀ w ∈ (vx_atS RX6 107 "java/lang/UnsupportedOperationException" ["java/lang/RuntimeException", "java/lang/Exception"]).filter goodWord, w ∈ lw_tbl := by decide +kernel
theorem wsL_law_x2 : ∀ w ∈ (zx_atX RX6 116 "java/util/NoSuchElementException" 13 zx_rx ["java/lang/RuntimeException", "java/lang/Exception"]).filter goodWord, w ∈ lw_tbl := by decide +kernel
theorem wsL_law_x3 : ∀ w ∈ (vx_atS RX6 144 "java/lang/IllegalStateException" ["java/lang/RuntimeException", "java/lang/Exception"]).filter goodWord, w ∈ lw_tbl := by decide +kernel
theorem wsL_law_in : ∀ w ∈ wsL_law, w ∈ lw_tbl := fun w h => (List.mem_append.mp h).elim (fun h => (List.mem_append.mp h).elim (fun h => (List.mem_append.mp h).elim (fun h => (List.mem_append.mp h).elim (fun h => wsL_law_in0 w h) (fun h => wsL_law_x0 w h)) (fun h => wsL_law_x1 w h)) (fun h => wsL_law_x2 w h)) (fun h => wsL_law_x3 w h)
