section
set_option maxRecDepth 20000 in
theorem law_inX5 : ∀ w ∈ wsX50, w ∈ lw_tbl := by decide +kernel
set_option maxRecDepth 20000 in
theorem law_inX6 : ∀ w ∈ wsX60, w ∈ lw_tbl := by decide +kernel
set_option maxRecDepth 20000 in
theorem law_inX4 : ∀ w ∈ wsX40, w ∈ lw_tbl := by decide +kernel
set_option maxRecDepth 20000 in
theorem law_inX3 : ∀ w ∈ wsX30, w ∈ lw_tbl := by decide +kernel
set_option maxRecDepth 20000 in
theorem law_inX1 : ∀ w ∈ wsX10, w ∈ lw_tbl := by decide +kernel
set_option maxRecDepth 20000 in
theorem law_inX0 : ∀ w ∈ wsX00, w ∈ lw_tbl := by decide +kernel
set_option maxRecDepth 20000 in
theorem law_inX2 : ∀ w ∈ wsX20, w ∈ lw_tbl := by decide +kernel
set_option maxRecDepth 20000 in
theorem law_inJ6 : ∀ w ∈ wsJ60, w ∈ lw_tbl := by decide +kernel
set_option maxRecDepth 20000 in
theorem law_inJ9 : ∀ w ∈ wsJ90, w ∈ lw_tbl := by decide +kernel
set_option maxRecDepth 20000 in
theorem law_inJ0 : ∀ w ∈ wsJ00, w ∈ lw_tbl := by decide +kernel
set_option maxRecDepth 20000 in
theorem law_inJ10 : ∀ w ∈ wsJ100, w ∈ lw_tbl := by decide +kernel
theorem wsL_law_in0 : ∀ w ∈ wsL_law0, w ∈ lw_tbl := (mem_ap (mem_ap (mem_ap (mem_ap (mem_ap (mem_ap (mem_ap (mem_ap (mem_ap law_in_r1 (mem_ap law_in_r2 (mem_ap law_in_r3 (mem_ap law_in_r4 (mem_ap law_in_r5 (mem_ap law_in_r6 (mem_ap law_in_r7 (mem_ap law_in_r8 (mem_ap law_in_r9 (mem_ap law_in_r10 (mem_ap law_in_r11 (mem_ap law_in_r12 (mem_ap law_in_r13 (mem_ap law_in_r14 (mem_ap law_in_r15 (mem_ap law_in_r16 (mem_ap law_in_r17 (mem_ap law_in_r18 (mem_ap law_in_r19 (mem_ap law_in_r20 (mem_ap law_in_r21 (mem_ap law_in_r22 (mem_ap law_in_r23 (mem_ap law_in_r24 (mem_ap law_in_r25 (mem_ap law_in_r26 (mem_ap law_in_r27 (mem_ap law_in_r28 (mem_ap law_in_r29 law_in_r30))))))))))))))))))))))))))))) law_inX5) law_inX6) law_inX4) law_inX3) law_inX1) law_inX0) law_inX2) (fun w h => absurd h List.not_mem_nil))
set_option maxRecDepth 20000 in
theorem wsL_law_x0 : ∀ w ∈ (vx_atS RX5 228 "java/lang/IllegalArgumentException" ["java/lang/RuntimeException", "java/lang/Exception"]).filter goodWord, w ∈ lw_tbl := by decide +kernel
set_option maxRecDepth 20000 in
theorem wsL_law_x1 : ∀ w ∈ (vx_atS RX5 71 "java/lang/IllegalStateException" ["java/lang/RuntimeException", "java/lang/Exception"]).filter goodWord, w ∈ lw_tbl := by decide +kernel
set_option maxRecDepth 20000 in
theorem wsL_law_x2 : ∀ w ∈ (vx_atS RX5 233 "java/lang/IndexOutOfBoundsException" ["java/lang/RuntimeException", "java/lang/Exception"]).filter goodWord, w ∈ lw_tbl := by decide +kernel
theorem wsL_law_in : ∀ w ∈ wsL_law, w ∈ lw_tbl := mem_ap (mem_ap (mem_ap wsL_law_in0 wsL_law_x0) wsL_law_x1) wsL_law_x2
end
