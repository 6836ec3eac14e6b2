/-! All words of GW. -/
set_option maxRecDepth 100000 in
theorem tbl_X0 : ∀ w ∈ wsX00, w ∈ lw_tbl := by decide +kernel
set_option maxRecDepth 100000 in
theorem tbl_X1 : ∀ w ∈ wsX10, w ∈ lw_tbl := by decide +kernel
set_option maxRecDepth 100000 in
theorem tbl_X2 : ∀ w ∈ wsX20, w ∈ lw_tbl := by decide +kernel
set_option maxRecDepth 100000 in
theorem tbl_X3 : ∀ w ∈ wsX30, w ∈ lw_tbl := by decide +kernel
set_option maxRecDepth 100000 in
theorem tbl_Jx4a65c : ∀ w ∈ wsJx4a65c0, w ∈ lw_tbl := by decide +kernel
set_option maxRecDepth 100000 in
theorem tbl_e61 : ∀ w ∈ (vx_atS RX2 61 "java/lang/IllegalStateException" ["java/lang/RuntimeException", "java/lang/Exception"]).filter goodWord, w ∈ lw_tbl := by decide +kernel
set_option maxRecDepth 100000 in
theorem tbl_e79 : ∀ w ∈ (vx_atS RX2 79 "java/lang/IllegalArgumentException" ["java/lang/RuntimeException", "java/lang/Exception"]).filter goodWord, w ∈ lw_tbl := by decide +kernel
set_option maxRecDepth 100000 in
theorem tbl_e242 : ∀ w ∈ (vx_atS RX2 242 "java/lang/IndexOutOfBoundsException" ["java/lang/RuntimeException", "java/lang/Exception"]).filter goodWord, w ∈ lw_tbl := by decide +kernel
theorem in_ws0 : ∀ w ∈ wsL_law_0, w ∈ lw_tbl := List.forall_mem_append.mpr ⟨List.forall_mem_append.mpr ⟨List.forall_mem_append.mpr ⟨List.forall_mem_append.mpr ⟨List.forall_mem_append.mpr ⟨List.forall_mem_append.mpr ⟨List.forall_mem_append.mpr ⟨in_wsL_law_0_r1, List.forall_mem_append.mpr ⟨in_wsL_law_0_r2, List.forall_mem_append.mpr ⟨in_wsL_law_0_r3, List.forall_mem_append.mpr ⟨in_wsL_law_0_r4, List.forall_mem_append.mpr ⟨in_wsL_law_0_r5, List.forall_mem_append.mpr ⟨in_wsL_law_0_r6, List.forall_mem_append.mpr ⟨in_wsL_law_0_r7, List.forall_mem_append.mpr ⟨in_wsL_law_0_r8, List.forall_mem_append.mpr ⟨in_wsL_law_0_r9, List.forall_mem_append.mpr ⟨in_wsL_law_0_r10, List.forall_mem_append.mpr ⟨in_wsL_law_0_r11, List.forall_mem_append.mpr ⟨in_wsL_law_0_r12, List.forall_mem_append.mpr ⟨in_wsL_law_0_r13, List.forall_mem_append.mpr ⟨in_wsL_law_0_r14, List.forall_mem_append.mpr ⟨in_wsL_law_0_r15, List.forall_mem_append.mpr ⟨in_wsL_law_0_r16, List.forall_mem_append.mpr ⟨in_wsL_law_0_r17, List.forall_mem_append.mpr ⟨in_wsL_law_0_r18, List.forall_mem_append.mpr ⟨in_wsL_law_0_r19, List.forall_mem_append.mpr ⟨in_wsL_law_0_r20, List.forall_mem_append.mpr ⟨in_wsL_law_0_r21, List.forall_mem_append.mpr ⟨in_wsL_law_0_r22, List.forall_mem_append.mpr ⟨in_wsL_law_0_r23, List.forall_mem_append.mpr ⟨in_wsL_law_0_r24, List.forall_mem_append.mpr ⟨in_wsL_law_0_r25, List.forall_mem_append.mpr ⟨in_wsL_law_0_r26, List.forall_mem_append.mpr ⟨in_wsL_law_0_r27, List.forall_mem_append.mpr ⟨in_wsL_law_0_r28, List.forall_mem_append.mpr ⟨in_wsL_law_0_r29, List.forall_mem_append.mpr ⟨in_wsL_law_0_r30, in_wsL_law_0_r31⟩⟩⟩⟩⟩⟩⟩⟩⟩⟩⟩⟩⟩⟩⟩⟩⟩⟩⟩⟩⟩⟩⟩⟩⟩⟩⟩⟩⟩⟩, tbl_X2⟩, tbl_X3⟩, tbl_Jx4a65c⟩, tbl_X1⟩, tbl_X0⟩, fun _ h => absurd h List.not_mem_nil⟩
theorem in_gw : ∀ w ∈ GW, w ∈ lw_tbl := List.forall_mem_append.mpr ⟨List.forall_mem_append.mpr ⟨List.forall_mem_append.mpr ⟨in_ws0, tbl_e61⟩, tbl_e79⟩, tbl_e242⟩
