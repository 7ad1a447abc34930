theorem wi_wsX40 : ∀ w ∈ wsX40, w ∈ lw_tbl := by decide +kernel
theorem wi_wsJx4a65c0 : ∀ w ∈ wsJx4a65c0, w ∈ lw_tbl := by decide +kernel
theorem wi_wsX30 : ∀ w ∈ wsX30, w ∈ lw_tbl := by decide +kernel
theorem wi_wsX20 : ∀ w ∈ wsX20, w ∈ lw_tbl := by decide +kernel
theorem wi_wsX00 : ∀ w ∈ wsX00, w ∈ lw_tbl := by decide +kernel
theorem wi_wsX10 : ∀ w ∈ wsX10, w ∈ lw_tbl := by decide +kernel
theorem wsL_law_in0 : ∀ w ∈ wsL_law0, w ∈ lw_tbl := by
  unfold wsL_law0
  exact List.forall_mem_append.mpr ⟨List.forall_mem_append.mpr ⟨List.forall_mem_append.mpr ⟨List.forall_mem_append.mpr ⟨List.forall_mem_append.mpr ⟨List.forall_mem_append.mpr ⟨List.forall_mem_append.mpr ⟨List.forall_mem_append.mpr ⟨wi_of wi_r1, List.forall_mem_append.mpr ⟨wi_of wi_r2, List.forall_mem_append.mpr ⟨wi_of wi_r3, List.forall_mem_append.mpr ⟨wi_of wi_r4, List.forall_mem_append.mpr ⟨wi_of wi_r5, List.forall_mem_append.mpr ⟨wi_of wi_r6, List.forall_mem_append.mpr ⟨wi_of wi_r7, List.forall_mem_append.mpr ⟨wi_of wi_r8, List.forall_mem_append.mpr ⟨wi_of wi_r9, List.forall_mem_append.mpr ⟨wi_of wi_r10, List.forall_mem_append.mpr ⟨wi_of wi_r11, List.forall_mem_append.mpr ⟨wi_of wi_r12, List.forall_mem_append.mpr ⟨wi_of wi_r13, List.forall_mem_append.mpr ⟨wi_of wi_r14, List.forall_mem_append.mpr ⟨wi_of wi_r15, List.forall_mem_append.mpr ⟨wi_of wi_r16, List.forall_mem_append.mpr ⟨wi_of wi_r17, List.forall_mem_append.mpr ⟨wi_of wi_r18, List.forall_mem_append.mpr ⟨wi_of wi_r19, List.forall_mem_append.mpr ⟨wi_of wi_r20, List.forall_mem_append.mpr ⟨wi_r21b, wi_r22b⟩⟩⟩⟩⟩⟩⟩⟩⟩⟩⟩⟩⟩⟩⟩⟩⟩⟩⟩⟩⟩, wi_wsX40⟩, wi_wsJx4a65c0⟩, wi_wsX30⟩, wi_wsX20⟩, wi_wsX00⟩, wi_wsX10⟩, fun _ h => absurd h List.not_mem_nil⟩
theorem wsL_law_x0 : ∀ w ∈ (vx_atS RX4 263 "java/lang/IndexOutOfBoundsException" ["java/lang/RuntimeException", "java/lang/Exception"]).filter goodWord, w ∈ lw_tbl := by decide +kernel
theorem wsL_law_x1 : ∀ w ∈ (vx_atS RX4 62 "java/lang/IllegalArgumentException" ["java/lang/RuntimeException", "java/lang/Exception"]).filter goodWord, w ∈ lw_tbl := by decide +kernel
theorem wsL_law_x2 : ∀ w ∈ (vx_atS RX4 77 "java/lang/IllegalStateException" ["java/lang/RuntimeException", "java/lang/Exception"]).filter goodWord, w ∈ lw_tbl := by decide +kernel
theorem wsL_law_in : ∀ w ∈ wsL_law, w ∈ lw_tbl := fun w h => (List.mem_append.mp h).elim (fun h => (List.mem_append.mp h).elim (fun h => (List.mem_append.mp h).elim (fun h => wsL_law_in0 w h) (fun h => wsL_law_x0 w h)) (fun h => wsL_law_x1 w h)) (fun h => wsL_law_x2 w h)
