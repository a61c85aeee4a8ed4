/-! the law's words all stand in the tables -/
theorem wsL_law_in : ∀ w ∈ wsL_law, w ∈ lw_tbl := by
  unfold wsL_law
  exact List.forall_mem_append.mpr ⟨List.forall_mem_append.mpr ⟨List.forall_mem_append.mpr ⟨List.forall_mem_append.mpr ⟨List.forall_mem_append.mpr ⟨List.forall_mem_append.mpr ⟨List.forall_mem_append.mpr ⟨wsL_law_r1_tb, List.forall_mem_append.mpr ⟨wsL_law_r2_tb, List.forall_mem_append.mpr ⟨wsL_law_r3_tb, List.forall_mem_append.mpr ⟨wsL_law_r4_tb, List.forall_mem_append.mpr ⟨wsL_law_r5_tb, List.forall_mem_append.mpr ⟨wsL_law_r6_tb, List.forall_mem_append.mpr ⟨wsL_law_r7_tb, List.forall_mem_append.mpr ⟨wsL_law_r8_tb, List.forall_mem_append.mpr ⟨wsL_law_r9_tb, List.forall_mem_append.mpr ⟨wsL_law_r10_tb, List.forall_mem_append.mpr ⟨wsL_law_r11_tb, List.forall_mem_append.mpr ⟨wsL_law_r12_tb, List.forall_mem_append.mpr ⟨wsL_law_r13_tb, List.forall_mem_append.mpr ⟨wsL_law_r14_tb, List.forall_mem_append.mpr ⟨wsL_law_r15_tb, List.forall_mem_append.mpr ⟨wsL_law_r16_tb, List.forall_mem_append.mpr ⟨wsL_law_r17_tb, List.forall_mem_append.mpr ⟨wsL_law_r18_tb, List.forall_mem_append.mpr ⟨wsL_law_r19_tb, List.forall_mem_append.mpr ⟨wsL_law_r20_tb, List.forall_mem_append.mpr ⟨wsL_law_r21_tb, List.forall_mem_append.mpr ⟨wsL_law_r22_tb, List.forall_mem_append.mpr ⟨wsL_law_r23_tb, List.forall_mem_append.mpr ⟨wsL_law_r24_tb, List.forall_mem_append.mpr ⟨wsL_law_r25_tb, List.forall_mem_append.mpr ⟨wsL_law_r26_tb, List.forall_mem_append.mpr ⟨wsL_law_r27_tb, List.forall_mem_append.mpr ⟨wsL_law_r28_tb, List.forall_mem_append.mpr ⟨wsL_law_r29_tb, List.forall_mem_append.mpr ⟨wsL_law_r30_tb, List.forall_mem_append.mpr ⟨wsL_law_r31_tb, List.forall_mem_append.mpr ⟨wsL_law_r32_tb, List.forall_mem_append.mpr ⟨wsL_law_r33_tb, List.forall_mem_append.mpr ⟨wsL_law_r34_tb, List.forall_mem_append.mpr ⟨wsL_law_r35_tb, List.forall_mem_append.mpr ⟨wsL_law_r36_tb, List.forall_mem_append.mpr ⟨wsL_law_r37_tb, List.forall_mem_append.mpr ⟨wsL_law_r38_tb, List.forall_mem_append.mpr ⟨wsL_law_r39_tb, List.forall_mem_append.mpr ⟨wsL_law_r40_tb, List.forall_mem_append.mpr ⟨wsL_law_r41_tb, List.forall_mem_append.mpr ⟨wsL_law_r42_tb, List.forall_mem_append.mpr ⟨wsL_law_r43_tb, wsL_law_r44_tb⟩⟩⟩⟩⟩⟩⟩⟩⟩⟩⟩⟩⟩⟩⟩⟩⟩⟩⟩⟩⟩⟩⟩⟩⟩⟩⟩⟩⟩⟩⟩⟩⟩⟩⟩⟩⟩⟩⟩⟩⟩⟩⟩, wsX30_tb⟩, wsX40_tb⟩, wsX20_tb⟩, wsX10_tb⟩, wsX00_tb⟩, fun _ h => absurd h List.not_mem_nil⟩
theorem inlX0 : ∀ w ∈ wsX00, w ∈ wsL_law := fun _ h => List.mem_append_left _ (List.mem_append_right _ h)
theorem inX0 : ∀ w ∈ wsX00, w ∈ lw_tbl := fun w h => wsL_law_in w (inlX0 w h)
theorem inlX1 : ∀ w ∈ wsX10, w ∈ wsL_law := fun _ h => List.mem_append_left _ (List.mem_append_left _ (List.mem_append_right _ h))
theorem inX1 : ∀ w ∈ wsX10, w ∈ lw_tbl := fun w h => wsL_law_in w (inlX1 w h)
theorem inlX2 : ∀ w ∈ wsX20, w ∈ wsL_law := fun _ h => List.mem_append_left _ (List.mem_append_left _ (List.mem_append_left _ (List.mem_append_right _ h)))
theorem inX2 : ∀ w ∈ wsX20, w ∈ lw_tbl := fun w h => wsL_law_in w (inlX2 w h)
theorem inlX3 : ∀ w ∈ wsX30, w ∈ wsL_law := fun _ h => List.mem_append_left _ (List.mem_append_left _ (List.mem_append_left _ (List.mem_append_left _ (List.mem_append_left _ (List.mem_append_right _ h)))))
theorem inX3 : ∀ w ∈ wsX30, w ∈ lw_tbl := fun w h => wsL_law_in w (inlX3 w h)
theorem inlX4 : ∀ w ∈ wsX40, w ∈ wsL_law := fun _ h => List.mem_append_left _ (List.mem_append_left _ (List.mem_append_left _ (List.mem_append_left _ (List.mem_append_right _ h))))
theorem inX4 : ∀ w ∈ wsX40, w ∈ lw_tbl := fun w h => wsL_law_in w (inlX4 w h)
theorem inJx145de : ∀ w ∈ wsJx145de0, w ∈ lw_tbl := by decide +kernel
theorem inJx9f9b0 : ∀ w ∈ wsJx9f9b00, w ∈ lw_tbl := by decide +kernel
theorem inJ11 : ∀ w ∈ wsJ110, w ∈ lw_tbl := by decide +kernel
theorem inJxb160c : ∀ w ∈ wsJxb160c0, w ∈ lw_tbl := by decide +kernel
theorem inJ6 : ∀ w ∈ wsJ60, w ∈ lw_tbl := by decide +kernel
theorem inJ9 : ∀ w ∈ wsJ90, w ∈ lw_tbl := by decide +kernel
theorem inJ0 : ∀ w ∈ wsJ00, w ∈ lw_tbl := by decide +kernel
theorem inJ1 : ∀ w ∈ wsJ10, w ∈ lw_tbl := by decide +kernel
theorem inJ2 : ∀ w ∈ wsJ20, w ∈ lw_tbl := by decide +kernel
theorem inJ10 : ∀ w ∈ wsJ100, w ∈ lw_tbl := by decide +kernel
theorem inJxfd54e : ∀ w ∈ wsJxfd54e0, w ∈ lw_tbl := by decide +kernel
theorem inJx3cf43 : ∀ w ∈ wsJx3cf430, w ∈ lw_tbl := by decide +kernel
theorem inJ7 : ∀ w ∈ wsJ70, w ∈ lw_tbl := by decide +kernel
theorem inJ3 : ∀ w ∈ wsJ30, w ∈ lw_tbl := by decide +kernel
