/-! the law: its words in the tables -/
set_option maxRecDepth 100000 in
theorem in_twsX70 : ∀ w ∈ wsX70, w ∈ lw_tbl := by decide +kernel
set_option maxRecDepth 100000 in
theorem in_twsX80 : ∀ w ∈ wsX80, w ∈ lw_tbl := by decide +kernel
set_option maxRecDepth 100000 in
theorem in_twsX10 : ∀ w ∈ wsX10, w ∈ lw_tbl := by decide +kernel
set_option maxRecDepth 100000 in
theorem in_twsX40 : ∀ w ∈ wsX40, w ∈ lw_tbl := by decide +kernel
set_option maxRecDepth 100000 in
theorem in_twsX60 : ∀ w ∈ wsX60, w ∈ lw_tbl := by decide +kernel
set_option maxRecDepth 100000 in
theorem in_twsX30 : ∀ w ∈ wsX30, w ∈ lw_tbl := by decide +kernel
set_option maxRecDepth 100000 in
theorem in_twsX50 : ∀ w ∈ wsX50, w ∈ lw_tbl := by decide +kernel
set_option maxRecDepth 100000 in
theorem in_twsX20 : ∀ w ∈ wsX20, w ∈ lw_tbl := by decide +kernel
set_option maxRecDepth 100000 in
theorem in_twsX00 : ∀ w ∈ wsX00, w ∈ lw_tbl := by decide +kernel
theorem ap_in {T a b : List Cond} (h1 : ∀ w ∈ a, w ∈ T) (h2 : ∀ w ∈ b, w ∈ T) : ∀ w ∈ a ++ b, w ∈ T := fun w h => (List.mem_append.mp h).elim (h1 w) (h2 w)
theorem wsL_law_in : ∀ w ∈ wsL_law, w ∈ lw_tbl := (ap_in (ap_in (ap_in (ap_in (ap_in (ap_in (ap_in (ap_in (ap_in (ap_in (ap_in in_wsL_law_r1 (ap_in in_wsL_law_r2 (ap_in in_wsL_law_r3 (ap_in in_wsL_law_r4 (ap_in in_wsL_law_r5 (ap_in in_wsL_law_r6 (ap_in in_wsL_law_r7 (ap_in in_wsL_law_r8 (ap_in in_wsL_law_r9 (ap_in in_wsL_law_r10 (ap_in in_wsL_law_r11 (ap_in in_wsL_law_r12 (ap_in in_wsL_law_r13 (ap_in in_wsL_law_r14 (ap_in in_wsL_law_r15 (ap_in in_wsL_law_r16 (ap_in in_wsL_law_r17 (ap_in in_wsL_law_r18 (ap_in in_wsL_law_r19 (ap_in in_wsL_law_r20 (ap_in in_wsL_law_r21 (ap_in in_wsL_law_r22 (ap_in in_wsL_law_r23 (ap_in in_wsL_law_r24 (ap_in in_wsL_law_r25 (ap_in in_wsL_law_r26 (ap_in in_wsL_law_r27 (ap_in in_wsL_law_r28 (ap_in in_wsL_law_r29 (ap_in in_wsL_law_r30 (ap_in in_wsL_law_r31 in_wsL_law_r32))))))))))))))))))))))))))))))) in_twsX70) in_twsX80) in_twsX10) in_twsX40) in_twsX60) in_twsX30) in_twsX50) in_twsX20) in_twsX00) (fun _ h => absurd h List.not_mem_nil))
theorem inlX0 : ∀ w ∈ wsX00, w ∈ wsL_law := fun _ h => List.mem_append_left _ (List.mem_append_right _ h)
theorem inlX1 : ∀ w ∈ wsX10, w ∈ wsL_law := fun _ h => List.mem_append_left _ (List.mem_append_left _ (List.mem_append_left _ (List.mem_append_left _ (List.mem_append_left _ (List.mem_append_left _ (List.mem_append_left _ (List.mem_append_right _ h)))))))
theorem inlX2 : ∀ w ∈ wsX20, w ∈ wsL_law := fun _ h => List.mem_append_left _ (List.mem_append_left _ (List.mem_append_right _ h))
theorem inlX3 : ∀ w ∈ wsX30, w ∈ wsL_law := fun _ h => List.mem_append_left _ (List.mem_append_left _ (List.mem_append_left _ (List.mem_append_left _ (List.mem_append_right _ h))))
theorem inlX4 : ∀ w ∈ wsX40, w ∈ wsL_law := fun _ h => List.mem_append_left _ (List.mem_append_left _ (List.mem_append_left _ (List.mem_append_left _ (List.mem_append_left _ (List.mem_append_left _ (List.mem_append_right _ h))))))
theorem inlX5 : ∀ w ∈ wsX50, w ∈ wsL_law := fun _ h => List.mem_append_left _ (List.mem_append_left _ (List.mem_append_left _ (List.mem_append_right _ h)))
theorem inlX6 : ∀ w ∈ wsX60, w ∈ wsL_law := fun _ h => List.mem_append_left _ (List.mem_append_left _ (List.mem_append_left _ (List.mem_append_left _ (List.mem_append_left _ (List.mem_append_right _ h)))))
theorem inlX7 : ∀ w ∈ wsX70, w ∈ wsL_law := fun _ h => List.mem_append_left _ (List.mem_append_left _ (List.mem_append_left _ (List.mem_append_left _ (List.mem_append_left _ (List.mem_append_left _ (List.mem_append_left _ (List.mem_append_left _ (List.mem_append_left _ (List.mem_append_right _ h)))))))))
theorem inlX8 : ∀ w ∈ wsX80, w ∈ wsL_law := fun _ h => List.mem_append_left _ (List.mem_append_left _ (List.mem_append_left _ (List.mem_append_left _ (List.mem_append_left _ (List.mem_append_left _ (List.mem_append_left _ (List.mem_append_left _ (List.mem_append_right _ h))))))))
