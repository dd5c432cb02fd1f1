set_option maxRecDepth 100000 in
theorem gin_wsL_law_r21 : GoodIn lw_tbl wsL_law_r21 := goodIn_p wsL_law_r21 [501, 865, 870, 509, 513] (by decide +kernel) (by decide +kernel)
set_option maxRecDepth 100000 in
theorem gin_wsL_law_r22 : GoodIn lw_tbl wsL_law_r22 := goodIn_p wsL_law_r22 [874, 518, 879, 522, 883, 526] (by decide +kernel) (by decide +kernel)
set_option maxRecDepth 100000 in
theorem gin_wsL_law_r23 : GoodIn lw_tbl wsL_law_r23 := goodIn_p wsL_law_r23 [530, 534, 537, 887, 891, 895] (by decide +kernel) (by decide +kernel)
set_option maxRecDepth 100000 in
theorem gin_wsL_law_r24 : GoodIn lw_tbl wsL_law_r24 := goodIn_p wsL_law_r24 [542, 546, 899, 903, 550, 554] (by decide +kernel) (by decide +kernel)
set_option maxRecDepth 100000 in
theorem gin_wsL_law_r25 : GoodIn lw_tbl wsL_law_r25 := goodIn_p wsL_law_r25 [558, 565, 569, 572, 576] (by decide +kernel) (by decide +kernel)
set_option maxRecDepth 100000 in
theorem gin_wsL_law_r26 : GoodIn lw_tbl wsL_law_r26 := goodIn_p wsL_law_r26 [907, 911, 915, 580, 584] (by decide +kernel) (by decide +kernel)
set_option maxRecDepth 100000 in
theorem gin_wsL_law_r27 : GoodIn lw_tbl wsL_law_r27 := goodIn_p wsL_law_r27 [919, 588, 923, 592, 597] (by decide +kernel) (by decide +kernel)
set_option maxRecDepth 100000 in
theorem gin_wsL_law_r28 : GoodIn lw_tbl wsL_law_r28 := goodIn_p wsL_law_r28 [601, 605, 609, 613, 928, 931] (by decide +kernel) (by decide +kernel)
set_option maxRecDepth 100000 in
theorem gin_wsL_law_r29 : GoodIn lw_tbl wsL_law_r29 := goodIn_p wsL_law_r29 [935, 618, 939, 622, 943, 626] (by decide +kernel) (by decide +kernel)
set_option maxRecDepth 100000 in
theorem gin_wsL_law_r30 : GoodIn lw_tbl wsL_law_r30 := goodIn_p wsL_law_r30 [630, 947] (by decide +kernel) (by decide +kernel)
set_option maxRecDepth 100000 in
theorem gin_wsX80 : GoodIn lw_tbl wsX80 := goodIn_p wsX80 [] (by decide +kernel) (by decide +kernel)
set_option maxRecDepth 100000 in
theorem gin_wsX90 : GoodIn lw_tbl wsX90 := goodIn_p wsX90 [] (by decide +kernel) (by decide +kernel)
set_option maxRecDepth 100000 in
theorem gin_wsX30 : GoodIn lw_tbl wsX30 := goodIn_p wsX30 [] (by decide +kernel) (by decide +kernel)
set_option maxRecDepth 100000 in
theorem gin_wsX40 : GoodIn lw_tbl wsX40 := goodIn_p wsX40 [] (by decide +kernel) (by decide +kernel)
set_option maxRecDepth 100000 in
theorem gin_wsX50 : GoodIn lw_tbl wsX50 := goodIn_p wsX50 [] (by decide +kernel) (by decide +kernel)
set_option maxRecDepth 100000 in
theorem gin_wsX10 : GoodIn lw_tbl wsX10 := goodIn_p wsX10 [] (by decide +kernel) (by decide +kernel)
set_option maxRecDepth 100000 in
theorem gin_wsX00 : GoodIn lw_tbl wsX00 := goodIn_p wsX00 [] (by decide +kernel) (by decide +kernel)
set_option maxRecDepth 100000 in
theorem gin_wsX70 : GoodIn lw_tbl wsX70 := goodIn_p wsX70 [] (by decide +kernel) (by decide +kernel)
set_option maxRecDepth 100000 in
theorem gin_wsX20 : GoodIn lw_tbl wsX20 := goodIn_p wsX20 [] (by decide +kernel) (by decide +kernel)
set_option maxRecDepth 100000 in
theorem gin_wsX60 : GoodIn lw_tbl wsX60 := goodIn_p wsX60 [] (by decide +kernel) (by decide +kernel)
theorem wsL_law_good : GoodIn lw_tbl wsL_law := goodIn_app (goodIn_app (goodIn_app (goodIn_app (goodIn_app (goodIn_app (goodIn_app (goodIn_app (goodIn_app (goodIn_app (goodIn_app (goodIn_app gin_wsL_law_r1 (goodIn_app gin_wsL_law_r2 (goodIn_app gin_wsL_law_r3 (goodIn_app gin_wsL_law_r4 (goodIn_app gin_wsL_law_r5 (goodIn_app gin_wsL_law_r6 (goodIn_app gin_wsL_law_r7 (goodIn_app gin_wsL_law_r8 (goodIn_app gin_wsL_law_r9 (goodIn_app gin_wsL_law_r10 (goodIn_app gin_wsL_law_r11 (goodIn_app gin_wsL_law_r12 (goodIn_app gin_wsL_law_r13 (goodIn_app gin_wsL_law_r14 (goodIn_app gin_wsL_law_r15 (goodIn_app gin_wsL_law_r16 (goodIn_app gin_wsL_law_r17 (goodIn_app gin_wsL_law_r18 (goodIn_app gin_wsL_law_r19 (goodIn_app gin_wsL_law_r20 (goodIn_app gin_wsL_law_r21 (goodIn_app gin_wsL_law_r22 (goodIn_app gin_wsL_law_r23 (goodIn_app gin_wsL_law_r24 (goodIn_app gin_wsL_law_r25 (goodIn_app gin_wsL_law_r26 (goodIn_app gin_wsL_law_r27 (goodIn_app gin_wsL_law_r28 (goodIn_app gin_wsL_law_r29 (gin_wsL_law_r30)))))))))))))))))))))))))))))) gin_wsX80) gin_wsX90) gin_wsX30) gin_wsX40) gin_wsX50) gin_wsX10) gin_wsX00) gin_wsX70) gin_wsX20) gin_wsX60) (fun w h => absurd h List.not_mem_nil)
theorem wsL_law_in : ∀ w ∈ wsL_law, w ∈ lw_tbl := fun w h => (wsL_law_good w h).1
theorem inlX0 : ∀ w ∈ wsX00, w ∈ wsL_law := fun _ h => List.mem_append_left _ (List.mem_append_left _ (List.mem_append_left _ (List.mem_append_left _ (List.mem_append_right _ h))))
theorem inX0 : ∀ w ∈ wsX00, w ∈ lw_tbl := fun w h => wsL_law_in w (inlX0 w h)
theorem inlX1 : ∀ w ∈ wsX10, w ∈ wsL_law := fun _ h => List.mem_append_left _ (List.mem_append_left _ (List.mem_append_left _ (List.mem_append_left _ (List.mem_append_left _ (List.mem_append_right _ h)))))
theorem inX1 : ∀ w ∈ wsX10, w ∈ lw_tbl := fun w h => wsL_law_in w (inlX1 w h)
theorem inlX2 : ∀ w ∈ wsX20, w ∈ wsL_law := fun _ h => List.mem_append_left _ (List.mem_append_left _ (List.mem_append_right _ h))
theorem inX2 : ∀ w ∈ wsX20, w ∈ lw_tbl := fun w h => wsL_law_in w (inlX2 w h)
theorem inlX3 : ∀ w ∈ wsX30, w ∈ wsL_law := fun _ h => List.mem_append_left _ (List.mem_append_left _ (List.mem_append_left _ (List.mem_append_left _ (List.mem_append_left _ (List.mem_append_left _ (List.mem_append_left _ (List.mem_append_left _ (List.mem_append_right _ h))))))))
theorem inX3 : ∀ w ∈ wsX30, w ∈ lw_tbl := fun w h => wsL_law_in w (inlX3 w h)
theorem inlX4 : ∀ w ∈ wsX40, w ∈ wsL_law := fun _ h => List.mem_append_left _ (List.mem_append_left _ (List.mem_append_left _ (List.mem_append_left _ (List.mem_append_left _ (List.mem_append_left _ (List.mem_append_left _ (List.mem_append_right _ h)))))))
theorem inX4 : ∀ w ∈ wsX40, w ∈ lw_tbl := fun w h => wsL_law_in w (inlX4 w h)
theorem inlX5 : ∀ w ∈ wsX50, w ∈ wsL_law := fun _ h => List.mem_append_left _ (List.mem_append_left _ (List.mem_append_left _ (List.mem_append_left _ (List.mem_append_left _ (List.mem_append_left _ (List.mem_append_right _ h))))))
theorem inX5 : ∀ w ∈ wsX50, w ∈ lw_tbl := fun w h => wsL_law_in w (inlX5 w h)
theorem inlX6 : ∀ w ∈ wsX60, w ∈ wsL_law := fun _ h => List.mem_append_left _ (List.mem_append_right _ h)
theorem inX6 : ∀ w ∈ wsX60, w ∈ lw_tbl := fun w h => wsL_law_in w (inlX6 w h)
theorem inlX7 : ∀ w ∈ wsX70, w ∈ wsL_law := fun _ h => List.mem_append_left _ (List.mem_append_left _ (List.mem_append_left _ (List.mem_append_right _ h)))
theorem inX7 : ∀ w ∈ wsX70, w ∈ lw_tbl := fun w h => wsL_law_in w (inlX7 w h)
theorem inlX8 : ∀ w ∈ wsX80, w ∈ wsL_law := fun _ h => List.mem_append_left _ (List.mem_append_left _ (List.mem_append_left _ (List.mem_append_left _ (List.mem_append_left _ (List.mem_append_left _ (List.mem_append_left _ (List.mem_append_left _ (List.mem_append_left _ (List.mem_append_left _ (List.mem_append_right _ h))))))))))
theorem inX8 : ∀ w ∈ wsX80, w ∈ lw_tbl := fun w h => wsL_law_in w (inlX8 w h)
theorem inlX9 : ∀ w ∈ wsX90, w ∈ wsL_law := fun _ h => List.mem_append_left _ (List.mem_append_left _ (List.mem_append_left _ (List.mem_append_left _ (List.mem_append_left _ (List.mem_append_left _ (List.mem_append_left _ (List.mem_append_left _ (List.mem_append_left _ (List.mem_append_right _ h)))))))))
theorem inX9 : ∀ w ∈ wsX90, w ∈ lw_tbl := fun w h => wsL_law_in w (inlX9 w h)
theorem inJ9 : ∀ w ∈ wsJ90, w ∈ lw_tbl := by decide +kernel
