set_option maxRecDepth 20000 in
theorem kin_1 : ∀ w ∈ wsL_law_r1, w ∈ wsL_law := fun _ h => List.mem_append_left _ (List.mem_append_left _ (List.mem_append_left _ (List.mem_append_left _ (List.mem_append_left _ (List.mem_append_left _ (List.mem_append_left _ (List.mem_append_left _ (List.mem_append_left _ (List.mem_append_left _ (List.mem_append_left _ (List.mem_append_left _ (List.mem_append_left _ h))))))))))))
set_option maxRecDepth 20000 in
theorem kin_2 : ∀ w ∈ wsL_law_r2, w ∈ wsL_law := fun _ h => List.mem_append_left _ (List.mem_append_left _ (List.mem_append_left _ (List.mem_append_left _ (List.mem_append_left _ (List.mem_append_left _ (List.mem_append_left _ (List.mem_append_left _ (List.mem_append_left _ (List.mem_append_left _ (List.mem_append_left _ (List.mem_append_left _ (List.mem_append_right _ (List.mem_append_left _ h)))))))))))))
set_option maxRecDepth 20000 in
theorem kin_3 : ∀ w ∈ wsL_law_r3, w ∈ wsL_law := fun _ h => List.mem_append_left _ (List.mem_append_left _ (List.mem_append_left _ (List.mem_append_left _ (List.mem_append_left _ (List.mem_append_left _ (List.mem_append_left _ (List.mem_append_left _ (List.mem_append_left _ (List.mem_append_left _ (List.mem_append_left _ (List.mem_append_left _ (List.mem_append_right _ (List.mem_append_right _ (List.mem_append_left _ h))))))))))))))
set_option maxRecDepth 20000 in
theorem kin_4 : ∀ w ∈ wsL_law_r4, w ∈ wsL_law := fun _ h => List.mem_append_left _ (List.mem_append_left _ (List.mem_append_left _ (List.mem_append_left _ (List.mem_append_left _ (List.mem_append_left _ (List.mem_append_left _ (List.mem_append_left _ (List.mem_append_left _ (List.mem_append_left _ (List.mem_append_left _ (List.mem_append_left _ (List.mem_append_right _ (List.mem_append_right _ (List.mem_append_right _ (List.mem_append_left _ h)))))))))))))))
set_option maxRecDepth 20000 in
theorem kin_5 : ∀ w ∈ wsL_law_r5, w ∈ wsL_law := fun _ h => List.mem_append_left _ (List.mem_append_left _ (List.mem_append_left _ (List.mem_append_left _ (List.mem_append_left _ (List.mem_append_left _ (List.mem_append_left _ (List.mem_append_left _ (List.mem_append_left _ (List.mem_append_left _ (List.mem_append_left _ (List.mem_append_left _ (List.mem_append_right _ (List.mem_append_right _ (List.mem_append_right _ (List.mem_append_right _ (List.mem_append_left _ h))))))))))))))))
set_option maxRecDepth 20000 in
theorem kin_6 : ∀ w ∈ wsL_law_r6, w ∈ wsL_law := fun _ h => List.mem_append_left _ (List.mem_append_left _ (List.mem_append_left _ (List.mem_append_left _ (List.mem_append_left _ (List.mem_append_left _ (List.mem_append_left _ (List.mem_append_left _ (List.mem_append_left _ (List.mem_append_left _ (List.mem_append_left _ (List.mem_append_left _ (List.mem_append_right _ (List.mem_append_right _ (List.mem_append_right _ (List.mem_append_right _ (List.mem_append_right _ (List.mem_append_left _ h)))))))))))))))))
set_option maxRecDepth 20000 in
theorem kin_7 : ∀ w ∈ wsL_law_r7, w ∈ wsL_law := fun _ h => List.mem_append_left _ (List.mem_append_left _ (List.mem_append_left _ (List.mem_append_left _ (List.mem_append_left _ (List.mem_append_left _ (List.mem_append_left _ (List.mem_append_left _ (List.mem_append_left _ (List.mem_append_left _ (List.mem_append_left _ (List.mem_append_left _ (List.mem_append_right _ (List.mem_append_right _ (List.mem_append_right _ (List.mem_append_right _ (List.mem_append_right _ (List.mem_append_right _ (List.mem_append_left _ h))))))))))))))))))
set_option maxRecDepth 20000 in
theorem kin_8 : ∀ w ∈ wsL_law_r8, w ∈ wsL_law := fun _ h => List.mem_append_left _ (List.mem_append_left _ (List.mem_append_left _ (List.mem_append_left _ (List.mem_append_left _ (List.mem_append_left _ (List.mem_append_left _ (List.mem_append_left _ (List.mem_append_left _ (List.mem_append_left _ (List.mem_append_left _ (List.mem_append_left _ (List.mem_append_right _ (List.mem_append_right _ (List.mem_append_right _ (List.mem_append_right _ (List.mem_append_right _ (List.mem_append_right _ (List.mem_append_right _ (List.mem_append_left _ h)))))))))))))))))))
set_option maxRecDepth 20000 in
theorem kin_9 : ∀ w ∈ wsL_law_r9, w ∈ wsL_law := fun _ h => List.mem_append_left _ (List.mem_append_left _ (List.mem_append_left _ (List.mem_append_left _ (List.mem_append_left _ (List.mem_append_left _ (List.mem_append_left _ (List.mem_append_left _ (List.mem_append_left _ (List.mem_append_left _ (List.mem_append_left _ (List.mem_append_left _ (List.mem_append_right _ (List.mem_append_right _ (List.mem_append_right _ (List.mem_append_right _ (List.mem_append_right _ (List.mem_append_right _ (List.mem_append_right _ (List.mem_append_right _ (List.mem_append_left _ h))))))))))))))))))))
set_option maxRecDepth 20000 in
theorem kin_10 : ∀ w ∈ wsL_law_r10, w ∈ wsL_law := fun _ h => List.mem_append_left _ (List.mem_append_left _ (List.mem_append_left _ (List.mem_append_left _ (List.mem_append_left _ (List.mem_append_left _ (List.mem_append_left _ (List.mem_append_left _ (List.mem_append_left _ (List.mem_append_left _ (List.mem_append_left _ (List.mem_append_left _ (List.mem_append_right _ (List.mem_append_right _ (List.mem_append_right _ (List.mem_append_right _ (List.mem_append_right _ (List.mem_append_right _ (List.mem_append_right _ (List.mem_append_right _ (List.mem_append_right _ (List.mem_append_left _ h)))))))))))))))))))))
set_option maxRecDepth 20000 in
theorem kin_11 : ∀ w ∈ wsL_law_r11, w ∈ wsL_law := fun _ h => List.mem_append_left _ (List.mem_append_left _ (List.mem_append_left _ (List.mem_append_left _ (List.mem_append_left _ (List.mem_append_left _ (List.mem_append_left _ (List.mem_append_left _ (List.mem_append_left _ (List.mem_append_left _ (List.mem_append_left _ (List.mem_append_left _ (List.mem_append_right _ (List.mem_append_right _ (List.mem_append_right _ (List.mem_append_right _ (List.mem_append_right _ (List.mem_append_right _ (List.mem_append_right _ (List.mem_append_right _ (List.mem_append_right _ (List.mem_append_right _ (List.mem_append_left _ h))))))))))))))))))))))
set_option maxRecDepth 20000 in
theorem kin_12 : ∀ w ∈ wsL_law_r12, w ∈ wsL_law := fun _ h => List.mem_append_left _ (List.mem_append_left _ (List.mem_append_left _ (List.mem_append_left _ (List.mem_append_left _ (List.mem_append_left _ (List.mem_append_left _ (List.mem_append_left _ (List.mem_append_left _ (List.mem_append_left _ (List.mem_append_left _ (List.mem_append_left _ (List.mem_append_right _ (List.mem_append_right _ (List.mem_append_right _ (List.mem_append_right _ (List.mem_append_right _ (List.mem_append_right _ (List.mem_append_right _ (List.mem_append_right _ (List.mem_append_right _ (List.mem_append_right _ (List.mem_append_right _ (List.mem_append_left _ h)))))))))))))))))))))))
set_option maxRecDepth 20000 in
theorem kin_13 : ∀ w ∈ wsL_law_r13, w ∈ wsL_law := fun _ h => List.mem_append_left _ (List.mem_append_left _ (List.mem_append_left _ (List.mem_append_left _ (List.mem_append_left _ (List.mem_append_left _ (List.mem_append_left _ (List.mem_append_left _ (List.mem_append_left _ (List.mem_append_left _ (List.mem_append_left _ (List.mem_append_left _ (List.mem_append_right _ (List.mem_append_right _ (List.mem_append_right _ (List.mem_append_right _ (List.mem_append_right _ (List.mem_append_right _ (List.mem_append_right _ (List.mem_append_right _ (List.mem_append_right _ (List.mem_append_right _ (List.mem_append_right _ (List.mem_append_right _ (List.mem_append_left _ h))))))))))))))))))))))))
set_option maxRecDepth 20000 in
theorem kin_14 : ∀ w ∈ wsL_law_r14, w ∈ wsL_law := fun _ h => List.mem_append_left _ (List.mem_append_left _ (List.mem_append_left _ (List.mem_append_left _ (List.mem_append_left _ (List.mem_append_left _ (List.mem_append_left _ (List.mem_append_left _ (List.mem_append_left _ (List.mem_append_left _ (List.mem_append_left _ (List.mem_append_left _ (List.mem_append_right _ (List.mem_append_right _ (List.mem_append_right _ (List.mem_append_right _ (List.mem_append_right _ (List.mem_append_right _ (List.mem_append_right _ (List.mem_append_right _ (List.mem_append_right _ (List.mem_append_right _ (List.mem_append_right _ (List.mem_append_right _ (List.mem_append_right _ (List.mem_append_left _ h)))))))))))))))))))))))))
set_option maxRecDepth 20000 in
theorem kin_15 : ∀ w ∈ wsL_law_r15, w ∈ wsL_law := fun _ h => List.mem_append_left _ (List.mem_append_left _ (List.mem_append_left _ (List.mem_append_left _ (List.mem_append_left _ (List.mem_append_left _ (List.mem_append_left _ (List.mem_append_left _ (List.mem_append_left _ (List.mem_append_left _ (List.mem_append_left _ (List.mem_append_left _ (List.mem_append_right _ (List.mem_append_right _ (List.mem_append_right _ (List.mem_append_right _ (List.mem_append_right _ (List.mem_append_right _ (List.mem_append_right _ (List.mem_append_right _ (List.mem_append_right _ (List.mem_append_right _ (List.mem_append_right _ (List.mem_append_right _ (List.mem_append_right _ (List.mem_append_right _ (List.mem_append_left _ h))))))))))))))))))))))))))
set_option maxRecDepth 20000 in
theorem kin_16 : ∀ w ∈ wsL_law_r16, w ∈ wsL_law := fun _ h => List.mem_append_left _ (List.mem_append_left _ (List.mem_append_left _ (List.mem_append_left _ (List.mem_append_left _ (List.mem_append_left _ (List.mem_append_left _ (List.mem_append_left _ (List.mem_append_left _ (List.mem_append_left _ (List.mem_append_left _ (List.mem_append_left _ (List.mem_append_right _ (List.mem_append_right _ (List.mem_append_right _ (List.mem_append_right _ (List.mem_append_right _ (List.mem_append_right _ (List.mem_append_right _ (List.mem_append_right _ (List.mem_append_right _ (List.mem_append_right _ (List.mem_append_right _ (List.mem_append_right _ (List.mem_append_right _ (List.mem_append_right _ (List.mem_append_right _ (List.mem_append_left _ h)))))))))))))))))))))))))))
set_option maxRecDepth 20000 in
theorem kin_17 : ∀ w ∈ wsL_law_r17, w ∈ wsL_law := fun _ h => List.mem_append_left _ (List.mem_append_left _ (List.mem_append_left _ (List.mem_append_left _ (List.mem_append_left _ (List.mem_append_left _ (List.mem_append_left _ (List.mem_append_left _ (List.mem_append_left _ (List.mem_append_left _ (List.mem_append_left _ (List.mem_append_left _ (List.mem_append_right _ (List.mem_append_right _ (List.mem_append_right _ (List.mem_append_right _ (List.mem_append_right _ (List.mem_append_right _ (List.mem_append_right _ (List.mem_append_right _ (List.mem_append_right _ (List.mem_append_right _ (List.mem_append_right _ (List.mem_append_right _ (List.mem_append_right _ (List.mem_append_right _ (List.mem_append_right _ (List.mem_append_right _ (List.mem_append_left _ h))))))))))))))))))))))))))))
set_option maxRecDepth 20000 in
theorem kin_18 : ∀ w ∈ wsL_law_r18, w ∈ wsL_law := fun _ h => List.mem_append_left _ (List.mem_append_left _ (List.mem_append_left _ (List.mem_append_left _ (List.mem_append_left _ (List.mem_append_left _ (List.mem_append_left _ (List.mem_append_left _ (List.mem_append_left _ (List.mem_append_left _ (List.mem_append_left _ (List.mem_append_left _ (List.mem_append_right _ (List.mem_append_right _ (List.mem_append_right _ (List.mem_append_right _ (List.mem_append_right _ (List.mem_append_right _ (List.mem_append_right _ (List.mem_append_right _ (List.mem_append_right _ (List.mem_append_right _ (List.mem_append_right _ (List.mem_append_right _ (List.mem_append_right _ (List.mem_append_right _ (List.mem_append_right _ (List.mem_append_right _ (List.mem_append_right _ (List.mem_append_left _ h)))))))))))))))))))))))))))))
set_option maxRecDepth 20000 in
theorem kin_19 : ∀ w ∈ wsL_law_r19, w ∈ wsL_law := fun _ h => List.mem_append_left _ (List.mem_append_left _ (List.mem_append_left _ (List.mem_append_left _ (List.mem_append_left _ (List.mem_append_left _ (List.mem_append_left _ (List.mem_append_left _ (List.mem_append_left _ (List.mem_append_left _ (List.mem_append_left _ (List.mem_append_left _ (List.mem_append_right _ (List.mem_append_right _ (List.mem_append_right _ (List.mem_append_right _ (List.mem_append_right _ (List.mem_append_right _ (List.mem_append_right _ (List.mem_append_right _ (List.mem_append_right _ (List.mem_append_right _ (List.mem_append_right _ (List.mem_append_right _ (List.mem_append_right _ (List.mem_append_right _ (List.mem_append_right _ (List.mem_append_right _ (List.mem_append_right _ (List.mem_append_right _ (List.mem_append_left _ h))))))))))))))))))))))))))))))
set_option maxRecDepth 20000 in
theorem kin_20 : ∀ w ∈ wsL_law_r20, w ∈ wsL_law := fun _ h => List.mem_append_left _ (List.mem_append_left _ (List.mem_append_left _ (List.mem_append_left _ (List.mem_append_left _ (List.mem_append_left _ (List.mem_append_left _ (List.mem_append_left _ (List.mem_append_left _ (List.mem_append_left _ (List.mem_append_left _ (List.mem_append_left _ (List.mem_append_right _ (List.mem_append_right _ (List.mem_append_right _ (List.mem_append_right _ (List.mem_append_right _ (List.mem_append_right _ (List.mem_append_right _ (List.mem_append_right _ (List.mem_append_right _ (List.mem_append_right _ (List.mem_append_right _ (List.mem_append_right _ (List.mem_append_right _ (List.mem_append_right _ (List.mem_append_right _ (List.mem_append_right _ (List.mem_append_right _ (List.mem_append_right _ (List.mem_append_right _ (List.mem_append_left _ h)))))))))))))))))))))))))))))))
set_option maxRecDepth 20000 in
theorem kin_21 : ∀ w ∈ wsL_law_r21, w ∈ wsL_law := fun _ h => List.mem_append_left _ (List.mem_append_left _ (List.mem_append_left _ (List.mem_append_left _ (List.mem_append_left _ (List.mem_append_left _ (List.mem_append_left _ (List.mem_append_left _ (List.mem_append_left _ (List.mem_append_left _ (List.mem_append_left _ (List.mem_append_left _ (List.mem_append_right _ (List.mem_append_right _ (List.mem_append_right _ (List.mem_append_right _ (List.mem_append_right _ (List.mem_append_right _ (List.mem_append_right _ (List.mem_append_right _ (List.mem_append_right _ (List.mem_append_right _ (List.mem_append_right _ (List.mem_append_right _ (List.mem_append_right _ (List.mem_append_right _ (List.mem_append_right _ (List.mem_append_right _ (List.mem_append_right _ (List.mem_append_right _ (List.mem_append_right _ (List.mem_append_right _ (List.mem_append_left _ h))))))))))))))))))))))))))))))))
set_option maxRecDepth 20000 in
theorem kin_22 : ∀ w ∈ wsL_law_r22, w ∈ wsL_law := fun _ h => List.mem_append_left _ (List.mem_append_left _ (List.mem_append_left _ (List.mem_append_left _ (List.mem_append_left _ (List.mem_append_left _ (List.mem_append_left _ (List.mem_append_left _ (List.mem_append_left _ (List.mem_append_left _ (List.mem_append_left _ (List.mem_append_left _ (List.mem_append_right _ (List.mem_append_right _ (List.mem_append_right _ (List.mem_append_right _ (List.mem_append_right _ (List.mem_append_right _ (List.mem_append_right _ (List.mem_append_right _ (List.mem_append_right _ (List.mem_append_right _ (List.mem_append_right _ (List.mem_append_right _ (List.mem_append_right _ (List.mem_append_right _ (List.mem_append_right _ (List.mem_append_right _ (List.mem_append_right _ (List.mem_append_right _ (List.mem_append_right _ (List.mem_append_right _ (List.mem_append_right _ (List.mem_append_left _ h)))))))))))))))))))))))))))))))))
set_option maxRecDepth 20000 in
theorem kin_23 : ∀ w ∈ wsL_law_r23, w ∈ wsL_law := fun _ h => List.mem_append_left _ (List.mem_append_left _ (List.mem_append_left _ (List.mem_append_left _ (List.mem_append_left _ (List.mem_append_left _ (List.mem_append_left _ (List.mem_append_left _ (List.mem_append_left _ (List.mem_append_left _ (List.mem_append_left _ (List.mem_append_left _ (List.mem_append_right _ (List.mem_append_right _ (List.mem_append_right _ (List.mem_append_right _ (List.mem_append_right _ (List.mem_append_right _ (List.mem_append_right _ (List.mem_append_right _ (List.mem_append_right _ (List.mem_append_right _ (List.mem_append_right _ (List.mem_append_right _ (List.mem_append_right _ (List.mem_append_right _ (List.mem_append_right _ (List.mem_append_right _ (List.mem_append_right _ (List.mem_append_right _ (List.mem_append_right _ (List.mem_append_right _ (List.mem_append_right _ (List.mem_append_right _ (List.mem_append_left _ h))))))))))))))))))))))))))))))))))
set_option maxRecDepth 20000 in
theorem kin_24 : ∀ w ∈ wsL_law_r24, w ∈ wsL_law := fun _ h => List.mem_append_left _ (List.mem_append_left _ (List.mem_append_left _ (List.mem_append_left _ (List.mem_append_left _ (List.mem_append_left _ (List.mem_append_left _ (List.mem_append_left _ (List.mem_append_left _ (List.mem_append_left _ (List.mem_append_left _ (List.mem_append_left _ (List.mem_append_right _ (List.mem_append_right _ (List.mem_append_right _ (List.mem_append_right _ (List.mem_append_right _ (List.mem_append_right _ (List.mem_append_right _ (List.mem_append_right _ (List.mem_append_right _ (List.mem_append_right _ (List.mem_append_right _ (List.mem_append_right _ (List.mem_append_right _ (List.mem_append_right _ (List.mem_append_right _ (List.mem_append_right _ (List.mem_append_right _ (List.mem_append_right _ (List.mem_append_right _ (List.mem_append_right _ (List.mem_append_right _ (List.mem_append_right _ (List.mem_append_right _ (List.mem_append_left _ h)))))))))))))))))))))))))))))))))))
set_option maxRecDepth 20000 in
theorem kin_25 : ∀ w ∈ wsL_law_r25, w ∈ wsL_law := fun _ h => List.mem_append_left _ (List.mem_append_left _ (List.mem_append_left _ (List.mem_append_left _ (List.mem_append_left _ (List.mem_append_left _ (List.mem_append_left _ (List.mem_append_left _ (List.mem_append_left _ (List.mem_append_left _ (List.mem_append_left _ (List.mem_append_left _ (List.mem_append_right _ (List.mem_append_right _ (List.mem_append_right _ (List.mem_append_right _ (List.mem_append_right _ (List.mem_append_right _ (List.mem_append_right _ (List.mem_append_right _ (List.mem_append_right _ (List.mem_append_right _ (List.mem_append_right _ (List.mem_append_right _ (List.mem_append_right _ (List.mem_append_right _ (List.mem_append_right _ (List.mem_append_right _ (List.mem_append_right _ (List.mem_append_right _ (List.mem_append_right _ (List.mem_append_right _ (List.mem_append_right _ (List.mem_append_right _ (List.mem_append_right _ (List.mem_append_right _ (List.mem_append_left _ h))))))))))))))))))))))))))))))))))))
set_option maxRecDepth 20000 in
theorem kin_26 : ∀ w ∈ wsL_law_r26, w ∈ wsL_law := fun _ h => List.mem_append_left _ (List.mem_append_left _ (List.mem_append_left _ (List.mem_append_left _ (List.mem_append_left _ (List.mem_append_left _ (List.mem_append_left _ (List.mem_append_left _ (List.mem_append_left _ (List.mem_append_left _ (List.mem_append_left _ (List.mem_append_left _ (List.mem_append_right _ (List.mem_append_right _ (List.mem_append_right _ (List.mem_append_right _ (List.mem_append_right _ (List.mem_append_right _ (List.mem_append_right _ (List.mem_append_right _ (List.mem_append_right _ (List.mem_append_right _ (List.mem_append_right _ (List.mem_append_right _ (List.mem_append_right _ (List.mem_append_right _ (List.mem_append_right _ (List.mem_append_right _ (List.mem_append_right _ (List.mem_append_right _ (List.mem_append_right _ (List.mem_append_right _ (List.mem_append_right _ (List.mem_append_right _ (List.mem_append_right _ (List.mem_append_right _ (List.mem_append_right _ (List.mem_append_left _ h)))))))))))))))))))))))))))))))))))))
set_option maxRecDepth 20000 in
theorem kin_27 : ∀ w ∈ wsL_law_r27, w ∈ wsL_law := fun _ h => List.mem_append_left _ (List.mem_append_left _ (List.mem_append_left _ (List.mem_append_left _ (List.mem_append_left _ (List.mem_append_left _ (List.mem_append_left _ (List.mem_append_left _ (List.mem_append_left _ (List.mem_append_left _ (List.mem_append_left _ (List.mem_append_left _ (List.mem_append_right _ (List.mem_append_right _ (List.mem_append_right _ (List.mem_append_right _ (List.mem_append_right _ (List.mem_append_right _ (List.mem_append_right _ (List.mem_append_right _ (List.mem_append_right _ (List.mem_append_right _ (List.mem_append_right _ (List.mem_append_right _ (List.mem_append_right _ (List.mem_append_right _ (List.mem_append_right _ (List.mem_append_right _ (List.mem_append_right _ (List.mem_append_right _ (List.mem_append_right _ (List.mem_append_right _ (List.mem_append_right _ (List.mem_append_right _ (List.mem_append_right _ (List.mem_append_right _ (List.mem_append_right _ (List.mem_append_right _ (List.mem_append_left _ h))))))))))))))))))))))))))))))))))))))
set_option maxRecDepth 20000 in
theorem kin_28 : ∀ w ∈ wsL_law_r28, w ∈ wsL_law := fun _ h => List.mem_append_left _ (List.mem_append_left _ (List.mem_append_left _ (List.mem_append_left _ (List.mem_append_left _ (List.mem_append_left _ (List.mem_append_left _ (List.mem_append_left _ (List.mem_append_left _ (List.mem_append_left _ (List.mem_append_left _ (List.mem_append_left _ (List.mem_append_right _ (List.mem_append_right _ (List.mem_append_right _ (List.mem_append_right _ (List.mem_append_right _ (List.mem_append_right _ (List.mem_append_right _ (List.mem_append_right _ (List.mem_append_right _ (List.mem_append_right _ (List.mem_append_right _ (List.mem_append_right _ (List.mem_append_right _ (List.mem_append_right _ (List.mem_append_right _ (List.mem_append_right _ (List.mem_append_right _ (List.mem_append_right _ (List.mem_append_right _ (List.mem_append_right _ (List.mem_append_right _ (List.mem_append_right _ (List.mem_append_right _ (List.mem_append_right _ (List.mem_append_right _ (List.mem_append_right _ (List.mem_append_right _ (List.mem_append_left _ h)))))))))))))))))))))))))))))))))))))))
set_option maxRecDepth 20000 in
theorem kin_29 : ∀ w ∈ wsL_law_r29, w ∈ wsL_law := fun _ h => List.mem_append_left _ (List.mem_append_left _ (List.mem_append_left _ (List.mem_append_left _ (List.mem_append_left _ (List.mem_append_left _ (List.mem_append_left _ (List.mem_append_left _ (List.mem_append_left _ (List.mem_append_left _ (List.mem_append_left _ (List.mem_append_left _ (List.mem_append_right _ (List.mem_append_right _ (List.mem_append_right _ (List.mem_append_right _ (List.mem_append_right _ (List.mem_append_right _ (List.mem_append_right _ (List.mem_append_right _ (List.mem_append_right _ (List.mem_append_right _ (List.mem_append_right _ (List.mem_append_right _ (List.mem_append_right _ (List.mem_append_right _ (List.mem_append_right _ (List.mem_append_right _ (List.mem_append_right _ (List.mem_append_right _ (List.mem_append_right _ (List.mem_append_right _ (List.mem_append_right _ (List.mem_append_right _ (List.mem_append_right _ (List.mem_append_right _ (List.mem_append_right _ (List.mem_append_right _ (List.mem_append_right _ (List.mem_append_right _ (List.mem_append_left _ h))))))))))))))))))))))))))))))))))))))))
set_option maxRecDepth 20000 in
theorem kin_30 : ∀ w ∈ wsL_law_r30, w ∈ wsL_law := fun _ h => List.mem_append_left _ (List.mem_append_left _ (List.mem_append_left _ (List.mem_append_left _ (List.mem_append_left _ (List.mem_append_left _ (List.mem_append_left _ (List.mem_append_left _ (List.mem_append_left _ (List.mem_append_left _ (List.mem_append_left _ (List.mem_append_left _ (List.mem_append_right _ (List.mem_append_right _ (List.mem_append_right _ (List.mem_append_right _ (List.mem_append_right _ (List.mem_append_right _ (List.mem_append_right _ (List.mem_append_right _ (List.mem_append_right _ (List.mem_append_right _ (List.mem_append_right _ (List.mem_append_right _ (List.mem_append_right _ (List.mem_append_right _ (List.mem_append_right _ (List.mem_append_right _ (List.mem_append_right _ (List.mem_append_right _ (List.mem_append_right _ (List.mem_append_right _ (List.mem_append_right _ (List.mem_append_right _ (List.mem_append_right _ (List.mem_append_right _ (List.mem_append_right _ (List.mem_append_right _ (List.mem_append_right _ (List.mem_append_right _ (List.mem_append_right _ (List.mem_append_left _ h)))))))))))))))))))))))))))))))))))))))))
set_option maxRecDepth 20000 in
theorem kin_31 : ∀ w ∈ wsL_law_r31, w ∈ wsL_law := fun _ h => List.mem_append_left _ (List.mem_append_left _ (List.mem_append_left _ (List.mem_append_left _ (List.mem_append_left _ (List.mem_append_left _ (List.mem_append_left _ (List.mem_append_left _ (List.mem_append_left _ (List.mem_append_left _ (List.mem_append_left _ (List.mem_append_left _ (List.mem_append_right _ (List.mem_append_right _ (List.mem_append_right _ (List.mem_append_right _ (List.mem_append_right _ (List.mem_append_right _ (List.mem_append_right _ (List.mem_append_right _ (List.mem_append_right _ (List.mem_append_right _ (List.mem_append_right _ (List.mem_append_right _ (List.mem_append_right _ (List.mem_append_right _ (List.mem_append_right _ (List.mem_append_right _ (List.mem_append_right _ (List.mem_append_right _ (List.mem_append_right _ (List.mem_append_right _ (List.mem_append_right _ (List.mem_append_right _ (List.mem_append_right _ (List.mem_append_right _ (List.mem_append_right _ (List.mem_append_right _ (List.mem_append_right _ (List.mem_append_right _ (List.mem_append_right _ (List.mem_append_right _ (List.mem_append_left _ h))))))))))))))))))))))))))))))))))))))))))
set_option maxRecDepth 20000 in
theorem kin_32 : ∀ w ∈ wsL_law_r32, w ∈ wsL_law := fun _ h => List.mem_append_left _ (List.mem_append_left _ (List.mem_append_left _ (List.mem_append_left _ (List.mem_append_left _ (List.mem_append_left _ (List.mem_append_left _ (List.mem_append_left _ (List.mem_append_left _ (List.mem_append_left _ (List.mem_append_left _ (List.mem_append_left _ (List.mem_append_right _ (List.mem_append_right _ (List.mem_append_right _ (List.mem_append_right _ (List.mem_append_right _ (List.mem_append_right _ (List.mem_append_right _ (List.mem_append_right _ (List.mem_append_right _ (List.mem_append_right _ (List.mem_append_right _ (List.mem_append_right _ (List.mem_append_right _ (List.mem_append_right _ (List.mem_append_right _ (List.mem_append_right _ (List.mem_append_right _ (List.mem_append_right _ (List.mem_append_right _ (List.mem_append_right _ (List.mem_append_right _ (List.mem_append_right _ (List.mem_append_right _ (List.mem_append_right _ (List.mem_append_right _ (List.mem_append_right _ (List.mem_append_right _ (List.mem_append_right _ (List.mem_append_right _ (List.mem_append_right _ (List.mem_append_right _ (List.mem_append_left _ h)))))))))))))))))))))))))))))))))))))))))))
set_option maxRecDepth 20000 in
theorem kin_33 : ∀ w ∈ wsL_law_r33, w ∈ wsL_law := fun _ h => List.mem_append_left _ (List.mem_append_left _ (List.mem_append_left _ (List.mem_append_left _ (List.mem_append_left _ (List.mem_append_left _ (List.mem_append_left _ (List.mem_append_left _ (List.mem_append_left _ (List.mem_append_left _ (List.mem_append_left _ (List.mem_append_left _ (List.mem_append_right _ (List.mem_append_right _ (List.mem_append_right _ (List.mem_append_right _ (List.mem_append_right _ (List.mem_append_right _ (List.mem_append_right _ (List.mem_append_right _ (List.mem_append_right _ (List.mem_append_right _ (List.mem_append_right _ (List.mem_append_right _ (List.mem_append_right _ (List.mem_append_right _ (List.mem_append_right _ (List.mem_append_right _ (List.mem_append_right _ (List.mem_append_right _ (List.mem_append_right _ (List.mem_append_right _ (List.mem_append_right _ (List.mem_append_right _ (List.mem_append_right _ (List.mem_append_right _ (List.mem_append_right _ (List.mem_append_right _ (List.mem_append_right _ (List.mem_append_right _ (List.mem_append_right _ (List.mem_append_right _ (List.mem_append_right _ (List.mem_append_right _ (List.mem_append_left _ h))))))))))))))))))))))))))))))))))))))))))))
set_option maxRecDepth 20000 in
theorem kin_34 : ∀ w ∈ wsL_law_r34, w ∈ wsL_law := fun _ h => List.mem_append_left _ (List.mem_append_left _ (List.mem_append_left _ (List.mem_append_left _ (List.mem_append_left _ (List.mem_append_left _ (List.mem_append_left _ (List.mem_append_left _ (List.mem_append_left _ (List.mem_append_left _ (List.mem_append_left _ (List.mem_append_left _ (List.mem_append_right _ (List.mem_append_right _ (List.mem_append_right _ (List.mem_append_right _ (List.mem_append_right _ (List.mem_append_right _ (List.mem_append_right _ (List.mem_append_right _ (List.mem_append_right _ (List.mem_append_right _ (List.mem_append_right _ (List.mem_append_right _ (List.mem_append_right _ (List.mem_append_right _ (List.mem_append_right _ (List.mem_append_right _ (List.mem_append_right _ (List.mem_append_right _ (List.mem_append_right _ (List.mem_append_right _ (List.mem_append_right _ (List.mem_append_right _ (List.mem_append_right _ (List.mem_append_right _ (List.mem_append_right _ (List.mem_append_right _ (List.mem_append_right _ (List.mem_append_right _ (List.mem_append_right _ (List.mem_append_right _ (List.mem_append_right _ (List.mem_append_right _ (List.mem_append_right _ (List.mem_append_left _ h)))))))))))))))))))))))))))))))))))))))))))))
set_option maxRecDepth 20000 in
theorem kin_35 : ∀ w ∈ wsL_law_r35, w ∈ wsL_law := fun _ h => List.mem_append_left _ (List.mem_append_left _ (List.mem_append_left _ (List.mem_append_left _ (List.mem_append_left _ (List.mem_append_left _ (List.mem_append_left _ (List.mem_append_left _ (List.mem_append_left _ (List.mem_append_left _ (List.mem_append_left _ (List.mem_append_left _ (List.mem_append_right _ (List.mem_append_right _ (List.mem_append_right _ (List.mem_append_right _ (List.mem_append_right _ (List.mem_append_right _ (List.mem_append_right _ (List.mem_append_right _ (List.mem_append_right _ (List.mem_append_right _ (List.mem_append_right _ (List.mem_append_right _ (List.mem_append_right _ (List.mem_append_right _ (List.mem_append_right _ (List.mem_append_right _ (List.mem_append_right _ (List.mem_append_right _ (List.mem_append_right _ (List.mem_append_right _ (List.mem_append_right _ (List.mem_append_right _ (List.mem_append_right _ (List.mem_append_right _ (List.mem_append_right _ (List.mem_append_right _ (List.mem_append_right _ (List.mem_append_right _ (List.mem_append_right _ (List.mem_append_right _ (List.mem_append_right _ (List.mem_append_right _ (List.mem_append_right _ (List.mem_append_right _ (List.mem_append_left _ h))))))))))))))))))))))))))))))))))))))))))))))
set_option maxRecDepth 20000 in
theorem kin_36 : ∀ w ∈ wsL_law_r36, w ∈ wsL_law := fun _ h => List.mem_append_left _ (List.mem_append_left _ (List.mem_append_left _ (List.mem_append_left _ (List.mem_append_left _ (List.mem_append_left _ (List.mem_append_left _ (List.mem_append_left _ (List.mem_append_left _ (List.mem_append_left _ (List.mem_append_left _ (List.mem_append_left _ (List.mem_append_right _ (List.mem_append_right _ (List.mem_append_right _ (List.mem_append_right _ (List.mem_append_right _ (List.mem_append_right _ (List.mem_append_right _ (List.mem_append_right _ (List.mem_append_right _ (List.mem_append_right _ (List.mem_append_right _ (List.mem_append_right _ (List.mem_append_right _ (List.mem_append_right _ (List.mem_append_right _ (List.mem_append_right _ (List.mem_append_right _ (List.mem_append_right _ (List.mem_append_right _ (List.mem_append_right _ (List.mem_append_right _ (List.mem_append_right _ (List.mem_append_right _ (List.mem_append_right _ (List.mem_append_right _ (List.mem_append_right _ (List.mem_append_right _ (List.mem_append_right _ (List.mem_append_right _ (List.mem_append_right _ (List.mem_append_right _ (List.mem_append_right _ (List.mem_append_right _ (List.mem_append_right _ (List.mem_append_right _ (List.mem_append_left _ h)))))))))))))))))))))))))))))))))))))))))))))))
set_option maxRecDepth 20000 in
theorem kin_37 : ∀ w ∈ wsL_law_r37, w ∈ wsL_law := fun _ h => List.mem_append_left _ (List.mem_append_left _ (List.mem_append_left _ (List.mem_append_left _ (List.mem_append_left _ (List.mem_append_left _ (List.mem_append_left _ (List.mem_append_left _ (List.mem_append_left _ (List.mem_append_left _ (List.mem_append_left _ (List.mem_append_left _ (List.mem_append_right _ (List.mem_append_right _ (List.mem_append_right _ (List.mem_append_right _ (List.mem_append_right _ (List.mem_append_right _ (List.mem_append_right _ (List.mem_append_right _ (List.mem_append_right _ (List.mem_append_right _ (List.mem_append_right _ (List.mem_append_right _ (List.mem_append_right _ (List.mem_append_right _ (List.mem_append_right _ (List.mem_append_right _ (List.mem_append_right _ (List.mem_append_right _ (List.mem_append_right _ (List.mem_append_right _ (List.mem_append_right _ (List.mem_append_right _ (List.mem_append_right _ (List.mem_append_right _ (List.mem_append_right _ (List.mem_append_right _ (List.mem_append_right _ (List.mem_append_right _ (List.mem_append_right _ (List.mem_append_right _ (List.mem_append_right _ (List.mem_append_right _ (List.mem_append_right _ (List.mem_append_right _ (List.mem_append_right _ (List.mem_append_right _ (List.mem_append_left _ h))))))))))))))))))))))))))))))))))))))))))))))))
set_option maxRecDepth 20000 in
theorem kin_38 : ∀ w ∈ wsL_law_r38, w ∈ wsL_law := fun _ h => List.mem_append_left _ (List.mem_append_left _ (List.mem_append_left _ (List.mem_append_left _ (List.mem_append_left _ (List.mem_append_left _ (List.mem_append_left _ (List.mem_append_left _ (List.mem_append_left _ (List.mem_append_left _ (List.mem_append_left _ (List.mem_append_left _ (List.mem_append_right _ (List.mem_append_right _ (List.mem_append_right _ (List.mem_append_right _ (List.mem_append_right _ (List.mem_append_right _ (List.mem_append_right _ (List.mem_append_right _ (List.mem_append_right _ (List.mem_append_right _ (List.mem_append_right _ (List.mem_append_right _ (List.mem_append_right _ (List.mem_append_right _ (List.mem_append_right _ (List.mem_append_right _ (List.mem_append_right _ (List.mem_append_right _ (List.mem_append_right _ (List.mem_append_right _ (List.mem_append_right _ (List.mem_append_right _ (List.mem_append_right _ (List.mem_append_right _ (List.mem_append_right _ (List.mem_append_right _ (List.mem_append_right _ (List.mem_append_right _ (List.mem_append_right _ (List.mem_append_right _ (List.mem_append_right _ (List.mem_append_right _ (List.mem_append_right _ (List.mem_append_right _ (List.mem_append_right _ (List.mem_append_right _ (List.mem_append_right _ (List.mem_append_left _ h)))))))))))))))))))))))))))))))))))))))))))))))))
set_option maxRecDepth 20000 in
theorem kin_39 : ∀ w ∈ wsL_law_r39, w ∈ wsL_law := fun _ h => List.mem_append_left _ (List.mem_append_left _ (List.mem_append_left _ (List.mem_append_left _ (List.mem_append_left _ (List.mem_append_left _ (List.mem_append_left _ (List.mem_append_left _ (List.mem_append_left _ (List.mem_append_left _ (List.mem_append_left _ (List.mem_append_left _ (List.mem_append_right _ (List.mem_append_right _ (List.mem_append_right _ (List.mem_append_right _ (List.mem_append_right _ (List.mem_append_right _ (List.mem_append_right _ (List.mem_append_right _ (List.mem_append_right _ (List.mem_append_right _ (List.mem_append_right _ (List.mem_append_right _ (List.mem_append_right _ (List.mem_append_right _ (List.mem_append_right _ (List.mem_append_right _ (List.mem_append_right _ (List.mem_append_right _ (List.mem_append_right _ (List.mem_append_right _ (List.mem_append_right _ (List.mem_append_right _ (List.mem_append_right _ (List.mem_append_right _ (List.mem_append_right _ (List.mem_append_right _ (List.mem_append_right _ (List.mem_append_right _ (List.mem_append_right _ (List.mem_append_right _ (List.mem_append_right _ (List.mem_append_right _ (List.mem_append_right _ (List.mem_append_right _ (List.mem_append_right _ (List.mem_append_right _ (List.mem_append_right _ (List.mem_append_right _ (List.mem_append_left _ h))))))))))))))))))))))))))))))))))))))))))))))))))
set_option maxRecDepth 20000 in
theorem kin_40 : ∀ w ∈ wsL_law_r40, w ∈ wsL_law := fun _ h => List.mem_append_left _ (List.mem_append_left _ (List.mem_append_left _ (List.mem_append_left _ (List.mem_append_left _ (List.mem_append_left _ (List.mem_append_left _ (List.mem_append_left _ (List.mem_append_left _ (List.mem_append_left _ (List.mem_append_left _ (List.mem_append_left _ (List.mem_append_right _ (List.mem_append_right _ (List.mem_append_right _ (List.mem_append_right _ (List.mem_append_right _ (List.mem_append_right _ (List.mem_append_right _ (List.mem_append_right _ (List.mem_append_right _ (List.mem_append_right _ (List.mem_append_right _ (List.mem_append_right _ (List.mem_append_right _ (List.mem_append_right _ (List.mem_append_right _ (List.mem_append_right _ (List.mem_append_right _ (List.mem_append_right _ (List.mem_append_right _ (List.mem_append_right _ (List.mem_append_right _ (List.mem_append_right _ (List.mem_append_right _ (List.mem_append_right _ (List.mem_append_right _ (List.mem_append_right _ (List.mem_append_right _ (List.mem_append_right _ (List.mem_append_right _ (List.mem_append_right _ (List.mem_append_right _ (List.mem_append_right _ (List.mem_append_right _ (List.mem_append_right _ (List.mem_append_right _ (List.mem_append_right _ (List.mem_append_right _ (List.mem_append_right _ (List.mem_append_right _ (List.mem_append_left _ h)))))))))))))))))))))))))))))))))))))))))))))))))))
set_option maxRecDepth 20000 in
theorem kin_41 : ∀ w ∈ wsL_law_r41, w ∈ wsL_law := fun _ h => List.mem_append_left _ (List.mem_append_left _ (List.mem_append_left _ (List.mem_append_left _ (List.mem_append_left _ (List.mem_append_left _ (List.mem_append_left _ (List.mem_append_left _ (List.mem_append_left _ (List.mem_append_left _ (List.mem_append_left _ (List.mem_append_left _ (List.mem_append_right _ (List.mem_append_right _ (List.mem_append_right _ (List.mem_append_right _ (List.mem_append_right _ (List.mem_append_right _ (List.mem_append_right _ (List.mem_append_right _ (List.mem_append_right _ (List.mem_append_right _ (List.mem_append_right _ (List.mem_append_right _ (List.mem_append_right _ (List.mem_append_right _ (List.mem_append_right _ (List.mem_append_right _ (List.mem_append_right _ (List.mem_append_right _ (List.mem_append_right _ (List.mem_append_right _ (List.mem_append_right _ (List.mem_append_right _ (List.mem_append_right _ (List.mem_append_right _ (List.mem_append_right _ (List.mem_append_right _ (List.mem_append_right _ (List.mem_append_right _ (List.mem_append_right _ (List.mem_append_right _ (List.mem_append_right _ (List.mem_append_right _ (List.mem_append_right _ (List.mem_append_right _ (List.mem_append_right _ (List.mem_append_right _ (List.mem_append_right _ (List.mem_append_right _ (List.mem_append_right _ (List.mem_append_right _ (List.mem_append_left _ h))))))))))))))))))))))))))))))))))))))))))))))))))))
set_option maxRecDepth 20000 in
theorem kin_42 : ∀ w ∈ wsL_law_r42, w ∈ wsL_law := fun _ h => List.mem_append_left _ (List.mem_append_left _ (List.mem_append_left _ (List.mem_append_left _ (List.mem_append_left _ (List.mem_append_left _ (List.mem_append_left _ (List.mem_append_left _ (List.mem_append_left _ (List.mem_append_left _ (List.mem_append_left _ (List.mem_append_left _ (List.mem_append_right _ (List.mem_append_right _ (List.mem_append_right _ (List.mem_append_right _ (List.mem_append_right _ (List.mem_append_right _ (List.mem_append_right _ (List.mem_append_right _ (List.mem_append_right _ (List.mem_append_right _ (List.mem_append_right _ (List.mem_append_right _ (List.mem_append_right _ (List.mem_append_right _ (List.mem_append_right _ (List.mem_append_right _ (List.mem_append_right _ (List.mem_append_right _ (List.mem_append_right _ (List.mem_append_right _ (List.mem_append_right _ (List.mem_append_right _ (List.mem_append_right _ (List.mem_append_right _ (List.mem_append_right _ (List.mem_append_right _ (List.mem_append_right _ (List.mem_append_right _ (List.mem_append_right _ (List.mem_append_right _ (List.mem_append_right _ (List.mem_append_right _ (List.mem_append_right _ (List.mem_append_right _ (List.mem_append_right _ (List.mem_append_right _ (List.mem_append_right _ (List.mem_append_right _ (List.mem_append_right _ (List.mem_append_right _ (List.mem_append_right _ (List.mem_append_left _ h)))))))))))))))))))))))))))))))))))))))))))))))))))))
set_option maxRecDepth 20000 in
theorem kin_43 : ∀ w ∈ wsL_law_r43, w ∈ wsL_law := fun _ h => List.mem_append_left _ (List.mem_append_left _ (List.mem_append_left _ (List.mem_append_left _ (List.mem_append_left _ (List.mem_append_left _ (List.mem_append_left _ (List.mem_append_left _ (List.mem_append_left _ (List.mem_append_left _ (List.mem_append_left _ (List.mem_append_left _ (List.mem_append_right _ (List.mem_append_right _ (List.mem_append_right _ (List.mem_append_right _ (List.mem_append_right _ (List.mem_append_right _ (List.mem_append_right _ (List.mem_append_right _ (List.mem_append_right _ (List.mem_append_right _ (List.mem_append_right _ (List.mem_append_right _ (List.mem_append_right _ (List.mem_append_right _ (List.mem_append_right _ (List.mem_append_right _ (List.mem_append_right _ (List.mem_append_right _ (List.mem_append_right _ (List.mem_append_right _ (List.mem_append_right _ (List.mem_append_right _ (List.mem_append_right _ (List.mem_append_right _ (List.mem_append_right _ (List.mem_append_right _ (List.mem_append_right _ (List.mem_append_right _ (List.mem_append_right _ (List.mem_append_right _ (List.mem_append_right _ (List.mem_append_right _ (List.mem_append_right _ (List.mem_append_right _ (List.mem_append_right _ (List.mem_append_right _ (List.mem_append_right _ (List.mem_append_right _ (List.mem_append_right _ (List.mem_append_right _ (List.mem_append_right _ (List.mem_append_right _ (List.mem_append_left _ h))))))))))))))))))))))))))))))))))))))))))))))))))))))
set_option maxRecDepth 20000 in
theorem kin_44 : ∀ w ∈ wsL_law_r44, w ∈ wsL_law := fun _ h => List.mem_append_left _ (List.mem_append_left _ (List.mem_append_left _ (List.mem_append_left _ (List.mem_append_left _ (List.mem_append_left _ (List.mem_append_left _ (List.mem_append_left _ (List.mem_append_left _ (List.mem_append_left _ (List.mem_append_left _ (List.mem_append_left _ (List.mem_append_right _ (List.mem_append_right _ (List.mem_append_right _ (List.mem_append_right _ (List.mem_append_right _ (List.mem_append_right _ (List.mem_append_right _ (List.mem_append_right _ (List.mem_append_right _ (List.mem_append_right _ (List.mem_append_right _ (List.mem_append_right _ (List.mem_append_right _ (List.mem_append_right _ (List.mem_append_right _ (List.mem_append_right _ (List.mem_append_right _ (List.mem_append_right _ (List.mem_append_right _ (List.mem_append_right _ (List.mem_append_right _ (List.mem_append_right _ (List.mem_append_right _ (List.mem_append_right _ (List.mem_append_right _ (List.mem_append_right _ (List.mem_append_right _ (List.mem_append_right _ (List.mem_append_right _ (List.mem_append_right _ (List.mem_append_right _ (List.mem_append_right _ (List.mem_append_right _ (List.mem_append_right _ (List.mem_append_right _ (List.mem_append_right _ (List.mem_append_right _ (List.mem_append_right _ (List.mem_append_right _ (List.mem_append_right _ (List.mem_append_right _ (List.mem_append_right _ (List.mem_append_right _ (List.mem_append_left _ h)))))))))))))))))))))))))))))))))))))))))))))))))))))))
set_option maxRecDepth 20000 in
theorem kin_45 : ∀ w ∈ wsL_law_r45, w ∈ wsL_law := fun _ h => List.mem_append_left _ (List.mem_append_left _ (List.mem_append_left _ (List.mem_append_left _ (List.mem_append_left _ (List.mem_append_left _ (List.mem_append_left _ (List.mem_append_left _ (List.mem_append_left _ (List.mem_append_left _ (List.mem_append_left _ (List.mem_append_left _ (List.mem_append_right _ (List.mem_append_right _ (List.mem_append_right _ (List.mem_append_right _ (List.mem_append_right _ (List.mem_append_right _ (List.mem_append_right _ (List.mem_append_right _ (List.mem_append_right _ (List.mem_append_right _ (List.mem_append_right _ (List.mem_append_right _ (List.mem_append_right _ (List.mem_append_right _ (List.mem_append_right _ (List.mem_append_right _ (List.mem_append_right _ (List.mem_append_right _ (List.mem_append_right _ (List.mem_append_right _ (List.mem_append_right _ (List.mem_append_right _ (List.mem_append_right _ (List.mem_append_right _ (List.mem_append_right _ (List.mem_append_right _ (List.mem_append_right _ (List.mem_append_right _ (List.mem_append_right _ (List.mem_append_right _ (List.mem_append_right _ (List.mem_append_right _ (List.mem_append_right _ (List.mem_append_right _ (List.mem_append_right _ (List.mem_append_right _ (List.mem_append_right _ (List.mem_append_right _ (List.mem_append_right _ (List.mem_append_right _ (List.mem_append_right _ (List.mem_append_right _ (List.mem_append_right _ (List.mem_append_right _ (List.mem_append_left _ h))))))))))))))))))))))))))))))))))))))))))))))))))))))))
set_option maxRecDepth 20000 in
theorem kin_46 : ∀ w ∈ wsL_law_r46, w ∈ wsL_law := fun _ h => List.mem_append_left _ (List.mem_append_left _ (List.mem_append_left _ (List.mem_append_left _ (List.mem_append_left _ (List.mem_append_left _ (List.mem_append_left _ (List.mem_append_left _ (List.mem_append_left _ (List.mem_append_left _ (List.mem_append_left _ (List.mem_append_left _ (List.mem_append_right _ (List.mem_append_right _ (List.mem_append_right _ (List.mem_append_right _ (List.mem_append_right _ (List.mem_append_right _ (List.mem_append_right _ (List.mem_append_right _ (List.mem_append_right _ (List.mem_append_right _ (List.mem_append_right _ (List.mem_append_right _ (List.mem_append_right _ (List.mem_append_right _ (List.mem_append_right _ (List.mem_append_right _ (List.mem_append_right _ (List.mem_append_right _ (List.mem_append_right _ (List.mem_append_right _ (List.mem_append_right _ (List.mem_append_right _ (List.mem_append_right _ (List.mem_append_right _ (List.mem_append_right _ (List.mem_append_right _ (List.mem_append_right _ (List.mem_append_right _ (List.mem_append_right _ (List.mem_append_right _ (List.mem_append_right _ (List.mem_append_right _ (List.mem_append_right _ (List.mem_append_right _ (List.mem_append_right _ (List.mem_append_right _ (List.mem_append_right _ (List.mem_append_right _ (List.mem_append_right _ (List.mem_append_right _ (List.mem_append_right _ (List.mem_append_right _ (List.mem_append_right _ (List.mem_append_right _ (List.mem_append_right _ (List.mem_append_left _ h)))))))))))))))))))))))))))))))))))))))))))))))))))))))))
set_option maxRecDepth 20000 in
theorem kin_47 : ∀ w ∈ wsL_law_r47, w ∈ wsL_law := fun _ h => List.mem_append_left _ (List.mem_append_left _ (List.mem_append_left _ (List.mem_append_left _ (List.mem_append_left _ (List.mem_append_left _ (List.mem_append_left _ (List.mem_append_left _ (List.mem_append_left _ (List.mem_append_left _ (List.mem_append_left _ (List.mem_append_left _ (List.mem_append_right _ (List.mem_append_right _ (List.mem_append_right _ (List.mem_append_right _ (List.mem_append_right _ (List.mem_append_right _ (List.mem_append_right _ (List.mem_append_right _ (List.mem_append_right _ (List.mem_append_right _ (List.mem_append_right _ (List.mem_append_right _ (List.mem_append_right _ (List.mem_append_right _ (List.mem_append_right _ (List.mem_append_right _ (List.mem_append_right _ (List.mem_append_right _ (List.mem_append_right _ (List.mem_append_right _ (List.mem_append_right _ (List.mem_append_right _ (List.mem_append_right _ (List.mem_append_right _ (List.mem_append_right _ (List.mem_append_right _ (List.mem_append_right _ (List.mem_append_right _ (List.mem_append_right _ (List.mem_append_right _ (List.mem_append_right _ (List.mem_append_right _ (List.mem_append_right _ (List.mem_append_right _ (List.mem_append_right _ (List.mem_append_right _ (List.mem_append_right _ (List.mem_append_right _ (List.mem_append_right _ (List.mem_append_right _ (List.mem_append_right _ (List.mem_append_right _ (List.mem_append_right _ (List.mem_append_right _ (List.mem_append_right _ (List.mem_append_right _ (List.mem_append_left _ h))))))))))))))))))))))))))))))))))))))))))))))))))))))))))
set_option maxRecDepth 20000 in
theorem kin_48 : ∀ w ∈ wsL_law_r48, w ∈ wsL_law := fun _ h => List.mem_append_left _ (List.mem_append_left _ (List.mem_append_left _ (List.mem_append_left _ (List.mem_append_left _ (List.mem_append_left _ (List.mem_append_left _ (List.mem_append_left _ (List.mem_append_left _ (List.mem_append_left _ (List.mem_append_left _ (List.mem_append_left _ (List.mem_append_right _ (List.mem_append_right _ (List.mem_append_right _ (List.mem_append_right _ (List.mem_append_right _ (List.mem_append_right _ (List.mem_append_right _ (List.mem_append_right _ (List.mem_append_right _ (List.mem_append_right _ (List.mem_append_right _ (List.mem_append_right _ (List.mem_append_right _ (List.mem_append_right _ (List.mem_append_right _ (List.mem_append_right _ (List.mem_append_right _ (List.mem_append_right _ (List.mem_append_right _ (List.mem_append_right _ (List.mem_append_right _ (List.mem_append_right _ (List.mem_append_right _ (List.mem_append_right _ (List.mem_append_right _ (List.mem_append_right _ (List.mem_append_right _ (List.mem_append_right _ (List.mem_append_right _ (List.mem_append_right _ (List.mem_append_right _ (List.mem_append_right _ (List.mem_append_right _ (List.mem_append_right _ (List.mem_append_right _ (List.mem_append_right _ (List.mem_append_right _ (List.mem_append_right _ (List.mem_append_right _ (List.mem_append_right _ (List.mem_append_right _ (List.mem_append_right _ (List.mem_append_right _ (List.mem_append_right _ (List.mem_append_right _ (List.mem_append_right _ (List.mem_append_right _ (List.mem_append_left _ h)))))))))))))))))))))))))))))))))))))))))))))))))))))))))))
set_option maxRecDepth 20000 in
theorem kin_49 : ∀ w ∈ wsL_law_r49, w ∈ wsL_law := fun _ h => List.mem_append_left _ (List.mem_append_left _ (List.mem_append_left _ (List.mem_append_left _ (List.mem_append_left _ (List.mem_append_left _ (List.mem_append_left _ (List.mem_append_left _ (List.mem_append_left _ (List.mem_append_left _ (List.mem_append_left _ (List.mem_append_left _ (List.mem_append_right _ (List.mem_append_right _ (List.mem_append_right _ (List.mem_append_right _ (List.mem_append_right _ (List.mem_append_right _ (List.mem_append_right _ (List.mem_append_right _ (List.mem_append_right _ (List.mem_append_right _ (List.mem_append_right _ (List.mem_append_right _ (List.mem_append_right _ (List.mem_append_right _ (List.mem_append_right _ (List.mem_append_right _ (List.mem_append_right _ (List.mem_append_right _ (List.mem_append_right _ (List.mem_append_right _ (List.mem_append_right _ (List.mem_append_right _ (List.mem_append_right _ (List.mem_append_right _ (List.mem_append_right _ (List.mem_append_right _ (List.mem_append_right _ (List.mem_append_right _ (List.mem_append_right _ (List.mem_append_right _ (List.mem_append_right _ (List.mem_append_right _ (List.mem_append_right _ (List.mem_append_right _ (List.mem_append_right _ (List.mem_append_right _ (List.mem_append_right _ (List.mem_append_right _ (List.mem_append_right _ (List.mem_append_right _ (List.mem_append_right _ (List.mem_append_right _ (List.mem_append_right _ (List.mem_append_right _ (List.mem_append_right _ (List.mem_append_right _ (List.mem_append_right _ (List.mem_append_right _ (List.mem_append_left _ h))))))))))))))))))))))))))))))))))))))))))))))))))))))))))))
set_option maxRecDepth 20000 in
theorem kin_50 : ∀ w ∈ wsL_law_r50, w ∈ wsL_law := fun _ h => List.mem_append_left _ (List.mem_append_left _ (List.mem_append_left _ (List.mem_append_left _ (List.mem_append_left _ (List.mem_append_left _ (List.mem_append_left _ (List.mem_append_left _ (List.mem_append_left _ (List.mem_append_left _ (List.mem_append_left _ (List.mem_append_left _ (List.mem_append_right _ (List.mem_append_right _ (List.mem_append_right _ (List.mem_append_right _ (List.mem_append_right _ (List.mem_append_right _ (List.mem_append_right _ (List.mem_append_right _ (List.mem_append_right _ (List.mem_append_right _ (List.mem_append_right _ (List.mem_append_right _ (List.mem_append_right _ (List.mem_append_right _ (List.mem_append_right _ (List.mem_append_right _ (List.mem_append_right _ (List.mem_append_right _ (List.mem_append_right _ (List.mem_append_right _ (List.mem_append_right _ (List.mem_append_right _ (List.mem_append_right _ (List.mem_append_right _ (List.mem_append_right _ (List.mem_append_right _ (List.mem_append_right _ (List.mem_append_right _ (List.mem_append_right _ (List.mem_append_right _ (List.mem_append_right _ (List.mem_append_right _ (List.mem_append_right _ (List.mem_append_right _ (List.mem_append_right _ (List.mem_append_right _ (List.mem_append_right _ (List.mem_append_right _ (List.mem_append_right _ (List.mem_append_right _ (List.mem_append_right _ (List.mem_append_right _ (List.mem_append_right _ (List.mem_append_right _ (List.mem_append_right _ (List.mem_append_right _ (List.mem_append_right _ (List.mem_append_right _ (List.mem_append_right _ (h)))))))))))))))))))))))))))))))))))))))))))))))))))))))))))))
abbrev zX9_init : xY := (yX9_init, cX9_init, 2, none)
abbrev zX6_init : xY := (yX6_init, cX6_init, 1, none)
abbrev zX5_init : xY := (yX5_init, cX5_init, 2, none)
abbrev zX2_init : xY := (yX2_init, cX2_init, 1, none)
abbrev zX3_init : xY := (yX3_init, cX3_init, 1, none)
abbrev zX4_init : xY := (yX4_init, cX4_init, 1, none)
abbrev zX1_init : xY := (yX1_init, cX1_init, 1, none)
abbrev zX7_init : xY := (yX7_init, cX7_init, 1, none)
abbrev zX0_init : xY := (yX0_init, cX0_init, 1, none)
abbrev zX8_init : xY := (yX8_init, cX8_init, 1, none)
abbrev zX10_init : xY := (yX10_init, cX10_init, 1, none)
abbrev zX9_beast : xY := (yX9_beast, cX9_beast, 5, some .int)
abbrev zX9_isKind : xY := (yX9_isKind, cX9_isKind, 1, some .boolean)
abbrev zX9_isWithin : xY := (yX9_isWithin, cX9_isWithin, 3, some .boolean)
abbrev zX9_isCell : xY := (yX9_isCell, cX9_isCell, 1, some .boolean)
abbrev zX6_holdsBeast : xY := (yX6_holdsBeast, cX6_holdsBeast, 2, some .boolean)
abbrev zX5_placeOf : xY := (yX5_placeOf, cX5_placeOf, 3, some .int)
abbrev zX6_isStool : xY := (yX6_isStool, cX6_isStool, 2, some .boolean)
abbrev zX6_size : xY := (yX6_size, cX6_size, 1, some .int)
abbrev zX6_addBeast : xY := (yX6_addBeast, cX6_addBeast, 5, some .int)
abbrev zX5_add : xY := (yX5_add, cX5_add, 2, none)
abbrev zX10_beast : xY := (yX10_beast, cX10_beast, 6, some .int)
abbrev zX10_in : xY := (yX10_in, cX10_in, 4, some .boolean)
abbrev zX10_isCell : xY := (yX10_isCell, cX10_isCell, 2, some .boolean)
abbrev zX10_beastIn : xY := (yX10_beastIn, cX10_beastIn, 3, some .int)
abbrev zX10_isStool : xY := (yX10_isStool, cX10_isStool, 3, some .boolean)
abbrev zX9_of : xY := (yX9_of, cX9_of, 3, some .int)
abbrev zX6_isBeast : xY := (yX6_isBeast, cX6_isBeast, 2, some .boolean)
abbrev zX5_at : xY := (yX5_at, cX5_at, 2, some .int)
abbrev zX9_lookedAt : xY := (yX9_lookedAt, cX9_lookedAt, 2, some (.object "LionRing$Look"))
abbrev zX6_lookAt : xY := (yX6_lookAt, cX6_lookAt, 2, none)
abbrev zX6_nearOnes : xY := (yX6_nearOnes, cX6_nearOnes, 4, some .int)
abbrev zX9_farOf : xY := (yX9_farOf, cX9_farOf, 2, some .int)
abbrev zX6_shutSides : xY := (yX6_shutSides, cX6_shutSides, 5, some .int)
abbrev zX9_nextTo : xY := (yX9_nextTo, cX9_nextTo, 2, some .int)
abbrev zX4_addTo : xY := (yX4_addTo, cX4_addTo, 8, none)
abbrev zX2_passes : xY := (yX2_passes, cX2_passes, 5, some .boolean)
abbrev zX9_isOneOf : xY := (yX9_isOneOf, cX9_isOneOf, 4, some .boolean)
abbrev zX9_kindAbove : xY := (yX9_kindAbove, cX9_kindAbove, 1, some .int)
abbrev zX6_deedOf : xY := (yX6_deedOf, cX6_deedOf, 5, some .int)
abbrev zX6_refuses : xY := (yX6_refuses, cX6_refuses, 2, some .boolean)
abbrev zX6_yieldingDeed : xY := (yX6_yieldingDeed, cX6_yieldingDeed, 5, some .int)
abbrev zX6_yielded : xY := (yX6_yielded, cX6_yielded, 5, some .boolean)
abbrev zX9_roundOf : xY := (yX9_roundOf, cX9_roundOf, 2, some .int)
abbrev zX6_cameTo : xY := (yX6_cameTo, cX6_cameTo, 8, some .boolean)
abbrev zX10_of : xY := (yX10_of, cX10_of, 3, some .int)
abbrev zX10_isBeast : xY := (yX10_isBeast, cX10_isBeast, 2, some .boolean)
abbrev zX10_asIs : xY := (yX10_asIs, cX10_asIs, 2, none)
abbrev zX10_layLines : xY := (yX10_layLines, cX10_layLines, 4, none)
abbrev zX10_nearOf : xY := (yX10_nearOf, cX10_nearOf, 4, some .int)
abbrev zX10_far : xY := (yX10_far, cX10_far, 3, some .int)
abbrev zX10_apart : xY := (yX10_apart, cX10_apart, 3, some .int)
abbrev zX10_most : xY := (yX10_most, cX10_most, 3, some .int)
abbrev zX10_closedOf : xY := (yX10_closedOf, cX10_closedOf, 5, some .int)
abbrev zX10_beside : xY := (yX10_beside, cX10_beside, 3, some .int)
abbrev zX10_isTaken : xY := (yX10_isTaken, cX10_isTaken, 3, some .boolean)
abbrev zX10_sumOf : xY := (yX10_sumOf, cX10_sumOf, 5, some .int)
abbrev zX10_first : xY := (yX10_first, cX10_first, 1, some .int)
abbrev zX10_behind : xY := (yX10_behind, cX10_behind, 1, some .int)
abbrev zX10_holds : xY := (yX10_holds, cX10_holds, 8, some .boolean)
abbrev zX10_factOf : xY := (yX10_factOf, cX10_factOf, 3, some .int)
abbrev zX10_min : xY := (yX10_min, cX10_min, 3, some .int)
abbrev zX10_doesOf : xY := (yX10_doesOf, cX10_doesOf, 8, some .int)
abbrev zX10_nextBy : xY := (yX10_nextBy, cX10_nextBy, 10, some .int)
abbrev zX10_round : xY := (yX10_round, cX10_round, 3, some .int)
abbrev zX9_set : xY := (yX9_set, cX9_set, 6, some .int)
abbrev zX5_put : xY := (yX5_put, cX5_put, 3, none)
abbrev zX10_set : xY := (yX10_set, cX10_set, 5, some .int)
abbrev zX9_enemies : xY := (yX9_enemies, cX9_enemies, 5, some .int)
abbrev zX6_areEnemies : xY := (yX6_areEnemies, cX6_areEnemies, 3, some .boolean)
abbrev zX6_setEnemy : xY := (yX6_setEnemy, cX6_setEnemy, 5, none)
abbrev zX10_enemies : xY := (yX10_enemies, cX10_enemies, 5, some .int)
abbrev zX9_tamer : xY := (yX9_tamer, cX9_tamer, 3, some .int)
abbrev zX10_tamer : xY := (yX10_tamer, cX10_tamer, 3, some .int)
abbrev zX9_feed : xY := (yX9_feed, cX9_feed, 4, some .int)
abbrev zX10_feed : xY := (yX10_feed, cX10_feed, 4, some .int)
abbrev zX9_ring : xY := (yX9_ring, cX9_ring, 3, some .int)
abbrev zX3_faultOfText : xY := (yX3_faultOfText, cX3_faultOfText, 2, some .int)
abbrev zX4_clear : xY := (yX4_clear, cX4_clear, 1, none)
abbrev zX5_clear : xY := (yX5_clear, cX5_clear, 1, none)
abbrev zX3_accept : xY := (yX3_accept, cX3_accept, 2, some .boolean)
abbrev zX3_readClause : xY := (yX3_readClause, cX3_readClause, 5, some .boolean)
abbrev zX3_readWord : xY := (yX3_readWord, cX3_readWord, 3, some .boolean)
abbrev zJ0_length_8abf5 : xY := (yJ0_length_8abf5, cJ0_length_8abf5, 1, some .int)
abbrev zJ0_coder_7d493 : xY := (yJ0_coder_7d493, cJ0_coder_7d493, 1, some .byte)
abbrev zJ0_charAt_5068e : xY := (yJ0_charAt_5068e, cJ0_charAt_5068e, 2, some .char)
abbrev zJ0_isLatin1_aae02 : xY := (yJ0_isLatin1_aae02, cJ0_isLatin1_aae02, 1, some .boolean)
abbrev zJ1_charAt_3b067 : xY := (yJ1_charAt_3b067, cJ1_charAt_3b067, 2, some .char)
abbrev zJ0_checkIndex_df160 : xY := (yJ0_checkIndex_df160, cJ0_checkIndex_df160, 2, none)
abbrev zJ3_checkIndex_8e157 : xY := (yJ3_checkIndex_8e157, cJ3_checkIndex_8e157, 3, some .int)
abbrev zJ2_charAt_3b067 : xY := (yJ2_charAt_3b067, cJ2_charAt_3b067, 2, some .char)
abbrev zJ2_checkIndex_2214a : xY := (yJ2_checkIndex_2214a, cJ2_checkIndex_2214a, 2, none)
abbrev zJ2_length_9d52b : xY := (yJ2_length_9d52b, cJ2_length_9d52b, 1, some .int)
abbrev zJ2_getChar_3b067 : xY := (yJ2_getChar_3b067, cJ2_getChar_3b067, 2, some .char)
abbrev zX3_readNumber : xY := (yX3_readNumber, cX3_readNumber, 3, some .int)
abbrev zX3_readEither : xY := (yX3_readEither, cX3_readEither, 4, some .boolean)
abbrev zX4_add : xY := (yX4_add, cX4_add, 4, none)
abbrev zX3_readBoth : xY := (yX3_readBoth, cX3_readBoth, 4, some .boolean)
abbrev zX3_readOne : xY := (yX3_readOne, cX3_readOne, 6, some .boolean)
abbrev zX4_copyFrom : xY := (yX4_copyFrom, cX4_copyFrom, 2, none)
abbrev zX5_copyFrom : xY := (yX5_copyFrom, cX5_copyFrom, 3, none)
abbrev zX10_ring : xY := (yX10_ring, cX10_ring, 2, some .int)
abbrev zX10_goesText : xY := (yX10_goesText, cX10_goesText, 3, some .boolean)
abbrev zX10_takesClause : xY := (yX10_takesClause, cX10_takesClause, 2, some .boolean)
abbrev zX10_takesHead : xY := (yX10_takesHead, cX10_takesHead, 2, some .boolean)
abbrev zX10_next : xY := (yX10_next, cX10_next, 1, some .int)
abbrev zX10_takesWord : xY := (yX10_takesWord, cX10_takesWord, 4, some .boolean)
abbrev zX10_takes : xY := (yX10_takes, cX10_takes, 2, some .boolean)
abbrev zX10_takesNumber : xY := (yX10_takesNumber, cX10_takesNumber, 2, some .boolean)
abbrev zX10_isDigit : xY := (yX10_isDigit, cX10_isDigit, 1, some .boolean)
abbrev zX10_takesE : xY := (yX10_takesE, cX10_takesE, 4, some .boolean)
abbrev zX10_takesTest : xY := (yX10_takesTest, cX10_takesTest, 3, some .boolean)
abbrev zX10_place : xY := (yX10_place, cX10_place, 2, some .int)
abbrev zX10_put : xY := (yX10_put, cX10_put, 2, none)
abbrev zX10_whole : xY := (yX10_whole, cX10_whole, 1, none)
abbrev zX10_settle : xY := (yX10_settle, cX10_settle, 2, none)
abbrev zX9_go : xY := (yX9_go, cX9_go, 3, some .int)
abbrev zX6_passTenth : xY := (yX6_passTenth, cX6_passTenth, 2, none)
abbrev zX6_isCaught : xY := (yX6_isCaught, cX6_isCaught, 1, some .boolean)
abbrev zX10_go : xY := (yX10_go, cX10_go, 4, some .int)
abbrev zX10_goTenth : xY := (yX10_goTenth, cX10_goTenth, 3, none)
abbrev zX10_caught : xY := (yX10_caught, cX10_caught, 2, some .int)
abbrev zX9_safe : xY := (yX9_safe, cX9_safe, 4, some .long)
abbrev zX6_copyFrom : xY := (yX6_copyFrom, cX6_copyFrom, 2, none)
abbrev zX6_anyComes : xY := (yX6_anyComes, cX6_anyComes, 2, some .boolean)
abbrev zX10_safe : xY := (yX10_safe, cX10_safe, 6, some .long)
abbrev zX9_from : xY := (yX9_from, cX9_from, 3, some .int)
abbrev zX6_leavesAlone : xY := (yX6_leavesAlone, cX6_leavesAlone, 3, some .boolean)
abbrev zX10_from : xY := (yX10_from, cX10_from, 6, some .int)
abbrev zX9_walk : xY := (yX9_walk, cX9_walk, 2, some .int)
abbrev zX9_comeTo : xY := (yX9_comeTo, cX9_comeTo, 3, some .int)
abbrev zX10_walk : xY := (yX10_walk, cX10_walk, 2, some .int)
abbrev zX9_gone : xY := (yX9_gone, cX9_gone, 6, some .int)
abbrev zX6_goTo : xY := (yX6_goTo, cX6_goTo, 2, some .boolean)
abbrev zX10_gone : xY := (yX10_gone, cX10_gone, 6, some .int)
abbrev zX10_mayGo : xY := (yX10_mayGo, cX10_mayGo, 2, some .boolean)
abbrev zX9_shortest : xY := (yX9_shortest, cX9_shortest, 3, some .int)
abbrev zX1_search : xY := (yX1_search, cX1_search, 9, none)
abbrev zX6_isSeated : xY := (yX6_isSeated, cX6_isSeated, 2, some .boolean)
abbrev zX1_keep : xY := (yX1_keep, cX1_keep, 9, none)
abbrev zX6_places : xY := (yX6_places, cX6_places, 4, some .long)
abbrev zX1_isKept : xY := (yX1_isKept, cX1_isKept, 5, some .boolean)
abbrev zX6_setPlaces : xY := (yX6_setPlaces, cX6_setPlaces, 6, none)
abbrev zX1_cellOfWay : xY := (yX1_cellOfWay, cX1_cellOfWay, 2, some .int)
abbrev zX1_cellOf : xY := (yX1_cellOf, cX1_cellOf, 2, some .int)
abbrev zX10_shortest : xY := (yX10_shortest, cX10_shortest, 4, some .int)
abbrev zX10_findWalk : xY := (yX10_findWalk, cX10_findWalk, 5, some .boolean)
abbrev zX10_keep : xY := (yX10_keep, cX10_keep, 3, none)
abbrev zX10_layBack : xY := (yX10_layBack, cX10_layBack, 3, none)
abbrev zX9_seats : xY := (yX9_seats, cX9_seats, 2, some .int)
abbrev zX7_search : xY := (yX7_search, cX7_search, 3, none)
abbrev zX7_seatFrom : xY := (yX7_seatFrom, cX7_seatFrom, 7, none)
abbrev zX7_keep : xY := (yX7_keep, cX7_keep, 2, none)
abbrev zX7_isByEnemy : xY := (yX7_isByEnemy, cX7_isByEnemy, 5, some .boolean)
abbrev zX10_seats : xY := (yX10_seats, cX10_seats, 9, some .int)
abbrev zX10_fits : xY := (yX10_fits, cX10_fits, 4, some .boolean)
abbrev zX10_isAhead : xY := (yX10_isAhead, cX10_isAhead, 3, some .boolean)
abbrev zX9_sit : xY := (yX9_sit, cX9_sit, 2, some .int)
abbrev zX6_allSit : xY := (yX6_allSit, cX6_allSit, 2, some .boolean)
abbrev zX10_sit : xY := (yX10_sit, cX10_sit, 4, some .int)
abbrev zX9_line : xY := (yX9_line, cX9_line, 5, some .int)
abbrev zX9_farthestCorner : xY := (yX9_farthestCorner, cX9_farthestCorner, 2, some .int)
abbrev zX9_fartherOf : xY := (yX9_fartherOf, cX9_fartherOf, 3, some .int)
abbrev zX9_stepToward : xY := (yX9_stepToward, cX9_stepToward, 4, some .int)
abbrev zX10_line : xY := (yX10_line, cX10_line, 7, some .int)
abbrev zX10_corner : xY := (yX10_corner, cX10_corner, 2, some .int)
abbrev zX9_thunder : xY := (yX9_thunder, cX9_thunder, 3, some .int)
abbrev zX10_thunder : xY := (yX10_thunder, cX10_thunder, 3, some .int)
abbrev zX9_calm : xY := (yX9_calm, cX9_calm, 9, some .long)
abbrev zX9_weightOf : xY := (yX9_weightOf, cX9_weightOf, 4, some .long)
abbrev zJ6_bitCount_0f7a4 : xY := (yJ6_bitCount_0f7a4, cJ6_bitCount_0f7a4, 1, some .int)
abbrev zX9_power : xY := (yX9_power, cX9_power, 5, some .long)
abbrev zX9_staysCalm : xY := (yX9_staysCalm, cX9_staysCalm, 5, some .boolean)
abbrev zX9_sharedDivisor : xY := (yX9_sharedDivisor, cX9_sharedDivisor, 11, some .long)
abbrev zX10_calm : xY := (yX10_calm, cX10_calm, 12, some .long)
abbrev zX10_loudOf : xY := (yX10_loudOf, cX10_loudOf, 3, some .int)
abbrev zX10_divisor : xY := (yX10_divisor, cX10_divisor, 11, some .long)
abbrev zX9_film : xY := (yX9_film, cX9_film, 2, some .int)
abbrev zX10_film : xY := (yX10_film, cX10_film, 2, some .int)
abbrev zX9_kinds : xY := (yX9_kinds, cX9_kinds, 4, some .int)
abbrev zX9_goesAsFilm : xY := (yX9_goesAsFilm, cX9_goesAsFilm, 3, some .boolean)
abbrev zX10_kinds : xY := (yX10_kinds, cX10_kinds, 6, some .int)
abbrev zX9_judge : xY := (yX9_judge, cX9_judge, 6, some .int)
abbrev zX9_tapeAt : xY := (yX9_tapeAt, cX9_tapeAt, 2, some (.object "LionRing$Tape"))
abbrev zX8_isRow : xY := (yX8_isRow, cX8_isRow, 1, some .boolean)
abbrev zX8_hasPlace : xY := (yX8_hasPlace, cX8_hasPlace, 2, some .boolean)
abbrev zX8_get : xY := (yX8_get, cX8_get, 2, some .long)
abbrev zX10_judge : xY := (yX10_judge, cX10_judge, 5, some .int)
abbrev zX10_isTape : xY := (yX10_isTape, cX10_isTape, 2, some .boolean)
abbrev zX9_image : xY := (yX9_image, cX9_image, 1, some .int)
abbrev zX10_image : xY := (yX10_image, cX10_image, 1, some .int)
abbrev zX10_copy : xY := (yX10_copy, cX10_copy, 4, none)
abbrev zX9_undo : xY := (yX9_undo, cX9_undo, 1, some .int)
abbrev zX10_undo : xY := (yX10_undo, cX10_undo, 1, some .int)
abbrev zX9_act : xY := (yX9_act, cX9_act, 4, some .int)
abbrev zX0_forget : xY := (yX0_forget, cX0_forget, 1, none)
abbrev zX0_run : xY := (yX0_run, cX0_run, 9, some .int)
abbrev zX0_bodyOf : xY := (yX0_bodyOf, cX0_bodyOf, 2, some .int)
abbrev zX10_act : xY := (yX10_act, cX10_act, 4, some .int)
abbrev zX10_yieldsAct : xY := (yX10_yieldsAct, cX10_yieldsAct, 3, some .int)
abbrev zX10_comingYields : xY := (yX10_comingYields, cX10_comingYields, 3, some .int)
abbrev zX10_body : xY := (yX10_body, cX10_body, 2, none)
abbrev zX10_moveYields : xY := (yX10_moveYields, cX10_moveYields, 3, some .int)
abbrev zX10_comesAct : xY := (yX10_comesAct, cX10_comesAct, 4, some .int)
abbrev zX10_yieldingComes : xY := (yX10_yieldingComes, cX10_yieldingComes, 3, some .int)
abbrev zX10_moveComes : xY := (yX10_moveComes, cX10_moveComes, 3, some .int)
abbrev zX10_tellsAct : xY := (yX10_tellsAct, cX10_tellsAct, 4, some .int)
abbrev zX10_moveTells : xY := (yX10_moveTells, cX10_moveTells, 3, some .int)
abbrev zX9_trace : xY := (yX9_trace, cX9_trace, 2, some .int)
abbrev zX10_trace : xY := (yX10_trace, cX10_trace, 2, some .int)
abbrev zX9_taken : xY := (yX9_taken, cX9_taken, 4, some .int)
abbrev zX10_taken : xY := (yX10_taken, cX10_taken, 4, some .int)
abbrev zX9_count : xY := (yX9_count, cX9_count, 2, some .int)
abbrev zX10_count : xY := (yX10_count, cX10_count, 2, some .int)
abbrev zX9_tape : xY := (yX9_tape, cX9_tape, 5, some .int)
abbrev zX8_empty : xY := (yX8_empty, cX8_empty, 1, none)
abbrev zX8_become : xY := (yX8_become, cX8_become, 4, none)
abbrev zX10_tape : xY := (yX10_tape, cX10_tape, 5, some .int)
abbrev zX9_item : xY := (yX9_item, cX9_item, 6, some .int)
abbrev zX8_put : xY := (yX8_put, cX8_put, 4, none)
abbrev zX8_narrowed : xY := (yX8_narrowed, cX8_narrowed, 3, some .long)
abbrev zX10_item : xY := (yX10_item, cX10_item, 5, some .int)
abbrev zX10_narrow : xY := (yX10_narrow, cX10_narrow, 4, some .long)
abbrev zX9_read : xY := (yX9_read, cX9_read, 4, some .long)
abbrev zX10_read : xY := (yX10_read, cX10_read, 3, some .long)
abbrev zX9_shift : xY := (yX9_shift, cX9_shift, 8, some .int)
abbrev zX8_hasPart : xY := (yX8_hasPart, cX8_hasPart, 3, some .boolean)
abbrev zX8_takeFrom : xY := (yX8_takeFrom, cX8_takeFrom, 5, none)
abbrev zX10_shift : xY := (yX10_shift, cX10_shift, 7, some .int)
set_option maxRecDepth 20000 in
theorem km_X9_init : xMth zX9_init 0 := ⟨(kin_1 _ (List.mem_of_getElem? (i := 9) rfl)), (kin_1 _ (List.mem_of_getElem? (i := 2) rfl)), ⟨by decide, by decide, by decide +kernel⟩, by decide +kernel, by decide⟩
set_option maxRecDepth 20000 in
theorem ki_X9_init : Cond.instanceMethod yX9_init ∈ wsL_law := (kin_1 _ (List.mem_of_getElem? (i := 8) rfl))
set_option maxRecDepth 20000 in
theorem km_X6_init : xMth zX6_init 0 := ⟨(kin_2 _ (List.mem_of_getElem? (i := 22) rfl)), (kin_1 _ (List.mem_of_getElem? (i := 15) rfl)), ⟨by decide, by decide, by decide +kernel⟩, by decide +kernel, by decide⟩
set_option maxRecDepth 20000 in
theorem ki_X6_init : Cond.instanceMethod yX6_init ∈ wsL_law := (kin_2 _ (List.mem_of_getElem? (i := 21) rfl))
set_option maxRecDepth 20000 in
theorem km_X5_init : xMth zX5_init 1 := ⟨(kin_3 _ (List.mem_of_getElem? (i := 23) rfl)), (kin_3 _ (List.mem_of_getElem? (i := 2) rfl)), ⟨by decide, by decide, by decide +kernel⟩, by decide +kernel, by decide⟩
set_option maxRecDepth 20000 in
theorem ki_X5_init : Cond.instanceMethod yX5_init ∈ wsL_law := (kin_3 _ (List.mem_of_getElem? (i := 22) rfl))
set_option maxRecDepth 20000 in
theorem km_X2_init : xMth zX2_init 0 := ⟨(kin_4 _ (List.mem_of_getElem? (i := 9) rfl)), (kin_3 _ (List.mem_of_getElem? (i := 18) rfl)), ⟨by decide, by decide, by decide +kernel⟩, by decide +kernel, by decide⟩
set_option maxRecDepth 20000 in
theorem ki_X2_init : Cond.instanceMethod yX2_init ∈ wsL_law := (kin_4 _ (List.mem_of_getElem? (i := 8) rfl))
set_option maxRecDepth 20000 in
theorem km_X3_init : xMth zX3_init 0 := ⟨(kin_4 _ (List.mem_of_getElem? (i := 12) rfl)), (kin_1 _ (List.mem_of_getElem? (i := 22) rfl)), ⟨by decide, by decide, by decide +kernel⟩, by decide +kernel, by decide⟩
set_option maxRecDepth 20000 in
theorem ki_X3_init : Cond.instanceMethod yX3_init ∈ wsL_law := (kin_4 _ (List.mem_of_getElem? (i := 11) rfl))
set_option maxRecDepth 20000 in
theorem km_X4_init : xMth zX4_init 0 := ⟨(kin_4 _ (List.mem_of_getElem? (i := 21) rfl)), (kin_2 _ (List.mem_of_getElem? (i := 18) rfl)), ⟨by decide, by decide, by decide +kernel⟩, by decide +kernel, by decide⟩
set_option maxRecDepth 20000 in
theorem ki_X4_init : Cond.instanceMethod yX4_init ∈ wsL_law := (kin_4 _ (List.mem_of_getElem? (i := 20) rfl))
set_option maxRecDepth 20000 in
theorem km_X1_init : xMth zX1_init 0 := ⟨(kin_5 _ (List.mem_of_getElem? (i := 6) rfl)), (kin_2 _ (List.mem_of_getElem? (i := 5) rfl)), ⟨by decide, by decide, by decide +kernel⟩, by decide +kernel, by decide⟩
set_option maxRecDepth 20000 in
theorem ki_X1_init : Cond.instanceMethod yX1_init ∈ wsL_law := (kin_5 _ (List.mem_of_getElem? (i := 5) rfl))
set_option maxRecDepth 20000 in
theorem km_X7_init : xMth zX7_init 0 := ⟨(kin_5 _ (List.mem_of_getElem? (i := 17) rfl)), (kin_2 _ (List.mem_of_getElem? (i := 9) rfl)), ⟨by decide, by decide, by decide +kernel⟩, by decide +kernel, by decide⟩
set_option maxRecDepth 20000 in
theorem ki_X7_init : Cond.instanceMethod yX7_init ∈ wsL_law := (kin_5 _ (List.mem_of_getElem? (i := 16) rfl))
set_option maxRecDepth 20000 in
theorem km_X0_init : xMth zX0_init 0 := ⟨(kin_6 _ (List.mem_of_getElem? (i := 2) rfl)), (kin_2 _ (List.mem_of_getElem? (i := 13) rfl)), ⟨by decide, by decide, by decide +kernel⟩, by decide +kernel, by decide⟩
set_option maxRecDepth 20000 in
theorem ki_X0_init : Cond.instanceMethod yX0_init ∈ wsL_law := (kin_6 _ (List.mem_of_getElem? (i := 1) rfl))
set_option maxRecDepth 20000 in
theorem km_X8_init : xMth zX8_init 0 := ⟨(kin_6 _ (List.mem_of_getElem? (i := 12) rfl)), (kin_2 _ (List.mem_of_getElem? (i := 20) rfl)), ⟨by decide, by decide, by decide +kernel⟩, by decide +kernel, by decide⟩
set_option maxRecDepth 20000 in
theorem ki_X8_init : Cond.instanceMethod yX8_init ∈ wsL_law := (kin_6 _ (List.mem_of_getElem? (i := 11) rfl))
set_option maxRecDepth 20000 in
theorem km_X10_init : xMth zX10_init 0 := ⟨(kin_6 _ (List.mem_of_getElem? (i := 19) rfl)), (kin_1 _ (List.mem_of_getElem? (i := 5) rfl)), ⟨by decide, by decide, by decide +kernel⟩, by decide +kernel, by decide⟩
set_option maxRecDepth 20000 in
theorem ki_X10_init : Cond.instanceMethod yX10_init ∈ wsL_law := (kin_6 _ (List.mem_of_getElem? (i := 18) rfl))
set_option maxRecDepth 20000 in
theorem km_X9_beast : xMth zX9_beast 4 := ⟨(kin_9 _ (List.mem_of_getElem? (i := 23) rfl)), (kin_1 _ (List.mem_of_getElem? (i := 2) rfl)), ⟨by decide, by decide, by decide +kernel⟩, by decide +kernel, by decide⟩
set_option maxRecDepth 20000 in
theorem kv_X9_beast : xVir zX9_beast := ⟨(kin_9 _ (List.mem_of_getElem? (i := 21) rfl)), (kin_9 _ (List.mem_of_getElem? (i := 22) rfl))⟩
set_option maxRecDepth 20000 in
theorem ki_X9_beast : Cond.instanceMethod yX9_beast ∈ wsL_law := (kin_9 _ (List.mem_of_getElem? (i := 21) rfl))
set_option maxRecDepth 20000 in
theorem km_X9_isKind : xMth zX9_isKind 1 := ⟨(kin_10 _ (List.mem_of_getElem? (i := 3) rfl)), (kin_1 _ (List.mem_of_getElem? (i := 2) rfl)), ⟨by decide, by decide, by decide +kernel⟩, by decide +kernel, by decide⟩
set_option maxRecDepth 20000 in
theorem ks_X9_isKind : xSta zX9_isKind := (kin_10 _ (List.mem_of_getElem? (i := 2) rfl))
set_option maxRecDepth 20000 in
theorem km_X9_isWithin : xMth zX9_isWithin 3 := ⟨(kin_10 _ (List.mem_of_getElem? (i := 6) rfl)), (kin_1 _ (List.mem_of_getElem? (i := 2) rfl)), ⟨by decide, by decide, by decide +kernel⟩, by decide +kernel, by decide⟩
set_option maxRecDepth 20000 in
theorem ks_X9_isWithin : xSta zX9_isWithin := (kin_10 _ (List.mem_of_getElem? (i := 5) rfl))
set_option maxRecDepth 20000 in
theorem km_X9_isCell : xMth zX9_isCell 1 := ⟨(kin_10 _ (List.mem_of_getElem? (i := 9) rfl)), (kin_1 _ (List.mem_of_getElem? (i := 2) rfl)), ⟨by decide, by decide, by decide +kernel⟩, by decide +kernel, by decide⟩
set_option maxRecDepth 20000 in
theorem ks_X9_isCell : xSta zX9_isCell := (kin_10 _ (List.mem_of_getElem? (i := 8) rfl))
set_option maxRecDepth 20000 in
theorem km_X6_holdsBeast : xMth zX6_holdsBeast 1 := ⟨(kin_10 _ (List.mem_of_getElem? (i := 13) rfl)), (kin_1 _ (List.mem_of_getElem? (i := 15) rfl)), ⟨by decide, by decide, by decide +kernel⟩, by decide +kernel, by decide⟩
set_option maxRecDepth 20000 in
theorem kv_X6_holdsBeast : xVir zX6_holdsBeast := ⟨(kin_10 _ (List.mem_of_getElem? (i := 11) rfl)), (kin_10 _ (List.mem_of_getElem? (i := 12) rfl))⟩
set_option maxRecDepth 20000 in
theorem ki_X6_holdsBeast : Cond.instanceMethod yX6_holdsBeast ∈ wsL_law := (kin_10 _ (List.mem_of_getElem? (i := 11) rfl))
set_option maxRecDepth 20000 in
theorem km_X5_placeOf : xMth zX5_placeOf 1 := ⟨(kin_10 _ (List.mem_of_getElem? (i := 17) rfl)), (kin_3 _ (List.mem_of_getElem? (i := 2) rfl)), ⟨by decide, by decide, by decide +kernel⟩, by decide +kernel, by decide⟩
set_option maxRecDepth 20000 in
theorem kv_X5_placeOf : xVir zX5_placeOf := ⟨(kin_10 _ (List.mem_of_getElem? (i := 15) rfl)), (kin_10 _ (List.mem_of_getElem? (i := 16) rfl))⟩
set_option maxRecDepth 20000 in
theorem ki_X5_placeOf : Cond.instanceMethod yX5_placeOf ∈ wsL_law := (kin_10 _ (List.mem_of_getElem? (i := 15) rfl))
set_option maxRecDepth 20000 in
theorem km_X6_isStool : xMth zX6_isStool 1 := ⟨(kin_10 _ (List.mem_of_getElem? (i := 21) rfl)), (kin_1 _ (List.mem_of_getElem? (i := 15) rfl)), ⟨by decide, by decide, by decide +kernel⟩, by decide +kernel, by decide⟩
set_option maxRecDepth 20000 in
theorem kv_X6_isStool : xVir zX6_isStool := ⟨(kin_10 _ (List.mem_of_getElem? (i := 19) rfl)), (kin_10 _ (List.mem_of_getElem? (i := 20) rfl))⟩
set_option maxRecDepth 20000 in
theorem ki_X6_isStool : Cond.instanceMethod yX6_isStool ∈ wsL_law := (kin_10 _ (List.mem_of_getElem? (i := 19) rfl))
set_option maxRecDepth 20000 in
theorem km_X6_size : xMth zX6_size 0 := ⟨(kin_11 _ (List.mem_of_getElem? (i := 1) rfl)), (kin_1 _ (List.mem_of_getElem? (i := 15) rfl)), ⟨by decide, by decide, by decide +kernel⟩, by decide +kernel, by decide⟩
set_option maxRecDepth 20000 in
theorem kv_X6_size : xVir zX6_size := ⟨(kin_10 _ (List.mem_of_getElem? (i := 23) rfl)), (kin_11 _ (List.mem_of_getElem? (i := 0) rfl))⟩
set_option maxRecDepth 20000 in
theorem ki_X6_size : Cond.instanceMethod yX6_size ∈ wsL_law := (kin_10 _ (List.mem_of_getElem? (i := 23) rfl))
set_option maxRecDepth 20000 in
theorem km_X6_addBeast : xMth zX6_addBeast 4 := ⟨(kin_11 _ (List.mem_of_getElem? (i := 6) rfl)), (kin_1 _ (List.mem_of_getElem? (i := 15) rfl)), ⟨by decide, by decide, by decide +kernel⟩, by decide +kernel, by decide⟩
set_option maxRecDepth 20000 in
theorem kv_X6_addBeast : xVir zX6_addBeast := ⟨(kin_11 _ (List.mem_of_getElem? (i := 4) rfl)), (kin_11 _ (List.mem_of_getElem? (i := 5) rfl))⟩
set_option maxRecDepth 20000 in
theorem ki_X6_addBeast : Cond.instanceMethod yX6_addBeast ∈ wsL_law := (kin_11 _ (List.mem_of_getElem? (i := 4) rfl))
set_option maxRecDepth 20000 in
theorem km_X5_add : xMth zX5_add 1 := ⟨(kin_11 _ (List.mem_of_getElem? (i := 10) rfl)), (kin_3 _ (List.mem_of_getElem? (i := 2) rfl)), ⟨by decide, by decide, by decide +kernel⟩, by decide +kernel, by decide⟩
set_option maxRecDepth 20000 in
theorem kv_X5_add : xVir zX5_add := ⟨(kin_11 _ (List.mem_of_getElem? (i := 8) rfl)), (kin_11 _ (List.mem_of_getElem? (i := 9) rfl))⟩
set_option maxRecDepth 20000 in
theorem ki_X5_add : Cond.instanceMethod yX5_add ∈ wsL_law := (kin_11 _ (List.mem_of_getElem? (i := 8) rfl))
set_option maxRecDepth 20000 in
theorem km_X10_beast : xMth zX10_beast 4 := ⟨(kin_11 _ (List.mem_of_getElem? (i := 15) rfl)), (kin_1 _ (List.mem_of_getElem? (i := 5) rfl)), ⟨by decide, by decide, by decide +kernel⟩, by decide +kernel, by decide⟩
set_option maxRecDepth 20000 in
theorem kv_X10_beast : xVir zX10_beast := ⟨(kin_11 _ (List.mem_of_getElem? (i := 13) rfl)), (kin_11 _ (List.mem_of_getElem? (i := 14) rfl))⟩
set_option maxRecDepth 20000 in
theorem ki_X10_beast : Cond.instanceMethod yX10_beast ∈ wsL_law := (kin_11 _ (List.mem_of_getElem? (i := 13) rfl))
set_option maxRecDepth 20000 in
theorem km_X10_in : xMth zX10_in 3 := ⟨(kin_11 _ (List.mem_of_getElem? (i := 19) rfl)), (kin_1 _ (List.mem_of_getElem? (i := 5) rfl)), ⟨by decide, by decide, by decide +kernel⟩, by decide +kernel, by decide⟩
set_option maxRecDepth 20000 in
theorem kv_X10_in : xVir zX10_in := ⟨(kin_11 _ (List.mem_of_getElem? (i := 17) rfl)), (kin_11 _ (List.mem_of_getElem? (i := 18) rfl))⟩
set_option maxRecDepth 20000 in
theorem ki_X10_in : Cond.instanceMethod yX10_in ∈ wsL_law := (kin_11 _ (List.mem_of_getElem? (i := 17) rfl))
set_option maxRecDepth 20000 in
theorem km_X10_isCell : xMth zX10_isCell 1 := ⟨(kin_11 _ (List.mem_of_getElem? (i := 23) rfl)), (kin_1 _ (List.mem_of_getElem? (i := 5) rfl)), ⟨by decide, by decide, by decide +kernel⟩, by decide +kernel, by decide⟩
set_option maxRecDepth 20000 in
theorem kv_X10_isCell : xVir zX10_isCell := ⟨(kin_11 _ (List.mem_of_getElem? (i := 21) rfl)), (kin_11 _ (List.mem_of_getElem? (i := 22) rfl))⟩
set_option maxRecDepth 20000 in
theorem ki_X10_isCell : Cond.instanceMethod yX10_isCell ∈ wsL_law := (kin_11 _ (List.mem_of_getElem? (i := 21) rfl))
set_option maxRecDepth 20000 in
theorem km_X10_beastIn : xMth zX10_beastIn 1 := ⟨(kin_12 _ (List.mem_of_getElem? (i := 3) rfl)), (kin_1 _ (List.mem_of_getElem? (i := 5) rfl)), ⟨by decide, by decide, by decide +kernel⟩, by decide +kernel, by decide⟩
set_option maxRecDepth 20000 in
theorem kv_X10_beastIn : xVir zX10_beastIn := ⟨(kin_12 _ (List.mem_of_getElem? (i := 1) rfl)), (kin_12 _ (List.mem_of_getElem? (i := 2) rfl))⟩
set_option maxRecDepth 20000 in
theorem ki_X10_beastIn : Cond.instanceMethod yX10_beastIn ∈ wsL_law := (kin_12 _ (List.mem_of_getElem? (i := 1) rfl))
set_option maxRecDepth 20000 in
theorem km_X10_isStool : xMth zX10_isStool 1 := ⟨(kin_12 _ (List.mem_of_getElem? (i := 7) rfl)), (kin_1 _ (List.mem_of_getElem? (i := 5) rfl)), ⟨by decide, by decide, by decide +kernel⟩, by decide +kernel, by decide⟩
set_option maxRecDepth 20000 in
theorem kv_X10_isStool : xVir zX10_isStool := ⟨(kin_12 _ (List.mem_of_getElem? (i := 5) rfl)), (kin_12 _ (List.mem_of_getElem? (i := 6) rfl))⟩
set_option maxRecDepth 20000 in
theorem ki_X10_isStool : Cond.instanceMethod yX10_isStool ∈ wsL_law := (kin_12 _ (List.mem_of_getElem? (i := 5) rfl))
set_option maxRecDepth 20000 in
theorem km_X9_of : xMth zX9_of 2 := ⟨(kin_12 _ (List.mem_of_getElem? (i := 11) rfl)), (kin_1 _ (List.mem_of_getElem? (i := 2) rfl)), ⟨by decide, by decide, by decide +kernel⟩, by decide +kernel, by decide⟩
set_option maxRecDepth 20000 in
theorem kv_X9_of : xVir zX9_of := ⟨(kin_12 _ (List.mem_of_getElem? (i := 9) rfl)), (kin_12 _ (List.mem_of_getElem? (i := 10) rfl))⟩
set_option maxRecDepth 20000 in
theorem ki_X9_of : Cond.instanceMethod yX9_of ∈ wsL_law := (kin_12 _ (List.mem_of_getElem? (i := 9) rfl))
set_option maxRecDepth 20000 in
theorem km_X6_isBeast : xMth zX6_isBeast 1 := ⟨(kin_12 _ (List.mem_of_getElem? (i := 22) rfl)), (kin_1 _ (List.mem_of_getElem? (i := 15) rfl)), ⟨by decide, by decide, by decide +kernel⟩, by decide +kernel, by decide⟩
set_option maxRecDepth 20000 in
theorem kv_X6_isBeast : xVir zX6_isBeast := ⟨(kin_12 _ (List.mem_of_getElem? (i := 20) rfl)), (kin_12 _ (List.mem_of_getElem? (i := 21) rfl))⟩
set_option maxRecDepth 20000 in
theorem ki_X6_isBeast : Cond.instanceMethod yX6_isBeast ∈ wsL_law := (kin_12 _ (List.mem_of_getElem? (i := 20) rfl))
set_option maxRecDepth 20000 in
theorem km_X5_at : xMth zX5_at 1 := ⟨(kin_13 _ (List.mem_of_getElem? (i := 2) rfl)), (kin_3 _ (List.mem_of_getElem? (i := 2) rfl)), ⟨by decide, by decide, by decide +kernel⟩, by decide +kernel, by decide⟩
set_option maxRecDepth 20000 in
theorem kv_X5_at : xVir zX5_at := ⟨(kin_13 _ (List.mem_of_getElem? (i := 0) rfl)), (kin_13 _ (List.mem_of_getElem? (i := 1) rfl))⟩
set_option maxRecDepth 20000 in
theorem ki_X5_at : Cond.instanceMethod yX5_at ∈ wsL_law := (kin_13 _ (List.mem_of_getElem? (i := 0) rfl))
set_option maxRecDepth 20000 in
theorem km_X9_lookedAt : xMth zX9_lookedAt 1 := ⟨(kin_13 _ (List.mem_of_getElem? (i := 6) rfl)), (kin_1 _ (List.mem_of_getElem? (i := 2) rfl)), ⟨by decide, by decide, by decide +kernel⟩, by decide +kernel, by decide⟩
set_option maxRecDepth 20000 in
theorem kv_X9_lookedAt : xVir zX9_lookedAt := ⟨(kin_13 _ (List.mem_of_getElem? (i := 4) rfl)), (kin_13 _ (List.mem_of_getElem? (i := 5) rfl))⟩
set_option maxRecDepth 20000 in
theorem ki_X9_lookedAt : Cond.instanceMethod yX9_lookedAt ∈ wsL_law := (kin_13 _ (List.mem_of_getElem? (i := 4) rfl))
set_option maxRecDepth 20000 in
theorem km_X6_lookAt : xMth zX6_lookAt 1 := ⟨(kin_13 _ (List.mem_of_getElem? (i := 11) rfl)), (kin_1 _ (List.mem_of_getElem? (i := 15) rfl)), ⟨by decide, by decide, by decide +kernel⟩, by decide +kernel, by decide⟩
set_option maxRecDepth 20000 in
theorem kv_X6_lookAt : xVir zX6_lookAt := ⟨(kin_13 _ (List.mem_of_getElem? (i := 9) rfl)), (kin_13 _ (List.mem_of_getElem? (i := 10) rfl))⟩
set_option maxRecDepth 20000 in
theorem ki_X6_lookAt : Cond.instanceMethod yX6_lookAt ∈ wsL_law := (kin_13 _ (List.mem_of_getElem? (i := 9) rfl))
set_option maxRecDepth 20000 in
theorem km_X6_nearOnes : xMth zX6_nearOnes 1 := ⟨(kin_14 _ (List.mem_of_getElem? (i := 3) rfl)), (kin_1 _ (List.mem_of_getElem? (i := 15) rfl)), ⟨by decide, by decide, by decide +kernel⟩, by decide +kernel, by decide⟩
set_option maxRecDepth 20000 in
theorem kv_X6_nearOnes : xVir zX6_nearOnes := ⟨(kin_14 _ (List.mem_of_getElem? (i := 1) rfl)), (kin_14 _ (List.mem_of_getElem? (i := 2) rfl))⟩
set_option maxRecDepth 20000 in
theorem ki_X6_nearOnes : Cond.instanceMethod yX6_nearOnes ∈ wsL_law := (kin_14 _ (List.mem_of_getElem? (i := 1) rfl))
set_option maxRecDepth 20000 in
theorem km_X9_farOf : xMth zX9_farOf 2 := ⟨(kin_14 _ (List.mem_of_getElem? (i := 5) rfl)), (kin_1 _ (List.mem_of_getElem? (i := 2) rfl)), ⟨by decide, by decide, by decide +kernel⟩, by decide +kernel, by decide⟩
set_option maxRecDepth 20000 in
theorem ks_X9_farOf : xSta zX9_farOf := (kin_14 _ (List.mem_of_getElem? (i := 4) rfl))
set_option maxRecDepth 20000 in
theorem km_X6_shutSides : xMth zX6_shutSides 1 := ⟨(kin_14 _ (List.mem_of_getElem? (i := 13) rfl)), (kin_1 _ (List.mem_of_getElem? (i := 15) rfl)), ⟨by decide, by decide, by decide +kernel⟩, by decide +kernel, by decide⟩
set_option maxRecDepth 20000 in
theorem kv_X6_shutSides : xVir zX6_shutSides := ⟨(kin_14 _ (List.mem_of_getElem? (i := 11) rfl)), (kin_14 _ (List.mem_of_getElem? (i := 12) rfl))⟩
set_option maxRecDepth 20000 in
theorem ki_X6_shutSides : Cond.instanceMethod yX6_shutSides ∈ wsL_law := (kin_14 _ (List.mem_of_getElem? (i := 11) rfl))
set_option maxRecDepth 20000 in
theorem km_X9_nextTo : xMth zX9_nextTo 2 := ⟨(kin_14 _ (List.mem_of_getElem? (i := 15) rfl)), (kin_1 _ (List.mem_of_getElem? (i := 2) rfl)), ⟨by decide, by decide, by decide +kernel⟩, by decide +kernel, by decide⟩
set_option maxRecDepth 20000 in
theorem ks_X9_nextTo : xSta zX9_nextTo := (kin_14 _ (List.mem_of_getElem? (i := 14) rfl))
set_option maxRecDepth 20000 in
theorem km_X4_addTo : xMth zX4_addTo 1 := ⟨(kin_14 _ (List.mem_of_getElem? (i := 20) rfl)), (kin_2 _ (List.mem_of_getElem? (i := 18) rfl)), ⟨by decide, by decide, by decide +kernel⟩, by decide +kernel, by decide⟩
set_option maxRecDepth 20000 in
theorem kv_X4_addTo : xVir zX4_addTo := ⟨(kin_14 _ (List.mem_of_getElem? (i := 18) rfl)), (kin_14 _ (List.mem_of_getElem? (i := 19) rfl))⟩
set_option maxRecDepth 20000 in
theorem ki_X4_addTo : Cond.instanceMethod yX4_addTo ∈ wsL_law := (kin_14 _ (List.mem_of_getElem? (i := 18) rfl))
set_option maxRecDepth 20000 in
theorem km_X2_passes : xMth zX2_passes 3 := ⟨(kin_15 _ (List.mem_of_getElem? (i := 5) rfl)), (kin_3 _ (List.mem_of_getElem? (i := 18) rfl)), ⟨by decide, by decide, by decide +kernel⟩, by decide +kernel, by decide⟩
set_option maxRecDepth 20000 in
theorem kv_X2_passes : xVir zX2_passes := ⟨(kin_15 _ (List.mem_of_getElem? (i := 3) rfl)), (kin_15 _ (List.mem_of_getElem? (i := 4) rfl))⟩
set_option maxRecDepth 20000 in
theorem ki_X2_passes : Cond.instanceMethod yX2_passes ∈ wsL_law := (kin_15 _ (List.mem_of_getElem? (i := 3) rfl))
set_option maxRecDepth 20000 in
theorem km_X9_isOneOf : xMth zX9_isOneOf 2 := ⟨(kin_15 _ (List.mem_of_getElem? (i := 12) rfl)), (kin_1 _ (List.mem_of_getElem? (i := 2) rfl)), ⟨by decide, by decide, by decide +kernel⟩, by decide +kernel, by decide⟩
set_option maxRecDepth 20000 in
theorem ks_X9_isOneOf : xSta zX9_isOneOf := (kin_15 _ (List.mem_of_getElem? (i := 11) rfl))
set_option maxRecDepth 20000 in
theorem km_X9_kindAbove : xMth zX9_kindAbove 1 := ⟨(kin_15 _ (List.mem_of_getElem? (i := 15) rfl)), (kin_1 _ (List.mem_of_getElem? (i := 2) rfl)), ⟨by decide, by decide, by decide +kernel⟩, by decide +kernel, by decide⟩
set_option maxRecDepth 20000 in
theorem ks_X9_kindAbove : xSta zX9_kindAbove := (kin_15 _ (List.mem_of_getElem? (i := 14) rfl))
set_option maxRecDepth 20000 in
theorem km_X6_deedOf : xMth zX6_deedOf 1 := ⟨(kin_15 _ (List.mem_of_getElem? (i := 19) rfl)), (kin_1 _ (List.mem_of_getElem? (i := 15) rfl)), ⟨by decide, by decide, by decide +kernel⟩, by decide +kernel, by decide⟩
set_option maxRecDepth 20000 in
theorem kv_X6_deedOf : xVir zX6_deedOf := ⟨(kin_15 _ (List.mem_of_getElem? (i := 17) rfl)), (kin_15 _ (List.mem_of_getElem? (i := 18) rfl))⟩
set_option maxRecDepth 20000 in
theorem ki_X6_deedOf : Cond.instanceMethod yX6_deedOf ∈ wsL_law := (kin_15 _ (List.mem_of_getElem? (i := 17) rfl))
set_option maxRecDepth 20000 in
theorem km_X6_refuses : xMth zX6_refuses 1 := ⟨(kin_16 _ (List.mem_of_getElem? (i := 0) rfl)), (kin_1 _ (List.mem_of_getElem? (i := 15) rfl)), ⟨by decide, by decide, by decide +kernel⟩, by decide +kernel, by decide⟩
set_option maxRecDepth 20000 in
theorem kv_X6_refuses : xVir zX6_refuses := ⟨(kin_15 _ (List.mem_of_getElem? (i := 22) rfl)), (kin_15 _ (List.mem_of_getElem? (i := 23) rfl))⟩
set_option maxRecDepth 20000 in
theorem ki_X6_refuses : Cond.instanceMethod yX6_refuses ∈ wsL_law := (kin_15 _ (List.mem_of_getElem? (i := 22) rfl))
set_option maxRecDepth 20000 in
theorem km_X6_yieldingDeed : xMth zX6_yieldingDeed 2 := ⟨(kin_16 _ (List.mem_of_getElem? (i := 4) rfl)), (kin_1 _ (List.mem_of_getElem? (i := 15) rfl)), ⟨by decide, by decide, by decide +kernel⟩, by decide +kernel, by decide⟩
set_option maxRecDepth 20000 in
theorem kv_X6_yieldingDeed : xVir zX6_yieldingDeed := ⟨(kin_16 _ (List.mem_of_getElem? (i := 2) rfl)), (kin_16 _ (List.mem_of_getElem? (i := 3) rfl))⟩
set_option maxRecDepth 20000 in
theorem ki_X6_yieldingDeed : Cond.instanceMethod yX6_yieldingDeed ∈ wsL_law := (kin_16 _ (List.mem_of_getElem? (i := 2) rfl))
set_option maxRecDepth 20000 in
theorem km_X6_yielded : xMth zX6_yielded 1 := ⟨(kin_16 _ (List.mem_of_getElem? (i := 8) rfl)), (kin_1 _ (List.mem_of_getElem? (i := 15) rfl)), ⟨by decide, by decide, by decide +kernel⟩, by decide +kernel, by decide⟩
set_option maxRecDepth 20000 in
theorem kv_X6_yielded : xVir zX6_yielded := ⟨(kin_16 _ (List.mem_of_getElem? (i := 6) rfl)), (kin_16 _ (List.mem_of_getElem? (i := 7) rfl))⟩
set_option maxRecDepth 20000 in
theorem ki_X6_yielded : Cond.instanceMethod yX6_yielded ∈ wsL_law := (kin_16 _ (List.mem_of_getElem? (i := 6) rfl))
set_option maxRecDepth 20000 in
theorem km_X9_roundOf : xMth zX9_roundOf 2 := ⟨(kin_16 _ (List.mem_of_getElem? (i := 10) rfl)), (kin_1 _ (List.mem_of_getElem? (i := 2) rfl)), ⟨by decide, by decide, by decide +kernel⟩, by decide +kernel, by decide⟩
set_option maxRecDepth 20000 in
theorem ks_X9_roundOf : xSta zX9_roundOf := (kin_16 _ (List.mem_of_getElem? (i := 9) rfl))
set_option maxRecDepth 20000 in
theorem km_X6_cameTo : xMth zX6_cameTo 3 := ⟨(kin_16 _ (List.mem_of_getElem? (i := 14) rfl)), (kin_1 _ (List.mem_of_getElem? (i := 15) rfl)), ⟨by decide, by decide, by decide +kernel⟩, by decide +kernel, by decide⟩
set_option maxRecDepth 20000 in
theorem kv_X6_cameTo : xVir zX6_cameTo := ⟨(kin_16 _ (List.mem_of_getElem? (i := 12) rfl)), (kin_16 _ (List.mem_of_getElem? (i := 13) rfl))⟩
set_option maxRecDepth 20000 in
theorem ki_X6_cameTo : Cond.instanceMethod yX6_cameTo ∈ wsL_law := (kin_16 _ (List.mem_of_getElem? (i := 12) rfl))
set_option maxRecDepth 20000 in
theorem km_X10_of : xMth zX10_of 2 := ⟨(kin_16 _ (List.mem_of_getElem? (i := 18) rfl)), (kin_1 _ (List.mem_of_getElem? (i := 5) rfl)), ⟨by decide, by decide, by decide +kernel⟩, by decide +kernel, by decide⟩
set_option maxRecDepth 20000 in
theorem kv_X10_of : xVir zX10_of := ⟨(kin_16 _ (List.mem_of_getElem? (i := 16) rfl)), (kin_16 _ (List.mem_of_getElem? (i := 17) rfl))⟩
set_option maxRecDepth 20000 in
theorem ki_X10_of : Cond.instanceMethod yX10_of ∈ wsL_law := (kin_16 _ (List.mem_of_getElem? (i := 16) rfl))
set_option maxRecDepth 20000 in
theorem km_X10_isBeast : xMth zX10_isBeast 1 := ⟨(kin_16 _ (List.mem_of_getElem? (i := 22) rfl)), (kin_1 _ (List.mem_of_getElem? (i := 5) rfl)), ⟨by decide, by decide, by decide +kernel⟩, by decide +kernel, by decide⟩
set_option maxRecDepth 20000 in
theorem kv_X10_isBeast : xVir zX10_isBeast := ⟨(kin_16 _ (List.mem_of_getElem? (i := 20) rfl)), (kin_16 _ (List.mem_of_getElem? (i := 21) rfl))⟩
set_option maxRecDepth 20000 in
theorem ki_X10_isBeast : Cond.instanceMethod yX10_isBeast ∈ wsL_law := (kin_16 _ (List.mem_of_getElem? (i := 20) rfl))
set_option maxRecDepth 20000 in
theorem km_X10_asIs : xMth zX10_asIs 0 := ⟨(kin_17 _ (List.mem_of_getElem? (i := 2) rfl)), (kin_1 _ (List.mem_of_getElem? (i := 5) rfl)), ⟨by decide, by decide, by decide +kernel⟩, by decide +kernel, by decide⟩
set_option maxRecDepth 20000 in
theorem kv_X10_asIs : xVir zX10_asIs := ⟨(kin_17 _ (List.mem_of_getElem? (i := 0) rfl)), (kin_17 _ (List.mem_of_getElem? (i := 1) rfl))⟩
set_option maxRecDepth 20000 in
theorem ki_X10_asIs : Cond.instanceMethod yX10_asIs ∈ wsL_law := (kin_17 _ (List.mem_of_getElem? (i := 0) rfl))
set_option maxRecDepth 20000 in
theorem km_X10_layLines : xMth zX10_layLines 1 := ⟨(kin_17 _ (List.mem_of_getElem? (i := 6) rfl)), (kin_1 _ (List.mem_of_getElem? (i := 5) rfl)), ⟨by decide, by decide, by decide +kernel⟩, by decide +kernel, by decide⟩
set_option maxRecDepth 20000 in
theorem kv_X10_layLines : xVir zX10_layLines := ⟨(kin_17 _ (List.mem_of_getElem? (i := 4) rfl)), (kin_17 _ (List.mem_of_getElem? (i := 5) rfl))⟩
set_option maxRecDepth 20000 in
theorem ki_X10_layLines : Cond.instanceMethod yX10_layLines ∈ wsL_law := (kin_17 _ (List.mem_of_getElem? (i := 4) rfl))
set_option maxRecDepth 20000 in
theorem km_X10_nearOf : xMth zX10_nearOf 1 := ⟨(kin_17 _ (List.mem_of_getElem? (i := 10) rfl)), (kin_1 _ (List.mem_of_getElem? (i := 5) rfl)), ⟨by decide, by decide, by decide +kernel⟩, by decide +kernel, by decide⟩
set_option maxRecDepth 20000 in
theorem kv_X10_nearOf : xVir zX10_nearOf := ⟨(kin_17 _ (List.mem_of_getElem? (i := 8) rfl)), (kin_17 _ (List.mem_of_getElem? (i := 9) rfl))⟩
set_option maxRecDepth 20000 in
theorem ki_X10_nearOf : Cond.instanceMethod yX10_nearOf ∈ wsL_law := (kin_17 _ (List.mem_of_getElem? (i := 8) rfl))
set_option maxRecDepth 20000 in
theorem km_X10_far : xMth zX10_far 2 := ⟨(kin_17 _ (List.mem_of_getElem? (i := 14) rfl)), (kin_1 _ (List.mem_of_getElem? (i := 5) rfl)), ⟨by decide, by decide, by decide +kernel⟩, by decide +kernel, by decide⟩
set_option maxRecDepth 20000 in
theorem kv_X10_far : xVir zX10_far := ⟨(kin_17 _ (List.mem_of_getElem? (i := 12) rfl)), (kin_17 _ (List.mem_of_getElem? (i := 13) rfl))⟩
set_option maxRecDepth 20000 in
theorem ki_X10_far : Cond.instanceMethod yX10_far ∈ wsL_law := (kin_17 _ (List.mem_of_getElem? (i := 12) rfl))
set_option maxRecDepth 20000 in
theorem km_X10_apart : xMth zX10_apart 2 := ⟨(kin_17 _ (List.mem_of_getElem? (i := 18) rfl)), (kin_1 _ (List.mem_of_getElem? (i := 5) rfl)), ⟨by decide, by decide, by decide +kernel⟩, by decide +kernel, by decide⟩
set_option maxRecDepth 20000 in
theorem kv_X10_apart : xVir zX10_apart := ⟨(kin_17 _ (List.mem_of_getElem? (i := 16) rfl)), (kin_17 _ (List.mem_of_getElem? (i := 17) rfl))⟩
set_option maxRecDepth 20000 in
theorem ki_X10_apart : Cond.instanceMethod yX10_apart ∈ wsL_law := (kin_17 _ (List.mem_of_getElem? (i := 16) rfl))
set_option maxRecDepth 20000 in
theorem km_X10_most : xMth zX10_most 2 := ⟨(kin_17 _ (List.mem_of_getElem? (i := 22) rfl)), (kin_1 _ (List.mem_of_getElem? (i := 5) rfl)), ⟨by decide, by decide, by decide +kernel⟩, by decide +kernel, by decide⟩
set_option maxRecDepth 20000 in
theorem kv_X10_most : xVir zX10_most := ⟨(kin_17 _ (List.mem_of_getElem? (i := 20) rfl)), (kin_17 _ (List.mem_of_getElem? (i := 21) rfl))⟩
set_option maxRecDepth 20000 in
theorem ki_X10_most : Cond.instanceMethod yX10_most ∈ wsL_law := (kin_17 _ (List.mem_of_getElem? (i := 20) rfl))
set_option maxRecDepth 20000 in
theorem km_X10_closedOf : xMth zX10_closedOf 1 := ⟨(kin_18 _ (List.mem_of_getElem? (i := 2) rfl)), (kin_1 _ (List.mem_of_getElem? (i := 5) rfl)), ⟨by decide, by decide, by decide +kernel⟩, by decide +kernel, by decide⟩
set_option maxRecDepth 20000 in
theorem kv_X10_closedOf : xVir zX10_closedOf := ⟨(kin_18 _ (List.mem_of_getElem? (i := 0) rfl)), (kin_18 _ (List.mem_of_getElem? (i := 1) rfl))⟩
set_option maxRecDepth 20000 in
theorem ki_X10_closedOf : Cond.instanceMethod yX10_closedOf ∈ wsL_law := (kin_18 _ (List.mem_of_getElem? (i := 0) rfl))
set_option maxRecDepth 20000 in
theorem km_X10_beside : xMth zX10_beside 2 := ⟨(kin_18 _ (List.mem_of_getElem? (i := 6) rfl)), (kin_1 _ (List.mem_of_getElem? (i := 5) rfl)), ⟨by decide, by decide, by decide +kernel⟩, by decide +kernel, by decide⟩
set_option maxRecDepth 20000 in
theorem kv_X10_beside : xVir zX10_beside := ⟨(kin_18 _ (List.mem_of_getElem? (i := 4) rfl)), (kin_18 _ (List.mem_of_getElem? (i := 5) rfl))⟩
set_option maxRecDepth 20000 in
theorem ki_X10_beside : Cond.instanceMethod yX10_beside ∈ wsL_law := (kin_18 _ (List.mem_of_getElem? (i := 4) rfl))
set_option maxRecDepth 20000 in
theorem km_X10_isTaken : xMth zX10_isTaken 1 := ⟨(kin_18 _ (List.mem_of_getElem? (i := 10) rfl)), (kin_1 _ (List.mem_of_getElem? (i := 5) rfl)), ⟨by decide, by decide, by decide +kernel⟩, by decide +kernel, by decide⟩
set_option maxRecDepth 20000 in
theorem kv_X10_isTaken : xVir zX10_isTaken := ⟨(kin_18 _ (List.mem_of_getElem? (i := 8) rfl)), (kin_18 _ (List.mem_of_getElem? (i := 9) rfl))⟩
set_option maxRecDepth 20000 in
theorem ki_X10_isTaken : Cond.instanceMethod yX10_isTaken ∈ wsL_law := (kin_18 _ (List.mem_of_getElem? (i := 8) rfl))
set_option maxRecDepth 20000 in
theorem km_X10_sumOf : xMth zX10_sumOf 2 := ⟨(kin_18 _ (List.mem_of_getElem? (i := 14) rfl)), (kin_1 _ (List.mem_of_getElem? (i := 5) rfl)), ⟨by decide, by decide, by decide +kernel⟩, by decide +kernel, by decide⟩
set_option maxRecDepth 20000 in
theorem kv_X10_sumOf : xVir zX10_sumOf := ⟨(kin_18 _ (List.mem_of_getElem? (i := 12) rfl)), (kin_18 _ (List.mem_of_getElem? (i := 13) rfl))⟩
set_option maxRecDepth 20000 in
theorem ki_X10_sumOf : Cond.instanceMethod yX10_sumOf ∈ wsL_law := (kin_18 _ (List.mem_of_getElem? (i := 12) rfl))
set_option maxRecDepth 20000 in
theorem km_X10_first : xMth zX10_first 0 := ⟨(kin_18 _ (List.mem_of_getElem? (i := 18) rfl)), (kin_1 _ (List.mem_of_getElem? (i := 5) rfl)), ⟨by decide, by decide, by decide +kernel⟩, by decide +kernel, by decide⟩
set_option maxRecDepth 20000 in
theorem kv_X10_first : xVir zX10_first := ⟨(kin_18 _ (List.mem_of_getElem? (i := 16) rfl)), (kin_18 _ (List.mem_of_getElem? (i := 17) rfl))⟩
set_option maxRecDepth 20000 in
theorem ki_X10_first : Cond.instanceMethod yX10_first ∈ wsL_law := (kin_18 _ (List.mem_of_getElem? (i := 16) rfl))
set_option maxRecDepth 20000 in
theorem km_X10_behind : xMth zX10_behind 0 := ⟨(kin_18 _ (List.mem_of_getElem? (i := 22) rfl)), (kin_1 _ (List.mem_of_getElem? (i := 5) rfl)), ⟨by decide, by decide, by decide +kernel⟩, by decide +kernel, by decide⟩
set_option maxRecDepth 20000 in
theorem kv_X10_behind : xVir zX10_behind := ⟨(kin_18 _ (List.mem_of_getElem? (i := 20) rfl)), (kin_18 _ (List.mem_of_getElem? (i := 21) rfl))⟩
set_option maxRecDepth 20000 in
theorem ki_X10_behind : Cond.instanceMethod yX10_behind ∈ wsL_law := (kin_18 _ (List.mem_of_getElem? (i := 20) rfl))
set_option maxRecDepth 20000 in
theorem km_X10_holds : xMth zX10_holds 2 := ⟨(kin_19 _ (List.mem_of_getElem? (i := 2) rfl)), (kin_1 _ (List.mem_of_getElem? (i := 5) rfl)), ⟨by decide, by decide, by decide +kernel⟩, by decide +kernel, by decide⟩
set_option maxRecDepth 20000 in
theorem kv_X10_holds : xVir zX10_holds := ⟨(kin_19 _ (List.mem_of_getElem? (i := 0) rfl)), (kin_19 _ (List.mem_of_getElem? (i := 1) rfl))⟩
set_option maxRecDepth 20000 in
theorem ki_X10_holds : Cond.instanceMethod yX10_holds ∈ wsL_law := (kin_19 _ (List.mem_of_getElem? (i := 0) rfl))
set_option maxRecDepth 20000 in
theorem km_X10_factOf : xMth zX10_factOf 2 := ⟨(kin_19 _ (List.mem_of_getElem? (i := 6) rfl)), (kin_1 _ (List.mem_of_getElem? (i := 5) rfl)), ⟨by decide, by decide, by decide +kernel⟩, by decide +kernel, by decide⟩
set_option maxRecDepth 20000 in
theorem kv_X10_factOf : xVir zX10_factOf := ⟨(kin_19 _ (List.mem_of_getElem? (i := 4) rfl)), (kin_19 _ (List.mem_of_getElem? (i := 5) rfl))⟩
set_option maxRecDepth 20000 in
theorem ki_X10_factOf : Cond.instanceMethod yX10_factOf ∈ wsL_law := (kin_19 _ (List.mem_of_getElem? (i := 4) rfl))
set_option maxRecDepth 20000 in
theorem km_X10_min : xMth zX10_min 2 := ⟨(kin_19 _ (List.mem_of_getElem? (i := 10) rfl)), (kin_1 _ (List.mem_of_getElem? (i := 5) rfl)), ⟨by decide, by decide, by decide +kernel⟩, by decide +kernel, by decide⟩
set_option maxRecDepth 20000 in
theorem kv_X10_min : xVir zX10_min := ⟨(kin_19 _ (List.mem_of_getElem? (i := 8) rfl)), (kin_19 _ (List.mem_of_getElem? (i := 9) rfl))⟩
set_option maxRecDepth 20000 in
theorem ki_X10_min : Cond.instanceMethod yX10_min ∈ wsL_law := (kin_19 _ (List.mem_of_getElem? (i := 8) rfl))
set_option maxRecDepth 20000 in
theorem km_X10_doesOf : xMth zX10_doesOf 1 := ⟨(kin_19 _ (List.mem_of_getElem? (i := 14) rfl)), (kin_1 _ (List.mem_of_getElem? (i := 5) rfl)), ⟨by decide, by decide, by decide +kernel⟩, by decide +kernel, by decide⟩
set_option maxRecDepth 20000 in
theorem kv_X10_doesOf : xVir zX10_doesOf := ⟨(kin_19 _ (List.mem_of_getElem? (i := 12) rfl)), (kin_19 _ (List.mem_of_getElem? (i := 13) rfl))⟩
set_option maxRecDepth 20000 in
theorem ki_X10_doesOf : Cond.instanceMethod yX10_doesOf ∈ wsL_law := (kin_19 _ (List.mem_of_getElem? (i := 12) rfl))
set_option maxRecDepth 20000 in
theorem km_X10_nextBy : xMth zX10_nextBy 4 := ⟨(kin_19 _ (List.mem_of_getElem? (i := 18) rfl)), (kin_1 _ (List.mem_of_getElem? (i := 5) rfl)), ⟨by decide, by decide, by decide +kernel⟩, by decide +kernel, by decide⟩
set_option maxRecDepth 20000 in
theorem kv_X10_nextBy : xVir zX10_nextBy := ⟨(kin_19 _ (List.mem_of_getElem? (i := 16) rfl)), (kin_19 _ (List.mem_of_getElem? (i := 17) rfl))⟩
set_option maxRecDepth 20000 in
theorem ki_X10_nextBy : Cond.instanceMethod yX10_nextBy ∈ wsL_law := (kin_19 _ (List.mem_of_getElem? (i := 16) rfl))
set_option maxRecDepth 20000 in
theorem km_X10_round : xMth zX10_round 2 := ⟨(kin_19 _ (List.mem_of_getElem? (i := 22) rfl)), (kin_1 _ (List.mem_of_getElem? (i := 5) rfl)), ⟨by decide, by decide, by decide +kernel⟩, by decide +kernel, by decide⟩
set_option maxRecDepth 20000 in
theorem kv_X10_round : xVir zX10_round := ⟨(kin_19 _ (List.mem_of_getElem? (i := 20) rfl)), (kin_19 _ (List.mem_of_getElem? (i := 21) rfl))⟩
set_option maxRecDepth 20000 in
theorem ki_X10_round : Cond.instanceMethod yX10_round ∈ wsL_law := (kin_19 _ (List.mem_of_getElem? (i := 20) rfl))
set_option maxRecDepth 20000 in
theorem km_X9_set : xMth zX9_set 3 := ⟨(kin_20 _ (List.mem_of_getElem? (i := 2) rfl)), (kin_1 _ (List.mem_of_getElem? (i := 2) rfl)), ⟨by decide, by decide, by decide +kernel⟩, by decide +kernel, by decide⟩
set_option maxRecDepth 20000 in
theorem kv_X9_set : xVir zX9_set := ⟨(kin_20 _ (List.mem_of_getElem? (i := 0) rfl)), (kin_20 _ (List.mem_of_getElem? (i := 1) rfl))⟩
set_option maxRecDepth 20000 in
theorem ki_X9_set : Cond.instanceMethod yX9_set ∈ wsL_law := (kin_20 _ (List.mem_of_getElem? (i := 0) rfl))
set_option maxRecDepth 20000 in
theorem km_X5_put : xMth zX5_put 2 := ⟨(kin_20 _ (List.mem_of_getElem? (i := 6) rfl)), (kin_3 _ (List.mem_of_getElem? (i := 2) rfl)), ⟨by decide, by decide, by decide +kernel⟩, by decide +kernel, by decide⟩
set_option maxRecDepth 20000 in
theorem kv_X5_put : xVir zX5_put := ⟨(kin_20 _ (List.mem_of_getElem? (i := 4) rfl)), (kin_20 _ (List.mem_of_getElem? (i := 5) rfl))⟩
set_option maxRecDepth 20000 in
theorem ki_X5_put : Cond.instanceMethod yX5_put ∈ wsL_law := (kin_20 _ (List.mem_of_getElem? (i := 4) rfl))
set_option maxRecDepth 20000 in
theorem km_X10_set : xMth zX10_set 3 := ⟨(kin_20 _ (List.mem_of_getElem? (i := 10) rfl)), (kin_1 _ (List.mem_of_getElem? (i := 5) rfl)), ⟨by decide, by decide, by decide +kernel⟩, by decide +kernel, by decide⟩
set_option maxRecDepth 20000 in
theorem kv_X10_set : xVir zX10_set := ⟨(kin_20 _ (List.mem_of_getElem? (i := 8) rfl)), (kin_20 _ (List.mem_of_getElem? (i := 9) rfl))⟩
set_option maxRecDepth 20000 in
theorem ki_X10_set : Cond.instanceMethod yX10_set ∈ wsL_law := (kin_20 _ (List.mem_of_getElem? (i := 8) rfl))
set_option maxRecDepth 20000 in
theorem km_X9_enemies : xMth zX9_enemies 3 := ⟨(kin_20 _ (List.mem_of_getElem? (i := 14) rfl)), (kin_1 _ (List.mem_of_getElem? (i := 2) rfl)), ⟨by decide, by decide, by decide +kernel⟩, by decide +kernel, by decide⟩
set_option maxRecDepth 20000 in
theorem kv_X9_enemies : xVir zX9_enemies := ⟨(kin_20 _ (List.mem_of_getElem? (i := 12) rfl)), (kin_20 _ (List.mem_of_getElem? (i := 13) rfl))⟩
set_option maxRecDepth 20000 in
theorem ki_X9_enemies : Cond.instanceMethod yX9_enemies ∈ wsL_law := (kin_20 _ (List.mem_of_getElem? (i := 12) rfl))
set_option maxRecDepth 20000 in
theorem km_X6_areEnemies : xMth zX6_areEnemies 2 := ⟨(kin_20 _ (List.mem_of_getElem? (i := 18) rfl)), (kin_1 _ (List.mem_of_getElem? (i := 15) rfl)), ⟨by decide, by decide, by decide +kernel⟩, by decide +kernel, by decide⟩
set_option maxRecDepth 20000 in
theorem kv_X6_areEnemies : xVir zX6_areEnemies := ⟨(kin_20 _ (List.mem_of_getElem? (i := 16) rfl)), (kin_20 _ (List.mem_of_getElem? (i := 17) rfl))⟩
set_option maxRecDepth 20000 in
theorem ki_X6_areEnemies : Cond.instanceMethod yX6_areEnemies ∈ wsL_law := (kin_20 _ (List.mem_of_getElem? (i := 16) rfl))
set_option maxRecDepth 20000 in
theorem km_X6_setEnemy : xMth zX6_setEnemy 3 := ⟨(kin_20 _ (List.mem_of_getElem? (i := 22) rfl)), (kin_1 _ (List.mem_of_getElem? (i := 15) rfl)), ⟨by decide, by decide, by decide +kernel⟩, by decide +kernel, by decide⟩
set_option maxRecDepth 20000 in
theorem kv_X6_setEnemy : xVir zX6_setEnemy := ⟨(kin_20 _ (List.mem_of_getElem? (i := 20) rfl)), (kin_20 _ (List.mem_of_getElem? (i := 21) rfl))⟩
set_option maxRecDepth 20000 in
theorem ki_X6_setEnemy : Cond.instanceMethod yX6_setEnemy ∈ wsL_law := (kin_20 _ (List.mem_of_getElem? (i := 20) rfl))
set_option maxRecDepth 20000 in
theorem km_X10_enemies : xMth zX10_enemies 3 := ⟨(kin_21 _ (List.mem_of_getElem? (i := 3) rfl)), (kin_1 _ (List.mem_of_getElem? (i := 5) rfl)), ⟨by decide, by decide, by decide +kernel⟩, by decide +kernel, by decide⟩
set_option maxRecDepth 20000 in
theorem kv_X10_enemies : xVir zX10_enemies := ⟨(kin_21 _ (List.mem_of_getElem? (i := 1) rfl)), (kin_21 _ (List.mem_of_getElem? (i := 2) rfl))⟩
set_option maxRecDepth 20000 in
theorem ki_X10_enemies : Cond.instanceMethod yX10_enemies ∈ wsL_law := (kin_21 _ (List.mem_of_getElem? (i := 1) rfl))
set_option maxRecDepth 20000 in
theorem km_X9_tamer : xMth zX9_tamer 1 := ⟨(kin_21 _ (List.mem_of_getElem? (i := 7) rfl)), (kin_1 _ (List.mem_of_getElem? (i := 2) rfl)), ⟨by decide, by decide, by decide +kernel⟩, by decide +kernel, by decide⟩
set_option maxRecDepth 20000 in
theorem kv_X9_tamer : xVir zX9_tamer := ⟨(kin_21 _ (List.mem_of_getElem? (i := 5) rfl)), (kin_21 _ (List.mem_of_getElem? (i := 6) rfl))⟩
set_option maxRecDepth 20000 in
theorem ki_X9_tamer : Cond.instanceMethod yX9_tamer ∈ wsL_law := (kin_21 _ (List.mem_of_getElem? (i := 5) rfl))
set_option maxRecDepth 20000 in
theorem km_X10_tamer : xMth zX10_tamer 1 := ⟨(kin_21 _ (List.mem_of_getElem? (i := 11) rfl)), (kin_1 _ (List.mem_of_getElem? (i := 5) rfl)), ⟨by decide, by decide, by decide +kernel⟩, by decide +kernel, by decide⟩
set_option maxRecDepth 20000 in
theorem kv_X10_tamer : xVir zX10_tamer := ⟨(kin_21 _ (List.mem_of_getElem? (i := 9) rfl)), (kin_21 _ (List.mem_of_getElem? (i := 10) rfl))⟩
set_option maxRecDepth 20000 in
theorem ki_X10_tamer : Cond.instanceMethod yX10_tamer ∈ wsL_law := (kin_21 _ (List.mem_of_getElem? (i := 9) rfl))
set_option maxRecDepth 20000 in
theorem km_X9_feed : xMth zX9_feed 2 := ⟨(kin_21 _ (List.mem_of_getElem? (i := 15) rfl)), (kin_1 _ (List.mem_of_getElem? (i := 2) rfl)), ⟨by decide, by decide, by decide +kernel⟩, by decide +kernel, by decide⟩
set_option maxRecDepth 20000 in
theorem kv_X9_feed : xVir zX9_feed := ⟨(kin_21 _ (List.mem_of_getElem? (i := 13) rfl)), (kin_21 _ (List.mem_of_getElem? (i := 14) rfl))⟩
set_option maxRecDepth 20000 in
theorem ki_X9_feed : Cond.instanceMethod yX9_feed ∈ wsL_law := (kin_21 _ (List.mem_of_getElem? (i := 13) rfl))
set_option maxRecDepth 20000 in
theorem km_X10_feed : xMth zX10_feed 2 := ⟨(kin_21 _ (List.mem_of_getElem? (i := 22) rfl)), (kin_1 _ (List.mem_of_getElem? (i := 5) rfl)), ⟨by decide, by decide, by decide +kernel⟩, by decide +kernel, by decide⟩
set_option maxRecDepth 20000 in
theorem kv_X10_feed : xVir zX10_feed := ⟨(kin_21 _ (List.mem_of_getElem? (i := 20) rfl)), (kin_21 _ (List.mem_of_getElem? (i := 21) rfl))⟩
set_option maxRecDepth 20000 in
theorem ki_X10_feed : Cond.instanceMethod yX10_feed ∈ wsL_law := (kin_21 _ (List.mem_of_getElem? (i := 20) rfl))
set_option maxRecDepth 20000 in
theorem km_X9_ring : xMth zX9_ring 0 := ⟨(kin_22 _ (List.mem_of_getElem? (i := 2) rfl)), (kin_1 _ (List.mem_of_getElem? (i := 2) rfl)), ⟨by decide, by decide, by decide +kernel⟩, by decide +kernel, by decide⟩
set_option maxRecDepth 20000 in
theorem kv_X9_ring : xVir zX9_ring := ⟨(kin_22 _ (List.mem_of_getElem? (i := 0) rfl)), (kin_22 _ (List.mem_of_getElem? (i := 1) rfl))⟩
set_option maxRecDepth 20000 in
theorem ki_X9_ring : Cond.instanceMethod yX9_ring ∈ wsL_law := (kin_22 _ (List.mem_of_getElem? (i := 0) rfl))
set_option maxRecDepth 20000 in
theorem km_X3_faultOfText : xMth zX3_faultOfText 0 := ⟨(kin_22 _ (List.mem_of_getElem? (i := 8) rfl)), (kin_1 _ (List.mem_of_getElem? (i := 22) rfl)), ⟨by decide, by decide, by decide +kernel⟩, by decide +kernel, by decide⟩
set_option maxRecDepth 20000 in
theorem kv_X3_faultOfText : xVir zX3_faultOfText := ⟨(kin_22 _ (List.mem_of_getElem? (i := 6) rfl)), (kin_22 _ (List.mem_of_getElem? (i := 7) rfl))⟩
set_option maxRecDepth 20000 in
theorem ki_X3_faultOfText : Cond.instanceMethod yX3_faultOfText ∈ wsL_law := (kin_22 _ (List.mem_of_getElem? (i := 6) rfl))
set_option maxRecDepth 20000 in
theorem km_X4_clear : xMth zX4_clear 0 := ⟨(kin_22 _ (List.mem_of_getElem? (i := 13) rfl)), (kin_2 _ (List.mem_of_getElem? (i := 18) rfl)), ⟨by decide, by decide, by decide +kernel⟩, by decide +kernel, by decide⟩
set_option maxRecDepth 20000 in
theorem kv_X4_clear : xVir zX4_clear := ⟨(kin_22 _ (List.mem_of_getElem? (i := 11) rfl)), (kin_22 _ (List.mem_of_getElem? (i := 12) rfl))⟩
set_option maxRecDepth 20000 in
theorem ki_X4_clear : Cond.instanceMethod yX4_clear ∈ wsL_law := (kin_22 _ (List.mem_of_getElem? (i := 11) rfl))
set_option maxRecDepth 20000 in
theorem km_X5_clear : xMth zX5_clear 0 := ⟨(kin_22 _ (List.mem_of_getElem? (i := 17) rfl)), (kin_3 _ (List.mem_of_getElem? (i := 2) rfl)), ⟨by decide, by decide, by decide +kernel⟩, by decide +kernel, by decide⟩
set_option maxRecDepth 20000 in
theorem kv_X5_clear : xVir zX5_clear := ⟨(kin_22 _ (List.mem_of_getElem? (i := 15) rfl)), (kin_22 _ (List.mem_of_getElem? (i := 16) rfl))⟩
set_option maxRecDepth 20000 in
theorem ki_X5_clear : Cond.instanceMethod yX5_clear ∈ wsL_law := (kin_22 _ (List.mem_of_getElem? (i := 15) rfl))
set_option maxRecDepth 20000 in
theorem km_X3_accept : xMth zX3_accept 1 := ⟨(kin_22 _ (List.mem_of_getElem? (i := 21) rfl)), (kin_1 _ (List.mem_of_getElem? (i := 22) rfl)), ⟨by decide, by decide, by decide +kernel⟩, by decide +kernel, by decide⟩
set_option maxRecDepth 20000 in
theorem kv_X3_accept : xVir zX3_accept := ⟨(kin_22 _ (List.mem_of_getElem? (i := 19) rfl)), (kin_22 _ (List.mem_of_getElem? (i := 20) rfl))⟩
set_option maxRecDepth 20000 in
theorem ki_X3_accept : Cond.instanceMethod yX3_accept ∈ wsL_law := (kin_22 _ (List.mem_of_getElem? (i := 19) rfl))
set_option maxRecDepth 20000 in
theorem km_X3_readClause : xMth zX3_readClause 0 := ⟨(kin_23 _ (List.mem_of_getElem? (i := 2) rfl)), (kin_1 _ (List.mem_of_getElem? (i := 22) rfl)), ⟨by decide, by decide, by decide +kernel⟩, by decide +kernel, by decide⟩
set_option maxRecDepth 20000 in
theorem kv_X3_readClause : xVir zX3_readClause := ⟨(kin_23 _ (List.mem_of_getElem? (i := 0) rfl)), (kin_23 _ (List.mem_of_getElem? (i := 1) rfl))⟩
set_option maxRecDepth 20000 in
theorem ki_X3_readClause : Cond.instanceMethod yX3_readClause ∈ wsL_law := (kin_23 _ (List.mem_of_getElem? (i := 0) rfl))
set_option maxRecDepth 20000 in
theorem km_X3_readWord : xMth zX3_readWord 1 := ⟨(kin_23 _ (List.mem_of_getElem? (i := 7) rfl)), (kin_1 _ (List.mem_of_getElem? (i := 22) rfl)), ⟨by decide, by decide, by decide +kernel⟩, by decide +kernel, by decide⟩
set_option maxRecDepth 20000 in
theorem kv_X3_readWord : xVir zX3_readWord := ⟨(kin_23 _ (List.mem_of_getElem? (i := 5) rfl)), (kin_23 _ (List.mem_of_getElem? (i := 6) rfl))⟩
set_option maxRecDepth 20000 in
theorem ki_X3_readWord : Cond.instanceMethod yX3_readWord ∈ wsL_law := (kin_23 _ (List.mem_of_getElem? (i := 5) rfl))
set_option maxRecDepth 20000 in
theorem km_J0_length_8abf5 : xMth zJ0_length_8abf5 0 := ⟨(kin_23 _ (List.mem_of_getElem? (i := 12) rfl)), (kin_23 _ (List.mem_of_getElem? (i := 11) rfl)), ⟨by decide, by decide, by decide +kernel⟩, by decide +kernel, by decide⟩
set_option maxRecDepth 20000 in
theorem kv_J0_length_8abf5 : xVir zJ0_length_8abf5 := ⟨(kin_23 _ (List.mem_of_getElem? (i := 9) rfl)), (kin_23 _ (List.mem_of_getElem? (i := 10) rfl))⟩
set_option maxRecDepth 20000 in
theorem ki_J0_length_8abf5 : Cond.instanceMethod yJ0_length_8abf5 ∈ wsL_law := (kin_23 _ (List.mem_of_getElem? (i := 9) rfl))
set_option maxRecDepth 20000 in
theorem km_J0_coder_7d493 : xMth zJ0_coder_7d493 0 := ⟨(kin_23 _ (List.mem_of_getElem? (i := 17) rfl)), (kin_23 _ (List.mem_of_getElem? (i := 11) rfl)), ⟨by decide, by decide, by decide +kernel⟩, by decide +kernel, by decide⟩
set_option maxRecDepth 20000 in
theorem kv_J0_coder_7d493 : xVir zJ0_coder_7d493 := ⟨(kin_23 _ (List.mem_of_getElem? (i := 15) rfl)), (kin_23 _ (List.mem_of_getElem? (i := 16) rfl))⟩
set_option maxRecDepth 20000 in
theorem ki_J0_coder_7d493 : Cond.instanceMethod yJ0_coder_7d493 ∈ wsL_law := (kin_23 _ (List.mem_of_getElem? (i := 15) rfl))
set_option maxRecDepth 20000 in
theorem km_J0_charAt_5068e : xMth zJ0_charAt_5068e 1 := ⟨(kin_23 _ (List.mem_of_getElem? (i := 23) rfl)), (kin_23 _ (List.mem_of_getElem? (i := 11) rfl)), ⟨by decide, by decide, by decide +kernel⟩, by decide +kernel, by decide⟩
set_option maxRecDepth 20000 in
theorem kv_J0_charAt_5068e : xVir zJ0_charAt_5068e := ⟨(kin_23 _ (List.mem_of_getElem? (i := 21) rfl)), (kin_23 _ (List.mem_of_getElem? (i := 22) rfl))⟩
set_option maxRecDepth 20000 in
theorem ki_J0_charAt_5068e : Cond.instanceMethod yJ0_charAt_5068e ∈ wsL_law := (kin_23 _ (List.mem_of_getElem? (i := 21) rfl))
set_option maxRecDepth 20000 in
theorem km_J0_isLatin1_aae02 : xMth zJ0_isLatin1_aae02 0 := ⟨(kin_24 _ (List.mem_of_getElem? (i := 3) rfl)), (kin_23 _ (List.mem_of_getElem? (i := 11) rfl)), ⟨by decide, by decide, by decide +kernel⟩, by decide +kernel, by decide⟩
set_option maxRecDepth 20000 in
theorem kv_J0_isLatin1_aae02 : xVir zJ0_isLatin1_aae02 := ⟨(kin_24 _ (List.mem_of_getElem? (i := 1) rfl)), (kin_24 _ (List.mem_of_getElem? (i := 2) rfl))⟩
set_option maxRecDepth 20000 in
theorem ki_J0_isLatin1_aae02 : Cond.instanceMethod yJ0_isLatin1_aae02 ∈ wsL_law := (kin_24 _ (List.mem_of_getElem? (i := 1) rfl))
set_option maxRecDepth 20000 in
theorem km_J1_charAt_3b067 : xMth zJ1_charAt_3b067 2 := ⟨(kin_24 _ (List.mem_of_getElem? (i := 7) rfl)), (kin_24 _ (List.mem_of_getElem? (i := 6) rfl)), ⟨by decide, by decide, by decide +kernel⟩, by decide +kernel, by decide⟩
set_option maxRecDepth 20000 in
theorem ks_J1_charAt_3b067 : xSta zJ1_charAt_3b067 := (kin_24 _ (List.mem_of_getElem? (i := 5) rfl))
set_option maxRecDepth 20000 in
theorem km_J0_checkIndex_df160 : xMth zJ0_checkIndex_df160 2 := ⟨(kin_24 _ (List.mem_of_getElem? (i := 10) rfl)), (kin_23 _ (List.mem_of_getElem? (i := 11) rfl)), ⟨by decide, by decide, by decide +kernel⟩, by decide +kernel, by decide⟩
set_option maxRecDepth 20000 in
theorem ks_J0_checkIndex_df160 : xSta zJ0_checkIndex_df160 := (kin_24 _ (List.mem_of_getElem? (i := 9) rfl))
set_option maxRecDepth 20000 in
theorem km_J3_checkIndex_8e157 : xMth zJ3_checkIndex_8e157 3 := ⟨(kin_24 _ (List.mem_of_getElem? (i := 15) rfl)), (kin_24 _ (List.mem_of_getElem? (i := 14) rfl)), ⟨by decide, by decide, by decide +kernel⟩, by decide +kernel, by decide⟩
set_option maxRecDepth 20000 in
theorem ks_J3_checkIndex_8e157 : xSta zJ3_checkIndex_8e157 := (kin_24 _ (List.mem_of_getElem? (i := 13) rfl))
set_option maxRecDepth 20000 in
theorem km_J2_charAt_3b067 : xMth zJ2_charAt_3b067 2 := ⟨(kin_24 _ (List.mem_of_getElem? (i := 19) rfl)), (kin_24 _ (List.mem_of_getElem? (i := 18) rfl)), ⟨by decide, by decide, by decide +kernel⟩, by decide +kernel, by decide⟩
set_option maxRecDepth 20000 in
theorem ks_J2_charAt_3b067 : xSta zJ2_charAt_3b067 := (kin_24 _ (List.mem_of_getElem? (i := 17) rfl))
set_option maxRecDepth 20000 in
theorem km_J2_checkIndex_2214a : xMth zJ2_checkIndex_2214a 2 := ⟨(kin_24 _ (List.mem_of_getElem? (i := 22) rfl)), (kin_24 _ (List.mem_of_getElem? (i := 18) rfl)), ⟨by decide, by decide, by decide +kernel⟩, by decide +kernel, by decide⟩
set_option maxRecDepth 20000 in
theorem ks_J2_checkIndex_2214a : xSta zJ2_checkIndex_2214a := (kin_24 _ (List.mem_of_getElem? (i := 21) rfl))
set_option maxRecDepth 20000 in
theorem km_J2_length_9d52b : xMth zJ2_length_9d52b 1 := ⟨(kin_25 _ (List.mem_of_getElem? (i := 1) rfl)), (kin_24 _ (List.mem_of_getElem? (i := 18) rfl)), ⟨by decide, by decide, by decide +kernel⟩, by decide +kernel, by decide⟩
set_option maxRecDepth 20000 in
theorem ks_J2_length_9d52b : xSta zJ2_length_9d52b := (kin_25 _ (List.mem_of_getElem? (i := 0) rfl))
set_option maxRecDepth 20000 in
theorem km_J2_getChar_3b067 : xMth zJ2_getChar_3b067 2 := ⟨(kin_25 _ (List.mem_of_getElem? (i := 5) rfl)), (kin_24 _ (List.mem_of_getElem? (i := 18) rfl)), ⟨by decide, by decide, by decide +kernel⟩, by decide +kernel, by decide⟩
set_option maxRecDepth 20000 in
theorem ks_J2_getChar_3b067 : xSta zJ2_getChar_3b067 := (kin_25 _ (List.mem_of_getElem? (i := 4) rfl))
set_option maxRecDepth 20000 in
theorem km_X3_readNumber : xMth zX3_readNumber 0 := ⟨(kin_25 _ (List.mem_of_getElem? (i := 12) rfl)), (kin_1 _ (List.mem_of_getElem? (i := 22) rfl)), ⟨by decide, by decide, by decide +kernel⟩, by decide +kernel, by decide⟩
set_option maxRecDepth 20000 in
theorem kv_X3_readNumber : xVir zX3_readNumber := ⟨(kin_25 _ (List.mem_of_getElem? (i := 10) rfl)), (kin_25 _ (List.mem_of_getElem? (i := 11) rfl))⟩
set_option maxRecDepth 20000 in
theorem ki_X3_readNumber : Cond.instanceMethod yX3_readNumber ∈ wsL_law := (kin_25 _ (List.mem_of_getElem? (i := 10) rfl))
set_option maxRecDepth 20000 in
theorem km_X3_readEither : xMth zX3_readEither 1 := ⟨(kin_25 _ (List.mem_of_getElem? (i := 16) rfl)), (kin_1 _ (List.mem_of_getElem? (i := 22) rfl)), ⟨by decide, by decide, by decide +kernel⟩, by decide +kernel, by decide⟩
set_option maxRecDepth 20000 in
theorem kv_X3_readEither : xVir zX3_readEither := ⟨(kin_25 _ (List.mem_of_getElem? (i := 14) rfl)), (kin_25 _ (List.mem_of_getElem? (i := 15) rfl))⟩
set_option maxRecDepth 20000 in
theorem ki_X3_readEither : Cond.instanceMethod yX3_readEither ∈ wsL_law := (kin_25 _ (List.mem_of_getElem? (i := 14) rfl))
set_option maxRecDepth 20000 in
theorem km_X4_add : xMth zX4_add 3 := ⟨(kin_25 _ (List.mem_of_getElem? (i := 23) rfl)), (kin_2 _ (List.mem_of_getElem? (i := 18) rfl)), ⟨by decide, by decide, by decide +kernel⟩, by decide +kernel, by decide⟩
set_option maxRecDepth 20000 in
theorem kv_X4_add : xVir zX4_add := ⟨(kin_25 _ (List.mem_of_getElem? (i := 21) rfl)), (kin_25 _ (List.mem_of_getElem? (i := 22) rfl))⟩
set_option maxRecDepth 20000 in
theorem ki_X4_add : Cond.instanceMethod yX4_add ∈ wsL_law := (kin_25 _ (List.mem_of_getElem? (i := 21) rfl))
set_option maxRecDepth 20000 in
theorem km_X3_readBoth : xMth zX3_readBoth 1 := ⟨(kin_26 _ (List.mem_of_getElem? (i := 1) rfl)), (kin_1 _ (List.mem_of_getElem? (i := 22) rfl)), ⟨by decide, by decide, by decide +kernel⟩, by decide +kernel, by decide⟩
set_option maxRecDepth 20000 in
theorem kv_X3_readBoth : xVir zX3_readBoth := ⟨(kin_25 _ (List.mem_of_getElem? (i := 18) rfl)), (kin_25 _ (List.mem_of_getElem? (i := 19) rfl))⟩
set_option maxRecDepth 20000 in
theorem ki_X3_readBoth : Cond.instanceMethod yX3_readBoth ∈ wsL_law := (kin_25 _ (List.mem_of_getElem? (i := 18) rfl))
set_option maxRecDepth 20000 in
theorem km_X3_readOne : xMth zX3_readOne 1 := ⟨(kin_26 _ (List.mem_of_getElem? (i := 5) rfl)), (kin_1 _ (List.mem_of_getElem? (i := 22) rfl)), ⟨by decide, by decide, by decide +kernel⟩, by decide +kernel, by decide⟩
set_option maxRecDepth 20000 in
theorem kv_X3_readOne : xVir zX3_readOne := ⟨(kin_26 _ (List.mem_of_getElem? (i := 3) rfl)), (kin_26 _ (List.mem_of_getElem? (i := 4) rfl))⟩
set_option maxRecDepth 20000 in
theorem ki_X3_readOne : Cond.instanceMethod yX3_readOne ∈ wsL_law := (kin_26 _ (List.mem_of_getElem? (i := 3) rfl))
set_option maxRecDepth 20000 in
theorem km_X4_copyFrom : xMth zX4_copyFrom 1 := ⟨(kin_26 _ (List.mem_of_getElem? (i := 10) rfl)), (kin_2 _ (List.mem_of_getElem? (i := 18) rfl)), ⟨by decide, by decide, by decide +kernel⟩, by decide +kernel, by decide⟩
set_option maxRecDepth 20000 in
theorem kv_X4_copyFrom : xVir zX4_copyFrom := ⟨(kin_26 _ (List.mem_of_getElem? (i := 8) rfl)), (kin_26 _ (List.mem_of_getElem? (i := 9) rfl))⟩
set_option maxRecDepth 20000 in
theorem ki_X4_copyFrom : Cond.instanceMethod yX4_copyFrom ∈ wsL_law := (kin_26 _ (List.mem_of_getElem? (i := 8) rfl))
set_option maxRecDepth 20000 in
theorem km_X5_copyFrom : xMth zX5_copyFrom 1 := ⟨(kin_26 _ (List.mem_of_getElem? (i := 14) rfl)), (kin_3 _ (List.mem_of_getElem? (i := 2) rfl)), ⟨by decide, by decide, by decide +kernel⟩, by decide +kernel, by decide⟩
set_option maxRecDepth 20000 in
theorem kv_X5_copyFrom : xVir zX5_copyFrom := ⟨(kin_26 _ (List.mem_of_getElem? (i := 12) rfl)), (kin_26 _ (List.mem_of_getElem? (i := 13) rfl))⟩
set_option maxRecDepth 20000 in
theorem ki_X5_copyFrom : Cond.instanceMethod yX5_copyFrom ∈ wsL_law := (kin_26 _ (List.mem_of_getElem? (i := 12) rfl))
set_option maxRecDepth 20000 in
theorem km_X10_ring : xMth zX10_ring 0 := ⟨(kin_26 _ (List.mem_of_getElem? (i := 21) rfl)), (kin_1 _ (List.mem_of_getElem? (i := 5) rfl)), ⟨by decide, by decide, by decide +kernel⟩, by decide +kernel, by decide⟩
set_option maxRecDepth 20000 in
theorem kv_X10_ring : xVir zX10_ring := ⟨(kin_26 _ (List.mem_of_getElem? (i := 19) rfl)), (kin_26 _ (List.mem_of_getElem? (i := 20) rfl))⟩
set_option maxRecDepth 20000 in
theorem ki_X10_ring : Cond.instanceMethod yX10_ring ∈ wsL_law := (kin_26 _ (List.mem_of_getElem? (i := 19) rfl))
set_option maxRecDepth 20000 in
theorem km_X10_goesText : xMth zX10_goesText 1 := ⟨(kin_27 _ (List.mem_of_getElem? (i := 1) rfl)), (kin_1 _ (List.mem_of_getElem? (i := 5) rfl)), ⟨by decide, by decide, by decide +kernel⟩, by decide +kernel, by decide⟩
set_option maxRecDepth 20000 in
theorem kv_X10_goesText : xVir zX10_goesText := ⟨(kin_26 _ (List.mem_of_getElem? (i := 23) rfl)), (kin_27 _ (List.mem_of_getElem? (i := 0) rfl))⟩
set_option maxRecDepth 20000 in
theorem ki_X10_goesText : Cond.instanceMethod yX10_goesText ∈ wsL_law := (kin_26 _ (List.mem_of_getElem? (i := 23) rfl))
set_option maxRecDepth 20000 in
theorem km_X10_takesClause : xMth zX10_takesClause 1 := ⟨(kin_27 _ (List.mem_of_getElem? (i := 5) rfl)), (kin_1 _ (List.mem_of_getElem? (i := 5) rfl)), ⟨by decide, by decide, by decide +kernel⟩, by decide +kernel, by decide⟩
set_option maxRecDepth 20000 in
theorem kv_X10_takesClause : xVir zX10_takesClause := ⟨(kin_27 _ (List.mem_of_getElem? (i := 3) rfl)), (kin_27 _ (List.mem_of_getElem? (i := 4) rfl))⟩
set_option maxRecDepth 20000 in
theorem ki_X10_takesClause : Cond.instanceMethod yX10_takesClause ∈ wsL_law := (kin_27 _ (List.mem_of_getElem? (i := 3) rfl))
set_option maxRecDepth 20000 in
theorem km_X10_takesHead : xMth zX10_takesHead 1 := ⟨(kin_27 _ (List.mem_of_getElem? (i := 9) rfl)), (kin_1 _ (List.mem_of_getElem? (i := 5) rfl)), ⟨by decide, by decide, by decide +kernel⟩, by decide +kernel, by decide⟩
set_option maxRecDepth 20000 in
theorem kv_X10_takesHead : xVir zX10_takesHead := ⟨(kin_27 _ (List.mem_of_getElem? (i := 7) rfl)), (kin_27 _ (List.mem_of_getElem? (i := 8) rfl))⟩
set_option maxRecDepth 20000 in
theorem ki_X10_takesHead : Cond.instanceMethod yX10_takesHead ∈ wsL_law := (kin_27 _ (List.mem_of_getElem? (i := 7) rfl))
set_option maxRecDepth 20000 in
theorem km_X10_next : xMth zX10_next 0 := ⟨(kin_27 _ (List.mem_of_getElem? (i := 13) rfl)), (kin_1 _ (List.mem_of_getElem? (i := 5) rfl)), ⟨by decide, by decide, by decide +kernel⟩, by decide +kernel, by decide⟩
set_option maxRecDepth 20000 in
theorem kv_X10_next : xVir zX10_next := ⟨(kin_27 _ (List.mem_of_getElem? (i := 11) rfl)), (kin_27 _ (List.mem_of_getElem? (i := 12) rfl))⟩
set_option maxRecDepth 20000 in
theorem ki_X10_next : Cond.instanceMethod yX10_next ∈ wsL_law := (kin_27 _ (List.mem_of_getElem? (i := 11) rfl))
set_option maxRecDepth 20000 in
theorem km_X10_takesWord : xMth zX10_takesWord 2 := ⟨(kin_27 _ (List.mem_of_getElem? (i := 17) rfl)), (kin_1 _ (List.mem_of_getElem? (i := 5) rfl)), ⟨by decide, by decide, by decide +kernel⟩, by decide +kernel, by decide⟩
set_option maxRecDepth 20000 in
theorem kv_X10_takesWord : xVir zX10_takesWord := ⟨(kin_27 _ (List.mem_of_getElem? (i := 15) rfl)), (kin_27 _ (List.mem_of_getElem? (i := 16) rfl))⟩
set_option maxRecDepth 20000 in
theorem ki_X10_takesWord : Cond.instanceMethod yX10_takesWord ∈ wsL_law := (kin_27 _ (List.mem_of_getElem? (i := 15) rfl))
set_option maxRecDepth 20000 in
theorem km_X10_takes : xMth zX10_takes 1 := ⟨(kin_27 _ (List.mem_of_getElem? (i := 21) rfl)), (kin_1 _ (List.mem_of_getElem? (i := 5) rfl)), ⟨by decide, by decide, by decide +kernel⟩, by decide +kernel, by decide⟩
set_option maxRecDepth 20000 in
theorem kv_X10_takes : xVir zX10_takes := ⟨(kin_27 _ (List.mem_of_getElem? (i := 19) rfl)), (kin_27 _ (List.mem_of_getElem? (i := 20) rfl))⟩
set_option maxRecDepth 20000 in
theorem ki_X10_takes : Cond.instanceMethod yX10_takes ∈ wsL_law := (kin_27 _ (List.mem_of_getElem? (i := 19) rfl))
set_option maxRecDepth 20000 in
theorem km_X10_takesNumber : xMth zX10_takesNumber 0 := ⟨(kin_28 _ (List.mem_of_getElem? (i := 1) rfl)), (kin_1 _ (List.mem_of_getElem? (i := 5) rfl)), ⟨by decide, by decide, by decide +kernel⟩, by decide +kernel, by decide⟩
set_option maxRecDepth 20000 in
theorem kv_X10_takesNumber : xVir zX10_takesNumber := ⟨(kin_27 _ (List.mem_of_getElem? (i := 23) rfl)), (kin_28 _ (List.mem_of_getElem? (i := 0) rfl))⟩
set_option maxRecDepth 20000 in
theorem ki_X10_takesNumber : Cond.instanceMethod yX10_takesNumber ∈ wsL_law := (kin_27 _ (List.mem_of_getElem? (i := 23) rfl))
set_option maxRecDepth 20000 in
theorem km_X10_isDigit : xMth zX10_isDigit 0 := ⟨(kin_28 _ (List.mem_of_getElem? (i := 5) rfl)), (kin_1 _ (List.mem_of_getElem? (i := 5) rfl)), ⟨by decide, by decide, by decide +kernel⟩, by decide +kernel, by decide⟩
set_option maxRecDepth 20000 in
theorem kv_X10_isDigit : xVir zX10_isDigit := ⟨(kin_28 _ (List.mem_of_getElem? (i := 3) rfl)), (kin_28 _ (List.mem_of_getElem? (i := 4) rfl))⟩
set_option maxRecDepth 20000 in
theorem ki_X10_isDigit : Cond.instanceMethod yX10_isDigit ∈ wsL_law := (kin_28 _ (List.mem_of_getElem? (i := 3) rfl))
set_option maxRecDepth 20000 in
theorem km_X10_takesE : xMth zX10_takesE 1 := ⟨(kin_28 _ (List.mem_of_getElem? (i := 9) rfl)), (kin_1 _ (List.mem_of_getElem? (i := 5) rfl)), ⟨by decide, by decide, by decide +kernel⟩, by decide +kernel, by decide⟩
set_option maxRecDepth 20000 in
theorem kv_X10_takesE : xVir zX10_takesE := ⟨(kin_28 _ (List.mem_of_getElem? (i := 7) rfl)), (kin_28 _ (List.mem_of_getElem? (i := 8) rfl))⟩
set_option maxRecDepth 20000 in
theorem ki_X10_takesE : Cond.instanceMethod yX10_takesE ∈ wsL_law := (kin_28 _ (List.mem_of_getElem? (i := 7) rfl))
set_option maxRecDepth 20000 in
theorem km_X10_takesTest : xMth zX10_takesTest 0 := ⟨(kin_28 _ (List.mem_of_getElem? (i := 13) rfl)), (kin_1 _ (List.mem_of_getElem? (i := 5) rfl)), ⟨by decide, by decide, by decide +kernel⟩, by decide +kernel, by decide⟩
set_option maxRecDepth 20000 in
theorem kv_X10_takesTest : xVir zX10_takesTest := ⟨(kin_28 _ (List.mem_of_getElem? (i := 11) rfl)), (kin_28 _ (List.mem_of_getElem? (i := 12) rfl))⟩
set_option maxRecDepth 20000 in
theorem ki_X10_takesTest : Cond.instanceMethod yX10_takesTest ∈ wsL_law := (kin_28 _ (List.mem_of_getElem? (i := 11) rfl))
set_option maxRecDepth 20000 in
theorem km_X10_place : xMth zX10_place 1 := ⟨(kin_28 _ (List.mem_of_getElem? (i := 17) rfl)), (kin_1 _ (List.mem_of_getElem? (i := 5) rfl)), ⟨by decide, by decide, by decide +kernel⟩, by decide +kernel, by decide⟩
set_option maxRecDepth 20000 in
theorem kv_X10_place : xVir zX10_place := ⟨(kin_28 _ (List.mem_of_getElem? (i := 15) rfl)), (kin_28 _ (List.mem_of_getElem? (i := 16) rfl))⟩
set_option maxRecDepth 20000 in
theorem ki_X10_place : Cond.instanceMethod yX10_place ∈ wsL_law := (kin_28 _ (List.mem_of_getElem? (i := 15) rfl))
set_option maxRecDepth 20000 in
theorem km_X10_put : xMth zX10_put 1 := ⟨(kin_28 _ (List.mem_of_getElem? (i := 21) rfl)), (kin_1 _ (List.mem_of_getElem? (i := 5) rfl)), ⟨by decide, by decide, by decide +kernel⟩, by decide +kernel, by decide⟩
set_option maxRecDepth 20000 in
theorem kv_X10_put : xVir zX10_put := ⟨(kin_28 _ (List.mem_of_getElem? (i := 19) rfl)), (kin_28 _ (List.mem_of_getElem? (i := 20) rfl))⟩
set_option maxRecDepth 20000 in
theorem ki_X10_put : Cond.instanceMethod yX10_put ∈ wsL_law := (kin_28 _ (List.mem_of_getElem? (i := 19) rfl))
set_option maxRecDepth 20000 in
theorem km_X10_whole : xMth zX10_whole 0 := ⟨(kin_29 _ (List.mem_of_getElem? (i := 1) rfl)), (kin_1 _ (List.mem_of_getElem? (i := 5) rfl)), ⟨by decide, by decide, by decide +kernel⟩, by decide +kernel, by decide⟩
set_option maxRecDepth 20000 in
theorem kv_X10_whole : xVir zX10_whole := ⟨(kin_28 _ (List.mem_of_getElem? (i := 23) rfl)), (kin_29 _ (List.mem_of_getElem? (i := 0) rfl))⟩
set_option maxRecDepth 20000 in
theorem ki_X10_whole : Cond.instanceMethod yX10_whole ∈ wsL_law := (kin_28 _ (List.mem_of_getElem? (i := 23) rfl))
set_option maxRecDepth 20000 in
theorem km_X10_settle : xMth zX10_settle 1 := ⟨(kin_29 _ (List.mem_of_getElem? (i := 5) rfl)), (kin_1 _ (List.mem_of_getElem? (i := 5) rfl)), ⟨by decide, by decide, by decide +kernel⟩, by decide +kernel, by decide⟩
set_option maxRecDepth 20000 in
theorem kv_X10_settle : xVir zX10_settle := ⟨(kin_29 _ (List.mem_of_getElem? (i := 3) rfl)), (kin_29 _ (List.mem_of_getElem? (i := 4) rfl))⟩
set_option maxRecDepth 20000 in
theorem ki_X10_settle : Cond.instanceMethod yX10_settle ∈ wsL_law := (kin_29 _ (List.mem_of_getElem? (i := 3) rfl))
set_option maxRecDepth 20000 in
theorem km_X9_go : xMth zX9_go 1 := ⟨(kin_29 _ (List.mem_of_getElem? (i := 9) rfl)), (kin_1 _ (List.mem_of_getElem? (i := 2) rfl)), ⟨by decide, by decide, by decide +kernel⟩, by decide +kernel, by decide⟩
set_option maxRecDepth 20000 in
theorem kv_X9_go : xVir zX9_go := ⟨(kin_29 _ (List.mem_of_getElem? (i := 7) rfl)), (kin_29 _ (List.mem_of_getElem? (i := 8) rfl))⟩
set_option maxRecDepth 20000 in
theorem ki_X9_go : Cond.instanceMethod yX9_go ∈ wsL_law := (kin_29 _ (List.mem_of_getElem? (i := 7) rfl))
set_option maxRecDepth 20000 in
theorem km_X6_passTenth : xMth zX6_passTenth 0 := ⟨(kin_29 _ (List.mem_of_getElem? (i := 13) rfl)), (kin_1 _ (List.mem_of_getElem? (i := 15) rfl)), ⟨by decide, by decide, by decide +kernel⟩, by decide +kernel, by decide⟩
set_option maxRecDepth 20000 in
theorem kv_X6_passTenth : xVir zX6_passTenth := ⟨(kin_29 _ (List.mem_of_getElem? (i := 11) rfl)), (kin_29 _ (List.mem_of_getElem? (i := 12) rfl))⟩
set_option maxRecDepth 20000 in
theorem ki_X6_passTenth : Cond.instanceMethod yX6_passTenth ∈ wsL_law := (kin_29 _ (List.mem_of_getElem? (i := 11) rfl))
set_option maxRecDepth 20000 in
theorem km_X6_isCaught : xMth zX6_isCaught 0 := ⟨(kin_29 _ (List.mem_of_getElem? (i := 18) rfl)), (kin_1 _ (List.mem_of_getElem? (i := 15) rfl)), ⟨by decide, by decide, by decide +kernel⟩, by decide +kernel, by decide⟩
set_option maxRecDepth 20000 in
theorem kv_X6_isCaught : xVir zX6_isCaught := ⟨(kin_29 _ (List.mem_of_getElem? (i := 16) rfl)), (kin_29 _ (List.mem_of_getElem? (i := 17) rfl))⟩
set_option maxRecDepth 20000 in
theorem ki_X6_isCaught : Cond.instanceMethod yX6_isCaught ∈ wsL_law := (kin_29 _ (List.mem_of_getElem? (i := 16) rfl))
set_option maxRecDepth 20000 in
theorem km_X10_go : xMth zX10_go 1 := ⟨(kin_29 _ (List.mem_of_getElem? (i := 23) rfl)), (kin_1 _ (List.mem_of_getElem? (i := 5) rfl)), ⟨by decide, by decide, by decide +kernel⟩, by decide +kernel, by decide⟩
set_option maxRecDepth 20000 in
theorem kv_X10_go : xVir zX10_go := ⟨(kin_29 _ (List.mem_of_getElem? (i := 21) rfl)), (kin_29 _ (List.mem_of_getElem? (i := 22) rfl))⟩
set_option maxRecDepth 20000 in
theorem ki_X10_go : Cond.instanceMethod yX10_go ∈ wsL_law := (kin_29 _ (List.mem_of_getElem? (i := 21) rfl))
set_option maxRecDepth 20000 in
theorem km_X10_goTenth : xMth zX10_goTenth 0 := ⟨(kin_30 _ (List.mem_of_getElem? (i := 3) rfl)), (kin_1 _ (List.mem_of_getElem? (i := 5) rfl)), ⟨by decide, by decide, by decide +kernel⟩, by decide +kernel, by decide⟩
set_option maxRecDepth 20000 in
theorem kv_X10_goTenth : xVir zX10_goTenth := ⟨(kin_30 _ (List.mem_of_getElem? (i := 1) rfl)), (kin_30 _ (List.mem_of_getElem? (i := 2) rfl))⟩
set_option maxRecDepth 20000 in
theorem ki_X10_goTenth : Cond.instanceMethod yX10_goTenth ∈ wsL_law := (kin_30 _ (List.mem_of_getElem? (i := 1) rfl))
set_option maxRecDepth 20000 in
theorem km_X10_caught : xMth zX10_caught 0 := ⟨(kin_30 _ (List.mem_of_getElem? (i := 7) rfl)), (kin_1 _ (List.mem_of_getElem? (i := 5) rfl)), ⟨by decide, by decide, by decide +kernel⟩, by decide +kernel, by decide⟩
set_option maxRecDepth 20000 in
theorem kv_X10_caught : xVir zX10_caught := ⟨(kin_30 _ (List.mem_of_getElem? (i := 5) rfl)), (kin_30 _ (List.mem_of_getElem? (i := 6) rfl))⟩
set_option maxRecDepth 20000 in
theorem ki_X10_caught : Cond.instanceMethod yX10_caught ∈ wsL_law := (kin_30 _ (List.mem_of_getElem? (i := 5) rfl))
set_option maxRecDepth 20000 in
theorem km_X9_safe : xMth zX9_safe 0 := ⟨(kin_30 _ (List.mem_of_getElem? (i := 11) rfl)), (kin_1 _ (List.mem_of_getElem? (i := 2) rfl)), ⟨by decide, by decide, by decide +kernel⟩, by decide +kernel, by decide⟩
set_option maxRecDepth 20000 in
theorem kv_X9_safe : xVir zX9_safe := ⟨(kin_30 _ (List.mem_of_getElem? (i := 9) rfl)), (kin_30 _ (List.mem_of_getElem? (i := 10) rfl))⟩
set_option maxRecDepth 20000 in
theorem ki_X9_safe : Cond.instanceMethod yX9_safe ∈ wsL_law := (kin_30 _ (List.mem_of_getElem? (i := 9) rfl))
set_option maxRecDepth 20000 in
theorem km_X6_copyFrom : xMth zX6_copyFrom 1 := ⟨(kin_30 _ (List.mem_of_getElem? (i := 15) rfl)), (kin_1 _ (List.mem_of_getElem? (i := 15) rfl)), ⟨by decide, by decide, by decide +kernel⟩, by decide +kernel, by decide⟩
set_option maxRecDepth 20000 in
theorem kv_X6_copyFrom : xVir zX6_copyFrom := ⟨(kin_30 _ (List.mem_of_getElem? (i := 13) rfl)), (kin_30 _ (List.mem_of_getElem? (i := 14) rfl))⟩
set_option maxRecDepth 20000 in
theorem ki_X6_copyFrom : Cond.instanceMethod yX6_copyFrom ∈ wsL_law := (kin_30 _ (List.mem_of_getElem? (i := 13) rfl))
set_option maxRecDepth 20000 in
theorem km_X6_anyComes : xMth zX6_anyComes 0 := ⟨(kin_30 _ (List.mem_of_getElem? (i := 20) rfl)), (kin_1 _ (List.mem_of_getElem? (i := 15) rfl)), ⟨by decide, by decide, by decide +kernel⟩, by decide +kernel, by decide⟩
set_option maxRecDepth 20000 in
theorem kv_X6_anyComes : xVir zX6_anyComes := ⟨(kin_30 _ (List.mem_of_getElem? (i := 18) rfl)), (kin_30 _ (List.mem_of_getElem? (i := 19) rfl))⟩
set_option maxRecDepth 20000 in
theorem ki_X6_anyComes : Cond.instanceMethod yX6_anyComes ∈ wsL_law := (kin_30 _ (List.mem_of_getElem? (i := 18) rfl))
set_option maxRecDepth 20000 in
theorem km_X10_safe : xMth zX10_safe 0 := ⟨(kin_31 _ (List.mem_of_getElem? (i := 0) rfl)), (kin_1 _ (List.mem_of_getElem? (i := 5) rfl)), ⟨by decide, by decide, by decide +kernel⟩, by decide +kernel, by decide⟩
set_option maxRecDepth 20000 in
theorem kv_X10_safe : xVir zX10_safe := ⟨(kin_30 _ (List.mem_of_getElem? (i := 22) rfl)), (kin_30 _ (List.mem_of_getElem? (i := 23) rfl))⟩
set_option maxRecDepth 20000 in
theorem ki_X10_safe : Cond.instanceMethod yX10_safe ∈ wsL_law := (kin_30 _ (List.mem_of_getElem? (i := 22) rfl))
set_option maxRecDepth 20000 in
theorem km_X9_from : xMth zX9_from 1 := ⟨(kin_31 _ (List.mem_of_getElem? (i := 4) rfl)), (kin_1 _ (List.mem_of_getElem? (i := 2) rfl)), ⟨by decide, by decide, by decide +kernel⟩, by decide +kernel, by decide⟩
set_option maxRecDepth 20000 in
theorem kv_X9_from : xVir zX9_from := ⟨(kin_31 _ (List.mem_of_getElem? (i := 2) rfl)), (kin_31 _ (List.mem_of_getElem? (i := 3) rfl))⟩
set_option maxRecDepth 20000 in
theorem ki_X9_from : Cond.instanceMethod yX9_from ∈ wsL_law := (kin_31 _ (List.mem_of_getElem? (i := 2) rfl))
set_option maxRecDepth 20000 in
theorem km_X6_leavesAlone : xMth zX6_leavesAlone 1 := ⟨(kin_31 _ (List.mem_of_getElem? (i := 8) rfl)), (kin_1 _ (List.mem_of_getElem? (i := 15) rfl)), ⟨by decide, by decide, by decide +kernel⟩, by decide +kernel, by decide⟩
set_option maxRecDepth 20000 in
theorem kv_X6_leavesAlone : xVir zX6_leavesAlone := ⟨(kin_31 _ (List.mem_of_getElem? (i := 6) rfl)), (kin_31 _ (List.mem_of_getElem? (i := 7) rfl))⟩
set_option maxRecDepth 20000 in
theorem ki_X6_leavesAlone : Cond.instanceMethod yX6_leavesAlone ∈ wsL_law := (kin_31 _ (List.mem_of_getElem? (i := 6) rfl))
set_option maxRecDepth 20000 in
theorem km_X10_from : xMth zX10_from 1 := ⟨(kin_31 _ (List.mem_of_getElem? (i := 12) rfl)), (kin_1 _ (List.mem_of_getElem? (i := 5) rfl)), ⟨by decide, by decide, by decide +kernel⟩, by decide +kernel, by decide⟩
set_option maxRecDepth 20000 in
theorem kv_X10_from : xVir zX10_from := ⟨(kin_31 _ (List.mem_of_getElem? (i := 10) rfl)), (kin_31 _ (List.mem_of_getElem? (i := 11) rfl))⟩
set_option maxRecDepth 20000 in
theorem ki_X10_from : Cond.instanceMethod yX10_from ∈ wsL_law := (kin_31 _ (List.mem_of_getElem? (i := 10) rfl))
set_option maxRecDepth 20000 in
theorem km_X9_walk : xMth zX9_walk 1 := ⟨(kin_31 _ (List.mem_of_getElem? (i := 16) rfl)), (kin_1 _ (List.mem_of_getElem? (i := 2) rfl)), ⟨by decide, by decide, by decide +kernel⟩, by decide +kernel, by decide⟩
set_option maxRecDepth 20000 in
theorem kv_X9_walk : xVir zX9_walk := ⟨(kin_31 _ (List.mem_of_getElem? (i := 14) rfl)), (kin_31 _ (List.mem_of_getElem? (i := 15) rfl))⟩
set_option maxRecDepth 20000 in
theorem ki_X9_walk : Cond.instanceMethod yX9_walk ∈ wsL_law := (kin_31 _ (List.mem_of_getElem? (i := 14) rfl))
set_option maxRecDepth 20000 in
theorem km_X9_comeTo : xMth zX9_comeTo 3 := ⟨(kin_31 _ (List.mem_of_getElem? (i := 20) rfl)), (kin_1 _ (List.mem_of_getElem? (i := 2) rfl)), ⟨by decide, by decide, by decide +kernel⟩, by decide +kernel, by decide⟩
set_option maxRecDepth 20000 in
theorem ks_X9_comeTo : xSta zX9_comeTo := (kin_31 _ (List.mem_of_getElem? (i := 19) rfl))
set_option maxRecDepth 20000 in
theorem km_X10_walk : xMth zX10_walk 1 := ⟨(kin_32 _ (List.mem_of_getElem? (i := 0) rfl)), (kin_1 _ (List.mem_of_getElem? (i := 5) rfl)), ⟨by decide, by decide, by decide +kernel⟩, by decide +kernel, by decide⟩
set_option maxRecDepth 20000 in
theorem kv_X10_walk : xVir zX10_walk := ⟨(kin_31 _ (List.mem_of_getElem? (i := 22) rfl)), (kin_31 _ (List.mem_of_getElem? (i := 23) rfl))⟩
set_option maxRecDepth 20000 in
theorem ki_X10_walk : Cond.instanceMethod yX10_walk ∈ wsL_law := (kin_31 _ (List.mem_of_getElem? (i := 22) rfl))
set_option maxRecDepth 20000 in
theorem km_X9_gone : xMth zX9_gone 1 := ⟨(kin_32 _ (List.mem_of_getElem? (i := 4) rfl)), (kin_1 _ (List.mem_of_getElem? (i := 2) rfl)), ⟨by decide, by decide, by decide +kernel⟩, by decide +kernel, by decide⟩
set_option maxRecDepth 20000 in
theorem kv_X9_gone : xVir zX9_gone := ⟨(kin_32 _ (List.mem_of_getElem? (i := 2) rfl)), (kin_32 _ (List.mem_of_getElem? (i := 3) rfl))⟩
set_option maxRecDepth 20000 in
theorem ki_X9_gone : Cond.instanceMethod yX9_gone ∈ wsL_law := (kin_32 _ (List.mem_of_getElem? (i := 2) rfl))
set_option maxRecDepth 20000 in
theorem km_X6_goTo : xMth zX6_goTo 1 := ⟨(kin_32 _ (List.mem_of_getElem? (i := 8) rfl)), (kin_1 _ (List.mem_of_getElem? (i := 15) rfl)), ⟨by decide, by decide, by decide +kernel⟩, by decide +kernel, by decide⟩
set_option maxRecDepth 20000 in
theorem kv_X6_goTo : xVir zX6_goTo := ⟨(kin_32 _ (List.mem_of_getElem? (i := 6) rfl)), (kin_32 _ (List.mem_of_getElem? (i := 7) rfl))⟩
set_option maxRecDepth 20000 in
theorem ki_X6_goTo : Cond.instanceMethod yX6_goTo ∈ wsL_law := (kin_32 _ (List.mem_of_getElem? (i := 6) rfl))
set_option maxRecDepth 20000 in
theorem km_X10_gone : xMth zX10_gone 1 := ⟨(kin_32 _ (List.mem_of_getElem? (i := 12) rfl)), (kin_1 _ (List.mem_of_getElem? (i := 5) rfl)), ⟨by decide, by decide, by decide +kernel⟩, by decide +kernel, by decide⟩
set_option maxRecDepth 20000 in
theorem kv_X10_gone : xVir zX10_gone := ⟨(kin_32 _ (List.mem_of_getElem? (i := 10) rfl)), (kin_32 _ (List.mem_of_getElem? (i := 11) rfl))⟩
set_option maxRecDepth 20000 in
theorem ki_X10_gone : Cond.instanceMethod yX10_gone ∈ wsL_law := (kin_32 _ (List.mem_of_getElem? (i := 10) rfl))
set_option maxRecDepth 20000 in
theorem km_X10_mayGo : xMth zX10_mayGo 1 := ⟨(kin_32 _ (List.mem_of_getElem? (i := 16) rfl)), (kin_1 _ (List.mem_of_getElem? (i := 5) rfl)), ⟨by decide, by decide, by decide +kernel⟩, by decide +kernel, by decide⟩
set_option maxRecDepth 20000 in
theorem kv_X10_mayGo : xVir zX10_mayGo := ⟨(kin_32 _ (List.mem_of_getElem? (i := 14) rfl)), (kin_32 _ (List.mem_of_getElem? (i := 15) rfl))⟩
set_option maxRecDepth 20000 in
theorem ki_X10_mayGo : Cond.instanceMethod yX10_mayGo ∈ wsL_law := (kin_32 _ (List.mem_of_getElem? (i := 14) rfl))
set_option maxRecDepth 20000 in
theorem km_X9_shortest : xMth zX9_shortest 2 := ⟨(kin_32 _ (List.mem_of_getElem? (i := 20) rfl)), (kin_1 _ (List.mem_of_getElem? (i := 2) rfl)), ⟨by decide, by decide, by decide +kernel⟩, by decide +kernel, by decide⟩
set_option maxRecDepth 20000 in
theorem kv_X9_shortest : xVir zX9_shortest := ⟨(kin_32 _ (List.mem_of_getElem? (i := 18) rfl)), (kin_32 _ (List.mem_of_getElem? (i := 19) rfl))⟩
set_option maxRecDepth 20000 in
theorem ki_X9_shortest : Cond.instanceMethod yX9_shortest ∈ wsL_law := (kin_32 _ (List.mem_of_getElem? (i := 18) rfl))
set_option maxRecDepth 20000 in
theorem km_X1_search : xMth zX1_search 2 := ⟨(kin_33 _ (List.mem_of_getElem? (i := 1) rfl)), (kin_2 _ (List.mem_of_getElem? (i := 5) rfl)), ⟨by decide, by decide, by decide +kernel⟩, by decide +kernel, by decide⟩
set_option maxRecDepth 20000 in
theorem kv_X1_search : xVir zX1_search := ⟨(kin_32 _ (List.mem_of_getElem? (i := 23) rfl)), (kin_33 _ (List.mem_of_getElem? (i := 0) rfl))⟩
set_option maxRecDepth 20000 in
theorem ki_X1_search : Cond.instanceMethod yX1_search ∈ wsL_law := (kin_32 _ (List.mem_of_getElem? (i := 23) rfl))
set_option maxRecDepth 20000 in
theorem km_X6_isSeated : xMth zX6_isSeated 1 := ⟨(kin_33 _ (List.mem_of_getElem? (i := 9) rfl)), (kin_1 _ (List.mem_of_getElem? (i := 15) rfl)), ⟨by decide, by decide, by decide +kernel⟩, by decide +kernel, by decide⟩
set_option maxRecDepth 20000 in
theorem kv_X6_isSeated : xVir zX6_isSeated := ⟨(kin_33 _ (List.mem_of_getElem? (i := 7) rfl)), (kin_33 _ (List.mem_of_getElem? (i := 8) rfl))⟩
set_option maxRecDepth 20000 in
theorem ki_X6_isSeated : Cond.instanceMethod yX6_isSeated ∈ wsL_law := (kin_33 _ (List.mem_of_getElem? (i := 7) rfl))
set_option maxRecDepth 20000 in
theorem km_X1_keep : xMth zX1_keep 4 := ⟨(kin_33 _ (List.mem_of_getElem? (i := 13) rfl)), (kin_2 _ (List.mem_of_getElem? (i := 5) rfl)), ⟨by decide, by decide, by decide +kernel⟩, by decide +kernel, by decide⟩
set_option maxRecDepth 20000 in
theorem kv_X1_keep : xVir zX1_keep := ⟨(kin_33 _ (List.mem_of_getElem? (i := 11) rfl)), (kin_33 _ (List.mem_of_getElem? (i := 12) rfl))⟩
set_option maxRecDepth 20000 in
theorem ki_X1_keep : Cond.instanceMethod yX1_keep ∈ wsL_law := (kin_33 _ (List.mem_of_getElem? (i := 11) rfl))
set_option maxRecDepth 20000 in
theorem km_X6_places : xMth zX6_places 0 := ⟨(kin_33 _ (List.mem_of_getElem? (i := 20) rfl)), (kin_1 _ (List.mem_of_getElem? (i := 15) rfl)), ⟨by decide, by decide, by decide +kernel⟩, by decide +kernel, by decide⟩
set_option maxRecDepth 20000 in
theorem kv_X6_places : xVir zX6_places := ⟨(kin_33 _ (List.mem_of_getElem? (i := 18) rfl)), (kin_33 _ (List.mem_of_getElem? (i := 19) rfl))⟩
set_option maxRecDepth 20000 in
theorem ki_X6_places : Cond.instanceMethod yX6_places ∈ wsL_law := (kin_33 _ (List.mem_of_getElem? (i := 18) rfl))
set_option maxRecDepth 20000 in
theorem km_X1_isKept : xMth zX1_isKept 2 := ⟨(kin_34 _ (List.mem_of_getElem? (i := 0) rfl)), (kin_2 _ (List.mem_of_getElem? (i := 5) rfl)), ⟨by decide, by decide, by decide +kernel⟩, by decide +kernel, by decide⟩
set_option maxRecDepth 20000 in
theorem kv_X1_isKept : xVir zX1_isKept := ⟨(kin_33 _ (List.mem_of_getElem? (i := 22) rfl)), (kin_33 _ (List.mem_of_getElem? (i := 23) rfl))⟩
set_option maxRecDepth 20000 in
theorem ki_X1_isKept : Cond.instanceMethod yX1_isKept ∈ wsL_law := (kin_33 _ (List.mem_of_getElem? (i := 22) rfl))
set_option maxRecDepth 20000 in
theorem km_X6_setPlaces : xMth zX6_setPlaces 1 := ⟨(kin_34 _ (List.mem_of_getElem? (i := 5) rfl)), (kin_1 _ (List.mem_of_getElem? (i := 15) rfl)), ⟨by decide, by decide, by decide +kernel⟩, by decide +kernel, by decide⟩
set_option maxRecDepth 20000 in
theorem kv_X6_setPlaces : xVir zX6_setPlaces := ⟨(kin_34 _ (List.mem_of_getElem? (i := 3) rfl)), (kin_34 _ (List.mem_of_getElem? (i := 4) rfl))⟩
set_option maxRecDepth 20000 in
theorem ki_X6_setPlaces : Cond.instanceMethod yX6_setPlaces ∈ wsL_law := (kin_34 _ (List.mem_of_getElem? (i := 3) rfl))
set_option maxRecDepth 20000 in
theorem km_X1_cellOfWay : xMth zX1_cellOfWay 2 := ⟨(kin_34 _ (List.mem_of_getElem? (i := 9) rfl)), (kin_2 _ (List.mem_of_getElem? (i := 5) rfl)), ⟨by decide, by decide, by decide +kernel⟩, by decide +kernel, by decide⟩
set_option maxRecDepth 20000 in
theorem ks_X1_cellOfWay : xSta zX1_cellOfWay := (kin_34 _ (List.mem_of_getElem? (i := 8) rfl))
set_option maxRecDepth 20000 in
theorem km_X1_cellOf : xMth zX1_cellOf 1 := ⟨(kin_34 _ (List.mem_of_getElem? (i := 16) rfl)), (kin_2 _ (List.mem_of_getElem? (i := 5) rfl)), ⟨by decide, by decide, by decide +kernel⟩, by decide +kernel, by decide⟩
set_option maxRecDepth 20000 in
theorem kv_X1_cellOf : xVir zX1_cellOf := ⟨(kin_34 _ (List.mem_of_getElem? (i := 14) rfl)), (kin_34 _ (List.mem_of_getElem? (i := 15) rfl))⟩
set_option maxRecDepth 20000 in
theorem ki_X1_cellOf : Cond.instanceMethod yX1_cellOf ∈ wsL_law := (kin_34 _ (List.mem_of_getElem? (i := 14) rfl))
set_option maxRecDepth 20000 in
theorem km_X10_shortest : xMth zX10_shortest 2 := ⟨(kin_34 _ (List.mem_of_getElem? (i := 20) rfl)), (kin_1 _ (List.mem_of_getElem? (i := 5) rfl)), ⟨by decide, by decide, by decide +kernel⟩, by decide +kernel, by decide⟩
set_option maxRecDepth 20000 in
theorem kv_X10_shortest : xVir zX10_shortest := ⟨(kin_34 _ (List.mem_of_getElem? (i := 18) rfl)), (kin_34 _ (List.mem_of_getElem? (i := 19) rfl))⟩
set_option maxRecDepth 20000 in
theorem ki_X10_shortest : Cond.instanceMethod yX10_shortest ∈ wsL_law := (kin_34 _ (List.mem_of_getElem? (i := 18) rfl))
set_option maxRecDepth 20000 in
theorem km_X10_findWalk : xMth zX10_findWalk 2 := ⟨(kin_35 _ (List.mem_of_getElem? (i := 0) rfl)), (kin_1 _ (List.mem_of_getElem? (i := 5) rfl)), ⟨by decide, by decide, by decide +kernel⟩, by decide +kernel, by decide⟩
set_option maxRecDepth 20000 in
theorem kv_X10_findWalk : xVir zX10_findWalk := ⟨(kin_34 _ (List.mem_of_getElem? (i := 22) rfl)), (kin_34 _ (List.mem_of_getElem? (i := 23) rfl))⟩
set_option maxRecDepth 20000 in
theorem ki_X10_findWalk : Cond.instanceMethod yX10_findWalk ∈ wsL_law := (kin_34 _ (List.mem_of_getElem? (i := 22) rfl))
set_option maxRecDepth 20000 in
theorem km_X10_keep : xMth zX10_keep 1 := ⟨(kin_35 _ (List.mem_of_getElem? (i := 4) rfl)), (kin_1 _ (List.mem_of_getElem? (i := 5) rfl)), ⟨by decide, by decide, by decide +kernel⟩, by decide +kernel, by decide⟩
set_option maxRecDepth 20000 in
theorem kv_X10_keep : xVir zX10_keep := ⟨(kin_35 _ (List.mem_of_getElem? (i := 2) rfl)), (kin_35 _ (List.mem_of_getElem? (i := 3) rfl))⟩
set_option maxRecDepth 20000 in
theorem ki_X10_keep : Cond.instanceMethod yX10_keep ∈ wsL_law := (kin_35 _ (List.mem_of_getElem? (i := 2) rfl))
set_option maxRecDepth 20000 in
theorem km_X10_layBack : xMth zX10_layBack 1 := ⟨(kin_35 _ (List.mem_of_getElem? (i := 8) rfl)), (kin_1 _ (List.mem_of_getElem? (i := 5) rfl)), ⟨by decide, by decide, by decide +kernel⟩, by decide +kernel, by decide⟩
set_option maxRecDepth 20000 in
theorem kv_X10_layBack : xVir zX10_layBack := ⟨(kin_35 _ (List.mem_of_getElem? (i := 6) rfl)), (kin_35 _ (List.mem_of_getElem? (i := 7) rfl))⟩
set_option maxRecDepth 20000 in
theorem ki_X10_layBack : Cond.instanceMethod yX10_layBack ∈ wsL_law := (kin_35 _ (List.mem_of_getElem? (i := 6) rfl))
set_option maxRecDepth 20000 in
theorem km_X9_seats : xMth zX9_seats 1 := ⟨(kin_35 _ (List.mem_of_getElem? (i := 12) rfl)), (kin_1 _ (List.mem_of_getElem? (i := 2) rfl)), ⟨by decide, by decide, by decide +kernel⟩, by decide +kernel, by decide⟩
set_option maxRecDepth 20000 in
theorem kv_X9_seats : xVir zX9_seats := ⟨(kin_35 _ (List.mem_of_getElem? (i := 10) rfl)), (kin_35 _ (List.mem_of_getElem? (i := 11) rfl))⟩
set_option maxRecDepth 20000 in
theorem ki_X9_seats : Cond.instanceMethod yX9_seats ∈ wsL_law := (kin_35 _ (List.mem_of_getElem? (i := 10) rfl))
set_option maxRecDepth 20000 in
theorem km_X7_search : xMth zX7_search 1 := ⟨(kin_35 _ (List.mem_of_getElem? (i := 18) rfl)), (kin_2 _ (List.mem_of_getElem? (i := 9) rfl)), ⟨by decide, by decide, by decide +kernel⟩, by decide +kernel, by decide⟩
set_option maxRecDepth 20000 in
theorem kv_X7_search : xVir zX7_search := ⟨(kin_35 _ (List.mem_of_getElem? (i := 16) rfl)), (kin_35 _ (List.mem_of_getElem? (i := 17) rfl))⟩
set_option maxRecDepth 20000 in
theorem ki_X7_search : Cond.instanceMethod yX7_search ∈ wsL_law := (kin_35 _ (List.mem_of_getElem? (i := 16) rfl))
set_option maxRecDepth 20000 in
theorem km_X7_seatFrom : xMth zX7_seatFrom 5 := ⟨(kin_36 _ (List.mem_of_getElem? (i := 0) rfl)), (kin_2 _ (List.mem_of_getElem? (i := 9) rfl)), ⟨by decide, by decide, by decide +kernel⟩, by decide +kernel, by decide⟩
set_option maxRecDepth 20000 in
theorem ks_X7_seatFrom : xSta zX7_seatFrom := (kin_35 _ (List.mem_of_getElem? (i := 23) rfl))
set_option maxRecDepth 20000 in
theorem km_X7_keep : xMth zX7_keep 1 := ⟨(kin_36 _ (List.mem_of_getElem? (i := 7) rfl)), (kin_2 _ (List.mem_of_getElem? (i := 9) rfl)), ⟨by decide, by decide, by decide +kernel⟩, by decide +kernel, by decide⟩
set_option maxRecDepth 20000 in
theorem kv_X7_keep : xVir zX7_keep := ⟨(kin_36 _ (List.mem_of_getElem? (i := 5) rfl)), (kin_36 _ (List.mem_of_getElem? (i := 6) rfl))⟩
set_option maxRecDepth 20000 in
theorem ki_X7_keep : Cond.instanceMethod yX7_keep ∈ wsL_law := (kin_36 _ (List.mem_of_getElem? (i := 5) rfl))
set_option maxRecDepth 20000 in
theorem km_X7_isByEnemy : xMth zX7_isByEnemy 3 := ⟨(kin_36 _ (List.mem_of_getElem? (i := 13) rfl)), (kin_2 _ (List.mem_of_getElem? (i := 9) rfl)), ⟨by decide, by decide, by decide +kernel⟩, by decide +kernel, by decide⟩
set_option maxRecDepth 20000 in
theorem kv_X7_isByEnemy : xVir zX7_isByEnemy := ⟨(kin_36 _ (List.mem_of_getElem? (i := 11) rfl)), (kin_36 _ (List.mem_of_getElem? (i := 12) rfl))⟩
set_option maxRecDepth 20000 in
theorem ki_X7_isByEnemy : Cond.instanceMethod yX7_isByEnemy ∈ wsL_law := (kin_36 _ (List.mem_of_getElem? (i := 11) rfl))
set_option maxRecDepth 20000 in
theorem km_X10_seats : xMth zX10_seats 1 := ⟨(kin_36 _ (List.mem_of_getElem? (i := 18) rfl)), (kin_1 _ (List.mem_of_getElem? (i := 5) rfl)), ⟨by decide, by decide, by decide +kernel⟩, by decide +kernel, by decide⟩
set_option maxRecDepth 20000 in
theorem kv_X10_seats : xVir zX10_seats := ⟨(kin_36 _ (List.mem_of_getElem? (i := 16) rfl)), (kin_36 _ (List.mem_of_getElem? (i := 17) rfl))⟩
set_option maxRecDepth 20000 in
theorem ki_X10_seats : Cond.instanceMethod yX10_seats ∈ wsL_law := (kin_36 _ (List.mem_of_getElem? (i := 16) rfl))
set_option maxRecDepth 20000 in
theorem km_X10_fits : xMth zX10_fits 1 := ⟨(kin_36 _ (List.mem_of_getElem? (i := 22) rfl)), (kin_1 _ (List.mem_of_getElem? (i := 5) rfl)), ⟨by decide, by decide, by decide +kernel⟩, by decide +kernel, by decide⟩
set_option maxRecDepth 20000 in
theorem kv_X10_fits : xVir zX10_fits := ⟨(kin_36 _ (List.mem_of_getElem? (i := 20) rfl)), (kin_36 _ (List.mem_of_getElem? (i := 21) rfl))⟩
set_option maxRecDepth 20000 in
theorem ki_X10_fits : Cond.instanceMethod yX10_fits ∈ wsL_law := (kin_36 _ (List.mem_of_getElem? (i := 20) rfl))
set_option maxRecDepth 20000 in
theorem km_X10_isAhead : xMth zX10_isAhead 1 := ⟨(kin_37 _ (List.mem_of_getElem? (i := 2) rfl)), (kin_1 _ (List.mem_of_getElem? (i := 5) rfl)), ⟨by decide, by decide, by decide +kernel⟩, by decide +kernel, by decide⟩
set_option maxRecDepth 20000 in
theorem kv_X10_isAhead : xVir zX10_isAhead := ⟨(kin_37 _ (List.mem_of_getElem? (i := 0) rfl)), (kin_37 _ (List.mem_of_getElem? (i := 1) rfl))⟩
set_option maxRecDepth 20000 in
theorem ki_X10_isAhead : Cond.instanceMethod yX10_isAhead ∈ wsL_law := (kin_37 _ (List.mem_of_getElem? (i := 0) rfl))
set_option maxRecDepth 20000 in
theorem km_X9_sit : xMth zX9_sit 0 := ⟨(kin_37 _ (List.mem_of_getElem? (i := 6) rfl)), (kin_1 _ (List.mem_of_getElem? (i := 2) rfl)), ⟨by decide, by decide, by decide +kernel⟩, by decide +kernel, by decide⟩
set_option maxRecDepth 20000 in
theorem kv_X9_sit : xVir zX9_sit := ⟨(kin_37 _ (List.mem_of_getElem? (i := 4) rfl)), (kin_37 _ (List.mem_of_getElem? (i := 5) rfl))⟩
set_option maxRecDepth 20000 in
theorem ki_X9_sit : Cond.instanceMethod yX9_sit ∈ wsL_law := (kin_37 _ (List.mem_of_getElem? (i := 4) rfl))
set_option maxRecDepth 20000 in
theorem km_X6_allSit : xMth zX6_allSit 0 := ⟨(kin_37 _ (List.mem_of_getElem? (i := 10) rfl)), (kin_1 _ (List.mem_of_getElem? (i := 15) rfl)), ⟨by decide, by decide, by decide +kernel⟩, by decide +kernel, by decide⟩
set_option maxRecDepth 20000 in
theorem kv_X6_allSit : xVir zX6_allSit := ⟨(kin_37 _ (List.mem_of_getElem? (i := 8) rfl)), (kin_37 _ (List.mem_of_getElem? (i := 9) rfl))⟩
set_option maxRecDepth 20000 in
theorem ki_X6_allSit : Cond.instanceMethod yX6_allSit ∈ wsL_law := (kin_37 _ (List.mem_of_getElem? (i := 8) rfl))
set_option maxRecDepth 20000 in
theorem km_X10_sit : xMth zX10_sit 0 := ⟨(kin_37 _ (List.mem_of_getElem? (i := 15) rfl)), (kin_1 _ (List.mem_of_getElem? (i := 5) rfl)), ⟨by decide, by decide, by decide +kernel⟩, by decide +kernel, by decide⟩
set_option maxRecDepth 20000 in
theorem kv_X10_sit : xVir zX10_sit := ⟨(kin_37 _ (List.mem_of_getElem? (i := 13) rfl)), (kin_37 _ (List.mem_of_getElem? (i := 14) rfl))⟩
set_option maxRecDepth 20000 in
theorem ki_X10_sit : Cond.instanceMethod yX10_sit ∈ wsL_law := (kin_37 _ (List.mem_of_getElem? (i := 13) rfl))
set_option maxRecDepth 20000 in
theorem km_X9_line : xMth zX9_line 1 := ⟨(kin_37 _ (List.mem_of_getElem? (i := 19) rfl)), (kin_1 _ (List.mem_of_getElem? (i := 2) rfl)), ⟨by decide, by decide, by decide +kernel⟩, by decide +kernel, by decide⟩
set_option maxRecDepth 20000 in
theorem kv_X9_line : xVir zX9_line := ⟨(kin_37 _ (List.mem_of_getElem? (i := 17) rfl)), (kin_37 _ (List.mem_of_getElem? (i := 18) rfl))⟩
set_option maxRecDepth 20000 in
theorem ki_X9_line : Cond.instanceMethod yX9_line ∈ wsL_law := (kin_37 _ (List.mem_of_getElem? (i := 17) rfl))
set_option maxRecDepth 20000 in
theorem km_X9_farthestCorner : xMth zX9_farthestCorner 1 := ⟨(kin_37 _ (List.mem_of_getElem? (i := 22) rfl)), (kin_1 _ (List.mem_of_getElem? (i := 2) rfl)), ⟨by decide, by decide, by decide +kernel⟩, by decide +kernel, by decide⟩
set_option maxRecDepth 20000 in
theorem ks_X9_farthestCorner : xSta zX9_farthestCorner := (kin_37 _ (List.mem_of_getElem? (i := 21) rfl))
set_option maxRecDepth 20000 in
theorem km_X9_fartherOf : xMth zX9_fartherOf 3 := ⟨(kin_38 _ (List.mem_of_getElem? (i := 1) rfl)), (kin_1 _ (List.mem_of_getElem? (i := 2) rfl)), ⟨by decide, by decide, by decide +kernel⟩, by decide +kernel, by decide⟩
set_option maxRecDepth 20000 in
theorem ks_X9_fartherOf : xSta zX9_fartherOf := (kin_38 _ (List.mem_of_getElem? (i := 0) rfl))
set_option maxRecDepth 20000 in
theorem km_X9_stepToward : xMth zX9_stepToward 2 := ⟨(kin_38 _ (List.mem_of_getElem? (i := 6) rfl)), (kin_1 _ (List.mem_of_getElem? (i := 2) rfl)), ⟨by decide, by decide, by decide +kernel⟩, by decide +kernel, by decide⟩
set_option maxRecDepth 20000 in
theorem ks_X9_stepToward : xSta zX9_stepToward := (kin_38 _ (List.mem_of_getElem? (i := 5) rfl))
set_option maxRecDepth 20000 in
theorem km_X10_line : xMth zX10_line 1 := ⟨(kin_38 _ (List.mem_of_getElem? (i := 11) rfl)), (kin_1 _ (List.mem_of_getElem? (i := 5) rfl)), ⟨by decide, by decide, by decide +kernel⟩, by decide +kernel, by decide⟩
set_option maxRecDepth 20000 in
theorem kv_X10_line : xVir zX10_line := ⟨(kin_38 _ (List.mem_of_getElem? (i := 9) rfl)), (kin_38 _ (List.mem_of_getElem? (i := 10) rfl))⟩
set_option maxRecDepth 20000 in
theorem ki_X10_line : Cond.instanceMethod yX10_line ∈ wsL_law := (kin_38 _ (List.mem_of_getElem? (i := 9) rfl))
set_option maxRecDepth 20000 in
theorem km_X10_corner : xMth zX10_corner 1 := ⟨(kin_38 _ (List.mem_of_getElem? (i := 15) rfl)), (kin_1 _ (List.mem_of_getElem? (i := 5) rfl)), ⟨by decide, by decide, by decide +kernel⟩, by decide +kernel, by decide⟩
set_option maxRecDepth 20000 in
theorem kv_X10_corner : xVir zX10_corner := ⟨(kin_38 _ (List.mem_of_getElem? (i := 13) rfl)), (kin_38 _ (List.mem_of_getElem? (i := 14) rfl))⟩
set_option maxRecDepth 20000 in
theorem ki_X10_corner : Cond.instanceMethod yX10_corner ∈ wsL_law := (kin_38 _ (List.mem_of_getElem? (i := 13) rfl))
set_option maxRecDepth 20000 in
theorem km_X9_thunder : xMth zX9_thunder 1 := ⟨(kin_38 _ (List.mem_of_getElem? (i := 19) rfl)), (kin_1 _ (List.mem_of_getElem? (i := 2) rfl)), ⟨by decide, by decide, by decide +kernel⟩, by decide +kernel, by decide⟩
set_option maxRecDepth 20000 in
theorem kv_X9_thunder : xVir zX9_thunder := ⟨(kin_38 _ (List.mem_of_getElem? (i := 17) rfl)), (kin_38 _ (List.mem_of_getElem? (i := 18) rfl))⟩
set_option maxRecDepth 20000 in
theorem ki_X9_thunder : Cond.instanceMethod yX9_thunder ∈ wsL_law := (kin_38 _ (List.mem_of_getElem? (i := 17) rfl))
set_option maxRecDepth 20000 in
theorem km_X10_thunder : xMth zX10_thunder 1 := ⟨(kin_39 _ (List.mem_of_getElem? (i := 0) rfl)), (kin_1 _ (List.mem_of_getElem? (i := 5) rfl)), ⟨by decide, by decide, by decide +kernel⟩, by decide +kernel, by decide⟩
set_option maxRecDepth 20000 in
theorem kv_X10_thunder : xVir zX10_thunder := ⟨(kin_38 _ (List.mem_of_getElem? (i := 22) rfl)), (kin_38 _ (List.mem_of_getElem? (i := 23) rfl))⟩
set_option maxRecDepth 20000 in
theorem ki_X10_thunder : Cond.instanceMethod yX10_thunder ∈ wsL_law := (kin_38 _ (List.mem_of_getElem? (i := 22) rfl))
set_option maxRecDepth 20000 in
theorem km_X9_calm : xMth zX9_calm 2 := ⟨(kin_39 _ (List.mem_of_getElem? (i := 4) rfl)), (kin_1 _ (List.mem_of_getElem? (i := 2) rfl)), ⟨by decide, by decide, by decide +kernel⟩, by decide +kernel, by decide⟩
set_option maxRecDepth 20000 in
theorem kv_X9_calm : xVir zX9_calm := ⟨(kin_39 _ (List.mem_of_getElem? (i := 2) rfl)), (kin_39 _ (List.mem_of_getElem? (i := 3) rfl))⟩
set_option maxRecDepth 20000 in
theorem ki_X9_calm : Cond.instanceMethod yX9_calm ∈ wsL_law := (kin_39 _ (List.mem_of_getElem? (i := 2) rfl))
set_option maxRecDepth 20000 in
theorem km_X9_weightOf : xMth zX9_weightOf 2 := ⟨(kin_39 _ (List.mem_of_getElem? (i := 9) rfl)), (kin_1 _ (List.mem_of_getElem? (i := 2) rfl)), ⟨by decide, by decide, by decide +kernel⟩, by decide +kernel, by decide⟩
set_option maxRecDepth 20000 in
theorem kv_X9_weightOf : xVir zX9_weightOf := ⟨(kin_39 _ (List.mem_of_getElem? (i := 7) rfl)), (kin_39 _ (List.mem_of_getElem? (i := 8) rfl))⟩
set_option maxRecDepth 20000 in
theorem ki_X9_weightOf : Cond.instanceMethod yX9_weightOf ∈ wsL_law := (kin_39 _ (List.mem_of_getElem? (i := 7) rfl))
set_option maxRecDepth 20000 in
theorem km_J6_bitCount_0f7a4 : xMth zJ6_bitCount_0f7a4 1 := ⟨(kin_39 _ (List.mem_of_getElem? (i := 13) rfl)), (kin_39 _ (List.mem_of_getElem? (i := 12) rfl)), ⟨by decide, by decide, by decide +kernel⟩, by decide +kernel, by decide⟩
set_option maxRecDepth 20000 in
theorem ks_J6_bitCount_0f7a4 : xSta zJ6_bitCount_0f7a4 := (kin_39 _ (List.mem_of_getElem? (i := 11) rfl))
set_option maxRecDepth 20000 in
theorem km_X9_power : xMth zX9_power 2 := ⟨(kin_39 _ (List.mem_of_getElem? (i := 19) rfl)), (kin_1 _ (List.mem_of_getElem? (i := 2) rfl)), ⟨by decide, by decide, by decide +kernel⟩, by decide +kernel, by decide⟩
set_option maxRecDepth 20000 in
theorem ks_X9_power : xSta zX9_power := (kin_39 _ (List.mem_of_getElem? (i := 18) rfl))
set_option maxRecDepth 20000 in
theorem km_X9_staysCalm : xMth zX9_staysCalm 2 := ⟨(kin_39 _ (List.mem_of_getElem? (i := 23) rfl)), (kin_1 _ (List.mem_of_getElem? (i := 2) rfl)), ⟨by decide, by decide, by decide +kernel⟩, by decide +kernel, by decide⟩
set_option maxRecDepth 20000 in
theorem kv_X9_staysCalm : xVir zX9_staysCalm := ⟨(kin_39 _ (List.mem_of_getElem? (i := 21) rfl)), (kin_39 _ (List.mem_of_getElem? (i := 22) rfl))⟩
set_option maxRecDepth 20000 in
theorem ki_X9_staysCalm : Cond.instanceMethod yX9_staysCalm ∈ wsL_law := (kin_39 _ (List.mem_of_getElem? (i := 21) rfl))
set_option maxRecDepth 20000 in
theorem km_X9_sharedDivisor : xMth zX9_sharedDivisor 2 := ⟨(kin_40 _ (List.mem_of_getElem? (i := 4) rfl)), (kin_1 _ (List.mem_of_getElem? (i := 2) rfl)), ⟨by decide, by decide, by decide +kernel⟩, by decide +kernel, by decide⟩
set_option maxRecDepth 20000 in
theorem ks_X9_sharedDivisor : xSta zX9_sharedDivisor := (kin_40 _ (List.mem_of_getElem? (i := 3) rfl))
set_option maxRecDepth 20000 in
theorem km_X10_calm : xMth zX10_calm 2 := ⟨(kin_40 _ (List.mem_of_getElem? (i := 8) rfl)), (kin_1 _ (List.mem_of_getElem? (i := 5) rfl)), ⟨by decide, by decide, by decide +kernel⟩, by decide +kernel, by decide⟩
set_option maxRecDepth 20000 in
theorem kv_X10_calm : xVir zX10_calm := ⟨(kin_40 _ (List.mem_of_getElem? (i := 6) rfl)), (kin_40 _ (List.mem_of_getElem? (i := 7) rfl))⟩
set_option maxRecDepth 20000 in
theorem ki_X10_calm : Cond.instanceMethod yX10_calm ∈ wsL_law := (kin_40 _ (List.mem_of_getElem? (i := 6) rfl))
set_option maxRecDepth 20000 in
theorem km_X10_loudOf : xMth zX10_loudOf 0 := ⟨(kin_40 _ (List.mem_of_getElem? (i := 14) rfl)), (kin_1 _ (List.mem_of_getElem? (i := 5) rfl)), ⟨by decide, by decide, by decide +kernel⟩, by decide +kernel, by decide⟩
set_option maxRecDepth 20000 in
theorem kv_X10_loudOf : xVir zX10_loudOf := ⟨(kin_40 _ (List.mem_of_getElem? (i := 12) rfl)), (kin_40 _ (List.mem_of_getElem? (i := 13) rfl))⟩
set_option maxRecDepth 20000 in
theorem ki_X10_loudOf : Cond.instanceMethod yX10_loudOf ∈ wsL_law := (kin_40 _ (List.mem_of_getElem? (i := 12) rfl))
set_option maxRecDepth 20000 in
theorem km_X10_divisor : xMth zX10_divisor 2 := ⟨(kin_40 _ (List.mem_of_getElem? (i := 18) rfl)), (kin_1 _ (List.mem_of_getElem? (i := 5) rfl)), ⟨by decide, by decide, by decide +kernel⟩, by decide +kernel, by decide⟩
set_option maxRecDepth 20000 in
theorem kv_X10_divisor : xVir zX10_divisor := ⟨(kin_40 _ (List.mem_of_getElem? (i := 16) rfl)), (kin_40 _ (List.mem_of_getElem? (i := 17) rfl))⟩
set_option maxRecDepth 20000 in
theorem ki_X10_divisor : Cond.instanceMethod yX10_divisor ∈ wsL_law := (kin_40 _ (List.mem_of_getElem? (i := 16) rfl))
set_option maxRecDepth 20000 in
theorem km_X9_film : xMth zX9_film 1 := ⟨(kin_40 _ (List.mem_of_getElem? (i := 22) rfl)), (kin_1 _ (List.mem_of_getElem? (i := 2) rfl)), ⟨by decide, by decide, by decide +kernel⟩, by decide +kernel, by decide⟩
set_option maxRecDepth 20000 in
theorem kv_X9_film : xVir zX9_film := ⟨(kin_40 _ (List.mem_of_getElem? (i := 20) rfl)), (kin_40 _ (List.mem_of_getElem? (i := 21) rfl))⟩
set_option maxRecDepth 20000 in
theorem ki_X9_film : Cond.instanceMethod yX9_film ∈ wsL_law := (kin_40 _ (List.mem_of_getElem? (i := 20) rfl))
set_option maxRecDepth 20000 in
theorem km_X10_film : xMth zX10_film 1 := ⟨(kin_41 _ (List.mem_of_getElem? (i := 3) rfl)), (kin_1 _ (List.mem_of_getElem? (i := 5) rfl)), ⟨by decide, by decide, by decide +kernel⟩, by decide +kernel, by decide⟩
set_option maxRecDepth 20000 in
theorem kv_X10_film : xVir zX10_film := ⟨(kin_41 _ (List.mem_of_getElem? (i := 1) rfl)), (kin_41 _ (List.mem_of_getElem? (i := 2) rfl))⟩
set_option maxRecDepth 20000 in
theorem ki_X10_film : Cond.instanceMethod yX10_film ∈ wsL_law := (kin_41 _ (List.mem_of_getElem? (i := 1) rfl))
set_option maxRecDepth 20000 in
theorem km_X9_kinds : xMth zX9_kinds 1 := ⟨(kin_41 _ (List.mem_of_getElem? (i := 7) rfl)), (kin_1 _ (List.mem_of_getElem? (i := 2) rfl)), ⟨by decide, by decide, by decide +kernel⟩, by decide +kernel, by decide⟩
set_option maxRecDepth 20000 in
theorem kv_X9_kinds : xVir zX9_kinds := ⟨(kin_41 _ (List.mem_of_getElem? (i := 5) rfl)), (kin_41 _ (List.mem_of_getElem? (i := 6) rfl))⟩
set_option maxRecDepth 20000 in
theorem ki_X9_kinds : Cond.instanceMethod yX9_kinds ∈ wsL_law := (kin_41 _ (List.mem_of_getElem? (i := 5) rfl))
set_option maxRecDepth 20000 in
theorem km_X9_goesAsFilm : xMth zX9_goesAsFilm 1 := ⟨(kin_41 _ (List.mem_of_getElem? (i := 11) rfl)), (kin_1 _ (List.mem_of_getElem? (i := 2) rfl)), ⟨by decide, by decide, by decide +kernel⟩, by decide +kernel, by decide⟩
set_option maxRecDepth 20000 in
theorem kv_X9_goesAsFilm : xVir zX9_goesAsFilm := ⟨(kin_41 _ (List.mem_of_getElem? (i := 9) rfl)), (kin_41 _ (List.mem_of_getElem? (i := 10) rfl))⟩
set_option maxRecDepth 20000 in
theorem ki_X9_goesAsFilm : Cond.instanceMethod yX9_goesAsFilm ∈ wsL_law := (kin_41 _ (List.mem_of_getElem? (i := 9) rfl))
set_option maxRecDepth 20000 in
theorem km_X10_kinds : xMth zX10_kinds 1 := ⟨(kin_41 _ (List.mem_of_getElem? (i := 15) rfl)), (kin_1 _ (List.mem_of_getElem? (i := 5) rfl)), ⟨by decide, by decide, by decide +kernel⟩, by decide +kernel, by decide⟩
set_option maxRecDepth 20000 in
theorem kv_X10_kinds : xVir zX10_kinds := ⟨(kin_41 _ (List.mem_of_getElem? (i := 13) rfl)), (kin_41 _ (List.mem_of_getElem? (i := 14) rfl))⟩
set_option maxRecDepth 20000 in
theorem ki_X10_kinds : Cond.instanceMethod yX10_kinds ∈ wsL_law := (kin_41 _ (List.mem_of_getElem? (i := 13) rfl))
set_option maxRecDepth 20000 in
theorem km_X9_judge : xMth zX9_judge 3 := ⟨(kin_41 _ (List.mem_of_getElem? (i := 19) rfl)), (kin_1 _ (List.mem_of_getElem? (i := 2) rfl)), ⟨by decide, by decide, by decide +kernel⟩, by decide +kernel, by decide⟩
set_option maxRecDepth 20000 in
theorem kv_X9_judge : xVir zX9_judge := ⟨(kin_41 _ (List.mem_of_getElem? (i := 17) rfl)), (kin_41 _ (List.mem_of_getElem? (i := 18) rfl))⟩
set_option maxRecDepth 20000 in
theorem ki_X9_judge : Cond.instanceMethod yX9_judge ∈ wsL_law := (kin_41 _ (List.mem_of_getElem? (i := 17) rfl))
set_option maxRecDepth 20000 in
theorem km_X9_tapeAt : xMth zX9_tapeAt 1 := ⟨(kin_42 _ (List.mem_of_getElem? (i := 1) rfl)), (kin_1 _ (List.mem_of_getElem? (i := 2) rfl)), ⟨by decide, by decide, by decide +kernel⟩, by decide +kernel, by decide⟩
set_option maxRecDepth 20000 in
theorem kv_X9_tapeAt : xVir zX9_tapeAt := ⟨(kin_41 _ (List.mem_of_getElem? (i := 23) rfl)), (kin_42 _ (List.mem_of_getElem? (i := 0) rfl))⟩
set_option maxRecDepth 20000 in
theorem ki_X9_tapeAt : Cond.instanceMethod yX9_tapeAt ∈ wsL_law := (kin_41 _ (List.mem_of_getElem? (i := 23) rfl))
set_option maxRecDepth 20000 in
theorem km_X8_isRow : xMth zX8_isRow 0 := ⟨(kin_42 _ (List.mem_of_getElem? (i := 5) rfl)), (kin_2 _ (List.mem_of_getElem? (i := 20) rfl)), ⟨by decide, by decide, by decide +kernel⟩, by decide +kernel, by decide⟩
set_option maxRecDepth 20000 in
theorem kv_X8_isRow : xVir zX8_isRow := ⟨(kin_42 _ (List.mem_of_getElem? (i := 3) rfl)), (kin_42 _ (List.mem_of_getElem? (i := 4) rfl))⟩
set_option maxRecDepth 20000 in
theorem ki_X8_isRow : Cond.instanceMethod yX8_isRow ∈ wsL_law := (kin_42 _ (List.mem_of_getElem? (i := 3) rfl))
set_option maxRecDepth 20000 in
theorem km_X8_hasPlace : xMth zX8_hasPlace 1 := ⟨(kin_42 _ (List.mem_of_getElem? (i := 9) rfl)), (kin_2 _ (List.mem_of_getElem? (i := 20) rfl)), ⟨by decide, by decide, by decide +kernel⟩, by decide +kernel, by decide⟩
set_option maxRecDepth 20000 in
theorem kv_X8_hasPlace : xVir zX8_hasPlace := ⟨(kin_42 _ (List.mem_of_getElem? (i := 7) rfl)), (kin_42 _ (List.mem_of_getElem? (i := 8) rfl))⟩
set_option maxRecDepth 20000 in
theorem ki_X8_hasPlace : Cond.instanceMethod yX8_hasPlace ∈ wsL_law := (kin_42 _ (List.mem_of_getElem? (i := 7) rfl))
set_option maxRecDepth 20000 in
theorem km_X8_get : xMth zX8_get 1 := ⟨(kin_42 _ (List.mem_of_getElem? (i := 13) rfl)), (kin_2 _ (List.mem_of_getElem? (i := 20) rfl)), ⟨by decide, by decide, by decide +kernel⟩, by decide +kernel, by decide⟩
set_option maxRecDepth 20000 in
theorem kv_X8_get : xVir zX8_get := ⟨(kin_42 _ (List.mem_of_getElem? (i := 11) rfl)), (kin_42 _ (List.mem_of_getElem? (i := 12) rfl))⟩
set_option maxRecDepth 20000 in
theorem ki_X8_get : Cond.instanceMethod yX8_get ∈ wsL_law := (kin_42 _ (List.mem_of_getElem? (i := 11) rfl))
set_option maxRecDepth 20000 in
theorem km_X10_judge : xMth zX10_judge 3 := ⟨(kin_42 _ (List.mem_of_getElem? (i := 18) rfl)), (kin_1 _ (List.mem_of_getElem? (i := 5) rfl)), ⟨by decide, by decide, by decide +kernel⟩, by decide +kernel, by decide⟩
set_option maxRecDepth 20000 in
theorem kv_X10_judge : xVir zX10_judge := ⟨(kin_42 _ (List.mem_of_getElem? (i := 16) rfl)), (kin_42 _ (List.mem_of_getElem? (i := 17) rfl))⟩
set_option maxRecDepth 20000 in
theorem ki_X10_judge : Cond.instanceMethod yX10_judge ∈ wsL_law := (kin_42 _ (List.mem_of_getElem? (i := 16) rfl))
set_option maxRecDepth 20000 in
theorem km_X10_isTape : xMth zX10_isTape 1 := ⟨(kin_42 _ (List.mem_of_getElem? (i := 22) rfl)), (kin_1 _ (List.mem_of_getElem? (i := 5) rfl)), ⟨by decide, by decide, by decide +kernel⟩, by decide +kernel, by decide⟩
set_option maxRecDepth 20000 in
theorem kv_X10_isTape : xVir zX10_isTape := ⟨(kin_42 _ (List.mem_of_getElem? (i := 20) rfl)), (kin_42 _ (List.mem_of_getElem? (i := 21) rfl))⟩
set_option maxRecDepth 20000 in
theorem ki_X10_isTape : Cond.instanceMethod yX10_isTape ∈ wsL_law := (kin_42 _ (List.mem_of_getElem? (i := 20) rfl))
set_option maxRecDepth 20000 in
theorem km_X9_image : xMth zX9_image 0 := ⟨(kin_43 _ (List.mem_of_getElem? (i := 2) rfl)), (kin_1 _ (List.mem_of_getElem? (i := 2) rfl)), ⟨by decide, by decide, by decide +kernel⟩, by decide +kernel, by decide⟩
set_option maxRecDepth 20000 in
theorem kv_X9_image : xVir zX9_image := ⟨(kin_43 _ (List.mem_of_getElem? (i := 0) rfl)), (kin_43 _ (List.mem_of_getElem? (i := 1) rfl))⟩
set_option maxRecDepth 20000 in
theorem ki_X9_image : Cond.instanceMethod yX9_image ∈ wsL_law := (kin_43 _ (List.mem_of_getElem? (i := 0) rfl))
set_option maxRecDepth 20000 in
theorem km_X10_image : xMth zX10_image 0 := ⟨(kin_43 _ (List.mem_of_getElem? (i := 6) rfl)), (kin_1 _ (List.mem_of_getElem? (i := 5) rfl)), ⟨by decide, by decide, by decide +kernel⟩, by decide +kernel, by decide⟩
set_option maxRecDepth 20000 in
theorem kv_X10_image : xVir zX10_image := ⟨(kin_43 _ (List.mem_of_getElem? (i := 4) rfl)), (kin_43 _ (List.mem_of_getElem? (i := 5) rfl))⟩
set_option maxRecDepth 20000 in
theorem ki_X10_image : Cond.instanceMethod yX10_image ∈ wsL_law := (kin_43 _ (List.mem_of_getElem? (i := 4) rfl))
set_option maxRecDepth 20000 in
theorem km_X10_copy : xMth zX10_copy 2 := ⟨(kin_43 _ (List.mem_of_getElem? (i := 10) rfl)), (kin_1 _ (List.mem_of_getElem? (i := 5) rfl)), ⟨by decide, by decide, by decide +kernel⟩, by decide +kernel, by decide⟩
set_option maxRecDepth 20000 in
theorem kv_X10_copy : xVir zX10_copy := ⟨(kin_43 _ (List.mem_of_getElem? (i := 8) rfl)), (kin_43 _ (List.mem_of_getElem? (i := 9) rfl))⟩
set_option maxRecDepth 20000 in
theorem ki_X10_copy : Cond.instanceMethod yX10_copy ∈ wsL_law := (kin_43 _ (List.mem_of_getElem? (i := 8) rfl))
set_option maxRecDepth 20000 in
theorem km_X9_undo : xMth zX9_undo 0 := ⟨(kin_43 _ (List.mem_of_getElem? (i := 14) rfl)), (kin_1 _ (List.mem_of_getElem? (i := 2) rfl)), ⟨by decide, by decide, by decide +kernel⟩, by decide +kernel, by decide⟩
set_option maxRecDepth 20000 in
theorem kv_X9_undo : xVir zX9_undo := ⟨(kin_43 _ (List.mem_of_getElem? (i := 12) rfl)), (kin_43 _ (List.mem_of_getElem? (i := 13) rfl))⟩
set_option maxRecDepth 20000 in
theorem ki_X9_undo : Cond.instanceMethod yX9_undo ∈ wsL_law := (kin_43 _ (List.mem_of_getElem? (i := 12) rfl))
set_option maxRecDepth 20000 in
theorem km_X10_undo : xMth zX10_undo 0 := ⟨(kin_43 _ (List.mem_of_getElem? (i := 18) rfl)), (kin_1 _ (List.mem_of_getElem? (i := 5) rfl)), ⟨by decide, by decide, by decide +kernel⟩, by decide +kernel, by decide⟩
set_option maxRecDepth 20000 in
theorem kv_X10_undo : xVir zX10_undo := ⟨(kin_43 _ (List.mem_of_getElem? (i := 16) rfl)), (kin_43 _ (List.mem_of_getElem? (i := 17) rfl))⟩
set_option maxRecDepth 20000 in
theorem ki_X10_undo : Cond.instanceMethod yX10_undo ∈ wsL_law := (kin_43 _ (List.mem_of_getElem? (i := 16) rfl))
set_option maxRecDepth 20000 in
theorem km_X9_act : xMth zX9_act 3 := ⟨(kin_43 _ (List.mem_of_getElem? (i := 22) rfl)), (kin_1 _ (List.mem_of_getElem? (i := 2) rfl)), ⟨by decide, by decide, by decide +kernel⟩, by decide +kernel, by decide⟩
set_option maxRecDepth 20000 in
theorem kv_X9_act : xVir zX9_act := ⟨(kin_43 _ (List.mem_of_getElem? (i := 20) rfl)), (kin_43 _ (List.mem_of_getElem? (i := 21) rfl))⟩
set_option maxRecDepth 20000 in
theorem ki_X9_act : Cond.instanceMethod yX9_act ∈ wsL_law := (kin_43 _ (List.mem_of_getElem? (i := 20) rfl))
set_option maxRecDepth 20000 in
theorem km_X0_forget : xMth zX0_forget 0 := ⟨(kin_44 _ (List.mem_of_getElem? (i := 5) rfl)), (kin_2 _ (List.mem_of_getElem? (i := 13) rfl)), ⟨by decide, by decide, by decide +kernel⟩, by decide +kernel, by decide⟩
set_option maxRecDepth 20000 in
theorem kv_X0_forget : xVir zX0_forget := ⟨(kin_44 _ (List.mem_of_getElem? (i := 3) rfl)), (kin_44 _ (List.mem_of_getElem? (i := 4) rfl))⟩
set_option maxRecDepth 20000 in
theorem ki_X0_forget : Cond.instanceMethod yX0_forget ∈ wsL_law := (kin_44 _ (List.mem_of_getElem? (i := 3) rfl))
set_option maxRecDepth 20000 in
theorem km_X0_run : xMth zX0_run 5 := ⟨(kin_44 _ (List.mem_of_getElem? (i := 8) rfl)), (kin_2 _ (List.mem_of_getElem? (i := 13) rfl)), ⟨by decide, by decide, by decide +kernel⟩, by decide +kernel, by decide⟩
set_option maxRecDepth 20000 in
theorem ks_X0_run : xSta zX0_run := (kin_44 _ (List.mem_of_getElem? (i := 7) rfl))
set_option maxRecDepth 20000 in
theorem km_X0_bodyOf : xMth zX0_bodyOf 2 := ⟨(kin_44 _ (List.mem_of_getElem? (i := 11) rfl)), (kin_2 _ (List.mem_of_getElem? (i := 13) rfl)), ⟨by decide, by decide, by decide +kernel⟩, by decide +kernel, by decide⟩
set_option maxRecDepth 20000 in
theorem ks_X0_bodyOf : xSta zX0_bodyOf := (kin_44 _ (List.mem_of_getElem? (i := 10) rfl))
set_option maxRecDepth 20000 in
theorem km_X10_act : xMth zX10_act 3 := ⟨(kin_44 _ (List.mem_of_getElem? (i := 17) rfl)), (kin_1 _ (List.mem_of_getElem? (i := 5) rfl)), ⟨by decide, by decide, by decide +kernel⟩, by decide +kernel, by decide⟩
set_option maxRecDepth 20000 in
theorem kv_X10_act : xVir zX10_act := ⟨(kin_44 _ (List.mem_of_getElem? (i := 15) rfl)), (kin_44 _ (List.mem_of_getElem? (i := 16) rfl))⟩
set_option maxRecDepth 20000 in
theorem ki_X10_act : Cond.instanceMethod yX10_act ∈ wsL_law := (kin_44 _ (List.mem_of_getElem? (i := 15) rfl))
set_option maxRecDepth 20000 in
theorem km_X10_yieldsAct : xMth zX10_yieldsAct 2 := ⟨(kin_44 _ (List.mem_of_getElem? (i := 21) rfl)), (kin_1 _ (List.mem_of_getElem? (i := 5) rfl)), ⟨by decide, by decide, by decide +kernel⟩, by decide +kernel, by decide⟩
set_option maxRecDepth 20000 in
theorem kv_X10_yieldsAct : xVir zX10_yieldsAct := ⟨(kin_44 _ (List.mem_of_getElem? (i := 19) rfl)), (kin_44 _ (List.mem_of_getElem? (i := 20) rfl))⟩
set_option maxRecDepth 20000 in
theorem ki_X10_yieldsAct : Cond.instanceMethod yX10_yieldsAct ∈ wsL_law := (kin_44 _ (List.mem_of_getElem? (i := 19) rfl))
set_option maxRecDepth 20000 in
theorem km_X10_comingYields : xMth zX10_comingYields 2 := ⟨(kin_45 _ (List.mem_of_getElem? (i := 1) rfl)), (kin_1 _ (List.mem_of_getElem? (i := 5) rfl)), ⟨by decide, by decide, by decide +kernel⟩, by decide +kernel, by decide⟩
set_option maxRecDepth 20000 in
theorem kv_X10_comingYields : xVir zX10_comingYields := ⟨(kin_44 _ (List.mem_of_getElem? (i := 23) rfl)), (kin_45 _ (List.mem_of_getElem? (i := 0) rfl))⟩
set_option maxRecDepth 20000 in
theorem ki_X10_comingYields : Cond.instanceMethod yX10_comingYields ∈ wsL_law := (kin_44 _ (List.mem_of_getElem? (i := 23) rfl))
set_option maxRecDepth 20000 in
theorem km_X10_body : xMth zX10_body 1 := ⟨(kin_45 _ (List.mem_of_getElem? (i := 5) rfl)), (kin_1 _ (List.mem_of_getElem? (i := 5) rfl)), ⟨by decide, by decide, by decide +kernel⟩, by decide +kernel, by decide⟩
set_option maxRecDepth 20000 in
theorem kv_X10_body : xVir zX10_body := ⟨(kin_45 _ (List.mem_of_getElem? (i := 3) rfl)), (kin_45 _ (List.mem_of_getElem? (i := 4) rfl))⟩
set_option maxRecDepth 20000 in
theorem ki_X10_body : Cond.instanceMethod yX10_body ∈ wsL_law := (kin_45 _ (List.mem_of_getElem? (i := 3) rfl))
set_option maxRecDepth 20000 in
theorem km_X10_moveYields : xMth zX10_moveYields 2 := ⟨(kin_45 _ (List.mem_of_getElem? (i := 9) rfl)), (kin_1 _ (List.mem_of_getElem? (i := 5) rfl)), ⟨by decide, by decide, by decide +kernel⟩, by decide +kernel, by decide⟩
set_option maxRecDepth 20000 in
theorem kv_X10_moveYields : xVir zX10_moveYields := ⟨(kin_45 _ (List.mem_of_getElem? (i := 7) rfl)), (kin_45 _ (List.mem_of_getElem? (i := 8) rfl))⟩
set_option maxRecDepth 20000 in
theorem ki_X10_moveYields : Cond.instanceMethod yX10_moveYields ∈ wsL_law := (kin_45 _ (List.mem_of_getElem? (i := 7) rfl))
set_option maxRecDepth 20000 in
theorem km_X10_comesAct : xMth zX10_comesAct 2 := ⟨(kin_45 _ (List.mem_of_getElem? (i := 13) rfl)), (kin_1 _ (List.mem_of_getElem? (i := 5) rfl)), ⟨by decide, by decide, by decide +kernel⟩, by decide +kernel, by decide⟩
set_option maxRecDepth 20000 in
theorem kv_X10_comesAct : xVir zX10_comesAct := ⟨(kin_45 _ (List.mem_of_getElem? (i := 11) rfl)), (kin_45 _ (List.mem_of_getElem? (i := 12) rfl))⟩
set_option maxRecDepth 20000 in
theorem ki_X10_comesAct : Cond.instanceMethod yX10_comesAct ∈ wsL_law := (kin_45 _ (List.mem_of_getElem? (i := 11) rfl))
set_option maxRecDepth 20000 in
theorem km_X10_yieldingComes : xMth zX10_yieldingComes 2 := ⟨(kin_45 _ (List.mem_of_getElem? (i := 17) rfl)), (kin_1 _ (List.mem_of_getElem? (i := 5) rfl)), ⟨by decide, by decide, by decide +kernel⟩, by decide +kernel, by decide⟩
set_option maxRecDepth 20000 in
theorem kv_X10_yieldingComes : xVir zX10_yieldingComes := ⟨(kin_45 _ (List.mem_of_getElem? (i := 15) rfl)), (kin_45 _ (List.mem_of_getElem? (i := 16) rfl))⟩
set_option maxRecDepth 20000 in
theorem ki_X10_yieldingComes : Cond.instanceMethod yX10_yieldingComes ∈ wsL_law := (kin_45 _ (List.mem_of_getElem? (i := 15) rfl))
set_option maxRecDepth 20000 in
theorem km_X10_moveComes : xMth zX10_moveComes 2 := ⟨(kin_45 _ (List.mem_of_getElem? (i := 21) rfl)), (kin_1 _ (List.mem_of_getElem? (i := 5) rfl)), ⟨by decide, by decide, by decide +kernel⟩, by decide +kernel, by decide⟩
set_option maxRecDepth 20000 in
theorem kv_X10_moveComes : xVir zX10_moveComes := ⟨(kin_45 _ (List.mem_of_getElem? (i := 19) rfl)), (kin_45 _ (List.mem_of_getElem? (i := 20) rfl))⟩
set_option maxRecDepth 20000 in
theorem ki_X10_moveComes : Cond.instanceMethod yX10_moveComes ∈ wsL_law := (kin_45 _ (List.mem_of_getElem? (i := 19) rfl))
set_option maxRecDepth 20000 in
theorem km_X10_tellsAct : xMth zX10_tellsAct 2 := ⟨(kin_46 _ (List.mem_of_getElem? (i := 1) rfl)), (kin_1 _ (List.mem_of_getElem? (i := 5) rfl)), ⟨by decide, by decide, by decide +kernel⟩, by decide +kernel, by decide⟩
set_option maxRecDepth 20000 in
theorem kv_X10_tellsAct : xVir zX10_tellsAct := ⟨(kin_45 _ (List.mem_of_getElem? (i := 23) rfl)), (kin_46 _ (List.mem_of_getElem? (i := 0) rfl))⟩
set_option maxRecDepth 20000 in
theorem ki_X10_tellsAct : Cond.instanceMethod yX10_tellsAct ∈ wsL_law := (kin_45 _ (List.mem_of_getElem? (i := 23) rfl))
set_option maxRecDepth 20000 in
theorem km_X10_moveTells : xMth zX10_moveTells 2 := ⟨(kin_46 _ (List.mem_of_getElem? (i := 5) rfl)), (kin_1 _ (List.mem_of_getElem? (i := 5) rfl)), ⟨by decide, by decide, by decide +kernel⟩, by decide +kernel, by decide⟩
set_option maxRecDepth 20000 in
theorem kv_X10_moveTells : xVir zX10_moveTells := ⟨(kin_46 _ (List.mem_of_getElem? (i := 3) rfl)), (kin_46 _ (List.mem_of_getElem? (i := 4) rfl))⟩
set_option maxRecDepth 20000 in
theorem ki_X10_moveTells : Cond.instanceMethod yX10_moveTells ∈ wsL_law := (kin_46 _ (List.mem_of_getElem? (i := 3) rfl))
set_option maxRecDepth 20000 in
theorem km_X9_trace : xMth zX9_trace 1 := ⟨(kin_46 _ (List.mem_of_getElem? (i := 9) rfl)), (kin_1 _ (List.mem_of_getElem? (i := 2) rfl)), ⟨by decide, by decide, by decide +kernel⟩, by decide +kernel, by decide⟩
set_option maxRecDepth 20000 in
theorem kv_X9_trace : xVir zX9_trace := ⟨(kin_46 _ (List.mem_of_getElem? (i := 7) rfl)), (kin_46 _ (List.mem_of_getElem? (i := 8) rfl))⟩
set_option maxRecDepth 20000 in
theorem ki_X9_trace : Cond.instanceMethod yX9_trace ∈ wsL_law := (kin_46 _ (List.mem_of_getElem? (i := 7) rfl))
set_option maxRecDepth 20000 in
theorem km_X10_trace : xMth zX10_trace 1 := ⟨(kin_46 _ (List.mem_of_getElem? (i := 14) rfl)), (kin_1 _ (List.mem_of_getElem? (i := 5) rfl)), ⟨by decide, by decide, by decide +kernel⟩, by decide +kernel, by decide⟩
set_option maxRecDepth 20000 in
theorem kv_X10_trace : xVir zX10_trace := ⟨(kin_46 _ (List.mem_of_getElem? (i := 12) rfl)), (kin_46 _ (List.mem_of_getElem? (i := 13) rfl))⟩
set_option maxRecDepth 20000 in
theorem ki_X10_trace : Cond.instanceMethod yX10_trace ∈ wsL_law := (kin_46 _ (List.mem_of_getElem? (i := 12) rfl))
set_option maxRecDepth 20000 in
theorem km_X9_taken : xMth zX9_taken 2 := ⟨(kin_46 _ (List.mem_of_getElem? (i := 18) rfl)), (kin_1 _ (List.mem_of_getElem? (i := 2) rfl)), ⟨by decide, by decide, by decide +kernel⟩, by decide +kernel, by decide⟩
set_option maxRecDepth 20000 in
theorem kv_X9_taken : xVir zX9_taken := ⟨(kin_46 _ (List.mem_of_getElem? (i := 16) rfl)), (kin_46 _ (List.mem_of_getElem? (i := 17) rfl))⟩
set_option maxRecDepth 20000 in
theorem ki_X9_taken : Cond.instanceMethod yX9_taken ∈ wsL_law := (kin_46 _ (List.mem_of_getElem? (i := 16) rfl))
set_option maxRecDepth 20000 in
theorem km_X10_taken : xMth zX10_taken 2 := ⟨(kin_46 _ (List.mem_of_getElem? (i := 23) rfl)), (kin_1 _ (List.mem_of_getElem? (i := 5) rfl)), ⟨by decide, by decide, by decide +kernel⟩, by decide +kernel, by decide⟩
set_option maxRecDepth 20000 in
theorem kv_X10_taken : xVir zX10_taken := ⟨(kin_46 _ (List.mem_of_getElem? (i := 21) rfl)), (kin_46 _ (List.mem_of_getElem? (i := 22) rfl))⟩
set_option maxRecDepth 20000 in
theorem ki_X10_taken : Cond.instanceMethod yX10_taken ∈ wsL_law := (kin_46 _ (List.mem_of_getElem? (i := 21) rfl))
set_option maxRecDepth 20000 in
theorem km_X9_count : xMth zX9_count 1 := ⟨(kin_47 _ (List.mem_of_getElem? (i := 3) rfl)), (kin_1 _ (List.mem_of_getElem? (i := 2) rfl)), ⟨by decide, by decide, by decide +kernel⟩, by decide +kernel, by decide⟩
set_option maxRecDepth 20000 in
theorem kv_X9_count : xVir zX9_count := ⟨(kin_47 _ (List.mem_of_getElem? (i := 1) rfl)), (kin_47 _ (List.mem_of_getElem? (i := 2) rfl))⟩
set_option maxRecDepth 20000 in
theorem ki_X9_count : Cond.instanceMethod yX9_count ∈ wsL_law := (kin_47 _ (List.mem_of_getElem? (i := 1) rfl))
set_option maxRecDepth 20000 in
theorem km_X10_count : xMth zX10_count 1 := ⟨(kin_47 _ (List.mem_of_getElem? (i := 9) rfl)), (kin_1 _ (List.mem_of_getElem? (i := 5) rfl)), ⟨by decide, by decide, by decide +kernel⟩, by decide +kernel, by decide⟩
set_option maxRecDepth 20000 in
theorem kv_X10_count : xVir zX10_count := ⟨(kin_47 _ (List.mem_of_getElem? (i := 7) rfl)), (kin_47 _ (List.mem_of_getElem? (i := 8) rfl))⟩
set_option maxRecDepth 20000 in
theorem ki_X10_count : Cond.instanceMethod yX10_count ∈ wsL_law := (kin_47 _ (List.mem_of_getElem? (i := 7) rfl))
set_option maxRecDepth 20000 in
theorem km_X9_tape : xMth zX9_tape 3 := ⟨(kin_47 _ (List.mem_of_getElem? (i := 13) rfl)), (kin_1 _ (List.mem_of_getElem? (i := 2) rfl)), ⟨by decide, by decide, by decide +kernel⟩, by decide +kernel, by decide⟩
set_option maxRecDepth 20000 in
theorem kv_X9_tape : xVir zX9_tape := ⟨(kin_47 _ (List.mem_of_getElem? (i := 11) rfl)), (kin_47 _ (List.mem_of_getElem? (i := 12) rfl))⟩
set_option maxRecDepth 20000 in
theorem ki_X9_tape : Cond.instanceMethod yX9_tape ∈ wsL_law := (kin_47 _ (List.mem_of_getElem? (i := 11) rfl))
set_option maxRecDepth 20000 in
theorem km_X8_empty : xMth zX8_empty 0 := ⟨(kin_47 _ (List.mem_of_getElem? (i := 17) rfl)), (kin_2 _ (List.mem_of_getElem? (i := 20) rfl)), ⟨by decide, by decide, by decide +kernel⟩, by decide +kernel, by decide⟩
set_option maxRecDepth 20000 in
theorem kv_X8_empty : xVir zX8_empty := ⟨(kin_47 _ (List.mem_of_getElem? (i := 15) rfl)), (kin_47 _ (List.mem_of_getElem? (i := 16) rfl))⟩
set_option maxRecDepth 20000 in
theorem ki_X8_empty : Cond.instanceMethod yX8_empty ∈ wsL_law := (kin_47 _ (List.mem_of_getElem? (i := 15) rfl))
set_option maxRecDepth 20000 in
theorem km_X8_become : xMth zX8_become 2 := ⟨(kin_47 _ (List.mem_of_getElem? (i := 21) rfl)), (kin_2 _ (List.mem_of_getElem? (i := 20) rfl)), ⟨by decide, by decide, by decide +kernel⟩, by decide +kernel, by decide⟩
set_option maxRecDepth 20000 in
theorem kv_X8_become : xVir zX8_become := ⟨(kin_47 _ (List.mem_of_getElem? (i := 19) rfl)), (kin_47 _ (List.mem_of_getElem? (i := 20) rfl))⟩
set_option maxRecDepth 20000 in
theorem ki_X8_become : Cond.instanceMethod yX8_become ∈ wsL_law := (kin_47 _ (List.mem_of_getElem? (i := 19) rfl))
set_option maxRecDepth 20000 in
theorem km_X10_tape : xMth zX10_tape 3 := ⟨(kin_48 _ (List.mem_of_getElem? (i := 3) rfl)), (kin_1 _ (List.mem_of_getElem? (i := 5) rfl)), ⟨by decide, by decide, by decide +kernel⟩, by decide +kernel, by decide⟩
set_option maxRecDepth 20000 in
theorem kv_X10_tape : xVir zX10_tape := ⟨(kin_48 _ (List.mem_of_getElem? (i := 1) rfl)), (kin_48 _ (List.mem_of_getElem? (i := 2) rfl))⟩
set_option maxRecDepth 20000 in
theorem ki_X10_tape : Cond.instanceMethod yX10_tape ∈ wsL_law := (kin_48 _ (List.mem_of_getElem? (i := 1) rfl))
set_option maxRecDepth 20000 in
theorem km_X9_item : xMth zX9_item 3 := ⟨(kin_48 _ (List.mem_of_getElem? (i := 7) rfl)), (kin_1 _ (List.mem_of_getElem? (i := 2) rfl)), ⟨by decide, by decide, by decide +kernel⟩, by decide +kernel, by decide⟩
set_option maxRecDepth 20000 in
theorem kv_X9_item : xVir zX9_item := ⟨(kin_48 _ (List.mem_of_getElem? (i := 5) rfl)), (kin_48 _ (List.mem_of_getElem? (i := 6) rfl))⟩
set_option maxRecDepth 20000 in
theorem ki_X9_item : Cond.instanceMethod yX9_item ∈ wsL_law := (kin_48 _ (List.mem_of_getElem? (i := 5) rfl))
set_option maxRecDepth 20000 in
theorem km_X8_put : xMth zX8_put 2 := ⟨(kin_48 _ (List.mem_of_getElem? (i := 11) rfl)), (kin_2 _ (List.mem_of_getElem? (i := 20) rfl)), ⟨by decide, by decide, by decide +kernel⟩, by decide +kernel, by decide⟩
set_option maxRecDepth 20000 in
theorem kv_X8_put : xVir zX8_put := ⟨(kin_48 _ (List.mem_of_getElem? (i := 9) rfl)), (kin_48 _ (List.mem_of_getElem? (i := 10) rfl))⟩
set_option maxRecDepth 20000 in
theorem ki_X8_put : Cond.instanceMethod yX8_put ∈ wsL_law := (kin_48 _ (List.mem_of_getElem? (i := 9) rfl))
set_option maxRecDepth 20000 in
theorem km_X8_narrowed : xMth zX8_narrowed 1 := ⟨(kin_48 _ (List.mem_of_getElem? (i := 15) rfl)), (kin_2 _ (List.mem_of_getElem? (i := 20) rfl)), ⟨by decide, by decide, by decide +kernel⟩, by decide +kernel, by decide⟩
set_option maxRecDepth 20000 in
theorem kv_X8_narrowed : xVir zX8_narrowed := ⟨(kin_48 _ (List.mem_of_getElem? (i := 13) rfl)), (kin_48 _ (List.mem_of_getElem? (i := 14) rfl))⟩
set_option maxRecDepth 20000 in
theorem ki_X8_narrowed : Cond.instanceMethod yX8_narrowed ∈ wsL_law := (kin_48 _ (List.mem_of_getElem? (i := 13) rfl))
set_option maxRecDepth 20000 in
theorem km_X10_item : xMth zX10_item 3 := ⟨(kin_48 _ (List.mem_of_getElem? (i := 19) rfl)), (kin_1 _ (List.mem_of_getElem? (i := 5) rfl)), ⟨by decide, by decide, by decide +kernel⟩, by decide +kernel, by decide⟩
set_option maxRecDepth 20000 in
theorem kv_X10_item : xVir zX10_item := ⟨(kin_48 _ (List.mem_of_getElem? (i := 17) rfl)), (kin_48 _ (List.mem_of_getElem? (i := 18) rfl))⟩
set_option maxRecDepth 20000 in
theorem ki_X10_item : Cond.instanceMethod yX10_item ∈ wsL_law := (kin_48 _ (List.mem_of_getElem? (i := 17) rfl))
set_option maxRecDepth 20000 in
theorem km_X10_narrow : xMth zX10_narrow 2 := ⟨(kin_48 _ (List.mem_of_getElem? (i := 23) rfl)), (kin_1 _ (List.mem_of_getElem? (i := 5) rfl)), ⟨by decide, by decide, by decide +kernel⟩, by decide +kernel, by decide⟩
set_option maxRecDepth 20000 in
theorem kv_X10_narrow : xVir zX10_narrow := ⟨(kin_48 _ (List.mem_of_getElem? (i := 21) rfl)), (kin_48 _ (List.mem_of_getElem? (i := 22) rfl))⟩
set_option maxRecDepth 20000 in
theorem ki_X10_narrow : Cond.instanceMethod yX10_narrow ∈ wsL_law := (kin_48 _ (List.mem_of_getElem? (i := 21) rfl))
set_option maxRecDepth 20000 in
theorem km_X9_read : xMth zX9_read 2 := ⟨(kin_49 _ (List.mem_of_getElem? (i := 3) rfl)), (kin_1 _ (List.mem_of_getElem? (i := 2) rfl)), ⟨by decide, by decide, by decide +kernel⟩, by decide +kernel, by decide⟩
set_option maxRecDepth 20000 in
theorem kv_X9_read : xVir zX9_read := ⟨(kin_49 _ (List.mem_of_getElem? (i := 1) rfl)), (kin_49 _ (List.mem_of_getElem? (i := 2) rfl))⟩
set_option maxRecDepth 20000 in
theorem ki_X9_read : Cond.instanceMethod yX9_read ∈ wsL_law := (kin_49 _ (List.mem_of_getElem? (i := 1) rfl))
set_option maxRecDepth 20000 in
theorem km_X10_read : xMth zX10_read 2 := ⟨(kin_49 _ (List.mem_of_getElem? (i := 7) rfl)), (kin_1 _ (List.mem_of_getElem? (i := 5) rfl)), ⟨by decide, by decide, by decide +kernel⟩, by decide +kernel, by decide⟩
set_option maxRecDepth 20000 in
theorem kv_X10_read : xVir zX10_read := ⟨(kin_49 _ (List.mem_of_getElem? (i := 5) rfl)), (kin_49 _ (List.mem_of_getElem? (i := 6) rfl))⟩
set_option maxRecDepth 20000 in
theorem ki_X10_read : Cond.instanceMethod yX10_read ∈ wsL_law := (kin_49 _ (List.mem_of_getElem? (i := 5) rfl))
set_option maxRecDepth 20000 in
theorem km_X9_shift : xMth zX9_shift 5 := ⟨(kin_49 _ (List.mem_of_getElem? (i := 11) rfl)), (kin_1 _ (List.mem_of_getElem? (i := 2) rfl)), ⟨by decide, by decide, by decide +kernel⟩, by decide +kernel, by decide⟩
set_option maxRecDepth 20000 in
theorem kv_X9_shift : xVir zX9_shift := ⟨(kin_49 _ (List.mem_of_getElem? (i := 9) rfl)), (kin_49 _ (List.mem_of_getElem? (i := 10) rfl))⟩
set_option maxRecDepth 20000 in
theorem ki_X9_shift : Cond.instanceMethod yX9_shift ∈ wsL_law := (kin_49 _ (List.mem_of_getElem? (i := 9) rfl))
set_option maxRecDepth 20000 in
theorem km_X8_hasPart : xMth zX8_hasPart 2 := ⟨(kin_49 _ (List.mem_of_getElem? (i := 15) rfl)), (kin_2 _ (List.mem_of_getElem? (i := 20) rfl)), ⟨by decide, by decide, by decide +kernel⟩, by decide +kernel, by decide⟩
set_option maxRecDepth 20000 in
theorem kv_X8_hasPart : xVir zX8_hasPart := ⟨(kin_49 _ (List.mem_of_getElem? (i := 13) rfl)), (kin_49 _ (List.mem_of_getElem? (i := 14) rfl))⟩
set_option maxRecDepth 20000 in
theorem ki_X8_hasPart : Cond.instanceMethod yX8_hasPart ∈ wsL_law := (kin_49 _ (List.mem_of_getElem? (i := 13) rfl))
set_option maxRecDepth 20000 in
theorem km_X8_takeFrom : xMth zX8_takeFrom 4 := ⟨(kin_49 _ (List.mem_of_getElem? (i := 19) rfl)), (kin_2 _ (List.mem_of_getElem? (i := 20) rfl)), ⟨by decide, by decide, by decide +kernel⟩, by decide +kernel, by decide⟩
set_option maxRecDepth 20000 in
theorem kv_X8_takeFrom : xVir zX8_takeFrom := ⟨(kin_49 _ (List.mem_of_getElem? (i := 17) rfl)), (kin_49 _ (List.mem_of_getElem? (i := 18) rfl))⟩
set_option maxRecDepth 20000 in
theorem ki_X8_takeFrom : Cond.instanceMethod yX8_takeFrom ∈ wsL_law := (kin_49 _ (List.mem_of_getElem? (i := 17) rfl))
set_option maxRecDepth 20000 in
theorem km_X10_shift : xMth zX10_shift 5 := ⟨(kin_50 _ (List.mem_of_getElem? (i := 4) rfl)), (kin_1 _ (List.mem_of_getElem? (i := 5) rfl)), ⟨by decide, by decide, by decide +kernel⟩, by decide +kernel, by decide⟩
set_option maxRecDepth 20000 in
theorem kv_X10_shift : xVir zX10_shift := ⟨(kin_50 _ (List.mem_of_getElem? (i := 2) rfl)), (kin_50 _ (List.mem_of_getElem? (i := 3) rfl))⟩
set_option maxRecDepth 20000 in
theorem ki_X10_shift : Cond.instanceMethod yX10_shift ∈ wsL_law := (kin_50 _ (List.mem_of_getElem? (i := 2) rfl))
set_option maxRecDepth 20000 in
theorem kl_RL_9 : Cond.methodLink RL 9 yX9_init ∈ wsL_law := (kin_1 _ (List.mem_of_getElem? (i := 7) rfl))
set_option maxRecDepth 20000 in
theorem kl_RX9_3 : Cond.methodLink RX9 3 objectInit ∈ wsL_law := (kin_1 _ (List.mem_of_getElem? (i := 10) rfl))
set_option maxRecDepth 20000 in
theorem kl_RX6_3 : Cond.methodLink RX6 3 objectInit ∈ wsL_law := (kin_2 _ (List.mem_of_getElem? (i := 23) rfl))
set_option maxRecDepth 20000 in
theorem kl_RX6_11 : Cond.methodLink RX6 11 yX5_init ∈ wsL_law := (kin_3 _ (List.mem_of_getElem? (i := 21) rfl))
set_option maxRecDepth 20000 in
theorem kl_RX5_3 : Cond.methodLink RX5 3 objectInit ∈ wsL_law := (kin_4 _ (List.mem_of_getElem? (i := 0) rfl))
set_option maxRecDepth 20000 in
theorem kl_RX5_15 : Cond.methodLink RX5 15 Lib.Math.max.name ∈ wsL_law := (kin_4 _ (List.mem_of_getElem? (i := 2) rfl))
set_option maxRecDepth 20000 in
theorem kl_RX2_1 : Cond.methodLink RX2 1 objectInit ∈ wsL_law := (kin_4 _ (List.mem_of_getElem? (i := 10) rfl))
set_option maxRecDepth 20000 in
theorem kl_RX3_3 : Cond.methodLink RX3 3 objectInit ∈ wsL_law := (kin_4 _ (List.mem_of_getElem? (i := 13) rfl))
set_option maxRecDepth 20000 in
theorem kl_RX3_11 : Cond.methodLink RX3 11 yX5_init ∈ wsL_law := (kin_4 _ (List.mem_of_getElem? (i := 19) rfl))
set_option maxRecDepth 20000 in
theorem kl_RX4_3 : Cond.methodLink RX4 3 objectInit ∈ wsL_law := (kin_4 _ (List.mem_of_getElem? (i := 22) rfl))
set_option maxRecDepth 20000 in
theorem kl_RX4_11 : Cond.methodLink RX4 11 yX5_init ∈ wsL_law := (kin_5 _ (List.mem_of_getElem? (i := 4) rfl))
set_option maxRecDepth 20000 in
theorem kl_RX1_3 : Cond.methodLink RX1 3 objectInit ∈ wsL_law := (kin_5 _ (List.mem_of_getElem? (i := 7) rfl))
set_option maxRecDepth 20000 in
theorem kl_RX1_17 : Cond.methodLink RX1 17 yX5_init ∈ wsL_law := (kin_5 _ (List.mem_of_getElem? (i := 15) rfl))
set_option maxRecDepth 20000 in
theorem kl_RX7_3 : Cond.methodLink RX7 3 objectInit ∈ wsL_law := (kin_5 _ (List.mem_of_getElem? (i := 18) rfl))
set_option maxRecDepth 20000 in
theorem kl_RX7_11 : Cond.methodLink RX7 11 yX5_init ∈ wsL_law := (kin_6 _ (List.mem_of_getElem? (i := 0) rfl))
set_option maxRecDepth 20000 in
theorem kl_RX0_3 : Cond.methodLink RX0 3 objectInit ∈ wsL_law := (kin_6 _ (List.mem_of_getElem? (i := 3) rfl))
set_option maxRecDepth 20000 in
theorem kl_RX0_13 : Cond.methodLink RX0 13 yX5_init ∈ wsL_law := (kin_6 _ (List.mem_of_getElem? (i := 10) rfl))
set_option maxRecDepth 20000 in
theorem kl_RX8_3 : Cond.methodLink RX8 3 objectInit ∈ wsL_law := (kin_6 _ (List.mem_of_getElem? (i := 13) rfl))
set_option maxRecDepth 20000 in
theorem kl_RL_12 : Cond.methodLink RL 12 yX10_init ∈ wsL_law := (kin_6 _ (List.mem_of_getElem? (i := 17) rfl))
set_option maxRecDepth 20000 in
theorem kl_RX10_1 : Cond.methodLink RX10 1 objectInit ∈ wsL_law := (kin_6 _ (List.mem_of_getElem? (i := 20) rfl))
set_option maxRecDepth 20000 in
theorem kl_RL_13 : Cond.methodLink RL 13 yX9_beast ∈ wsL_law := (kin_9 _ (List.mem_of_getElem? (i := 20) rfl))
set_option maxRecDepth 20000 in
theorem kl_RX9_74 : Cond.methodLink RX9 74 yX9_isKind ∈ wsL_law := (kin_10 _ (List.mem_of_getElem? (i := 1) rfl))
set_option maxRecDepth 20000 in
theorem kl_RX9_81 : Cond.methodLink RX9 81 yX9_isWithin ∈ wsL_law := (kin_10 _ (List.mem_of_getElem? (i := 4) rfl))
set_option maxRecDepth 20000 in
theorem kl_RX9_78 : Cond.methodLink RX9 78 yX9_isCell ∈ wsL_law := (kin_10 _ (List.mem_of_getElem? (i := 7) rfl))
set_option maxRecDepth 20000 in
theorem kl_RX9_85 : Cond.methodLink RX9 85 yX6_holdsBeast ∈ wsL_law := (kin_10 _ (List.mem_of_getElem? (i := 10) rfl))
set_option maxRecDepth 20000 in
theorem kl_RX6_81 : Cond.methodLink RX6 81 yX5_placeOf ∈ wsL_law := (kin_10 _ (List.mem_of_getElem? (i := 14) rfl))
set_option maxRecDepth 20000 in
theorem kl_RX9_91 : Cond.methodLink RX9 91 yX6_isStool ∈ wsL_law := (kin_10 _ (List.mem_of_getElem? (i := 18) rfl))
set_option maxRecDepth 20000 in
theorem kl_RX9_94 : Cond.methodLink RX9 94 yX6_size ∈ wsL_law := (kin_10 _ (List.mem_of_getElem? (i := 22) rfl))
set_option maxRecDepth 20000 in
theorem kl_RX9_98 : Cond.methodLink RX9 98 yX6_addBeast ∈ wsL_law := (kin_11 _ (List.mem_of_getElem? (i := 3) rfl))
set_option maxRecDepth 20000 in
theorem kl_RX6_74 : Cond.methodLink RX6 74 yX5_add ∈ wsL_law := (kin_11 _ (List.mem_of_getElem? (i := 7) rfl))
set_option maxRecDepth 20000 in
theorem kl_RX6_71 : Cond.methodLink RX6 71 yX6_size ∈ wsL_law := (kin_11 _ (List.mem_of_getElem? (i := 11) rfl))
set_option maxRecDepth 20000 in
theorem kl_RL_17 : Cond.methodLink RL 17 yX10_beast ∈ wsL_law := (kin_11 _ (List.mem_of_getElem? (i := 12) rfl))
set_option maxRecDepth 20000 in
theorem kl_RX10_231 : Cond.methodLink RX10 231 yX10_in ∈ wsL_law := (kin_11 _ (List.mem_of_getElem? (i := 16) rfl))
set_option maxRecDepth 20000 in
theorem kl_RX10_235 : Cond.methodLink RX10 235 yX10_isCell ∈ wsL_law := (kin_11 _ (List.mem_of_getElem? (i := 20) rfl))
set_option maxRecDepth 20000 in
theorem kl_RX10_239 : Cond.methodLink RX10 239 yX10_beastIn ∈ wsL_law := (kin_12 _ (List.mem_of_getElem? (i := 0) rfl))
set_option maxRecDepth 20000 in
theorem kl_RX10_243 : Cond.methodLink RX10 243 yX10_isStool ∈ wsL_law := (kin_12 _ (List.mem_of_getElem? (i := 4) rfl))
set_option maxRecDepth 20000 in
theorem kl_RL_18 : Cond.methodLink RL 18 yX9_of ∈ wsL_law := (kin_12 _ (List.mem_of_getElem? (i := 8) rfl))
set_option maxRecDepth 20000 in
theorem kl_RX9_102 : Cond.methodLink RX9 102 yX6_isBeast ∈ wsL_law := (kin_12 _ (List.mem_of_getElem? (i := 19) rfl))
set_option maxRecDepth 20000 in
theorem kl_RX9_109 : Cond.methodLink RX9 109 yX5_at ∈ wsL_law := (kin_12 _ (List.mem_of_getElem? (i := 23) rfl))
set_option maxRecDepth 20000 in
theorem kl_RX9_127 : Cond.methodLink RX9 127 yX9_lookedAt ∈ wsL_law := (kin_13 _ (List.mem_of_getElem? (i := 3) rfl))
set_option maxRecDepth 20000 in
theorem kl_RX9_142 : Cond.methodLink RX9 142 yX6_lookAt ∈ wsL_law := (kin_13 _ (List.mem_of_getElem? (i := 8) rfl))
set_option maxRecDepth 20000 in
theorem kl_RX6_138 : Cond.methodLink RX6 138 Lib.Math.min.name ∈ wsL_law := (kin_13 _ (List.mem_of_getElem? (i := 19) rfl))
set_option maxRecDepth 20000 in
theorem kl_RX6_143 : Cond.methodLink RX6 143 Lib.Math.max.name ∈ wsL_law := (kin_13 _ (List.mem_of_getElem? (i := 22) rfl))
set_option maxRecDepth 20000 in
theorem kl_RX6_89 : Cond.methodLink RX6 89 yX5_at ∈ wsL_law := (kin_13 _ (List.mem_of_getElem? (i := 23) rfl))
set_option maxRecDepth 20000 in
theorem kl_RX6_111 : Cond.methodLink RX6 111 yX6_nearOnes ∈ wsL_law := (kin_14 _ (List.mem_of_getElem? (i := 0) rfl))
set_option maxRecDepth 20000 in
theorem kl_RX9_348 : Cond.methodLink RX9 348 Lib.Math.abs.name ∈ wsL_law := (kin_14 _ (List.mem_of_getElem? (i := 6) rfl))
set_option maxRecDepth 20000 in
theorem kl_RX9_353 : Cond.methodLink RX9 353 Lib.Math.max.name ∈ wsL_law := (kin_14 _ (List.mem_of_getElem? (i := 9) rfl))
set_option maxRecDepth 20000 in
theorem kl_RX6_117 : Cond.methodLink RX6 117 yX6_shutSides ∈ wsL_law := (kin_14 _ (List.mem_of_getElem? (i := 10) rfl))
set_option maxRecDepth 20000 in
theorem kl_RX6_85 : Cond.methodLink RX6 85 yX6_holdsBeast ∈ wsL_law := (kin_14 _ (List.mem_of_getElem? (i := 16) rfl))
set_option maxRecDepth 20000 in
theorem kl_RX6_132 : Cond.methodLink RX6 132 yX4_addTo ∈ wsL_law := (kin_14 _ (List.mem_of_getElem? (i := 17) rfl))
set_option maxRecDepth 20000 in
theorem kl_RX4_43 : Cond.methodLink RX4 43 yX5_at ∈ wsL_law := (kin_15 _ (List.mem_of_getElem? (i := 1) rfl))
set_option maxRecDepth 20000 in
theorem kl_RX4_57 : Cond.methodLink RX4 57 yX2_passes ∈ wsL_law := (kin_15 _ (List.mem_of_getElem? (i := 2) rfl))
set_option maxRecDepth 20000 in
theorem kl_RX9_363 : Cond.methodLink RX9 363 yX9_kindAbove ∈ wsL_law := (kin_15 _ (List.mem_of_getElem? (i := 13) rfl))
set_option maxRecDepth 20000 in
theorem kl_RX9_139 : Cond.methodLink RX9 139 yX6_deedOf ∈ wsL_law := (kin_15 _ (List.mem_of_getElem? (i := 16) rfl))
set_option maxRecDepth 20000 in
theorem kl_RX6_156 : Cond.methodLink RX6 156 yX6_lookAt ∈ wsL_law := (kin_15 _ (List.mem_of_getElem? (i := 20) rfl))
set_option maxRecDepth 20000 in
theorem kl_RX6_159 : Cond.methodLink RX6 159 yX6_refuses ∈ wsL_law := (kin_15 _ (List.mem_of_getElem? (i := 21) rfl))
set_option maxRecDepth 20000 in
theorem kl_RX6_162 : Cond.methodLink RX6 162 yX6_yieldingDeed ∈ wsL_law := (kin_16 _ (List.mem_of_getElem? (i := 1) rfl))
set_option maxRecDepth 20000 in
theorem kl_RX6_170 : Cond.methodLink RX6 170 yX6_yielded ∈ wsL_law := (kin_16 _ (List.mem_of_getElem? (i := 5) rfl))
set_option maxRecDepth 20000 in
theorem kl_RX6_166 : Cond.methodLink RX6 166 yX6_cameTo ∈ wsL_law := (kin_16 _ (List.mem_of_getElem? (i := 11) rfl))
set_option maxRecDepth 20000 in
theorem kl_RL_22 : Cond.methodLink RL 22 yX10_of ∈ wsL_law := (kin_16 _ (List.mem_of_getElem? (i := 15) rfl))
set_option maxRecDepth 20000 in
theorem kl_RX10_246 : Cond.methodLink RX10 246 yX10_isBeast ∈ wsL_law := (kin_16 _ (List.mem_of_getElem? (i := 19) rfl))
set_option maxRecDepth 20000 in
theorem kl_RX10_338 : Cond.methodLink RX10 338 yX10_asIs ∈ wsL_law := (kin_16 _ (List.mem_of_getElem? (i := 23) rfl))
set_option maxRecDepth 20000 in
theorem kl_RX10_331 : Cond.methodLink RX10 331 yX10_layLines ∈ wsL_law := (kin_17 _ (List.mem_of_getElem? (i := 3) rfl))
set_option maxRecDepth 20000 in
theorem kl_RX10_316 : Cond.methodLink RX10 316 yX10_nearOf ∈ wsL_law := (kin_17 _ (List.mem_of_getElem? (i := 7) rfl))
set_option maxRecDepth 20000 in
theorem kl_RX10_301 : Cond.methodLink RX10 301 yX10_far ∈ wsL_law := (kin_17 _ (List.mem_of_getElem? (i := 11) rfl))
set_option maxRecDepth 20000 in
theorem kl_RX10_224 : Cond.methodLink RX10 224 yX10_apart ∈ wsL_law := (kin_17 _ (List.mem_of_getElem? (i := 15) rfl))
set_option maxRecDepth 20000 in
theorem kl_RX10_228 : Cond.methodLink RX10 228 yX10_most ∈ wsL_law := (kin_17 _ (List.mem_of_getElem? (i := 19) rfl))
set_option maxRecDepth 20000 in
theorem kl_RX10_319 : Cond.methodLink RX10 319 yX10_closedOf ∈ wsL_law := (kin_17 _ (List.mem_of_getElem? (i := 23) rfl))
set_option maxRecDepth 20000 in
theorem kl_RX10_304 : Cond.methodLink RX10 304 yX10_beside ∈ wsL_law := (kin_18 _ (List.mem_of_getElem? (i := 3) rfl))
set_option maxRecDepth 20000 in
theorem kl_RX10_307 : Cond.methodLink RX10 307 yX10_isTaken ∈ wsL_law := (kin_18 _ (List.mem_of_getElem? (i := 7) rfl))
set_option maxRecDepth 20000 in
theorem kl_RX10_322 : Cond.methodLink RX10 322 yX10_sumOf ∈ wsL_law := (kin_18 _ (List.mem_of_getElem? (i := 11) rfl))
set_option maxRecDepth 20000 in
theorem kl_RX10_295 : Cond.methodLink RX10 295 yX10_first ∈ wsL_law := (kin_18 _ (List.mem_of_getElem? (i := 15) rfl))
set_option maxRecDepth 20000 in
theorem kl_RX10_298 : Cond.methodLink RX10 298 yX10_behind ∈ wsL_law := (kin_18 _ (List.mem_of_getElem? (i := 19) rfl))
set_option maxRecDepth 20000 in
theorem kl_RX10_313 : Cond.methodLink RX10 313 yX10_holds ∈ wsL_law := (kin_18 _ (List.mem_of_getElem? (i := 23) rfl))
set_option maxRecDepth 20000 in
theorem kl_RX10_310 : Cond.methodLink RX10 310 yX10_factOf ∈ wsL_law := (kin_19 _ (List.mem_of_getElem? (i := 3) rfl))
set_option maxRecDepth 20000 in
theorem kl_RX10_325 : Cond.methodLink RX10 325 yX10_min ∈ wsL_law := (kin_19 _ (List.mem_of_getElem? (i := 7) rfl))
set_option maxRecDepth 20000 in
theorem kl_RX10_341 : Cond.methodLink RX10 341 yX10_doesOf ∈ wsL_law := (kin_19 _ (List.mem_of_getElem? (i := 11) rfl))
set_option maxRecDepth 20000 in
theorem kl_RX10_334 : Cond.methodLink RX10 334 yX10_nextBy ∈ wsL_law := (kin_19 _ (List.mem_of_getElem? (i := 15) rfl))
set_option maxRecDepth 20000 in
theorem kl_RX10_328 : Cond.methodLink RX10 328 yX10_round ∈ wsL_law := (kin_19 _ (List.mem_of_getElem? (i := 19) rfl))
set_option maxRecDepth 20000 in
theorem kl_RL_23 : Cond.methodLink RL 23 yX9_set ∈ wsL_law := (kin_19 _ (List.mem_of_getElem? (i := 23) rfl))
set_option maxRecDepth 20000 in
theorem kl_RX9_150 : Cond.methodLink RX9 150 yX5_put ∈ wsL_law := (kin_20 _ (List.mem_of_getElem? (i := 3) rfl))
set_option maxRecDepth 20000 in
theorem kl_RL_27 : Cond.methodLink RL 27 yX10_set ∈ wsL_law := (kin_20 _ (List.mem_of_getElem? (i := 7) rfl))
set_option maxRecDepth 20000 in
theorem kl_RL_28 : Cond.methodLink RL 28 yX9_enemies ∈ wsL_law := (kin_20 _ (List.mem_of_getElem? (i := 11) rfl))
set_option maxRecDepth 20000 in
theorem kl_RX9_154 : Cond.methodLink RX9 154 yX6_areEnemies ∈ wsL_law := (kin_20 _ (List.mem_of_getElem? (i := 15) rfl))
set_option maxRecDepth 20000 in
theorem kl_RX9_158 : Cond.methodLink RX9 158 yX6_setEnemy ∈ wsL_law := (kin_20 _ (List.mem_of_getElem? (i := 19) rfl))
set_option maxRecDepth 20000 in
theorem kl_RX6_92 : Cond.methodLink RX6 92 yX5_put ∈ wsL_law := (kin_20 _ (List.mem_of_getElem? (i := 23) rfl))
set_option maxRecDepth 20000 in
theorem kl_RL_32 : Cond.methodLink RL 32 yX10_enemies ∈ wsL_law := (kin_21 _ (List.mem_of_getElem? (i := 0) rfl))
set_option maxRecDepth 20000 in
theorem kl_RL_33 : Cond.methodLink RL 33 yX9_tamer ∈ wsL_law := (kin_21 _ (List.mem_of_getElem? (i := 4) rfl))
set_option maxRecDepth 20000 in
theorem kl_RL_37 : Cond.methodLink RL 37 yX10_tamer ∈ wsL_law := (kin_21 _ (List.mem_of_getElem? (i := 8) rfl))
set_option maxRecDepth 20000 in
theorem kl_RL_38 : Cond.methodLink RL 38 yX9_feed ∈ wsL_law := (kin_21 _ (List.mem_of_getElem? (i := 12) rfl))
set_option maxRecDepth 20000 in
theorem kl_RX9_167 : Cond.methodLink RX9 167 yX5_add ∈ wsL_law := (kin_21 _ (List.mem_of_getElem? (i := 18) rfl))
set_option maxRecDepth 20000 in
theorem kl_RL_41 : Cond.methodLink RL 41 yX10_feed ∈ wsL_law := (kin_21 _ (List.mem_of_getElem? (i := 19) rfl))
set_option maxRecDepth 20000 in
theorem kl_RL_42 : Cond.methodLink RL 42 yX9_ring ∈ wsL_law := (kin_21 _ (List.mem_of_getElem? (i := 23) rfl))
set_option maxRecDepth 20000 in
theorem kl_RX9_170 : Cond.methodLink RX9 170 yX3_faultOfText ∈ wsL_law := (kin_22 _ (List.mem_of_getElem? (i := 5) rfl))
set_option maxRecDepth 20000 in
theorem kl_RX3_31 : Cond.methodLink RX3 31 yX4_clear ∈ wsL_law := (kin_22 _ (List.mem_of_getElem? (i := 10) rfl))
set_option maxRecDepth 20000 in
theorem kl_RX4_30 : Cond.methodLink RX4 30 yX5_clear ∈ wsL_law := (kin_22 _ (List.mem_of_getElem? (i := 14) rfl))
set_option maxRecDepth 20000 in
theorem kl_RX3_34 : Cond.methodLink RX3 34 yX3_accept ∈ wsL_law := (kin_22 _ (List.mem_of_getElem? (i := 18) rfl))
set_option maxRecDepth 20000 in
theorem kl_RX3_45 : Cond.methodLink RX3 45 yX5_at ∈ wsL_law := (kin_22 _ (List.mem_of_getElem? (i := 22) rfl))
set_option maxRecDepth 20000 in
theorem kl_RX3_38 : Cond.methodLink RX3 38 yX3_readClause ∈ wsL_law := (kin_22 _ (List.mem_of_getElem? (i := 23) rfl))
set_option maxRecDepth 20000 in
theorem kl_RX3_55 : Cond.methodLink RX3 55 yX3_readWord ∈ wsL_law := (kin_23 _ (List.mem_of_getElem? (i := 4) rfl))
set_option maxRecDepth 20000 in
theorem kl_RX3_79 : Cond.methodLink RX3 79 yJ0_length_8abf5 ∈ wsL_law := (kin_23 _ (List.mem_of_getElem? (i := 8) rfl))
set_option maxRecDepth 20000 in
theorem kl_RJ0_335 : Cond.methodLink RJ0 335 yJ0_coder_7d493 ∈ wsL_law := (kin_23 _ (List.mem_of_getElem? (i := 14) rfl))
set_option maxRecDepth 20000 in
theorem kl_RX3_84 : Cond.methodLink RX3 84 yJ0_charAt_5068e ∈ wsL_law := (kin_23 _ (List.mem_of_getElem? (i := 20) rfl))
set_option maxRecDepth 20000 in
theorem kl_RJ0_492 : Cond.methodLink RJ0 492 yJ0_isLatin1_aae02 ∈ wsL_law := (kin_24 _ (List.mem_of_getElem? (i := 0) rfl))
set_option maxRecDepth 20000 in
theorem kl_RJ0_495 : Cond.methodLink RJ0 495 yJ1_charAt_3b067 ∈ wsL_law := (kin_24 _ (List.mem_of_getElem? (i := 4) rfl))
set_option maxRecDepth 20000 in
theorem kl_RJ1_9 : Cond.methodLink RJ1 9 yJ0_checkIndex_df160 ∈ wsL_law := (kin_24 _ (List.mem_of_getElem? (i := 8) rfl))
set_option maxRecDepth 20000 in
theorem kl_RJ0_1059 : Cond.methodLink RJ0 1059 yJ3_checkIndex_8e157 ∈ wsL_law := (kin_24 _ (List.mem_of_getElem? (i := 12) rfl))
set_option maxRecDepth 20000 in
theorem kl_RJ0_498 : Cond.methodLink RJ0 498 yJ2_charAt_3b067 ∈ wsL_law := (kin_24 _ (List.mem_of_getElem? (i := 16) rfl))
set_option maxRecDepth 20000 in
theorem kl_RJ2_67 : Cond.methodLink RJ2 67 yJ2_checkIndex_2214a ∈ wsL_law := (kin_24 _ (List.mem_of_getElem? (i := 20) rfl))
set_option maxRecDepth 20000 in
theorem kl_RJ2_48 : Cond.methodLink RJ2 48 yJ2_length_9d52b ∈ wsL_law := (kin_24 _ (List.mem_of_getElem? (i := 23) rfl))
set_option maxRecDepth 20000 in
theorem kl_RJ2_414 : Cond.methodLink RJ2 414 yJ0_checkIndex_df160 ∈ wsL_law := (kin_25 _ (List.mem_of_getElem? (i := 2) rfl))
set_option maxRecDepth 20000 in
theorem kl_RJ2_71 : Cond.methodLink RJ2 71 yJ2_getChar_3b067 ∈ wsL_law := (kin_25 _ (List.mem_of_getElem? (i := 3) rfl))
set_option maxRecDepth 20000 in
theorem kl_RX3_59 : Cond.methodLink RX3 59 yX3_readNumber ∈ wsL_law := (kin_25 _ (List.mem_of_getElem? (i := 9) rfl))
set_option maxRecDepth 20000 in
theorem kl_RX3_66 : Cond.methodLink RX3 66 yX3_readEither ∈ wsL_law := (kin_25 _ (List.mem_of_getElem? (i := 13) rfl))
set_option maxRecDepth 20000 in
theorem kl_RX3_73 : Cond.methodLink RX3 73 yX3_readBoth ∈ wsL_law := (kin_25 _ (List.mem_of_getElem? (i := 17) rfl))
set_option maxRecDepth 20000 in
theorem kl_RX3_69 : Cond.methodLink RX3 69 yX4_add ∈ wsL_law := (kin_25 _ (List.mem_of_getElem? (i := 20) rfl))
set_option maxRecDepth 20000 in
theorem kl_RX4_33 : Cond.methodLink RX4 33 yX5_add ∈ wsL_law := (kin_26 _ (List.mem_of_getElem? (i := 0) rfl))
set_option maxRecDepth 20000 in
theorem kl_RX3_76 : Cond.methodLink RX3 76 yX3_readOne ∈ wsL_law := (kin_26 _ (List.mem_of_getElem? (i := 2) rfl))
set_option maxRecDepth 20000 in
theorem kl_RX9_173 : Cond.methodLink RX9 173 yX5_clear ∈ wsL_law := (kin_26 _ (List.mem_of_getElem? (i := 6) rfl))
set_option maxRecDepth 20000 in
theorem kl_RX9_180 : Cond.methodLink RX9 180 yX4_copyFrom ∈ wsL_law := (kin_26 _ (List.mem_of_getElem? (i := 7) rfl))
set_option maxRecDepth 20000 in
theorem kl_RX4_36 : Cond.methodLink RX4 36 yX5_copyFrom ∈ wsL_law := (kin_26 _ (List.mem_of_getElem? (i := 11) rfl))
set_option maxRecDepth 20000 in
theorem kl_RX5_25 : Cond.methodLink RX5 25 yX5_clear ∈ wsL_law := (kin_26 _ (List.mem_of_getElem? (i := 15) rfl))
set_option maxRecDepth 20000 in
theorem kl_RX5_28 : Cond.methodLink RX5 28 yX5_at ∈ wsL_law := (kin_26 _ (List.mem_of_getElem? (i := 16) rfl))
set_option maxRecDepth 20000 in
theorem kl_RX5_32 : Cond.methodLink RX5 32 yX5_add ∈ wsL_law := (kin_26 _ (List.mem_of_getElem? (i := 17) rfl))
set_option maxRecDepth 20000 in
theorem kl_RL_46 : Cond.methodLink RL 46 yX10_ring ∈ wsL_law := (kin_26 _ (List.mem_of_getElem? (i := 18) rfl))
set_option maxRecDepth 20000 in
theorem kl_RX10_292 : Cond.methodLink RX10 292 yX10_goesText ∈ wsL_law := (kin_26 _ (List.mem_of_getElem? (i := 22) rfl))
set_option maxRecDepth 20000 in
theorem kl_RX10_289 : Cond.methodLink RX10 289 yX10_takesClause ∈ wsL_law := (kin_27 _ (List.mem_of_getElem? (i := 2) rfl))
set_option maxRecDepth 20000 in
theorem kl_RX10_283 : Cond.methodLink RX10 283 yX10_takesHead ∈ wsL_law := (kin_27 _ (List.mem_of_getElem? (i := 6) rfl))
set_option maxRecDepth 20000 in
theorem kl_RX10_249 : Cond.methodLink RX10 249 yX10_next ∈ wsL_law := (kin_27 _ (List.mem_of_getElem? (i := 10) rfl))
set_option maxRecDepth 20000 in
theorem kl_RX10_279 : Cond.methodLink RX10 279 yX10_takesWord ∈ wsL_law := (kin_27 _ (List.mem_of_getElem? (i := 14) rfl))
set_option maxRecDepth 20000 in
theorem kl_RX10_253 : Cond.methodLink RX10 253 yX10_takes ∈ wsL_law := (kin_27 _ (List.mem_of_getElem? (i := 18) rfl))
set_option maxRecDepth 20000 in
theorem kl_RX10_267 : Cond.methodLink RX10 267 yX10_takesNumber ∈ wsL_law := (kin_27 _ (List.mem_of_getElem? (i := 22) rfl))
set_option maxRecDepth 20000 in
theorem kl_RX10_256 : Cond.methodLink RX10 256 yX10_isDigit ∈ wsL_law := (kin_28 _ (List.mem_of_getElem? (i := 2) rfl))
set_option maxRecDepth 20000 in
theorem kl_RX10_286 : Cond.methodLink RX10 286 yX10_takesE ∈ wsL_law := (kin_28 _ (List.mem_of_getElem? (i := 6) rfl))
set_option maxRecDepth 20000 in
theorem kl_RX10_273 : Cond.methodLink RX10 273 yX10_takesTest ∈ wsL_law := (kin_28 _ (List.mem_of_getElem? (i := 10) rfl))
set_option maxRecDepth 20000 in
theorem kl_RX10_264 : Cond.methodLink RX10 264 yX10_place ∈ wsL_law := (kin_28 _ (List.mem_of_getElem? (i := 14) rfl))
set_option maxRecDepth 20000 in
theorem kl_RX10_260 : Cond.methodLink RX10 260 yX10_put ∈ wsL_law := (kin_28 _ (List.mem_of_getElem? (i := 18) rfl))
set_option maxRecDepth 20000 in
theorem kl_RX10_270 : Cond.methodLink RX10 270 yX10_whole ∈ wsL_law := (kin_28 _ (List.mem_of_getElem? (i := 22) rfl))
set_option maxRecDepth 20000 in
theorem kl_RX10_276 : Cond.methodLink RX10 276 yX10_settle ∈ wsL_law := (kin_29 _ (List.mem_of_getElem? (i := 2) rfl))
set_option maxRecDepth 20000 in
theorem kl_RL_47 : Cond.methodLink RL 47 yX9_go ∈ wsL_law := (kin_29 _ (List.mem_of_getElem? (i := 6) rfl))
set_option maxRecDepth 20000 in
theorem kl_RX9_187 : Cond.methodLink RX9 187 yX6_passTenth ∈ wsL_law := (kin_29 _ (List.mem_of_getElem? (i := 10) rfl))
set_option maxRecDepth 20000 in
theorem kl_RX6_103 : Cond.methodLink RX6 103 yX6_deedOf ∈ wsL_law := (kin_29 _ (List.mem_of_getElem? (i := 14) rfl))
set_option maxRecDepth 20000 in
theorem kl_RX9_190 : Cond.methodLink RX9 190 yX6_isCaught ∈ wsL_law := (kin_29 _ (List.mem_of_getElem? (i := 15) rfl))
set_option maxRecDepth 20000 in
theorem kl_RX9_194 : Cond.methodLink RX9 194 yX5_placeOf ∈ wsL_law := (kin_29 _ (List.mem_of_getElem? (i := 19) rfl))
set_option maxRecDepth 20000 in
theorem kl_RL_50 : Cond.methodLink RL 50 yX10_go ∈ wsL_law := (kin_29 _ (List.mem_of_getElem? (i := 20) rfl))
set_option maxRecDepth 20000 in
theorem kl_RX10_344 : Cond.methodLink RX10 344 yX10_goTenth ∈ wsL_law := (kin_30 _ (List.mem_of_getElem? (i := 0) rfl))
set_option maxRecDepth 20000 in
theorem kl_RX10_347 : Cond.methodLink RX10 347 yX10_caught ∈ wsL_law := (kin_30 _ (List.mem_of_getElem? (i := 4) rfl))
set_option maxRecDepth 20000 in
theorem kl_RL_51 : Cond.methodLink RL 51 yX9_safe ∈ wsL_law := (kin_30 _ (List.mem_of_getElem? (i := 8) rfl))
set_option maxRecDepth 20000 in
theorem kl_RX9_197 : Cond.methodLink RX9 197 yX6_copyFrom ∈ wsL_law := (kin_30 _ (List.mem_of_getElem? (i := 12) rfl))
set_option maxRecDepth 20000 in
theorem kl_RX6_77 : Cond.methodLink RX6 77 yX5_copyFrom ∈ wsL_law := (kin_30 _ (List.mem_of_getElem? (i := 16) rfl))
set_option maxRecDepth 20000 in
theorem kl_RX9_200 : Cond.methodLink RX9 200 yX6_anyComes ∈ wsL_law := (kin_30 _ (List.mem_of_getElem? (i := 17) rfl))
set_option maxRecDepth 20000 in
theorem kl_RL_55 : Cond.methodLink RL 55 yX10_safe ∈ wsL_law := (kin_30 _ (List.mem_of_getElem? (i := 21) rfl))
set_option maxRecDepth 20000 in
theorem kl_RL_56 : Cond.methodLink RL 56 yX9_from ∈ wsL_law := (kin_31 _ (List.mem_of_getElem? (i := 1) rfl))
set_option maxRecDepth 20000 in
theorem kl_RX9_203 : Cond.methodLink RX9 203 yX6_leavesAlone ∈ wsL_law := (kin_31 _ (List.mem_of_getElem? (i := 5) rfl))
set_option maxRecDepth 20000 in
theorem kl_RL_59 : Cond.methodLink RL 59 yX10_from ∈ wsL_law := (kin_31 _ (List.mem_of_getElem? (i := 9) rfl))
set_option maxRecDepth 20000 in
theorem kl_RL_60 : Cond.methodLink RL 60 yX9_walk ∈ wsL_law := (kin_31 _ (List.mem_of_getElem? (i := 13) rfl))
set_option maxRecDepth 20000 in
theorem kl_RX9_209 : Cond.methodLink RX9 209 yX9_comeTo ∈ wsL_law := (kin_31 _ (List.mem_of_getElem? (i := 18) rfl))
set_option maxRecDepth 20000 in
theorem kl_RL_63 : Cond.methodLink RL 63 yX10_walk ∈ wsL_law := (kin_31 _ (List.mem_of_getElem? (i := 21) rfl))
set_option maxRecDepth 20000 in
theorem kl_RL_64 : Cond.methodLink RL 64 yX9_gone ∈ wsL_law := (kin_32 _ (List.mem_of_getElem? (i := 1) rfl))
set_option maxRecDepth 20000 in
theorem kl_RX9_213 : Cond.methodLink RX9 213 yX6_goTo ∈ wsL_law := (kin_32 _ (List.mem_of_getElem? (i := 5) rfl))
set_option maxRecDepth 20000 in
theorem kl_RL_67 : Cond.methodLink RL 67 yX10_gone ∈ wsL_law := (kin_32 _ (List.mem_of_getElem? (i := 9) rfl))
set_option maxRecDepth 20000 in
theorem kl_RX10_350 : Cond.methodLink RX10 350 yX10_mayGo ∈ wsL_law := (kin_32 _ (List.mem_of_getElem? (i := 13) rfl))
set_option maxRecDepth 20000 in
theorem kl_RL_68 : Cond.methodLink RL 68 yX9_shortest ∈ wsL_law := (kin_32 _ (List.mem_of_getElem? (i := 17) rfl))
set_option maxRecDepth 20000 in
theorem kl_RX9_216 : Cond.methodLink RX9 216 yX1_search ∈ wsL_law := (kin_32 _ (List.mem_of_getElem? (i := 22) rfl))
set_option maxRecDepth 20000 in
theorem kl_RX1_39 : Cond.methodLink RX1 39 yX5_clear ∈ wsL_law := (kin_33 _ (List.mem_of_getElem? (i := 5) rfl))
set_option maxRecDepth 20000 in
theorem kl_RX1_42 : Cond.methodLink RX1 42 yX6_isSeated ∈ wsL_law := (kin_33 _ (List.mem_of_getElem? (i := 6) rfl))
set_option maxRecDepth 20000 in
theorem kl_RX1_46 : Cond.methodLink RX1 46 yX1_keep ∈ wsL_law := (kin_33 _ (List.mem_of_getElem? (i := 10) rfl))
set_option maxRecDepth 20000 in
theorem kl_RX1_53 : Cond.methodLink RX1 53 yX5_at ∈ wsL_law := (kin_33 _ (List.mem_of_getElem? (i := 16) rfl))
set_option maxRecDepth 20000 in
theorem kl_RX1_87 : Cond.methodLink RX1 87 yX6_places ∈ wsL_law := (kin_33 _ (List.mem_of_getElem? (i := 17) rfl))
set_option maxRecDepth 20000 in
theorem kl_RX1_91 : Cond.methodLink RX1 91 yX1_isKept ∈ wsL_law := (kin_33 _ (List.mem_of_getElem? (i := 21) rfl))
set_option maxRecDepth 20000 in
theorem kl_RX1_95 : Cond.methodLink RX1 95 yX5_add ∈ wsL_law := (kin_34 _ (List.mem_of_getElem? (i := 1) rfl))
set_option maxRecDepth 20000 in
theorem kl_RX1_57 : Cond.methodLink RX1 57 yX6_setPlaces ∈ wsL_law := (kin_34 _ (List.mem_of_getElem? (i := 2) rfl))
set_option maxRecDepth 20000 in
theorem kl_RX1_64 : Cond.methodLink RX1 64 yX1_cellOfWay ∈ wsL_law := (kin_34 _ (List.mem_of_getElem? (i := 7) rfl))
set_option maxRecDepth 20000 in
theorem kl_RX1_68 : Cond.methodLink RX1 68 yX6_goTo ∈ wsL_law := (kin_34 _ (List.mem_of_getElem? (i := 10) rfl))
set_option maxRecDepth 20000 in
theorem kl_RX1_71 : Cond.methodLink RX1 71 yX6_passTenth ∈ wsL_law := (kin_34 _ (List.mem_of_getElem? (i := 11) rfl))
set_option maxRecDepth 20000 in
theorem kl_RX1_74 : Cond.methodLink RX1 74 yX6_isCaught ∈ wsL_law := (kin_34 _ (List.mem_of_getElem? (i := 12) rfl))
set_option maxRecDepth 20000 in
theorem kl_RX9_223 : Cond.methodLink RX9 223 yX1_cellOf ∈ wsL_law := (kin_34 _ (List.mem_of_getElem? (i := 13) rfl))
set_option maxRecDepth 20000 in
theorem kl_RL_71 : Cond.methodLink RL 71 yX10_shortest ∈ wsL_law := (kin_34 _ (List.mem_of_getElem? (i := 17) rfl))
set_option maxRecDepth 20000 in
theorem kl_RX10_359 : Cond.methodLink RX10 359 yX10_findWalk ∈ wsL_law := (kin_34 _ (List.mem_of_getElem? (i := 21) rfl))
set_option maxRecDepth 20000 in
theorem kl_RX10_353 : Cond.methodLink RX10 353 yX10_keep ∈ wsL_law := (kin_35 _ (List.mem_of_getElem? (i := 1) rfl))
set_option maxRecDepth 20000 in
theorem kl_RX10_356 : Cond.methodLink RX10 356 yX10_layBack ∈ wsL_law := (kin_35 _ (List.mem_of_getElem? (i := 5) rfl))
set_option maxRecDepth 20000 in
theorem kl_RL_72 : Cond.methodLink RL 72 yX9_seats ∈ wsL_law := (kin_35 _ (List.mem_of_getElem? (i := 9) rfl))
set_option maxRecDepth 20000 in
theorem kl_RX9_226 : Cond.methodLink RX9 226 yX7_search ∈ wsL_law := (kin_35 _ (List.mem_of_getElem? (i := 15) rfl))
set_option maxRecDepth 20000 in
theorem kl_RX7_30 : Cond.methodLink RX7 30 yX5_clear ∈ wsL_law := (kin_35 _ (List.mem_of_getElem? (i := 19) rfl))
set_option maxRecDepth 20000 in
theorem kl_RX7_33 : Cond.methodLink RX7 33 yX6_isStool ∈ wsL_law := (kin_35 _ (List.mem_of_getElem? (i := 20) rfl))
set_option maxRecDepth 20000 in
theorem kl_RX7_39 : Cond.methodLink RX7 39 yX5_add ∈ wsL_law := (kin_35 _ (List.mem_of_getElem? (i := 21) rfl))
set_option maxRecDepth 20000 in
theorem kl_RX7_42 : Cond.methodLink RX7 42 yX7_seatFrom ∈ wsL_law := (kin_35 _ (List.mem_of_getElem? (i := 22) rfl))
set_option maxRecDepth 20000 in
theorem kl_RX7_46 : Cond.methodLink RX7 46 yX6_size ∈ wsL_law := (kin_36 _ (List.mem_of_getElem? (i := 3) rfl))
set_option maxRecDepth 20000 in
theorem kl_RX7_50 : Cond.methodLink RX7 50 yX7_keep ∈ wsL_law := (kin_36 _ (List.mem_of_getElem? (i := 4) rfl))
set_option maxRecDepth 20000 in
theorem kl_RX7_74 : Cond.methodLink RX7 74 yX5_copyFrom ∈ wsL_law := (kin_36 _ (List.mem_of_getElem? (i := 8) rfl))
set_option maxRecDepth 20000 in
theorem kl_RX7_55 : Cond.methodLink RX7 55 yX5_at ∈ wsL_law := (kin_36 _ (List.mem_of_getElem? (i := 9) rfl))
set_option maxRecDepth 20000 in
theorem kl_RX7_59 : Cond.methodLink RX7 59 yX7_isByEnemy ∈ wsL_law := (kin_36 _ (List.mem_of_getElem? (i := 10) rfl))
set_option maxRecDepth 20000 in
theorem kl_RX7_70 : Cond.methodLink RX7 70 yX6_areEnemies ∈ wsL_law := (kin_36 _ (List.mem_of_getElem? (i := 14) rfl))
set_option maxRecDepth 20000 in
theorem kl_RL_75 : Cond.methodLink RL 75 yX10_seats ∈ wsL_law := (kin_36 _ (List.mem_of_getElem? (i := 15) rfl))
set_option maxRecDepth 20000 in
theorem kl_RX10_362 : Cond.methodLink RX10 362 yX10_fits ∈ wsL_law := (kin_36 _ (List.mem_of_getElem? (i := 19) rfl))
set_option maxRecDepth 20000 in
theorem kl_RX10_365 : Cond.methodLink RX10 365 yX10_isAhead ∈ wsL_law := (kin_36 _ (List.mem_of_getElem? (i := 23) rfl))
set_option maxRecDepth 20000 in
theorem kl_RL_76 : Cond.methodLink RL 76 yX9_sit ∈ wsL_law := (kin_37 _ (List.mem_of_getElem? (i := 3) rfl))
set_option maxRecDepth 20000 in
theorem kl_RX9_234 : Cond.methodLink RX9 234 yX6_allSit ∈ wsL_law := (kin_37 _ (List.mem_of_getElem? (i := 7) rfl))
set_option maxRecDepth 20000 in
theorem kl_RX6_96 : Cond.methodLink RX6 96 yX6_isSeated ∈ wsL_law := (kin_37 _ (List.mem_of_getElem? (i := 11) rfl))
set_option maxRecDepth 20000 in
theorem kl_RL_79 : Cond.methodLink RL 79 yX10_sit ∈ wsL_law := (kin_37 _ (List.mem_of_getElem? (i := 12) rfl))
set_option maxRecDepth 20000 in
theorem kl_RL_80 : Cond.methodLink RL 80 yX9_line ∈ wsL_law := (kin_37 _ (List.mem_of_getElem? (i := 16) rfl))
set_option maxRecDepth 20000 in
theorem kl_RX9_237 : Cond.methodLink RX9 237 yX9_farthestCorner ∈ wsL_law := (kin_37 _ (List.mem_of_getElem? (i := 20) rfl))
set_option maxRecDepth 20000 in
theorem kl_RX9_359 : Cond.methodLink RX9 359 yX9_fartherOf ∈ wsL_law := (kin_37 _ (List.mem_of_getElem? (i := 23) rfl))
set_option maxRecDepth 20000 in
theorem kl_RX9_244 : Cond.methodLink RX9 244 yX9_farOf ∈ wsL_law := (kin_38 _ (List.mem_of_getElem? (i := 2) rfl))
set_option maxRecDepth 20000 in
theorem kl_RX9_240 : Cond.methodLink RX9 240 yX9_roundOf ∈ wsL_law := (kin_38 _ (List.mem_of_getElem? (i := 3) rfl))
set_option maxRecDepth 20000 in
theorem kl_RX9_247 : Cond.methodLink RX9 247 yX9_stepToward ∈ wsL_law := (kin_38 _ (List.mem_of_getElem? (i := 4) rfl))
set_option maxRecDepth 20000 in
theorem kl_RX9_356 : Cond.methodLink RX9 356 yX9_nextTo ∈ wsL_law := (kin_38 _ (List.mem_of_getElem? (i := 7) rfl))
set_option maxRecDepth 20000 in
theorem kl_RL_83 : Cond.methodLink RL 83 yX10_line ∈ wsL_law := (kin_38 _ (List.mem_of_getElem? (i := 8) rfl))
set_option maxRecDepth 20000 in
theorem kl_RX10_368 : Cond.methodLink RX10 368 yX10_corner ∈ wsL_law := (kin_38 _ (List.mem_of_getElem? (i := 12) rfl))
set_option maxRecDepth 20000 in
theorem kl_RL_84 : Cond.methodLink RL 84 yX9_thunder ∈ wsL_law := (kin_38 _ (List.mem_of_getElem? (i := 16) rfl))
set_option maxRecDepth 20000 in
theorem kl_RL_87 : Cond.methodLink RL 87 yX10_thunder ∈ wsL_law := (kin_38 _ (List.mem_of_getElem? (i := 21) rfl))
set_option maxRecDepth 20000 in
theorem kl_RL_88 : Cond.methodLink RL 88 yX9_calm ∈ wsL_law := (kin_39 _ (List.mem_of_getElem? (i := 1) rfl))
set_option maxRecDepth 20000 in
theorem kl_RX9_255 : Cond.methodLink RX9 255 yX9_weightOf ∈ wsL_law := (kin_39 _ (List.mem_of_getElem? (i := 6) rfl))
set_option maxRecDepth 20000 in
theorem kl_RX9_269 : Cond.methodLink RX9 269 yJ6_bitCount_0f7a4 ∈ wsL_law := (kin_39 _ (List.mem_of_getElem? (i := 10) rfl))
set_option maxRecDepth 20000 in
theorem kl_RX9_262 : Cond.methodLink RX9 262 yX9_power ∈ wsL_law := (kin_39 _ (List.mem_of_getElem? (i := 17) rfl))
set_option maxRecDepth 20000 in
theorem kl_RX9_259 : Cond.methodLink RX9 259 yX9_staysCalm ∈ wsL_law := (kin_39 _ (List.mem_of_getElem? (i := 20) rfl))
set_option maxRecDepth 20000 in
theorem kl_RX9_265 : Cond.methodLink RX9 265 yX9_sharedDivisor ∈ wsL_law := (kin_40 _ (List.mem_of_getElem? (i := 2) rfl))
set_option maxRecDepth 20000 in
theorem kl_RL_92 : Cond.methodLink RL 92 yX10_calm ∈ wsL_law := (kin_40 _ (List.mem_of_getElem? (i := 5) rfl))
set_option maxRecDepth 20000 in
theorem kl_RX10_375 : Cond.methodLink RX10 375 yX10_loudOf ∈ wsL_law := (kin_40 _ (List.mem_of_getElem? (i := 11) rfl))
set_option maxRecDepth 20000 in
theorem kl_RX10_378 : Cond.methodLink RX10 378 yX10_divisor ∈ wsL_law := (kin_40 _ (List.mem_of_getElem? (i := 15) rfl))
set_option maxRecDepth 20000 in
theorem kl_RL_93 : Cond.methodLink RL 93 yX9_film ∈ wsL_law := (kin_40 _ (List.mem_of_getElem? (i := 19) rfl))
set_option maxRecDepth 20000 in
theorem kl_RL_96 : Cond.methodLink RL 96 yX10_film ∈ wsL_law := (kin_41 _ (List.mem_of_getElem? (i := 0) rfl))
set_option maxRecDepth 20000 in
theorem kl_RL_97 : Cond.methodLink RL 97 yX9_kinds ∈ wsL_law := (kin_41 _ (List.mem_of_getElem? (i := 4) rfl))
set_option maxRecDepth 20000 in
theorem kl_RX9_283 : Cond.methodLink RX9 283 yX9_goesAsFilm ∈ wsL_law := (kin_41 _ (List.mem_of_getElem? (i := 8) rfl))
set_option maxRecDepth 20000 in
theorem kl_RL_100 : Cond.methodLink RL 100 yX10_kinds ∈ wsL_law := (kin_41 _ (List.mem_of_getElem? (i := 12) rfl))
set_option maxRecDepth 20000 in
theorem kl_RL_101 : Cond.methodLink RL 101 yX9_judge ∈ wsL_law := (kin_41 _ (List.mem_of_getElem? (i := 16) rfl))
set_option maxRecDepth 20000 in
theorem kl_RX9_286 : Cond.methodLink RX9 286 yX9_tapeAt ∈ wsL_law := (kin_41 _ (List.mem_of_getElem? (i := 22) rfl))
set_option maxRecDepth 20000 in
theorem kl_RX9_290 : Cond.methodLink RX9 290 yX8_isRow ∈ wsL_law := (kin_42 _ (List.mem_of_getElem? (i := 2) rfl))
set_option maxRecDepth 20000 in
theorem kl_RX9_299 : Cond.methodLink RX9 299 yX8_hasPlace ∈ wsL_law := (kin_42 _ (List.mem_of_getElem? (i := 6) rfl))
set_option maxRecDepth 20000 in
theorem kl_RX9_302 : Cond.methodLink RX9 302 yX8_get ∈ wsL_law := (kin_42 _ (List.mem_of_getElem? (i := 10) rfl))
set_option maxRecDepth 20000 in
theorem kl_RX8_31 : Cond.methodLink RX8 31 yX8_hasPlace ∈ wsL_law := (kin_42 _ (List.mem_of_getElem? (i := 14) rfl))
set_option maxRecDepth 20000 in
theorem kl_RL_104 : Cond.methodLink RL 104 yX10_judge ∈ wsL_law := (kin_42 _ (List.mem_of_getElem? (i := 15) rfl))
set_option maxRecDepth 20000 in
theorem kl_RX10_382 : Cond.methodLink RX10 382 yX10_isTape ∈ wsL_law := (kin_42 _ (List.mem_of_getElem? (i := 19) rfl))
set_option maxRecDepth 20000 in
theorem kl_RL_105 : Cond.methodLink RL 105 yX9_image ∈ wsL_law := (kin_42 _ (List.mem_of_getElem? (i := 23) rfl))
set_option maxRecDepth 20000 in
theorem kl_RL_108 : Cond.methodLink RL 108 yX10_image ∈ wsL_law := (kin_43 _ (List.mem_of_getElem? (i := 3) rfl))
set_option maxRecDepth 20000 in
theorem kl_RX10_385 : Cond.methodLink RX10 385 yX10_copy ∈ wsL_law := (kin_43 _ (List.mem_of_getElem? (i := 7) rfl))
set_option maxRecDepth 20000 in
theorem kl_RL_109 : Cond.methodLink RL 109 yX9_undo ∈ wsL_law := (kin_43 _ (List.mem_of_getElem? (i := 11) rfl))
set_option maxRecDepth 20000 in
theorem kl_RL_112 : Cond.methodLink RL 112 yX10_undo ∈ wsL_law := (kin_43 _ (List.mem_of_getElem? (i := 15) rfl))
set_option maxRecDepth 20000 in
theorem kl_RL_113 : Cond.methodLink RL 113 yX9_act ∈ wsL_law := (kin_43 _ (List.mem_of_getElem? (i := 19) rfl))
set_option maxRecDepth 20000 in
theorem kl_RX9_306 : Cond.methodLink RX9 306 yX0_forget ∈ wsL_law := (kin_44 _ (List.mem_of_getElem? (i := 2) rfl))
set_option maxRecDepth 20000 in
theorem kl_RX0_33 : Cond.methodLink RX0 33 yX5_clear ∈ wsL_law := (kin_44 _ (List.mem_of_getElem? (i := 6) rfl))
set_option maxRecDepth 20000 in
theorem kl_RX0_36 : Cond.methodLink RX0 36 yX0_bodyOf ∈ wsL_law := (kin_44 _ (List.mem_of_getElem? (i := 9) rfl))
set_option maxRecDepth 20000 in
theorem kl_RX0_44 : Cond.methodLink RX0 44 yX5_add ∈ wsL_law := (kin_44 _ (List.mem_of_getElem? (i := 12) rfl))
set_option maxRecDepth 20000 in
theorem kl_RX0_47 : Cond.methodLink RX0 47 yX0_run ∈ wsL_law := (kin_44 _ (List.mem_of_getElem? (i := 13) rfl))
set_option maxRecDepth 20000 in
theorem kl_RL_116 : Cond.methodLink RL 116 yX10_act ∈ wsL_law := (kin_44 _ (List.mem_of_getElem? (i := 14) rfl))
set_option maxRecDepth 20000 in
theorem kl_RX10_398 : Cond.methodLink RX10 398 yX10_yieldsAct ∈ wsL_law := (kin_44 _ (List.mem_of_getElem? (i := 18) rfl))
set_option maxRecDepth 20000 in
theorem kl_RX10_395 : Cond.methodLink RX10 395 yX10_comingYields ∈ wsL_law := (kin_44 _ (List.mem_of_getElem? (i := 22) rfl))
set_option maxRecDepth 20000 in
theorem kl_RX10_389 : Cond.methodLink RX10 389 yX10_body ∈ wsL_law := (kin_45 _ (List.mem_of_getElem? (i := 2) rfl))
set_option maxRecDepth 20000 in
theorem kl_RX10_392 : Cond.methodLink RX10 392 yX10_moveYields ∈ wsL_law := (kin_45 _ (List.mem_of_getElem? (i := 6) rfl))
set_option maxRecDepth 20000 in
theorem kl_RX10_407 : Cond.methodLink RX10 407 yX10_comesAct ∈ wsL_law := (kin_45 _ (List.mem_of_getElem? (i := 10) rfl))
set_option maxRecDepth 20000 in
theorem kl_RX10_404 : Cond.methodLink RX10 404 yX10_yieldingComes ∈ wsL_law := (kin_45 _ (List.mem_of_getElem? (i := 14) rfl))
set_option maxRecDepth 20000 in
theorem kl_RX10_401 : Cond.methodLink RX10 401 yX10_moveComes ∈ wsL_law := (kin_45 _ (List.mem_of_getElem? (i := 18) rfl))
set_option maxRecDepth 20000 in
theorem kl_RX10_413 : Cond.methodLink RX10 413 yX10_tellsAct ∈ wsL_law := (kin_45 _ (List.mem_of_getElem? (i := 22) rfl))
set_option maxRecDepth 20000 in
theorem kl_RX10_410 : Cond.methodLink RX10 410 yX10_moveTells ∈ wsL_law := (kin_46 _ (List.mem_of_getElem? (i := 2) rfl))
set_option maxRecDepth 20000 in
theorem kl_RL_117 : Cond.methodLink RL 117 yX9_trace ∈ wsL_law := (kin_46 _ (List.mem_of_getElem? (i := 6) rfl))
set_option maxRecDepth 20000 in
theorem kl_RL_120 : Cond.methodLink RL 120 yX10_trace ∈ wsL_law := (kin_46 _ (List.mem_of_getElem? (i := 11) rfl))
set_option maxRecDepth 20000 in
theorem kl_RL_121 : Cond.methodLink RL 121 yX9_taken ∈ wsL_law := (kin_46 _ (List.mem_of_getElem? (i := 15) rfl))
set_option maxRecDepth 20000 in
theorem kl_RX9_323 : Cond.methodLink RX9 323 yX9_isOneOf ∈ wsL_law := (kin_46 _ (List.mem_of_getElem? (i := 19) rfl))
set_option maxRecDepth 20000 in
theorem kl_RL_124 : Cond.methodLink RL 124 yX10_taken ∈ wsL_law := (kin_46 _ (List.mem_of_getElem? (i := 20) rfl))
set_option maxRecDepth 20000 in
theorem kl_RL_125 : Cond.methodLink RL 125 yX9_count ∈ wsL_law := (kin_47 _ (List.mem_of_getElem? (i := 0) rfl))
set_option maxRecDepth 20000 in
theorem kl_RL_128 : Cond.methodLink RL 128 yX10_count ∈ wsL_law := (kin_47 _ (List.mem_of_getElem? (i := 6) rfl))
set_option maxRecDepth 20000 in
theorem kl_RL_129 : Cond.methodLink RL 129 yX9_tape ∈ wsL_law := (kin_47 _ (List.mem_of_getElem? (i := 10) rfl))
set_option maxRecDepth 20000 in
theorem kl_RX9_332 : Cond.methodLink RX9 332 yX8_empty ∈ wsL_law := (kin_47 _ (List.mem_of_getElem? (i := 14) rfl))
set_option maxRecDepth 20000 in
theorem kl_RX9_335 : Cond.methodLink RX9 335 yX8_become ∈ wsL_law := (kin_47 _ (List.mem_of_getElem? (i := 18) rfl))
set_option maxRecDepth 20000 in
theorem kl_RX8_22 : Cond.methodLink RX8 22 Lib.Math.min.name ∈ wsL_law := (kin_47 _ (List.mem_of_getElem? (i := 22) rfl))
set_option maxRecDepth 20000 in
theorem kl_RX8_28 : Cond.methodLink RX8 28 Lib.Math.max.name ∈ wsL_law := (kin_47 _ (List.mem_of_getElem? (i := 23) rfl))
set_option maxRecDepth 20000 in
theorem kl_RL_132 : Cond.methodLink RL 132 yX10_tape ∈ wsL_law := (kin_48 _ (List.mem_of_getElem? (i := 0) rfl))
set_option maxRecDepth 20000 in
theorem kl_RL_135 : Cond.methodLink RL 135 yX9_item ∈ wsL_law := (kin_48 _ (List.mem_of_getElem? (i := 4) rfl))
set_option maxRecDepth 20000 in
theorem kl_RX9_338 : Cond.methodLink RX9 338 yX8_put ∈ wsL_law := (kin_48 _ (List.mem_of_getElem? (i := 8) rfl))
set_option maxRecDepth 20000 in
theorem kl_RX8_35 : Cond.methodLink RX8 35 yX8_narrowed ∈ wsL_law := (kin_48 _ (List.mem_of_getElem? (i := 12) rfl))
set_option maxRecDepth 20000 in
theorem kl_RL_139 : Cond.methodLink RL 139 yX10_item ∈ wsL_law := (kin_48 _ (List.mem_of_getElem? (i := 16) rfl))
set_option maxRecDepth 20000 in
theorem kl_RX10_416 : Cond.methodLink RX10 416 yX10_narrow ∈ wsL_law := (kin_48 _ (List.mem_of_getElem? (i := 20) rfl))
set_option maxRecDepth 20000 in
theorem kl_RL_140 : Cond.methodLink RL 140 yX9_read ∈ wsL_law := (kin_49 _ (List.mem_of_getElem? (i := 0) rfl))
set_option maxRecDepth 20000 in
theorem kl_RL_143 : Cond.methodLink RL 143 yX10_read ∈ wsL_law := (kin_49 _ (List.mem_of_getElem? (i := 4) rfl))
set_option maxRecDepth 20000 in
theorem kl_RL_144 : Cond.methodLink RL 144 yX9_shift ∈ wsL_law := (kin_49 _ (List.mem_of_getElem? (i := 8) rfl))
set_option maxRecDepth 20000 in
theorem kl_RX9_341 : Cond.methodLink RX9 341 yX8_hasPart ∈ wsL_law := (kin_49 _ (List.mem_of_getElem? (i := 12) rfl))
set_option maxRecDepth 20000 in
theorem kl_RX9_344 : Cond.methodLink RX9 344 yX8_takeFrom ∈ wsL_law := (kin_49 _ (List.mem_of_getElem? (i := 16) rfl))
set_option maxRecDepth 20000 in
theorem kl_RX8_43 : Cond.methodLink RX8 43 arraycopyName ∈ wsL_law := (kin_49 _ (List.mem_of_getElem? (i := 20) rfl))
set_option maxRecDepth 20000 in
theorem kl_RX8_39 : Cond.methodLink RX8 39 yX8_hasPart ∈ wsL_law := (kin_50 _ (List.mem_of_getElem? (i := 0) rfl))
set_option maxRecDepth 20000 in
theorem kl_RL_148 : Cond.methodLink RL 148 yX10_shift ∈ wsL_law := (kin_50 _ (List.mem_of_getElem? (i := 1) rfl))
set_option maxRecDepth 20000 in
theorem kn_RX9_11 : (RX9, 11, yX6_init, "LionRing") ∈ xnest := List.mem_of_getElem? (i := 0) rfl
set_option maxRecDepth 20000 in
theorem kn_RX9_30 : (RX9, 30, yX3_init, "LionRing") ∈ xnest := List.mem_of_getElem? (i := 1) rfl
set_option maxRecDepth 20000 in
theorem kn_RX9_316 : (RX9, 316, yX0_run, "LionRing") ∈ xnest := List.mem_of_getElem? (i := 2) rfl
set_option maxRecDepth 20000 in
theorem kn_RX9_47 : (RX9, 47, yX1_init, "LionRing") ∈ xnest := List.mem_of_getElem? (i := 3) rfl
set_option maxRecDepth 20000 in
theorem kn_RX9_54 : (RX9, 54, yX7_init, "LionRing") ∈ xnest := List.mem_of_getElem? (i := 4) rfl
set_option maxRecDepth 20000 in
theorem kn_RX9_61 : (RX9, 61, yX0_init, "LionRing") ∈ xnest := List.mem_of_getElem? (i := 5) rfl
set_option maxRecDepth 20000 in
theorem kn_RX9_72 : (RX9, 72, yX4_init, "LionRing") ∈ xnest := List.mem_of_getElem? (i := 6) rfl
set_option maxRecDepth 20000 in
theorem kn_RX9_73 : (RX9, 73, yX8_init, "LionRing") ∈ xnest := List.mem_of_getElem? (i := 7) rfl
set_option maxRecDepth 20000 in
theorem kn_RX0_40 : (RX0, 40, yX9_kindAbove, "LionRing") ∈ xnest := List.mem_of_getElem? (i := 8) rfl
set_option maxRecDepth 20000 in
theorem kn_RX1_84 : (RX1, 84, yX9_roundOf, "LionRing") ∈ xnest := List.mem_of_getElem? (i := 9) rfl
set_option maxRecDepth 20000 in
theorem kn_RX1_98 : (RX1, 98, yX9_nextTo, "LionRing") ∈ xnest := List.mem_of_getElem? (i := 10) rfl
set_option maxRecDepth 20000 in
theorem kn_RX3_22 : (RX3, 22, yX4_init, "LionRing") ∈ xnest := List.mem_of_getElem? (i := 11) rfl
set_option maxRecDepth 20000 in
theorem kn_RX6_146 : (RX6, 146, yX9_isOneOf, "LionRing") ∈ xnest := List.mem_of_getElem? (i := 12) rfl
set_option maxRecDepth 20000 in
theorem kn_RX6_150 : (RX6, 150, yX9_farOf, "LionRing") ∈ xnest := List.mem_of_getElem? (i := 13) rfl
set_option maxRecDepth 20000 in
theorem kn_RX6_153 : (RX6, 153, yX9_nextTo, "LionRing") ∈ xnest := List.mem_of_getElem? (i := 14) rfl
set_option maxRecDepth 20000 in
theorem kn_RX6_60 : (RX6, 60, yX2_init, "LionRing") ∈ xnest := List.mem_of_getElem? (i := 15) rfl
set_option maxRecDepth 20000 in
theorem kn_RX6_99 : (RX6, 99, yX9_roundOf, "LionRing") ∈ xnest := List.mem_of_getElem? (i := 16) rfl
set_option maxRecDepth 20000 in
theorem kn_RX7_66 : (RX7, 66, yX9_roundOf, "LionRing") ∈ xnest := List.mem_of_getElem? (i := 17) rfl
set_option maxRecDepth 20000 in
theorem kf_RX9_12 : xFld RX9 12 9 0 true := ⟨RX9, TX9, tyX9, rfl, by decide, inlX9, (kin_1 _ (List.mem_of_getElem? (i := 16) rfl)), tyX9_ok, nmX9, rfl, rfl, fun _ => Or.inl ⟨_, rfl⟩, fun h => absurd h (by decide)⟩
set_option maxRecDepth 20000 in
theorem kf_RX9_18 : xFld RX9 18 9 1 true := ⟨RX9, TX9, tyX9, rfl, by decide, inlX9, (kin_1 _ (List.mem_of_getElem? (i := 17) rfl)), tyX9_ok, nmX9, rfl, rfl, fun _ => Or.inl ⟨_, rfl⟩, fun h => absurd h (by decide)⟩
set_option maxRecDepth 20000 in
theorem kf_RX9_21 : xFld RX9 21 9 2 true := ⟨RX9, TX9, tyX9, rfl, by decide, inlX9, (kin_1 _ (List.mem_of_getElem? (i := 18) rfl)), tyX9_ok, nmX9, rfl, rfl, fun _ => Or.inl ⟨_, rfl⟩, fun h => absurd h (by decide)⟩
set_option maxRecDepth 20000 in
theorem kf_RX9_24 : xFld RX9 24 9 3 false := ⟨RX9, TX9, tyX9, rfl, by decide, inlX9, (kin_1 _ (List.mem_of_getElem? (i := 19) rfl)), tyX9_ok, nmX9, rfl, rfl, fun h => absurd h (by decide), fun _ => Or.inr rfl⟩
set_option maxRecDepth 20000 in
theorem kf_RX9_31 : xFld RX9 31 9 4 true := ⟨RX9, TX9, tyX9, rfl, by decide, inlX9, (kin_1 _ (List.mem_of_getElem? (i := 23) rfl)), tyX9_ok, nmX9, rfl, rfl, fun _ => Or.inl ⟨_, rfl⟩, fun h => absurd h (by decide)⟩
set_option maxRecDepth 20000 in
theorem kf_RX9_37 : xFld RX9 37 9 5 true := ⟨RX9, TX9, tyX9, rfl, by decide, inlX9, (kin_2 _ (List.mem_of_getElem? (i := 1) rfl)), tyX9_ok, nmX9, rfl, rfl, fun _ => Or.inr ⟨_, rfl⟩, fun h => absurd h (by decide)⟩
set_option maxRecDepth 20000 in
theorem kf_RX9_41 : xFld RX9 41 9 6 false := ⟨RX9, TX9, tyX9, rfl, by decide, inlX9, (kin_2 _ (List.mem_of_getElem? (i := 2) rfl)), tyX9_ok, nmX9, rfl, rfl, fun h => absurd h (by decide), fun _ => Or.inl rfl⟩
set_option maxRecDepth 20000 in
theorem kf_RX9_48 : xFld RX9 48 9 7 true := ⟨RX9, TX9, tyX9, rfl, by decide, inlX9, (kin_2 _ (List.mem_of_getElem? (i := 6) rfl)), tyX9_ok, nmX9, rfl, rfl, fun _ => Or.inl ⟨_, rfl⟩, fun h => absurd h (by decide)⟩
set_option maxRecDepth 20000 in
theorem kf_RX9_55 : xFld RX9 55 9 8 true := ⟨RX9, TX9, tyX9, rfl, by decide, inlX9, (kin_2 _ (List.mem_of_getElem? (i := 10) rfl)), tyX9_ok, nmX9, rfl, rfl, fun _ => Or.inl ⟨_, rfl⟩, fun h => absurd h (by decide)⟩
set_option maxRecDepth 20000 in
theorem kf_RX9_62 : xFld RX9 62 9 9 true := ⟨RX9, TX9, tyX9, rfl, by decide, inlX9, (kin_2 _ (List.mem_of_getElem? (i := 14) rfl)), tyX9_ok, nmX9, rfl, rfl, fun _ => Or.inl ⟨_, rfl⟩, fun h => absurd h (by decide)⟩
set_option maxRecDepth 20000 in
theorem kf_RX9_68 : xFld RX9 68 9 10 true := ⟨RX9, TX9, tyX9, rfl, by decide, inlX9, (kin_2 _ (List.mem_of_getElem? (i := 16) rfl)), tyX9_ok, nmX9, rfl, rfl, fun _ => Or.inr ⟨_, rfl⟩, fun h => absurd h (by decide)⟩
set_option maxRecDepth 20000 in
theorem kf_RX6_14 : xFld RX6 14 6 0 true := ⟨RX6, TX6, tyX6, rfl, by decide, inlX6, (kin_3 _ (List.mem_of_getElem? (i := 3) rfl)), tyX6_ok, nmX6, rfl, rfl, fun _ => Or.inl ⟨_, rfl⟩, fun h => absurd h (by decide)⟩
set_option maxRecDepth 20000 in
theorem kf_RX6_20 : xFld RX6 20 6 1 true := ⟨RX6, TX6, tyX6, rfl, by decide, inlX6, (kin_3 _ (List.mem_of_getElem? (i := 4) rfl)), tyX6_ok, nmX6, rfl, rfl, fun _ => Or.inl ⟨_, rfl⟩, fun h => absurd h (by decide)⟩
set_option maxRecDepth 20000 in
theorem kf_RX6_23 : xFld RX6 23 6 2 true := ⟨RX6, TX6, tyX6, rfl, by decide, inlX6, (kin_3 _ (List.mem_of_getElem? (i := 5) rfl)), tyX6_ok, nmX6, rfl, rfl, fun _ => Or.inl ⟨_, rfl⟩, fun h => absurd h (by decide)⟩
set_option maxRecDepth 20000 in
theorem kf_RX6_26 : xFld RX6 26 6 3 true := ⟨RX6, TX6, tyX6, rfl, by decide, inlX6, (kin_3 _ (List.mem_of_getElem? (i := 6) rfl)), tyX6_ok, nmX6, rfl, rfl, fun _ => Or.inl ⟨_, rfl⟩, fun h => absurd h (by decide)⟩
set_option maxRecDepth 20000 in
theorem kf_RX6_29 : xFld RX6 29 6 4 true := ⟨RX6, TX6, tyX6, rfl, by decide, inlX6, (kin_3 _ (List.mem_of_getElem? (i := 7) rfl)), tyX6_ok, nmX6, rfl, rfl, fun _ => Or.inl ⟨_, rfl⟩, fun h => absurd h (by decide)⟩
set_option maxRecDepth 20000 in
theorem kf_RX6_32 : xFld RX6 32 6 5 true := ⟨RX6, TX6, tyX6, rfl, by decide, inlX6, (kin_3 _ (List.mem_of_getElem? (i := 8) rfl)), tyX6_ok, nmX6, rfl, rfl, fun _ => Or.inl ⟨_, rfl⟩, fun h => absurd h (by decide)⟩
set_option maxRecDepth 20000 in
theorem kf_RX6_35 : xFld RX6 35 6 6 true := ⟨RX6, TX6, tyX6, rfl, by decide, inlX6, (kin_3 _ (List.mem_of_getElem? (i := 9) rfl)), tyX6_ok, nmX6, rfl, rfl, fun _ => Or.inl ⟨_, rfl⟩, fun h => absurd h (by decide)⟩
set_option maxRecDepth 20000 in
theorem kf_RX6_38 : xFld RX6 38 6 7 true := ⟨RX6, TX6, tyX6, rfl, by decide, inlX6, (kin_3 _ (List.mem_of_getElem? (i := 10) rfl)), tyX6_ok, nmX6, rfl, rfl, fun _ => Or.inl ⟨_, rfl⟩, fun h => absurd h (by decide)⟩
set_option maxRecDepth 20000 in
theorem kf_RX6_41 : xFld RX6 41 6 8 false := ⟨RX6, TX6, tyX6, rfl, by decide, inlX6, (kin_3 _ (List.mem_of_getElem? (i := 11) rfl)), tyX6_ok, nmX6, rfl, rfl, fun h => absurd h (by decide), fun _ => Or.inl rfl⟩
set_option maxRecDepth 20000 in
theorem kf_RX6_45 : xFld RX6 45 6 9 false := ⟨RX6, TX6, tyX6, rfl, by decide, inlX6, (kin_3 _ (List.mem_of_getElem? (i := 12) rfl)), tyX6_ok, nmX6, rfl, rfl, fun h => absurd h (by decide), fun _ => Or.inl rfl⟩
set_option maxRecDepth 20000 in
theorem kf_RX6_48 : xFld RX6 48 6 10 false := ⟨RX6, TX6, tyX6, rfl, by decide, inlX6, (kin_3 _ (List.mem_of_getElem? (i := 13) rfl)), tyX6_ok, nmX6, rfl, rfl, fun h => absurd h (by decide), fun _ => Or.inl rfl⟩
set_option maxRecDepth 20000 in
theorem kf_RX6_51 : xFld RX6 51 6 11 false := ⟨RX6, TX6, tyX6, rfl, by decide, inlX6, (kin_3 _ (List.mem_of_getElem? (i := 14) rfl)), tyX6_ok, nmX6, rfl, rfl, fun _ => Or.inl ⟨_, rfl⟩, fun h => absurd h (by decide)⟩
set_option maxRecDepth 20000 in
theorem kf_RX6_55 : xFld RX6 55 6 12 false := ⟨RX6, TX6, tyX6, rfl, by decide, inlX6, (kin_3 _ (List.mem_of_getElem? (i := 15) rfl)), tyX6_ok, nmX6, rfl, rfl, fun h => absurd h (by decide), fun _ => Or.inl rfl⟩
set_option maxRecDepth 20000 in
theorem kf_RX6_61 : xFld RX6 61 6 13 true := ⟨RX6, TX6, tyX6, rfl, by decide, inlX6, (kin_3 _ (List.mem_of_getElem? (i := 19) rfl)), tyX6_ok, nmX6, rfl, rfl, fun _ => Or.inl ⟨_, rfl⟩, fun h => absurd h (by decide)⟩
set_option maxRecDepth 20000 in
theorem kf_RX6_65 : xFld RX6 65 6 14 false := ⟨RX6, TX6, tyX6, rfl, by decide, inlX6, (kin_3 _ (List.mem_of_getElem? (i := 20) rfl)), tyX6_ok, nmX6, rfl, rfl, fun h => absurd h (by decide), fun _ => Or.inl rfl⟩
set_option maxRecDepth 20000 in
theorem kf_RX5_9 : xFld RX5 9 5 1 false := ⟨RX5, TX5, tyX5, rfl, by decide, inlX5, (kin_4 _ (List.mem_of_getElem? (i := 1) rfl)), tyX5_ok, nmX5, rfl, rfl, fun h => absurd h (by decide), fun _ => Or.inl rfl⟩
set_option maxRecDepth 20000 in
theorem kf_RX5_21 : xFld RX5 21 5 0 true := ⟨RX5, TX5, tyX5, rfl, by decide, inlX5, (kin_4 _ (List.mem_of_getElem? (i := 7) rfl)), tyX5_ok, nmX5, rfl, rfl, fun _ => Or.inr ⟨_, rfl⟩, fun h => absurd h (by decide)⟩
set_option maxRecDepth 20000 in
theorem kf_RX3_14 : xFld RX3 14 3 0 true := ⟨RX3, TX3, tyX3, rfl, by decide, inlX3, (kin_4 _ (List.mem_of_getElem? (i := 15) rfl)), tyX3_ok, nmX3, rfl, rfl, fun _ => Or.inl ⟨_, rfl⟩, fun h => absurd h (by decide)⟩
set_option maxRecDepth 20000 in
theorem kf_RX3_23 : xFld RX3 23 3 1 true := ⟨RX3, TX3, tyX3, rfl, by decide, inlX3, (kin_4 _ (List.mem_of_getElem? (i := 17) rfl)), tyX3_ok, nmX3, rfl, rfl, fun _ => Or.inl ⟨_, rfl⟩, fun h => absurd h (by decide)⟩
set_option maxRecDepth 20000 in
theorem kf_RX3_27 : xFld RX3 27 3 2 false := ⟨RX3, TX3, tyX3, rfl, by decide, inlX3, (kin_4 _ (List.mem_of_getElem? (i := 18) rfl)), tyX3_ok, nmX3, rfl, rfl, fun h => absurd h (by decide), fun _ => Or.inl rfl⟩
set_option maxRecDepth 20000 in
theorem kf_RX4_14 : xFld RX4 14 4 0 true := ⟨RX4, TX4, tyX4, rfl, by decide, inlX4, (kin_5 _ (List.mem_of_getElem? (i := 0) rfl)), tyX4_ok, nmX4, rfl, rfl, fun _ => Or.inl ⟨_, rfl⟩, fun h => absurd h (by decide)⟩
set_option maxRecDepth 20000 in
theorem kf_RX4_20 : xFld RX4 20 4 1 true := ⟨RX4, TX4, tyX4, rfl, by decide, inlX4, (kin_5 _ (List.mem_of_getElem? (i := 1) rfl)), tyX4_ok, nmX4, rfl, rfl, fun _ => Or.inl ⟨_, rfl⟩, fun h => absurd h (by decide)⟩
set_option maxRecDepth 20000 in
theorem kf_RX4_23 : xFld RX4 23 4 2 true := ⟨RX4, TX4, tyX4, rfl, by decide, inlX4, (kin_5 _ (List.mem_of_getElem? (i := 2) rfl)), tyX4_ok, nmX4, rfl, rfl, fun _ => Or.inl ⟨_, rfl⟩, fun h => absurd h (by decide)⟩
set_option maxRecDepth 20000 in
theorem kf_RX4_26 : xFld RX4 26 4 3 false := ⟨RX4, TX4, tyX4, rfl, by decide, inlX4, (kin_5 _ (List.mem_of_getElem? (i := 3) rfl)), tyX4_ok, nmX4, rfl, rfl, fun h => absurd h (by decide), fun _ => Or.inl rfl⟩
set_option maxRecDepth 20000 in
theorem kf_RX1_11 : xFld RX1 11 1 0 true := ⟨RX1, TX1, tyX1, rfl, by decide, inlX1, (kin_5 _ (List.mem_of_getElem? (i := 9) rfl)), tyX1_ok, nmX1, rfl, rfl, fun _ => Or.inr ⟨_, rfl⟩, fun h => absurd h (by decide)⟩
set_option maxRecDepth 20000 in
theorem kf_RX1_20 : xFld RX1 20 1 1 true := ⟨RX1, TX1, tyX1, rfl, by decide, inlX1, (kin_5 _ (List.mem_of_getElem? (i := 11) rfl)), tyX1_ok, nmX1, rfl, rfl, fun _ => Or.inl ⟨_, rfl⟩, fun h => absurd h (by decide)⟩
set_option maxRecDepth 20000 in
theorem kf_RX1_24 : xFld RX1 24 1 2 true := ⟨RX1, TX1, tyX1, rfl, by decide, inlX1, (kin_5 _ (List.mem_of_getElem? (i := 12) rfl)), tyX1_ok, nmX1, rfl, rfl, fun _ => Or.inl ⟨_, rfl⟩, fun h => absurd h (by decide)⟩
set_option maxRecDepth 20000 in
theorem kf_RX1_27 : xFld RX1 27 1 3 false := ⟨RX1, TX1, tyX1, rfl, by decide, inlX1, (kin_5 _ (List.mem_of_getElem? (i := 13) rfl)), tyX1_ok, nmX1, rfl, rfl, fun h => absurd h (by decide), fun _ => Or.inl rfl⟩
set_option maxRecDepth 20000 in
theorem kf_RX1_31 : xFld RX1 31 1 4 false := ⟨RX1, TX1, tyX1, rfl, by decide, inlX1, (kin_5 _ (List.mem_of_getElem? (i := 14) rfl)), tyX1_ok, nmX1, rfl, rfl, fun h => absurd h (by decide), fun _ => Or.inl rfl⟩
set_option maxRecDepth 20000 in
theorem kf_RX7_14 : xFld RX7 14 7 0 true := ⟨RX7, TX7, tyX7, rfl, by decide, inlX7, (kin_5 _ (List.mem_of_getElem? (i := 20) rfl)), tyX7_ok, nmX7, rfl, rfl, fun _ => Or.inl ⟨_, rfl⟩, fun h => absurd h (by decide)⟩
set_option maxRecDepth 20000 in
theorem kf_RX7_20 : xFld RX7 20 7 1 true := ⟨RX7, TX7, tyX7, rfl, by decide, inlX7, (kin_5 _ (List.mem_of_getElem? (i := 21) rfl)), tyX7_ok, nmX7, rfl, rfl, fun _ => Or.inl ⟨_, rfl⟩, fun h => absurd h (by decide)⟩
set_option maxRecDepth 20000 in
theorem kf_RX7_23 : xFld RX7 23 7 2 true := ⟨RX7, TX7, tyX7, rfl, by decide, inlX7, (kin_5 _ (List.mem_of_getElem? (i := 22) rfl)), tyX7_ok, nmX7, rfl, rfl, fun _ => Or.inl ⟨_, rfl⟩, fun h => absurd h (by decide)⟩
set_option maxRecDepth 20000 in
theorem kf_RX7_26 : xFld RX7 26 7 3 false := ⟨RX7, TX7, tyX7, rfl, by decide, inlX7, (kin_5 _ (List.mem_of_getElem? (i := 23) rfl)), tyX7_ok, nmX7, rfl, rfl, fun h => absurd h (by decide), fun _ => Or.inl rfl⟩
set_option maxRecDepth 20000 in
theorem kf_RX0_16 : xFld RX0 16 0 0 true := ⟨RX0, TX0, tyX0, rfl, by decide, inlX0, (kin_6 _ (List.mem_of_getElem? (i := 5) rfl)), tyX0_ok, nmX0, rfl, rfl, fun _ => Or.inl ⟨_, rfl⟩, fun h => absurd h (by decide)⟩
set_option maxRecDepth 20000 in
theorem kf_RX0_20 : xFld RX0 20 0 1 false := ⟨RX0, TX0, tyX0, rfl, by decide, inlX0, (kin_6 _ (List.mem_of_getElem? (i := 6) rfl)), tyX0_ok, nmX0, rfl, rfl, fun h => absurd h (by decide), fun _ => Or.inl rfl⟩
set_option maxRecDepth 20000 in
theorem kf_RX0_24 : xFld RX0 24 0 2 false := ⟨RX0, TX0, tyX0, rfl, by decide, inlX0, (kin_6 _ (List.mem_of_getElem? (i := 7) rfl)), tyX0_ok, nmX0, rfl, rfl, fun h => absurd h (by decide), fun _ => Or.inl rfl⟩
set_option maxRecDepth 20000 in
theorem kf_RX0_27 : xFld RX0 27 0 3 false := ⟨RX0, TX0, tyX0, rfl, by decide, inlX0, (kin_6 _ (List.mem_of_getElem? (i := 8) rfl)), tyX0_ok, nmX0, rfl, rfl, fun h => absurd h (by decide), fun _ => Or.inl rfl⟩
set_option maxRecDepth 20000 in
theorem kf_RX0_30 : xFld RX0 30 0 4 false := ⟨RX0, TX0, tyX0, rfl, by decide, inlX0, (kin_6 _ (List.mem_of_getElem? (i := 9) rfl)), tyX0_ok, nmX0, rfl, rfl, fun h => absurd h (by decide), fun _ => Or.inl rfl⟩
set_option maxRecDepth 20000 in
theorem kf_RX8_9 : xFld RX8 9 8 0 true := ⟨RX8, TX8, tyX8, rfl, by decide, inlX8, (kin_6 _ (List.mem_of_getElem? (i := 14) rfl)), tyX8_ok, nmX8, rfl, rfl, fun _ => Or.inr ⟨_, rfl⟩, fun h => absurd h (by decide)⟩
set_option maxRecDepth 20000 in
theorem kf_RX8_15 : xFld RX8 15 8 1 false := ⟨RX8, TX8, tyX8, rfl, by decide, inlX8, (kin_6 _ (List.mem_of_getElem? (i := 15) rfl)), tyX8_ok, nmX8, rfl, rfl, fun h => absurd h (by decide), fun _ => Or.inl rfl⟩
set_option maxRecDepth 20000 in
theorem kf_RX8_19 : xFld RX8 19 8 2 false := ⟨RX8, TX8, tyX8, rfl, by decide, inlX8, (kin_6 _ (List.mem_of_getElem? (i := 16) rfl)), tyX8_ok, nmX8, rfl, rfl, fun h => absurd h (by decide), fun _ => Or.inl rfl⟩
set_option maxRecDepth 20000 in
theorem kf_RX10_7 : xFld RX10 7 10 0 false := ⟨RX10, TX10, tyX10, rfl, by decide, inlX10, (kin_6 _ (List.mem_of_getElem? (i := 21) rfl)), tyX10_ok, nmX10, rfl, rfl, fun h => absurd h (by decide), fun _ => Or.inl rfl⟩
set_option maxRecDepth 20000 in
theorem kf_RX10_13 : xFld RX10 13 10 1 false := ⟨RX10, TX10, tyX10, rfl, by decide, inlX10, (kin_6 _ (List.mem_of_getElem? (i := 22) rfl)), tyX10_ok, nmX10, rfl, rfl, fun h => absurd h (by decide), fun _ => Or.inl rfl⟩
set_option maxRecDepth 20000 in
theorem kf_RX10_16 : xFld RX10 16 10 2 false := ⟨RX10, TX10, tyX10, rfl, by decide, inlX10, (kin_6 _ (List.mem_of_getElem? (i := 23) rfl)), tyX10_ok, nmX10, rfl, rfl, fun h => absurd h (by decide), fun _ => Or.inl rfl⟩
set_option maxRecDepth 20000 in
theorem kf_RX10_19 : xFld RX10 19 10 3 false := ⟨RX10, TX10, tyX10, rfl, by decide, inlX10, (kin_7 _ (List.mem_of_getElem? (i := 0) rfl)), tyX10_ok, nmX10, rfl, rfl, fun h => absurd h (by decide), fun _ => Or.inl rfl⟩
set_option maxRecDepth 20000 in
theorem kf_RX10_22 : xFld RX10 22 10 4 true := ⟨RX10, TX10, tyX10, rfl, by decide, inlX10, (kin_7 _ (List.mem_of_getElem? (i := 1) rfl)), tyX10_ok, nmX10, rfl, rfl, fun _ => Or.inr ⟨_, rfl⟩, fun h => absurd h (by decide)⟩
set_option maxRecDepth 20000 in
theorem kf_RX10_26 : xFld RX10 26 10 5 true := ⟨RX10, TX10, tyX10, rfl, by decide, inlX10, (kin_7 _ (List.mem_of_getElem? (i := 2) rfl)), tyX10_ok, nmX10, rfl, rfl, fun _ => Or.inr ⟨_, rfl⟩, fun h => absurd h (by decide)⟩
set_option maxRecDepth 20000 in
theorem kf_RX10_29 : xFld RX10 29 10 6 true := ⟨RX10, TX10, tyX10, rfl, by decide, inlX10, (kin_7 _ (List.mem_of_getElem? (i := 3) rfl)), tyX10_ok, nmX10, rfl, rfl, fun _ => Or.inr ⟨_, rfl⟩, fun h => absurd h (by decide)⟩
set_option maxRecDepth 20000 in
theorem kf_RX10_32 : xFld RX10 32 10 7 true := ⟨RX10, TX10, tyX10, rfl, by decide, inlX10, (kin_7 _ (List.mem_of_getElem? (i := 4) rfl)), tyX10_ok, nmX10, rfl, rfl, fun _ => Or.inr ⟨_, rfl⟩, fun h => absurd h (by decide)⟩
set_option maxRecDepth 20000 in
theorem kf_RX10_35 : xFld RX10 35 10 8 true := ⟨RX10, TX10, tyX10, rfl, by decide, inlX10, (kin_7 _ (List.mem_of_getElem? (i := 5) rfl)), tyX10_ok, nmX10, rfl, rfl, fun _ => Or.inr ⟨_, rfl⟩, fun h => absurd h (by decide)⟩
set_option maxRecDepth 20000 in
theorem kf_RX10_38 : xFld RX10 38 10 9 true := ⟨RX10, TX10, tyX10, rfl, by decide, inlX10, (kin_7 _ (List.mem_of_getElem? (i := 6) rfl)), tyX10_ok, nmX10, rfl, rfl, fun _ => Or.inr ⟨_, rfl⟩, fun h => absurd h (by decide)⟩
set_option maxRecDepth 20000 in
theorem kf_RX10_41 : xFld RX10 41 10 10 false := ⟨RX10, TX10, tyX10, rfl, by decide, inlX10, (kin_7 _ (List.mem_of_getElem? (i := 7) rfl)), tyX10_ok, nmX10, rfl, rfl, fun h => absurd h (by decide), fun _ => Or.inl rfl⟩
set_option maxRecDepth 20000 in
theorem kf_RX10_44 : xFld RX10 44 10 11 false := ⟨RX10, TX10, tyX10, rfl, by decide, inlX10, (kin_7 _ (List.mem_of_getElem? (i := 8) rfl)), tyX10_ok, nmX10, rfl, rfl, fun h => absurd h (by decide), fun _ => Or.inl rfl⟩
set_option maxRecDepth 20000 in
theorem kf_RX10_47 : xFld RX10 47 10 12 false := ⟨RX10, TX10, tyX10, rfl, by decide, inlX10, (kin_7 _ (List.mem_of_getElem? (i := 9) rfl)), tyX10_ok, nmX10, rfl, rfl, fun h => absurd h (by decide), fun _ => Or.inl rfl⟩
set_option maxRecDepth 20000 in
theorem kf_RX10_50 : xFld RX10 50 10 13 false := ⟨RX10, TX10, tyX10, rfl, by decide, inlX10, (kin_7 _ (List.mem_of_getElem? (i := 10) rfl)), tyX10_ok, nmX10, rfl, rfl, fun h => absurd h (by decide), fun _ => Or.inl rfl⟩
set_option maxRecDepth 20000 in
theorem kf_RX10_53 : xFld RX10 53 10 14 false := ⟨RX10, TX10, tyX10, rfl, by decide, inlX10, (kin_7 _ (List.mem_of_getElem? (i := 11) rfl)), tyX10_ok, nmX10, rfl, rfl, fun h => absurd h (by decide), fun _ => Or.inl rfl⟩
set_option maxRecDepth 20000 in
theorem kf_RX10_56 : xFld RX10 56 10 15 true := ⟨RX10, TX10, tyX10, rfl, by decide, inlX10, (kin_7 _ (List.mem_of_getElem? (i := 12) rfl)), tyX10_ok, nmX10, rfl, rfl, fun _ => Or.inr ⟨_, rfl⟩, fun h => absurd h (by decide)⟩
set_option maxRecDepth 20000 in
theorem kf_RX10_59 : xFld RX10 59 10 16 true := ⟨RX10, TX10, tyX10, rfl, by decide, inlX10, (kin_7 _ (List.mem_of_getElem? (i := 13) rfl)), tyX10_ok, nmX10, rfl, rfl, fun _ => Or.inr ⟨_, rfl⟩, fun h => absurd h (by decide)⟩
set_option maxRecDepth 20000 in
theorem kf_RX10_62 : xFld RX10 62 10 17 true := ⟨RX10, TX10, tyX10, rfl, by decide, inlX10, (kin_7 _ (List.mem_of_getElem? (i := 14) rfl)), tyX10_ok, nmX10, rfl, rfl, fun _ => Or.inr ⟨_, rfl⟩, fun h => absurd h (by decide)⟩
set_option maxRecDepth 20000 in
theorem kf_RX10_65 : xFld RX10 65 10 18 true := ⟨RX10, TX10, tyX10, rfl, by decide, inlX10, (kin_7 _ (List.mem_of_getElem? (i := 15) rfl)), tyX10_ok, nmX10, rfl, rfl, fun _ => Or.inr ⟨_, rfl⟩, fun h => absurd h (by decide)⟩
set_option maxRecDepth 20000 in
theorem kf_RX10_68 : xFld RX10 68 10 19 true := ⟨RX10, TX10, tyX10, rfl, by decide, inlX10, (kin_7 _ (List.mem_of_getElem? (i := 16) rfl)), tyX10_ok, nmX10, rfl, rfl, fun _ => Or.inr ⟨_, rfl⟩, fun h => absurd h (by decide)⟩
set_option maxRecDepth 20000 in
theorem kf_RX10_71 : xFld RX10 71 10 20 true := ⟨RX10, TX10, tyX10, rfl, by decide, inlX10, (kin_7 _ (List.mem_of_getElem? (i := 17) rfl)), tyX10_ok, nmX10, rfl, rfl, fun _ => Or.inr ⟨_, rfl⟩, fun h => absurd h (by decide)⟩
set_option maxRecDepth 20000 in
theorem kf_RX10_74 : xFld RX10 74 10 21 true := ⟨RX10, TX10, tyX10, rfl, by decide, inlX10, (kin_7 _ (List.mem_of_getElem? (i := 18) rfl)), tyX10_ok, nmX10, rfl, rfl, fun _ => Or.inr ⟨_, rfl⟩, fun h => absurd h (by decide)⟩
set_option maxRecDepth 20000 in
theorem kf_RX10_77 : xFld RX10 77 10 22 true := ⟨RX10, TX10, tyX10, rfl, by decide, inlX10, (kin_7 _ (List.mem_of_getElem? (i := 19) rfl)), tyX10_ok, nmX10, rfl, rfl, fun _ => Or.inr ⟨_, rfl⟩, fun h => absurd h (by decide)⟩
set_option maxRecDepth 20000 in
theorem kf_RX10_80 : xFld RX10 80 10 23 false := ⟨RX10, TX10, tyX10, rfl, by decide, inlX10, (kin_7 _ (List.mem_of_getElem? (i := 20) rfl)), tyX10_ok, nmX10, rfl, rfl, fun h => absurd h (by decide), fun _ => Or.inl rfl⟩
set_option maxRecDepth 20000 in
theorem kf_RX10_83 : xFld RX10 83 10 24 false := ⟨RX10, TX10, tyX10, rfl, by decide, inlX10, (kin_7 _ (List.mem_of_getElem? (i := 21) rfl)), tyX10_ok, nmX10, rfl, rfl, fun h => absurd h (by decide), fun _ => Or.inl rfl⟩
set_option maxRecDepth 20000 in
theorem kf_RX10_86 : xFld RX10 86 10 25 false := ⟨RX10, TX10, tyX10, rfl, by decide, inlX10, (kin_7 _ (List.mem_of_getElem? (i := 22) rfl)), tyX10_ok, nmX10, rfl, rfl, fun h => absurd h (by decide), fun _ => Or.inl rfl⟩
set_option maxRecDepth 20000 in
theorem kf_RX10_89 : xFld RX10 89 10 26 true := ⟨RX10, TX10, tyX10, rfl, by decide, inlX10, (kin_7 _ (List.mem_of_getElem? (i := 23) rfl)), tyX10_ok, nmX10, rfl, rfl, fun _ => Or.inr ⟨_, rfl⟩, fun h => absurd h (by decide)⟩
set_option maxRecDepth 20000 in
theorem kf_RX10_92 : xFld RX10 92 10 27 false := ⟨RX10, TX10, tyX10, rfl, by decide, inlX10, (kin_8 _ (List.mem_of_getElem? (i := 0) rfl)), tyX10_ok, nmX10, rfl, rfl, fun h => absurd h (by decide), fun _ => Or.inl rfl⟩
set_option maxRecDepth 20000 in
theorem kf_RX10_95 : xFld RX10 95 10 28 false := ⟨RX10, TX10, tyX10, rfl, by decide, inlX10, (kin_8 _ (List.mem_of_getElem? (i := 1) rfl)), tyX10_ok, nmX10, rfl, rfl, fun h => absurd h (by decide), fun _ => Or.inl rfl⟩
set_option maxRecDepth 20000 in
theorem kf_RX10_98 : xFld RX10 98 10 29 false := ⟨RX10, TX10, tyX10, rfl, by decide, inlX10, (kin_8 _ (List.mem_of_getElem? (i := 2) rfl)), tyX10_ok, nmX10, rfl, rfl, fun h => absurd h (by decide), fun _ => Or.inl rfl⟩
set_option maxRecDepth 20000 in
theorem kf_RX10_101 : xFld RX10 101 10 30 true := ⟨RX10, TX10, tyX10, rfl, by decide, inlX10, (kin_8 _ (List.mem_of_getElem? (i := 3) rfl)), tyX10_ok, nmX10, rfl, rfl, fun _ => Or.inr ⟨_, rfl⟩, fun h => absurd h (by decide)⟩
set_option maxRecDepth 20000 in
theorem kf_RX10_104 : xFld RX10 104 10 31 true := ⟨RX10, TX10, tyX10, rfl, by decide, inlX10, (kin_8 _ (List.mem_of_getElem? (i := 4) rfl)), tyX10_ok, nmX10, rfl, rfl, fun _ => Or.inr ⟨_, rfl⟩, fun h => absurd h (by decide)⟩
set_option maxRecDepth 20000 in
theorem kf_RX10_107 : xFld RX10 107 10 32 true := ⟨RX10, TX10, tyX10, rfl, by decide, inlX10, (kin_8 _ (List.mem_of_getElem? (i := 6) rfl)), tyX10_ok, nmX10, rfl, rfl, fun _ => Or.inr ⟨_, rfl⟩, fun h => absurd h (by decide)⟩
set_option maxRecDepth 20000 in
theorem kf_RX10_111 : xFld RX10 111 10 33 false := ⟨RX10, TX10, tyX10, rfl, by decide, inlX10, (kin_8 _ (List.mem_of_getElem? (i := 7) rfl)), tyX10_ok, nmX10, rfl, rfl, fun h => absurd h (by decide), fun _ => Or.inl rfl⟩
set_option maxRecDepth 20000 in
theorem kf_RX10_114 : xFld RX10 114 10 34 false := ⟨RX10, TX10, tyX10, rfl, by decide, inlX10, (kin_8 _ (List.mem_of_getElem? (i := 8) rfl)), tyX10_ok, nmX10, rfl, rfl, fun h => absurd h (by decide), fun _ => Or.inl rfl⟩
set_option maxRecDepth 20000 in
theorem kf_RX10_117 : xFld RX10 117 10 35 false := ⟨RX10, TX10, tyX10, rfl, by decide, inlX10, (kin_8 _ (List.mem_of_getElem? (i := 9) rfl)), tyX10_ok, nmX10, rfl, rfl, fun h => absurd h (by decide), fun _ => Or.inl rfl⟩
set_option maxRecDepth 20000 in
theorem kf_RX10_120 : xFld RX10 120 10 36 false := ⟨RX10, TX10, tyX10, rfl, by decide, inlX10, (kin_8 _ (List.mem_of_getElem? (i := 10) rfl)), tyX10_ok, nmX10, rfl, rfl, fun h => absurd h (by decide), fun _ => Or.inl rfl⟩
set_option maxRecDepth 20000 in
theorem kf_RX10_123 : xFld RX10 123 10 37 false := ⟨RX10, TX10, tyX10, rfl, by decide, inlX10, (kin_8 _ (List.mem_of_getElem? (i := 11) rfl)), tyX10_ok, nmX10, rfl, rfl, fun h => absurd h (by decide), fun _ => Or.inl rfl⟩
set_option maxRecDepth 20000 in
theorem kf_RX10_126 : xFld RX10 126 10 38 false := ⟨RX10, TX10, tyX10, rfl, by decide, inlX10, (kin_8 _ (List.mem_of_getElem? (i := 12) rfl)), tyX10_ok, nmX10, rfl, rfl, fun h => absurd h (by decide), fun _ => Or.inl rfl⟩
set_option maxRecDepth 20000 in
theorem kf_RX10_129 : xFld RX10 129 10 39 true := ⟨RX10, TX10, tyX10, rfl, by decide, inlX10, (kin_8 _ (List.mem_of_getElem? (i := 13) rfl)), tyX10_ok, nmX10, rfl, rfl, fun _ => Or.inr ⟨_, rfl⟩, fun h => absurd h (by decide)⟩
set_option maxRecDepth 20000 in
theorem kf_RX10_132 : xFld RX10 132 10 40 true := ⟨RX10, TX10, tyX10, rfl, by decide, inlX10, (kin_8 _ (List.mem_of_getElem? (i := 14) rfl)), tyX10_ok, nmX10, rfl, rfl, fun _ => Or.inr ⟨_, rfl⟩, fun h => absurd h (by decide)⟩
set_option maxRecDepth 20000 in
theorem kf_RX10_135 : xFld RX10 135 10 41 true := ⟨RX10, TX10, tyX10, rfl, by decide, inlX10, (kin_8 _ (List.mem_of_getElem? (i := 15) rfl)), tyX10_ok, nmX10, rfl, rfl, fun _ => Or.inr ⟨_, rfl⟩, fun h => absurd h (by decide)⟩
set_option maxRecDepth 20000 in
theorem kf_RX10_138 : xFld RX10 138 10 42 true := ⟨RX10, TX10, tyX10, rfl, by decide, inlX10, (kin_8 _ (List.mem_of_getElem? (i := 16) rfl)), tyX10_ok, nmX10, rfl, rfl, fun _ => Or.inr ⟨_, rfl⟩, fun h => absurd h (by decide)⟩
set_option maxRecDepth 20000 in
theorem kf_RX10_141 : xFld RX10 141 10 43 true := ⟨RX10, TX10, tyX10, rfl, by decide, inlX10, (kin_8 _ (List.mem_of_getElem? (i := 17) rfl)), tyX10_ok, nmX10, rfl, rfl, fun _ => Or.inr ⟨_, rfl⟩, fun h => absurd h (by decide)⟩
set_option maxRecDepth 20000 in
theorem kf_RX10_144 : xFld RX10 144 10 44 true := ⟨RX10, TX10, tyX10, rfl, by decide, inlX10, (kin_8 _ (List.mem_of_getElem? (i := 18) rfl)), tyX10_ok, nmX10, rfl, rfl, fun _ => Or.inr ⟨_, rfl⟩, fun h => absurd h (by decide)⟩
set_option maxRecDepth 20000 in
theorem kf_RX10_147 : xFld RX10 147 10 45 true := ⟨RX10, TX10, tyX10, rfl, by decide, inlX10, (kin_8 _ (List.mem_of_getElem? (i := 19) rfl)), tyX10_ok, nmX10, rfl, rfl, fun _ => Or.inr ⟨_, rfl⟩, fun h => absurd h (by decide)⟩
set_option maxRecDepth 20000 in
theorem kf_RX10_150 : xFld RX10 150 10 46 false := ⟨RX10, TX10, tyX10, rfl, by decide, inlX10, (kin_8 _ (List.mem_of_getElem? (i := 20) rfl)), tyX10_ok, nmX10, rfl, rfl, fun h => absurd h (by decide), fun _ => Or.inl rfl⟩
set_option maxRecDepth 20000 in
theorem kf_RX10_153 : xFld RX10 153 10 47 true := ⟨RX10, TX10, tyX10, rfl, by decide, inlX10, (kin_8 _ (List.mem_of_getElem? (i := 21) rfl)), tyX10_ok, nmX10, rfl, rfl, fun _ => Or.inr ⟨_, rfl⟩, fun h => absurd h (by decide)⟩
set_option maxRecDepth 20000 in
theorem kf_RX10_156 : xFld RX10 156 10 48 false := ⟨RX10, TX10, tyX10, rfl, by decide, inlX10, (kin_8 _ (List.mem_of_getElem? (i := 22) rfl)), tyX10_ok, nmX10, rfl, rfl, fun h => absurd h (by decide), fun _ => Or.inr rfl⟩
set_option maxRecDepth 20000 in
theorem kf_RX10_160 : xFld RX10 160 10 49 false := ⟨RX10, TX10, tyX10, rfl, by decide, inlX10, (kin_8 _ (List.mem_of_getElem? (i := 23) rfl)), tyX10_ok, nmX10, rfl, rfl, fun h => absurd h (by decide), fun _ => Or.inl rfl⟩
set_option maxRecDepth 20000 in
theorem kf_RX10_163 : xFld RX10 163 10 50 false := ⟨RX10, TX10, tyX10, rfl, by decide, inlX10, (kin_9 _ (List.mem_of_getElem? (i := 0) rfl)), tyX10_ok, nmX10, rfl, rfl, fun h => absurd h (by decide), fun _ => Or.inl rfl⟩
set_option maxRecDepth 20000 in
theorem kf_RX10_166 : xFld RX10 166 10 51 false := ⟨RX10, TX10, tyX10, rfl, by decide, inlX10, (kin_9 _ (List.mem_of_getElem? (i := 1) rfl)), tyX10_ok, nmX10, rfl, rfl, fun h => absurd h (by decide), fun _ => Or.inl rfl⟩
set_option maxRecDepth 20000 in
theorem kf_RX10_169 : xFld RX10 169 10 52 false := ⟨RX10, TX10, tyX10, rfl, by decide, inlX10, (kin_9 _ (List.mem_of_getElem? (i := 2) rfl)), tyX10_ok, nmX10, rfl, rfl, fun h => absurd h (by decide), fun _ => Or.inl rfl⟩
set_option maxRecDepth 20000 in
theorem kf_RX10_172 : xFld RX10 172 10 53 false := ⟨RX10, TX10, tyX10, rfl, by decide, inlX10, (kin_9 _ (List.mem_of_getElem? (i := 3) rfl)), tyX10_ok, nmX10, rfl, rfl, fun h => absurd h (by decide), fun _ => Or.inl rfl⟩
set_option maxRecDepth 20000 in
theorem kf_RX10_175 : xFld RX10 175 10 54 false := ⟨RX10, TX10, tyX10, rfl, by decide, inlX10, (kin_9 _ (List.mem_of_getElem? (i := 4) rfl)), tyX10_ok, nmX10, rfl, rfl, fun h => absurd h (by decide), fun _ => Or.inl rfl⟩
set_option maxRecDepth 20000 in
theorem kf_RX10_178 : xFld RX10 178 10 55 false := ⟨RX10, TX10, tyX10, rfl, by decide, inlX10, (kin_9 _ (List.mem_of_getElem? (i := 5) rfl)), tyX10_ok, nmX10, rfl, rfl, fun h => absurd h (by decide), fun _ => Or.inl rfl⟩
set_option maxRecDepth 20000 in
theorem kf_RX10_181 : xFld RX10 181 10 56 true := ⟨RX10, TX10, tyX10, rfl, by decide, inlX10, (kin_9 _ (List.mem_of_getElem? (i := 6) rfl)), tyX10_ok, nmX10, rfl, rfl, fun _ => Or.inr ⟨_, rfl⟩, fun h => absurd h (by decide)⟩
set_option maxRecDepth 20000 in
theorem kf_RX10_184 : xFld RX10 184 10 57 true := ⟨RX10, TX10, tyX10, rfl, by decide, inlX10, (kin_9 _ (List.mem_of_getElem? (i := 7) rfl)), tyX10_ok, nmX10, rfl, rfl, fun _ => Or.inr ⟨_, rfl⟩, fun h => absurd h (by decide)⟩
set_option maxRecDepth 20000 in
theorem kf_RX10_187 : xFld RX10 187 10 58 true := ⟨RX10, TX10, tyX10, rfl, by decide, inlX10, (kin_9 _ (List.mem_of_getElem? (i := 8) rfl)), tyX10_ok, nmX10, rfl, rfl, fun _ => Or.inr ⟨_, rfl⟩, fun h => absurd h (by decide)⟩
set_option maxRecDepth 20000 in
theorem kf_RX10_190 : xFld RX10 190 10 59 true := ⟨RX10, TX10, tyX10, rfl, by decide, inlX10, (kin_9 _ (List.mem_of_getElem? (i := 9) rfl)), tyX10_ok, nmX10, rfl, rfl, fun _ => Or.inr ⟨_, rfl⟩, fun h => absurd h (by decide)⟩
set_option maxRecDepth 20000 in
theorem kf_RX10_193 : xFld RX10 193 10 60 true := ⟨RX10, TX10, tyX10, rfl, by decide, inlX10, (kin_9 _ (List.mem_of_getElem? (i := 10) rfl)), tyX10_ok, nmX10, rfl, rfl, fun _ => Or.inr ⟨_, rfl⟩, fun h => absurd h (by decide)⟩
set_option maxRecDepth 20000 in
theorem kf_RX10_196 : xFld RX10 196 10 61 true := ⟨RX10, TX10, tyX10, rfl, by decide, inlX10, (kin_9 _ (List.mem_of_getElem? (i := 11) rfl)), tyX10_ok, nmX10, rfl, rfl, fun _ => Or.inr ⟨_, rfl⟩, fun h => absurd h (by decide)⟩
set_option maxRecDepth 20000 in
theorem kf_RX10_199 : xFld RX10 199 10 62 true := ⟨RX10, TX10, tyX10, rfl, by decide, inlX10, (kin_9 _ (List.mem_of_getElem? (i := 12) rfl)), tyX10_ok, nmX10, rfl, rfl, fun _ => Or.inr ⟨_, rfl⟩, fun h => absurd h (by decide)⟩
set_option maxRecDepth 20000 in
theorem kf_RX10_202 : xFld RX10 202 10 63 true := ⟨RX10, TX10, tyX10, rfl, by decide, inlX10, (kin_9 _ (List.mem_of_getElem? (i := 13) rfl)), tyX10_ok, nmX10, rfl, rfl, fun _ => Or.inr ⟨_, rfl⟩, fun h => absurd h (by decide)⟩
set_option maxRecDepth 20000 in
theorem kf_RX10_205 : xFld RX10 205 10 64 false := ⟨RX10, TX10, tyX10, rfl, by decide, inlX10, (kin_9 _ (List.mem_of_getElem? (i := 14) rfl)), tyX10_ok, nmX10, rfl, rfl, fun h => absurd h (by decide), fun _ => Or.inl rfl⟩
set_option maxRecDepth 20000 in
theorem kf_RX10_208 : xFld RX10 208 10 65 true := ⟨RX10, TX10, tyX10, rfl, by decide, inlX10, (kin_9 _ (List.mem_of_getElem? (i := 15) rfl)), tyX10_ok, nmX10, rfl, rfl, fun _ => Or.inr ⟨_, rfl⟩, fun h => absurd h (by decide)⟩
set_option maxRecDepth 20000 in
theorem kf_RX10_211 : xFld RX10 211 10 66 true := ⟨RX10, TX10, tyX10, rfl, by decide, inlX10, (kin_9 _ (List.mem_of_getElem? (i := 16) rfl)), tyX10_ok, nmX10, rfl, rfl, fun _ => Or.inr ⟨_, rfl⟩, fun h => absurd h (by decide)⟩
set_option maxRecDepth 20000 in
theorem kf_RX10_214 : xFld RX10 214 10 67 true := ⟨RX10, TX10, tyX10, rfl, by decide, inlX10, (kin_9 _ (List.mem_of_getElem? (i := 17) rfl)), tyX10_ok, nmX10, rfl, rfl, fun _ => Or.inr ⟨_, rfl⟩, fun h => absurd h (by decide)⟩
set_option maxRecDepth 20000 in
theorem kf_RX10_217 : xFld RX10 217 10 68 true := ⟨RX10, TX10, tyX10, rfl, by decide, inlX10, (kin_9 _ (List.mem_of_getElem? (i := 18) rfl)), tyX10_ok, nmX10, rfl, rfl, fun _ => Or.inr ⟨_, rfl⟩, fun h => absurd h (by decide)⟩
set_option maxRecDepth 20000 in
theorem kf_RX10_221 : xFld RX10 221 10 69 true := ⟨RX10, TX10, tyX10, rfl, by decide, inlX10, (kin_9 _ (List.mem_of_getElem? (i := 19) rfl)), tyX10_ok, nmX10, rfl, rfl, fun _ => Or.inr ⟨_, rfl⟩, fun h => absurd h (by decide)⟩
set_option maxRecDepth 20000 in
theorem kf_RX9_88 : xFld RX9 88 6 8 false := ⟨RX6, TX6, tyX6, rfl, by decide, inlX6, (kin_10 _ (List.mem_of_getElem? (i := 0) rfl)), tyX6_ok, nmX6, rfl, rfl, fun h => absurd h (by decide), fun _ => Or.inl rfl⟩
set_option maxRecDepth 20000 in
theorem kf_RX6_68 : xFld RX6 68 5 1 false := ⟨RX5, TX5, tyX5, rfl, by decide, inlX5, (kin_11 _ (List.mem_of_getElem? (i := 2) rfl)), tyX5_ok, nmX5, rfl, rfl, fun h => absurd h (by decide), fun _ => Or.inl rfl⟩
set_option maxRecDepth 20000 in
theorem kf_RX9_105 : xFld RX9 105 6 0 true := ⟨RX6, TX6, tyX6, rfl, by decide, inlX6, (kin_12 _ (List.mem_of_getElem? (i := 12) rfl)), tyX6_ok, nmX6, rfl, rfl, fun _ => Or.inl ⟨_, rfl⟩, fun h => absurd h (by decide)⟩
set_option maxRecDepth 20000 in
theorem kf_RX9_115 : xFld RX9 115 6 1 true := ⟨RX6, TX6, tyX6, rfl, by decide, inlX6, (kin_12 _ (List.mem_of_getElem? (i := 13) rfl)), tyX6_ok, nmX6, rfl, rfl, fun _ => Or.inl ⟨_, rfl⟩, fun h => absurd h (by decide)⟩
set_option maxRecDepth 20000 in
theorem kf_RX9_118 : xFld RX9 118 6 2 true := ⟨RX6, TX6, tyX6, rfl, by decide, inlX6, (kin_12 _ (List.mem_of_getElem? (i := 14) rfl)), tyX6_ok, nmX6, rfl, rfl, fun _ => Or.inl ⟨_, rfl⟩, fun h => absurd h (by decide)⟩
set_option maxRecDepth 20000 in
theorem kf_RX9_121 : xFld RX9 121 6 3 true := ⟨RX6, TX6, tyX6, rfl, by decide, inlX6, (kin_12 _ (List.mem_of_getElem? (i := 15) rfl)), tyX6_ok, nmX6, rfl, rfl, fun _ => Or.inl ⟨_, rfl⟩, fun h => absurd h (by decide)⟩
set_option maxRecDepth 20000 in
theorem kf_RX9_124 : xFld RX9 124 6 4 true := ⟨RX6, TX6, tyX6, rfl, by decide, inlX6, (kin_12 _ (List.mem_of_getElem? (i := 16) rfl)), tyX6_ok, nmX6, rfl, rfl, fun _ => Or.inl ⟨_, rfl⟩, fun h => absurd h (by decide)⟩
set_option maxRecDepth 20000 in
theorem kf_RX9_131 : xFld RX9 131 2 5 false := ⟨RX2, TX2, tyX2, rfl, by decide, inlX2, (kin_12 _ (List.mem_of_getElem? (i := 17) rfl)), tyX2_ok, nmX2, rfl, rfl, fun h => absurd h (by decide), fun _ => Or.inl rfl⟩
set_option maxRecDepth 20000 in
theorem kf_RX9_136 : xFld RX9 136 2 6 false := ⟨RX2, TX2, tyX2, rfl, by decide, inlX2, (kin_12 _ (List.mem_of_getElem? (i := 18) rfl)), tyX2_ok, nmX2, rfl, rfl, fun h => absurd h (by decide), fun _ => Or.inl rfl⟩
set_option maxRecDepth 20000 in
theorem kf_RX9_146 : xFld RX9 146 6 13 true := ⟨RX6, TX6, tyX6, rfl, by decide, inlX6, (kin_13 _ (List.mem_of_getElem? (i := 7) rfl)), tyX6_ok, nmX6, rfl, rfl, fun _ => Or.inl ⟨_, rfl⟩, fun h => absurd h (by decide)⟩
set_option maxRecDepth 20000 in
theorem kf_RX6_106 : xFld RX6 106 2 0 false := ⟨RX2, TX2, tyX2, rfl, by decide, inlX2, (kin_13 _ (List.mem_of_getElem? (i := 12) rfl)), tyX2_ok, nmX2, rfl, rfl, fun h => absurd h (by decide), fun _ => Or.inl rfl⟩
set_option maxRecDepth 20000 in
theorem kf_RX6_109 : xFld RX6 109 2 1 false := ⟨RX2, TX2, tyX2, rfl, by decide, inlX2, (kin_13 _ (List.mem_of_getElem? (i := 13) rfl)), tyX2_ok, nmX2, rfl, rfl, fun h => absurd h (by decide), fun _ => Or.inl rfl⟩
set_option maxRecDepth 20000 in
theorem kf_RX6_114 : xFld RX6 114 2 2 false := ⟨RX2, TX2, tyX2, rfl, by decide, inlX2, (kin_13 _ (List.mem_of_getElem? (i := 14) rfl)), tyX2_ok, nmX2, rfl, rfl, fun h => absurd h (by decide), fun _ => Or.inl rfl⟩
set_option maxRecDepth 20000 in
theorem kf_RX6_120 : xFld RX6 120 2 3 false := ⟨RX2, TX2, tyX2, rfl, by decide, inlX2, (kin_13 _ (List.mem_of_getElem? (i := 15) rfl)), tyX2_ok, nmX2, rfl, rfl, fun h => absurd h (by decide), fun _ => Or.inl rfl⟩
set_option maxRecDepth 20000 in
theorem kf_RX6_123 : xFld RX6 123 2 4 false := ⟨RX2, TX2, tyX2, rfl, by decide, inlX2, (kin_13 _ (List.mem_of_getElem? (i := 16) rfl)), tyX2_ok, nmX2, rfl, rfl, fun h => absurd h (by decide), fun _ => Or.inl rfl⟩
set_option maxRecDepth 20000 in
theorem kf_RX6_126 : xFld RX6 126 2 5 false := ⟨RX2, TX2, tyX2, rfl, by decide, inlX2, (kin_13 _ (List.mem_of_getElem? (i := 17) rfl)), tyX2_ok, nmX2, rfl, rfl, fun h => absurd h (by decide), fun _ => Or.inl rfl⟩
set_option maxRecDepth 20000 in
theorem kf_RX6_129 : xFld RX6 129 2 6 false := ⟨RX2, TX2, tyX2, rfl, by decide, inlX2, (kin_13 _ (List.mem_of_getElem? (i := 18) rfl)), tyX2_ok, nmX2, rfl, rfl, fun h => absurd h (by decide), fun _ => Or.inl rfl⟩
set_option maxRecDepth 20000 in
theorem kf_RX4_40 : xFld RX4 40 5 1 false := ⟨RX5, TX5, tyX5, rfl, by decide, inlX5, (kin_14 _ (List.mem_of_getElem? (i := 21) rfl)), tyX5_ok, nmX5, rfl, rfl, fun h => absurd h (by decide), fun _ => Or.inl rfl⟩
set_option maxRecDepth 20000 in
theorem kf_RX4_49 : xFld RX4 49 2 5 false := ⟨RX2, TX2, tyX2, rfl, by decide, inlX2, (kin_14 _ (List.mem_of_getElem? (i := 23) rfl)), tyX2_ok, nmX2, rfl, rfl, fun h => absurd h (by decide), fun _ => Or.inl rfl⟩
set_option maxRecDepth 20000 in
theorem kf_RX4_54 : xFld RX4 54 2 6 false := ⟨RX2, TX2, tyX2, rfl, by decide, inlX2, (kin_15 _ (List.mem_of_getElem? (i := 0) rfl)), tyX2_ok, nmX2, rfl, rfl, fun h => absurd h (by decide), fun _ => Or.inl rfl⟩
set_option maxRecDepth 20000 in
theorem kf_RX2_7 : xFld RX2 7 2 0 false := ⟨RX2, TX2, tyX2, rfl, by decide, inlX2, (kin_15 _ (List.mem_of_getElem? (i := 6) rfl)), tyX2_ok, nmX2, rfl, rfl, fun h => absurd h (by decide), fun _ => Or.inl rfl⟩
set_option maxRecDepth 20000 in
theorem kf_RX2_13 : xFld RX2 13 2 1 false := ⟨RX2, TX2, tyX2, rfl, by decide, inlX2, (kin_15 _ (List.mem_of_getElem? (i := 7) rfl)), tyX2_ok, nmX2, rfl, rfl, fun h => absurd h (by decide), fun _ => Or.inl rfl⟩
set_option maxRecDepth 20000 in
theorem kf_RX2_16 : xFld RX2 16 2 2 false := ⟨RX2, TX2, tyX2, rfl, by decide, inlX2, (kin_15 _ (List.mem_of_getElem? (i := 8) rfl)), tyX2_ok, nmX2, rfl, rfl, fun h => absurd h (by decide), fun _ => Or.inl rfl⟩
set_option maxRecDepth 20000 in
theorem kf_RX2_19 : xFld RX2 19 2 3 false := ⟨RX2, TX2, tyX2, rfl, by decide, inlX2, (kin_15 _ (List.mem_of_getElem? (i := 9) rfl)), tyX2_ok, nmX2, rfl, rfl, fun h => absurd h (by decide), fun _ => Or.inl rfl⟩
set_option maxRecDepth 20000 in
theorem kf_RX2_22 : xFld RX2 22 2 4 false := ⟨RX2, TX2, tyX2, rfl, by decide, inlX2, (kin_15 _ (List.mem_of_getElem? (i := 10) rfl)), tyX2_ok, nmX2, rfl, rfl, fun h => absurd h (by decide), fun _ => Or.inl rfl⟩
set_option maxRecDepth 20000 in
theorem kf_RX9_162 : xFld RX9 162 3 0 true := ⟨RX3, TX3, tyX3, rfl, by decide, inlX3, (kin_21 _ (List.mem_of_getElem? (i := 16) rfl)), tyX3_ok, nmX3, rfl, rfl, fun _ => Or.inl ⟨_, rfl⟩, fun h => absurd h (by decide)⟩
set_option maxRecDepth 20000 in
theorem kf_RX9_165 : xFld RX9 165 5 1 false := ⟨RX5, TX5, tyX5, rfl, by decide, inlX5, (kin_21 _ (List.mem_of_getElem? (i := 17) rfl)), tyX5_ok, nmX5, rfl, rfl, fun h => absurd h (by decide), fun _ => Or.inl rfl⟩
set_option maxRecDepth 20000 in
theorem kf_RX9_176 : xFld RX9 176 3 1 true := ⟨RX3, TX3, tyX3, rfl, by decide, inlX3, (kin_22 _ (List.mem_of_getElem? (i := 3) rfl)), tyX3_ok, nmX3, rfl, rfl, fun _ => Or.inl ⟨_, rfl⟩, fun h => absurd h (by decide)⟩
set_option maxRecDepth 20000 in
theorem kf_RX9_184 : xFld RX9 184 6 11 false := ⟨RX6, TX6, tyX6, rfl, by decide, inlX6, (kin_22 _ (List.mem_of_getElem? (i := 4) rfl)), tyX6_ok, nmX6, rfl, rfl, fun _ => Or.inl ⟨_, rfl⟩, fun h => absurd h (by decide)⟩
set_option maxRecDepth 20000 in
theorem kf_RX3_42 : xFld RX3 42 5 1 false := ⟨RX5, TX5, tyX5, rfl, by decide, inlX5, (kin_22 _ (List.mem_of_getElem? (i := 9) rfl)), tyX5_ok, nmX5, rfl, rfl, fun h => absurd h (by decide), fun _ => Or.inl rfl⟩
set_option maxRecDepth 20000 in
theorem kf_RX3_63 : xFld RX3 63 4 3 false := ⟨RX4, TX4, tyX4, rfl, by decide, inlX4, (kin_23 _ (List.mem_of_getElem? (i := 3) rfl)), tyX4_ok, nmX4, rfl, rfl, fun h => absurd h (by decide), fun _ => Or.inl rfl⟩
set_option maxRecDepth 20000 in
theorem kf_RJ0_9 : Cond.fieldLink RJ0 9 "java/lang/String" "value" "[B" ∈ wsL_law := (kin_23 _ (List.mem_of_getElem? (i := 13) rfl))
set_option maxRecDepth 20000 in
theorem kf_RJ0_38 : Cond.fieldLink RJ0 38 "java/lang/String" "COMPACT_STRINGS" "Z" ∈ wsL_law := (kin_23 _ (List.mem_of_getElem? (i := 18) rfl))
set_option maxRecDepth 20000 in
theorem kf_RJ0_15 : Cond.fieldLink RJ0 15 "java/lang/String" "coder" "B" ∈ wsL_law := (kin_23 _ (List.mem_of_getElem? (i := 19) rfl))
set_option maxRecDepth 20000 in
theorem kf_RJ0_1053 : Cond.fieldLink RJ0 1053 "jdk/internal/util/Preconditions" "SIOOBE_FORMATTER" "Ljava/util/function/BiFunction;" ∈ wsL_law := (kin_24 _ (List.mem_of_getElem? (i := 11) rfl))
set_option maxRecDepth 20000 in
theorem kf_RJ2_44 : Cond.fieldLink RJ2 44 "java/lang/StringUTF16" "$assertionsDisabled" "Z" ∈ wsL_law := (kin_25 _ (List.mem_of_getElem? (i := 6) rfl))
set_option maxRecDepth 20000 in
theorem kf_RJ2_59 : Cond.fieldLink RJ2 59 "java/lang/StringUTF16" "HI_BYTE_SHIFT" "I" ∈ wsL_law := (kin_25 _ (List.mem_of_getElem? (i := 7) rfl))
set_option maxRecDepth 20000 in
theorem kf_RJ2_63 : Cond.fieldLink RJ2 63 "java/lang/StringUTF16" "LO_BYTE_SHIFT" "I" ∈ wsL_law := (kin_25 _ (List.mem_of_getElem? (i := 8) rfl))
set_option maxRecDepth 20000 in
theorem kf_RX9_206 : xFld RX9 206 6 6 true := ⟨RX6, TX6, tyX6, rfl, by decide, inlX6, (kin_31 _ (List.mem_of_getElem? (i := 17) rfl)), tyX6_ok, nmX6, rfl, rfl, fun _ => Or.inl ⟨_, rfl⟩, fun h => absurd h (by decide)⟩
set_option maxRecDepth 20000 in
theorem kf_RX9_220 : xFld RX9 220 1 3 false := ⟨RX1, TX1, tyX1, rfl, by decide, inlX1, (kin_32 _ (List.mem_of_getElem? (i := 21) rfl)), tyX1_ok, nmX1, rfl, rfl, fun h => absurd h (by decide), fun _ => Or.inl rfl⟩
set_option maxRecDepth 20000 in
theorem kf_RX1_34 : xFld RX1 34 6 9 false := ⟨RX6, TX6, tyX6, rfl, by decide, inlX6, (kin_33 _ (List.mem_of_getElem? (i := 2) rfl)), tyX6_ok, nmX6, rfl, rfl, fun h => absurd h (by decide), fun _ => Or.inl rfl⟩
set_option maxRecDepth 20000 in
theorem kf_RX1_50 : xFld RX1 50 5 1 false := ⟨RX5, TX5, tyX5, rfl, by decide, inlX5, (kin_33 _ (List.mem_of_getElem? (i := 3) rfl)), tyX5_ok, nmX5, rfl, rfl, fun h => absurd h (by decide), fun _ => Or.inl rfl⟩
set_option maxRecDepth 20000 in
theorem kf_RX1_61 : xFld RX1 61 6 8 false := ⟨RX6, TX6, tyX6, rfl, by decide, inlX6, (kin_33 _ (List.mem_of_getElem? (i := 4) rfl)), tyX6_ok, nmX6, rfl, rfl, fun h => absurd h (by decide), fun _ => Or.inl rfl⟩
set_option maxRecDepth 20000 in
theorem kf_RX1_78 : xFld RX1 78 6 2 true := ⟨RX6, TX6, tyX6, rfl, by decide, inlX6, (kin_33 _ (List.mem_of_getElem? (i := 14) rfl)), tyX6_ok, nmX6, rfl, rfl, fun _ => Or.inl ⟨_, rfl⟩, fun h => absurd h (by decide)⟩
set_option maxRecDepth 20000 in
theorem kf_RX1_81 : xFld RX1 81 6 3 true := ⟨RX6, TX6, tyX6, rfl, by decide, inlX6, (kin_33 _ (List.mem_of_getElem? (i := 15) rfl)), tyX6_ok, nmX6, rfl, rfl, fun _ => Or.inl ⟨_, rfl⟩, fun h => absurd h (by decide)⟩
set_option maxRecDepth 20000 in
theorem kf_RX9_228 : xFld RX9 228 7 3 false := ⟨RX7, TX7, tyX7, rfl, by decide, inlX7, (kin_35 _ (List.mem_of_getElem? (i := 13) rfl)), tyX7_ok, nmX7, rfl, rfl, fun h => absurd h (by decide), fun _ => Or.inl rfl⟩
set_option maxRecDepth 20000 in
theorem kf_RX9_231 : xFld RX9 231 7 2 true := ⟨RX7, TX7, tyX7, rfl, by decide, inlX7, (kin_35 _ (List.mem_of_getElem? (i := 14) rfl)), tyX7_ok, nmX7, rfl, rfl, fun _ => Or.inl ⟨_, rfl⟩, fun h => absurd h (by decide)⟩
set_option maxRecDepth 20000 in
theorem kf_RX7_53 : xFld RX7 53 5 1 false := ⟨RX5, TX5, tyX5, rfl, by decide, inlX5, (kin_36 _ (List.mem_of_getElem? (i := 1) rfl)), tyX5_ok, nmX5, rfl, rfl, fun h => absurd h (by decide), fun _ => Or.inl rfl⟩
set_option maxRecDepth 20000 in
theorem kf_RX7_63 : xFld RX7 63 6 2 true := ⟨RX6, TX6, tyX6, rfl, by decide, inlX6, (kin_36 _ (List.mem_of_getElem? (i := 2) rfl)), tyX6_ok, nmX6, rfl, rfl, fun _ => Or.inl ⟨_, rfl⟩, fun h => absurd h (by decide)⟩
set_option maxRecDepth 20000 in
theorem kf_RX9_250 : xFld RX9 250 6 10 false := ⟨RX6, TX6, tyX6, rfl, by decide, inlX6, (kin_38 _ (List.mem_of_getElem? (i := 20) rfl)), tyX6_ok, nmX6, rfl, rfl, fun h => absurd h (by decide), fun _ => Or.inl rfl⟩
set_option maxRecDepth 20000 in
theorem kf_RX9_274 : xFld RX9 274 4 3 false := ⟨RX4, TX4, tyX4, rfl, by decide, inlX4, (kin_40 _ (List.mem_of_getElem? (i := 0) rfl)), tyX4_ok, nmX4, rfl, rfl, fun h => absurd h (by decide), fun _ => Or.inl rfl⟩
set_option maxRecDepth 20000 in
theorem kf_RX9_277 : xFld RX9 277 6 12 false := ⟨RX6, TX6, tyX6, rfl, by decide, inlX6, (kin_40 _ (List.mem_of_getElem? (i := 1) rfl)), tyX6_ok, nmX6, rfl, rfl, fun h => absurd h (by decide), fun _ => Or.inl rfl⟩
set_option maxRecDepth 20000 in
theorem kf_RX9_280 : xFld RX9 280 6 7 true := ⟨RX6, TX6, tyX6, rfl, by decide, inlX6, (kin_40 _ (List.mem_of_getElem? (i := 23) rfl)), tyX6_ok, nmX6, rfl, rfl, fun _ => Or.inl ⟨_, rfl⟩, fun h => absurd h (by decide)⟩
set_option maxRecDepth 20000 in
theorem kf_RX9_293 : xFld RX9 293 8 1 false := ⟨RX8, TX8, tyX8, rfl, by decide, inlX8, (kin_41 _ (List.mem_of_getElem? (i := 20) rfl)), tyX8_ok, nmX8, rfl, rfl, fun h => absurd h (by decide), fun _ => Or.inl rfl⟩
set_option maxRecDepth 20000 in
theorem kf_RX9_296 : xFld RX9 296 8 2 false := ⟨RX8, TX8, tyX8, rfl, by decide, inlX8, (kin_41 _ (List.mem_of_getElem? (i := 21) rfl)), tyX8_ok, nmX8, rfl, rfl, fun h => absurd h (by decide), fun _ => Or.inl rfl⟩
set_option maxRecDepth 20000 in
theorem kf_RX9_309 : xFld RX9 309 0 2 false := ⟨RX0, TX0, tyX0, rfl, by decide, inlX0, (kin_43 _ (List.mem_of_getElem? (i := 23) rfl)), tyX0_ok, nmX0, rfl, rfl, fun h => absurd h (by decide), fun _ => Or.inl rfl⟩
set_option maxRecDepth 20000 in
theorem kf_RX9_311 : xFld RX9 311 0 3 false := ⟨RX0, TX0, tyX0, rfl, by decide, inlX0, (kin_44 _ (List.mem_of_getElem? (i := 0) rfl)), tyX0_ok, nmX0, rfl, rfl, fun h => absurd h (by decide), fun _ => Or.inl rfl⟩
set_option maxRecDepth 20000 in
theorem kf_RX9_313 : xFld RX9 313 0 4 false := ⟨RX0, TX0, tyX0, rfl, by decide, inlX0, (kin_44 _ (List.mem_of_getElem? (i := 1) rfl)), tyX0_ok, nmX0, rfl, rfl, fun h => absurd h (by decide), fun _ => Or.inl rfl⟩
set_option maxRecDepth 20000 in
theorem kf_RX9_320 : xFld RX9 320 0 0 true := ⟨RX0, TX0, tyX0, rfl, by decide, inlX0, (kin_46 _ (List.mem_of_getElem? (i := 10) rfl)), tyX0_ok, nmX0, rfl, rfl, fun _ => Or.inl ⟨_, rfl⟩, fun h => absurd h (by decide)⟩
set_option maxRecDepth 20000 in
theorem kf_RX9_326 : xFld RX9 326 6 9 false := ⟨RX6, TX6, tyX6, rfl, by decide, inlX6, (kin_47 _ (List.mem_of_getElem? (i := 4) rfl)), tyX6_ok, nmX6, rfl, rfl, fun h => absurd h (by decide), fun _ => Or.inl rfl⟩
set_option maxRecDepth 20000 in
theorem kf_RX9_329 : xFld RX9 329 0 1 false := ⟨RX0, TX0, tyX0, rfl, by decide, inlX0, (kin_47 _ (List.mem_of_getElem? (i := 5) rfl)), tyX0_ok, nmX0, rfl, rfl, fun h => absurd h (by decide), fun _ => Or.inl rfl⟩
set_option maxRecDepth 20000 in
theorem kc_RL_7 : xCls RL 7 9 := ⟨RX9, TX9, tyX9, rfl, inlX9, tyX9_ok, (kin_1 _ (List.mem_of_getElem? (i := 0) rfl)), (kin_1 _ (List.mem_of_getElem? (i := 1) rfl)), (kin_1 _ (List.mem_of_getElem? (i := 2) rfl)), by decide⟩
set_option maxRecDepth 20000 in
theorem ka_RL_7 : Cond.classLink RL 7 RX9 ∈ wsL_law := (kin_1 _ (List.mem_of_getElem? (i := 0) rfl))
set_option maxRecDepth 20000 in
theorem kc_RL_10 : xCls RL 10 10 := ⟨RX10, TX10, tyX10, rfl, inlX10, tyX10_ok, (kin_1 _ (List.mem_of_getElem? (i := 3) rfl)), (kin_1 _ (List.mem_of_getElem? (i := 4) rfl)), (kin_1 _ (List.mem_of_getElem? (i := 5) rfl)), by decide⟩
set_option maxRecDepth 20000 in
theorem ka_RL_10 : Cond.classLink RL 10 RX10 ∈ wsL_law := (kin_1 _ (List.mem_of_getElem? (i := 3) rfl))
set_option maxRecDepth 20000 in
theorem kc_RX9_9 : xCls RX9 9 6 := ⟨RX6, TX6, tyX6, rfl, inlX6, tyX6_ok, (kin_1 _ (List.mem_of_getElem? (i := 13) rfl)), (kin_1 _ (List.mem_of_getElem? (i := 14) rfl)), (kin_1 _ (List.mem_of_getElem? (i := 15) rfl)), by decide⟩
set_option maxRecDepth 20000 in
theorem ka_RX9_9 : Cond.classLink RX9 9 RX6 ∈ wsL_law := (kin_1 _ (List.mem_of_getElem? (i := 13) rfl))
set_option maxRecDepth 20000 in
theorem kc_RX9_28 : xCls RX9 28 3 := ⟨RX3, TX3, tyX3, rfl, inlX3, tyX3_ok, (kin_1 _ (List.mem_of_getElem? (i := 20) rfl)), (kin_1 _ (List.mem_of_getElem? (i := 21) rfl)), (kin_1 _ (List.mem_of_getElem? (i := 22) rfl)), by decide⟩
set_option maxRecDepth 20000 in
theorem ka_RX9_28 : Cond.classLink RX9 28 RX3 ∈ wsL_law := (kin_1 _ (List.mem_of_getElem? (i := 20) rfl))
set_option maxRecDepth 20000 in
theorem kc_RX9_35 : xCls RX9 35 4 := ⟨RX4, TX4, tyX4, rfl, inlX4, tyX4_ok, (kin_2 _ (List.mem_of_getElem? (i := 0) rfl)), (kin_2 _ (List.mem_of_getElem? (i := 17) rfl)), (kin_2 _ (List.mem_of_getElem? (i := 18) rfl)), by decide⟩
set_option maxRecDepth 20000 in
theorem ka_RX9_35 : Cond.classLink RX9 35 RX4 ∈ wsL_law := (kin_2 _ (List.mem_of_getElem? (i := 0) rfl))
set_option maxRecDepth 20000 in
theorem kc_RX9_45 : xCls RX9 45 1 := ⟨RX1, TX1, tyX1, rfl, inlX1, tyX1_ok, (kin_2 _ (List.mem_of_getElem? (i := 3) rfl)), (kin_2 _ (List.mem_of_getElem? (i := 4) rfl)), (kin_2 _ (List.mem_of_getElem? (i := 5) rfl)), by decide⟩
set_option maxRecDepth 20000 in
theorem ka_RX9_45 : Cond.classLink RX9 45 RX1 ∈ wsL_law := (kin_2 _ (List.mem_of_getElem? (i := 3) rfl))
set_option maxRecDepth 20000 in
theorem kc_RX9_52 : xCls RX9 52 7 := ⟨RX7, TX7, tyX7, rfl, inlX7, tyX7_ok, (kin_2 _ (List.mem_of_getElem? (i := 7) rfl)), (kin_2 _ (List.mem_of_getElem? (i := 8) rfl)), (kin_2 _ (List.mem_of_getElem? (i := 9) rfl)), by decide⟩
set_option maxRecDepth 20000 in
theorem ka_RX9_52 : Cond.classLink RX9 52 RX7 ∈ wsL_law := (kin_2 _ (List.mem_of_getElem? (i := 7) rfl))
set_option maxRecDepth 20000 in
theorem kc_RX9_59 : xCls RX9 59 0 := ⟨RX0, TX0, tyX0, rfl, inlX0, tyX0_ok, (kin_2 _ (List.mem_of_getElem? (i := 11) rfl)), (kin_2 _ (List.mem_of_getElem? (i := 12) rfl)), (kin_2 _ (List.mem_of_getElem? (i := 13) rfl)), by decide⟩
set_option maxRecDepth 20000 in
theorem ka_RX9_59 : Cond.classLink RX9 59 RX0 ∈ wsL_law := (kin_2 _ (List.mem_of_getElem? (i := 11) rfl))
set_option maxRecDepth 20000 in
theorem kc_RX9_66 : xCls RX9 66 8 := ⟨RX8, TX8, tyX8, rfl, inlX8, tyX8_ok, (kin_2 _ (List.mem_of_getElem? (i := 15) rfl)), (kin_2 _ (List.mem_of_getElem? (i := 19) rfl)), (kin_2 _ (List.mem_of_getElem? (i := 20) rfl)), by decide⟩
set_option maxRecDepth 20000 in
theorem ka_RX9_66 : Cond.classLink RX9 66 RX8 ∈ wsL_law := (kin_2 _ (List.mem_of_getElem? (i := 15) rfl))
set_option maxRecDepth 20000 in
theorem kc_RX6_9 : xCls RX6 9 5 := ⟨RX5, TX5, tyX5, rfl, inlX5, tyX5_ok, (kin_3 _ (List.mem_of_getElem? (i := 0) rfl)), (kin_3 _ (List.mem_of_getElem? (i := 1) rfl)), (kin_3 _ (List.mem_of_getElem? (i := 2) rfl)), by decide⟩
set_option maxRecDepth 20000 in
theorem ka_RX6_9 : Cond.classLink RX6 9 RX5 ∈ wsL_law := (kin_3 _ (List.mem_of_getElem? (i := 0) rfl))
set_option maxRecDepth 20000 in
theorem kc_RX6_58 : xCls RX6 58 2 := ⟨RX2, TX2, tyX2, rfl, inlX2, tyX2_ok, (kin_3 _ (List.mem_of_getElem? (i := 16) rfl)), (kin_3 _ (List.mem_of_getElem? (i := 17) rfl)), (kin_3 _ (List.mem_of_getElem? (i := 18) rfl)), by decide⟩
set_option maxRecDepth 20000 in
theorem ka_RX6_58 : Cond.classLink RX6 58 RX2 ∈ wsL_law := (kin_3 _ (List.mem_of_getElem? (i := 16) rfl))
set_option maxRecDepth 20000 in
theorem kc_RX3_9 : xCls RX3 9 5 := ⟨RX5, TX5, tyX5, rfl, inlX5, tyX5_ok, (kin_4 _ (List.mem_of_getElem? (i := 14) rfl)), (kin_3 _ (List.mem_of_getElem? (i := 1) rfl)), (kin_3 _ (List.mem_of_getElem? (i := 2) rfl)), by decide⟩
set_option maxRecDepth 20000 in
theorem ka_RX3_9 : Cond.classLink RX3 9 RX5 ∈ wsL_law := (kin_4 _ (List.mem_of_getElem? (i := 14) rfl))
set_option maxRecDepth 20000 in
theorem kc_RX3_20 : xCls RX3 20 4 := ⟨RX4, TX4, tyX4, rfl, inlX4, tyX4_ok, (kin_4 _ (List.mem_of_getElem? (i := 16) rfl)), (kin_2 _ (List.mem_of_getElem? (i := 17) rfl)), (kin_2 _ (List.mem_of_getElem? (i := 18) rfl)), by decide⟩
set_option maxRecDepth 20000 in
theorem ka_RX3_20 : Cond.classLink RX3 20 RX4 ∈ wsL_law := (kin_4 _ (List.mem_of_getElem? (i := 16) rfl))
set_option maxRecDepth 20000 in
theorem kc_RX4_9 : xCls RX4 9 5 := ⟨RX5, TX5, tyX5, rfl, inlX5, tyX5_ok, (kin_4 _ (List.mem_of_getElem? (i := 23) rfl)), (kin_3 _ (List.mem_of_getElem? (i := 1) rfl)), (kin_3 _ (List.mem_of_getElem? (i := 2) rfl)), by decide⟩
set_option maxRecDepth 20000 in
theorem ka_RX4_9 : Cond.classLink RX4 9 RX5 ∈ wsL_law := (kin_4 _ (List.mem_of_getElem? (i := 23) rfl))
set_option maxRecDepth 20000 in
theorem kc_RX1_15 : xCls RX1 15 5 := ⟨RX5, TX5, tyX5, rfl, inlX5, tyX5_ok, (kin_5 _ (List.mem_of_getElem? (i := 10) rfl)), (kin_3 _ (List.mem_of_getElem? (i := 1) rfl)), (kin_3 _ (List.mem_of_getElem? (i := 2) rfl)), by decide⟩
set_option maxRecDepth 20000 in
theorem ka_RX1_15 : Cond.classLink RX1 15 RX5 ∈ wsL_law := (kin_5 _ (List.mem_of_getElem? (i := 10) rfl))
set_option maxRecDepth 20000 in
theorem kc_RX7_9 : xCls RX7 9 5 := ⟨RX5, TX5, tyX5, rfl, inlX5, tyX5_ok, (kin_5 _ (List.mem_of_getElem? (i := 19) rfl)), (kin_3 _ (List.mem_of_getElem? (i := 1) rfl)), (kin_3 _ (List.mem_of_getElem? (i := 2) rfl)), by decide⟩
set_option maxRecDepth 20000 in
theorem ka_RX7_9 : Cond.classLink RX7 9 RX5 ∈ wsL_law := (kin_5 _ (List.mem_of_getElem? (i := 19) rfl))
set_option maxRecDepth 20000 in
theorem kc_RX0_9 : xCls RX0 9 5 := ⟨RX5, TX5, tyX5, rfl, inlX5, tyX5_ok, (kin_6 _ (List.mem_of_getElem? (i := 4) rfl)), (kin_3 _ (List.mem_of_getElem? (i := 1) rfl)), (kin_3 _ (List.mem_of_getElem? (i := 2) rfl)), by decide⟩
set_option maxRecDepth 20000 in
theorem ka_RX0_9 : Cond.classLink RX0 9 RX5 ∈ wsL_law := (kin_6 _ (List.mem_of_getElem? (i := 4) rfl))
set_option maxRecDepth 20000 in
theorem kk_RL_133 : Cond.constantLong RL 133 (4294967295) ∈ wsL_law := (kin_1 _ (List.mem_of_getElem? (i := 6) rfl))
set_option maxRecDepth 20000 in
theorem kk_RX4_47 : Cond.constantLong RX4 47 (-2) ∈ wsL_law := (kin_14 _ (List.mem_of_getElem? (i := 22) rfl))
set_option maxRecDepth 20000 in
theorem kk_RX6_173 : Cond.constantLong RX6 173 (63) ∈ wsL_law := (kin_34 _ (List.mem_of_getElem? (i := 6) rfl))
set_option maxRecDepth 20000 in
theorem kk_RX9_253 : Cond.constantLong RX9 253 (-9223372036854775808) ∈ wsL_law := (kin_39 _ (List.mem_of_getElem? (i := 5) rfl))
set_option maxRecDepth 20000 in
theorem kk_RJ6_265 : Cond.constant RJ6 265 (1431655765) ∈ wsL_law := (kin_39 _ (List.mem_of_getElem? (i := 14) rfl))
set_option maxRecDepth 20000 in
theorem kk_RJ6_266 : Cond.constant RJ6 266 (858993459) ∈ wsL_law := (kin_39 _ (List.mem_of_getElem? (i := 15) rfl))
set_option maxRecDepth 20000 in
theorem kk_RJ6_267 : Cond.constant RJ6 267 (252645135) ∈ wsL_law := (kin_39 _ (List.mem_of_getElem? (i := 16) rfl))
set_option maxRecDepth 20000 in
theorem kk_RX10_371 : Cond.constantLong RX10 371 (-9223372036854775808) ∈ wsL_law := (kin_40 _ (List.mem_of_getElem? (i := 9) rfl))
set_option maxRecDepth 20000 in
theorem kk_RX10_373 : Cond.constantLong RX10 373 (10) ∈ wsL_law := (kin_40 _ (List.mem_of_getElem? (i := 10) rfl))
set_option maxRecDepth 20000 in
theorem kb_0_1 : parseFieldDescriptor (((vwCl[0]?).map (fun q => (q.2.1 1).2.2.1)).getD "") = some .int := by decide +kernel
set_option maxRecDepth 20000 in
theorem kb_0_2 : parseFieldDescriptor (((vwCl[0]?).map (fun q => (q.2.1 2).2.2.1)).getD "") = some .int := by decide +kernel
set_option maxRecDepth 20000 in
theorem kb_0_3 : parseFieldDescriptor (((vwCl[0]?).map (fun q => (q.2.1 3).2.2.1)).getD "") = some .int := by decide +kernel
set_option maxRecDepth 20000 in
theorem kb_0_4 : parseFieldDescriptor (((vwCl[0]?).map (fun q => (q.2.1 4).2.2.1)).getD "") = some .int := by decide +kernel
set_option maxRecDepth 20000 in
theorem kb_1_3 : parseFieldDescriptor (((vwCl[1]?).map (fun q => (q.2.1 3).2.2.1)).getD "") = some .int := by decide +kernel
set_option maxRecDepth 20000 in
theorem kb_1_4 : parseFieldDescriptor (((vwCl[1]?).map (fun q => (q.2.1 4).2.2.1)).getD "") = some .int := by decide +kernel
set_option maxRecDepth 20000 in
theorem kb_2_0 : parseFieldDescriptor (((vwCl[2]?).map (fun q => (q.2.1 0).2.2.1)).getD "") = some .int := by decide +kernel
set_option maxRecDepth 20000 in
theorem kb_2_1 : parseFieldDescriptor (((vwCl[2]?).map (fun q => (q.2.1 1).2.2.1)).getD "") = some .int := by decide +kernel
set_option maxRecDepth 20000 in
theorem kb_2_2 : parseFieldDescriptor (((vwCl[2]?).map (fun q => (q.2.1 2).2.2.1)).getD "") = some .int := by decide +kernel
set_option maxRecDepth 20000 in
theorem kb_2_3 : parseFieldDescriptor (((vwCl[2]?).map (fun q => (q.2.1 3).2.2.1)).getD "") = some .int := by decide +kernel
set_option maxRecDepth 20000 in
theorem kb_2_4 : parseFieldDescriptor (((vwCl[2]?).map (fun q => (q.2.1 4).2.2.1)).getD "") = some .int := by decide +kernel
set_option maxRecDepth 20000 in
theorem kb_2_5 : parseFieldDescriptor (((vwCl[2]?).map (fun q => (q.2.1 5).2.2.1)).getD "") = some .int := by decide +kernel
set_option maxRecDepth 20000 in
theorem kb_2_6 : parseFieldDescriptor (((vwCl[2]?).map (fun q => (q.2.1 6).2.2.1)).getD "") = some .int := by decide +kernel
set_option maxRecDepth 20000 in
theorem kb_3_2 : parseFieldDescriptor (((vwCl[3]?).map (fun q => (q.2.1 2).2.2.1)).getD "") = some .int := by decide +kernel
set_option maxRecDepth 20000 in
theorem kb_4_3 : parseFieldDescriptor (((vwCl[4]?).map (fun q => (q.2.1 3).2.2.1)).getD "") = some .int := by decide +kernel
set_option maxRecDepth 20000 in
theorem kb_5_1 : parseFieldDescriptor (((vwCl[5]?).map (fun q => (q.2.1 1).2.2.1)).getD "") = some .int := by decide +kernel
set_option maxRecDepth 20000 in
theorem kb_6_8 : parseFieldDescriptor (((vwCl[6]?).map (fun q => (q.2.1 8).2.2.1)).getD "") = some .int := by decide +kernel
set_option maxRecDepth 20000 in
theorem kb_6_9 : parseFieldDescriptor (((vwCl[6]?).map (fun q => (q.2.1 9).2.2.1)).getD "") = some .int := by decide +kernel
set_option maxRecDepth 20000 in
theorem kb_6_10 : parseFieldDescriptor (((vwCl[6]?).map (fun q => (q.2.1 10).2.2.1)).getD "") = some .int := by decide +kernel
set_option maxRecDepth 20000 in
theorem kb_6_12 : parseFieldDescriptor (((vwCl[6]?).map (fun q => (q.2.1 12).2.2.1)).getD "") = some .int := by decide +kernel
set_option maxRecDepth 20000 in
theorem kb_6_14 : parseFieldDescriptor (((vwCl[6]?).map (fun q => (q.2.1 14).2.2.1)).getD "") = some .int := by decide +kernel
set_option maxRecDepth 20000 in
theorem kb_7_3 : parseFieldDescriptor (((vwCl[7]?).map (fun q => (q.2.1 3).2.2.1)).getD "") = some .int := by decide +kernel
set_option maxRecDepth 20000 in
theorem kb_8_1 : parseFieldDescriptor (((vwCl[8]?).map (fun q => (q.2.1 1).2.2.1)).getD "") = some .int := by decide +kernel
set_option maxRecDepth 20000 in
theorem kb_8_2 : parseFieldDescriptor (((vwCl[8]?).map (fun q => (q.2.1 2).2.2.1)).getD "") = some .int := by decide +kernel
set_option maxRecDepth 20000 in
theorem kb_9_6 : parseFieldDescriptor (((vwCl[9]?).map (fun q => (q.2.1 6).2.2.1)).getD "") = some .int := by decide +kernel
set_option maxRecDepth 20000 in
theorem kb_10_0 : parseFieldDescriptor (((vwCl[10]?).map (fun q => (q.2.1 0).2.2.1)).getD "") = some .int := by decide +kernel
set_option maxRecDepth 20000 in
theorem kb_10_1 : parseFieldDescriptor (((vwCl[10]?).map (fun q => (q.2.1 1).2.2.1)).getD "") = some .int := by decide +kernel
set_option maxRecDepth 20000 in
theorem kb_10_2 : parseFieldDescriptor (((vwCl[10]?).map (fun q => (q.2.1 2).2.2.1)).getD "") = some .int := by decide +kernel
set_option maxRecDepth 20000 in
theorem kb_10_3 : parseFieldDescriptor (((vwCl[10]?).map (fun q => (q.2.1 3).2.2.1)).getD "") = some .int := by decide +kernel
set_option maxRecDepth 20000 in
theorem kb_10_10 : parseFieldDescriptor (((vwCl[10]?).map (fun q => (q.2.1 10).2.2.1)).getD "") = some .int := by decide +kernel
set_option maxRecDepth 20000 in
theorem kb_10_11 : parseFieldDescriptor (((vwCl[10]?).map (fun q => (q.2.1 11).2.2.1)).getD "") = some .int := by decide +kernel
set_option maxRecDepth 20000 in
theorem kb_10_12 : parseFieldDescriptor (((vwCl[10]?).map (fun q => (q.2.1 12).2.2.1)).getD "") = some .int := by decide +kernel
set_option maxRecDepth 20000 in
theorem kb_10_13 : parseFieldDescriptor (((vwCl[10]?).map (fun q => (q.2.1 13).2.2.1)).getD "") = some .int := by decide +kernel
set_option maxRecDepth 20000 in
theorem kb_10_14 : parseFieldDescriptor (((vwCl[10]?).map (fun q => (q.2.1 14).2.2.1)).getD "") = some .int := by decide +kernel
set_option maxRecDepth 20000 in
theorem kb_10_23 : parseFieldDescriptor (((vwCl[10]?).map (fun q => (q.2.1 23).2.2.1)).getD "") = some .int := by decide +kernel
set_option maxRecDepth 20000 in
theorem kb_10_24 : parseFieldDescriptor (((vwCl[10]?).map (fun q => (q.2.1 24).2.2.1)).getD "") = some .int := by decide +kernel
set_option maxRecDepth 20000 in
theorem kb_10_25 : parseFieldDescriptor (((vwCl[10]?).map (fun q => (q.2.1 25).2.2.1)).getD "") = some .int := by decide +kernel
set_option maxRecDepth 20000 in
theorem kb_10_27 : parseFieldDescriptor (((vwCl[10]?).map (fun q => (q.2.1 27).2.2.1)).getD "") = some .int := by decide +kernel
set_option maxRecDepth 20000 in
theorem kb_10_28 : parseFieldDescriptor (((vwCl[10]?).map (fun q => (q.2.1 28).2.2.1)).getD "") = some .int := by decide +kernel
set_option maxRecDepth 20000 in
theorem kb_10_29 : parseFieldDescriptor (((vwCl[10]?).map (fun q => (q.2.1 29).2.2.1)).getD "") = some .int := by decide +kernel
set_option maxRecDepth 20000 in
theorem kb_10_33 : parseFieldDescriptor (((vwCl[10]?).map (fun q => (q.2.1 33).2.2.1)).getD "") = some .int := by decide +kernel
set_option maxRecDepth 20000 in
theorem kb_10_34 : parseFieldDescriptor (((vwCl[10]?).map (fun q => (q.2.1 34).2.2.1)).getD "") = some .int := by decide +kernel
set_option maxRecDepth 20000 in
theorem kb_10_35 : parseFieldDescriptor (((vwCl[10]?).map (fun q => (q.2.1 35).2.2.1)).getD "") = some .int := by decide +kernel
set_option maxRecDepth 20000 in
theorem kb_10_36 : parseFieldDescriptor (((vwCl[10]?).map (fun q => (q.2.1 36).2.2.1)).getD "") = some .int := by decide +kernel
set_option maxRecDepth 20000 in
theorem kb_10_37 : parseFieldDescriptor (((vwCl[10]?).map (fun q => (q.2.1 37).2.2.1)).getD "") = some .int := by decide +kernel
set_option maxRecDepth 20000 in
theorem kb_10_38 : parseFieldDescriptor (((vwCl[10]?).map (fun q => (q.2.1 38).2.2.1)).getD "") = some .int := by decide +kernel
set_option maxRecDepth 20000 in
theorem kb_10_46 : parseFieldDescriptor (((vwCl[10]?).map (fun q => (q.2.1 46).2.2.1)).getD "") = some .int := by decide +kernel
set_option maxRecDepth 20000 in
theorem kb_10_49 : parseFieldDescriptor (((vwCl[10]?).map (fun q => (q.2.1 49).2.2.1)).getD "") = some .int := by decide +kernel
set_option maxRecDepth 20000 in
theorem kb_10_50 : parseFieldDescriptor (((vwCl[10]?).map (fun q => (q.2.1 50).2.2.1)).getD "") = some .int := by decide +kernel
set_option maxRecDepth 20000 in
theorem kb_10_51 : parseFieldDescriptor (((vwCl[10]?).map (fun q => (q.2.1 51).2.2.1)).getD "") = some .int := by decide +kernel
set_option maxRecDepth 20000 in
theorem kb_10_52 : parseFieldDescriptor (((vwCl[10]?).map (fun q => (q.2.1 52).2.2.1)).getD "") = some .int := by decide +kernel
set_option maxRecDepth 20000 in
theorem kb_10_53 : parseFieldDescriptor (((vwCl[10]?).map (fun q => (q.2.1 53).2.2.1)).getD "") = some .int := by decide +kernel
set_option maxRecDepth 20000 in
theorem kb_10_54 : parseFieldDescriptor (((vwCl[10]?).map (fun q => (q.2.1 54).2.2.1)).getD "") = some .int := by decide +kernel
set_option maxRecDepth 20000 in
theorem kb_10_55 : parseFieldDescriptor (((vwCl[10]?).map (fun q => (q.2.1 55).2.2.1)).getD "") = some .int := by decide +kernel
set_option maxRecDepth 20000 in
theorem kb_10_64 : parseFieldDescriptor (((vwCl[10]?).map (fun q => (q.2.1 64).2.2.1)).getD "") = some .int := by decide +kernel
set_option maxRecDepth 20000 in
theorem kr_int : Cond.arrayClass .int ∈ wsL_law := (kin_4 _ (List.mem_of_getElem? (i := 6) rfl))
set_option maxRecDepth 20000 in
theorem kr_boolean : Cond.arrayClass .boolean ∈ wsL_law := (kin_8 _ (List.mem_of_getElem? (i := 5) rfl))
set_option maxRecDepth 20000 in
theorem kr_long : Cond.arrayClass .long ∈ wsL_law := (kin_5 _ (List.mem_of_getElem? (i := 8) rfl))
set_option maxRecDepth 20000 in
theorem kw_max : xmathW Lib.Math.max.name Lib.Math.max.code 2 := ⟨(kin_4 _ (List.mem_of_getElem? (i := 3) rfl)), (kin_4 _ (List.mem_of_getElem? (i := 4) rfl)), (kin_4 _ (List.mem_of_getElem? (i := 5) rfl))⟩
set_option maxRecDepth 20000 in
theorem kw_min : xmathW Lib.Math.min.name Lib.Math.min.code 2 := ⟨(kin_13 _ (List.mem_of_getElem? (i := 20) rfl)), (kin_4 _ (List.mem_of_getElem? (i := 4) rfl)), (kin_13 _ (List.mem_of_getElem? (i := 21) rfl))⟩
set_option maxRecDepth 20000 in
theorem kw_abs : xmathW Lib.Math.abs.name Lib.Math.abs.code 1 := ⟨(kin_14 _ (List.mem_of_getElem? (i := 7) rfl)), (kin_4 _ (List.mem_of_getElem? (i := 4) rfl)), (kin_14 _ (List.mem_of_getElem? (i := 8) rfl))⟩
set_option maxRecDepth 20000 in
theorem kw_copy : Cond.native arraycopyName ∈ wsL_law ∧ Cond.static arraycopyName ∈ wsL_law ∧ Cond.initialized "java/lang/System" ∈ wsL_law := ⟨(kin_49 _ (List.mem_of_getElem? (i := 21) rfl)), (kin_49 _ (List.mem_of_getElem? (i := 22) rfl)), (kin_49 _ (List.mem_of_getElem? (i := 23) rfl))⟩
set_option maxRecDepth 20000 in
theorem kw_obj : Cond.instanceMethod Lib.objectInit ∈ wsL_law ∧ Cond.code Lib.objectInit ⟨#[0xb1]⟩ 1 none ∈ wsL_law := ⟨(kin_1 _ (List.mem_of_getElem? (i := 11) rfl)), (kin_1 _ (List.mem_of_getElem? (i := 12) rfl))⟩
