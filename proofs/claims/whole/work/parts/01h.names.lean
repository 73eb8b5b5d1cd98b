theorem inr_1 : ∀ w ∈ wsL_law_r1, w ∈ wsL_law := fun _ h => List.mem_append_left _ (List.mem_append_left _ (List.mem_append_left _ (List.mem_append_left _ (List.mem_append_left _ (List.mem_append_left _ (List.mem_append_left _ (List.mem_append_left _ (List.mem_append_left _ (List.mem_append_left _ (List.mem_append_left _ (List.mem_append_left _ (List.mem_append_left _ (h)))))))))))))
theorem inr_2 : ∀ w ∈ wsL_law_r2, w ∈ wsL_law := fun _ h => List.mem_append_left _ (List.mem_append_left _ (List.mem_append_left _ (List.mem_append_left _ (List.mem_append_left _ (List.mem_append_left _ (List.mem_append_left _ (List.mem_append_left _ (List.mem_append_left _ (List.mem_append_left _ (List.mem_append_left _ (List.mem_append_left _ (List.mem_append_right _ (List.mem_append_left _ (h))))))))))))))
theorem inr_3 : ∀ w ∈ wsL_law_r3, w ∈ wsL_law := fun _ h => List.mem_append_left _ (List.mem_append_left _ (List.mem_append_left _ (List.mem_append_left _ (List.mem_append_left _ (List.mem_append_left _ (List.mem_append_left _ (List.mem_append_left _ (List.mem_append_left _ (List.mem_append_left _ (List.mem_append_left _ (List.mem_append_left _ (List.mem_append_right _ (List.mem_append_right _ (List.mem_append_left _ (h)))))))))))))))
theorem inr_4 : ∀ w ∈ wsL_law_r4, w ∈ wsL_law := fun _ h => List.mem_append_left _ (List.mem_append_left _ (List.mem_append_left _ (List.mem_append_left _ (List.mem_append_left _ (List.mem_append_left _ (List.mem_append_left _ (List.mem_append_left _ (List.mem_append_left _ (List.mem_append_left _ (List.mem_append_left _ (List.mem_append_left _ (List.mem_append_right _ (List.mem_append_right _ (List.mem_append_right _ (List.mem_append_left _ (h))))))))))))))))
theorem inr_5 : ∀ w ∈ wsL_law_r5, w ∈ wsL_law := fun _ h => List.mem_append_left _ (List.mem_append_left _ (List.mem_append_left _ (List.mem_append_left _ (List.mem_append_left _ (List.mem_append_left _ (List.mem_append_left _ (List.mem_append_left _ (List.mem_append_left _ (List.mem_append_left _ (List.mem_append_left _ (List.mem_append_left _ (List.mem_append_right _ (List.mem_append_right _ (List.mem_append_right _ (List.mem_append_right _ (List.mem_append_left _ (h)))))))))))))))))
theorem inr_6 : ∀ w ∈ wsL_law_r6, w ∈ wsL_law := fun _ h => List.mem_append_left _ (List.mem_append_left _ (List.mem_append_left _ (List.mem_append_left _ (List.mem_append_left _ (List.mem_append_left _ (List.mem_append_left _ (List.mem_append_left _ (List.mem_append_left _ (List.mem_append_left _ (List.mem_append_left _ (List.mem_append_left _ (List.mem_append_right _ (List.mem_append_right _ (List.mem_append_right _ (List.mem_append_right _ (List.mem_append_right _ (List.mem_append_left _ (h))))))))))))))))))
theorem inr_7 : ∀ w ∈ wsL_law_r7, w ∈ wsL_law := fun _ h => List.mem_append_left _ (List.mem_append_left _ (List.mem_append_left _ (List.mem_append_left _ (List.mem_append_left _ (List.mem_append_left _ (List.mem_append_left _ (List.mem_append_left _ (List.mem_append_left _ (List.mem_append_left _ (List.mem_append_left _ (List.mem_append_left _ (List.mem_append_right _ (List.mem_append_right _ (List.mem_append_right _ (List.mem_append_right _ (List.mem_append_right _ (List.mem_append_right _ (List.mem_append_left _ (h)))))))))))))))))))
theorem inr_8 : ∀ w ∈ wsL_law_r8, w ∈ wsL_law := fun _ h => List.mem_append_left _ (List.mem_append_left _ (List.mem_append_left _ (List.mem_append_left _ (List.mem_append_left _ (List.mem_append_left _ (List.mem_append_left _ (List.mem_append_left _ (List.mem_append_left _ (List.mem_append_left _ (List.mem_append_left _ (List.mem_append_left _ (List.mem_append_right _ (List.mem_append_right _ (List.mem_append_right _ (List.mem_append_right _ (List.mem_append_right _ (List.mem_append_right _ (List.mem_append_right _ (List.mem_append_left _ (h))))))))))))))))))))
theorem inr_9 : ∀ w ∈ wsL_law_r9, w ∈ wsL_law := fun _ h => List.mem_append_left _ (List.mem_append_left _ (List.mem_append_left _ (List.mem_append_left _ (List.mem_append_left _ (List.mem_append_left _ (List.mem_append_left _ (List.mem_append_left _ (List.mem_append_left _ (List.mem_append_left _ (List.mem_append_left _ (List.mem_append_left _ (List.mem_append_right _ (List.mem_append_right _ (List.mem_append_right _ (List.mem_append_right _ (List.mem_append_right _ (List.mem_append_right _ (List.mem_append_right _ (List.mem_append_right _ (List.mem_append_left _ (h)))))))))))))))))))))
theorem inr_10 : ∀ w ∈ wsL_law_r10, w ∈ wsL_law := fun _ h => List.mem_append_left _ (List.mem_append_left _ (List.mem_append_left _ (List.mem_append_left _ (List.mem_append_left _ (List.mem_append_left _ (List.mem_append_left _ (List.mem_append_left _ (List.mem_append_left _ (List.mem_append_left _ (List.mem_append_left _ (List.mem_append_left _ (List.mem_append_right _ (List.mem_append_right _ (List.mem_append_right _ (List.mem_append_right _ (List.mem_append_right _ (List.mem_append_right _ (List.mem_append_right _ (List.mem_append_right _ (List.mem_append_right _ (List.mem_append_left _ (h))))))))))))))))))))))
theorem inr_11 : ∀ w ∈ wsL_law_r11, w ∈ wsL_law := fun _ h => List.mem_append_left _ (List.mem_append_left _ (List.mem_append_left _ (List.mem_append_left _ (List.mem_append_left _ (List.mem_append_left _ (List.mem_append_left _ (List.mem_append_left _ (List.mem_append_left _ (List.mem_append_left _ (List.mem_append_left _ (List.mem_append_left _ (List.mem_append_right _ (List.mem_append_right _ (List.mem_append_right _ (List.mem_append_right _ (List.mem_append_right _ (List.mem_append_right _ (List.mem_append_right _ (List.mem_append_right _ (List.mem_append_right _ (List.mem_append_right _ (List.mem_append_left _ (h)))))))))))))))))))))))
theorem inr_12 : ∀ w ∈ wsL_law_r12, w ∈ wsL_law := fun _ h => List.mem_append_left _ (List.mem_append_left _ (List.mem_append_left _ (List.mem_append_left _ (List.mem_append_left _ (List.mem_append_left _ (List.mem_append_left _ (List.mem_append_left _ (List.mem_append_left _ (List.mem_append_left _ (List.mem_append_left _ (List.mem_append_left _ (List.mem_append_right _ (List.mem_append_right _ (List.mem_append_right _ (List.mem_append_right _ (List.mem_append_right _ (List.mem_append_right _ (List.mem_append_right _ (List.mem_append_right _ (List.mem_append_right _ (List.mem_append_right _ (List.mem_append_right _ (List.mem_append_left _ (h))))))))))))))))))))))))
theorem inr_13 : ∀ w ∈ wsL_law_r13, w ∈ wsL_law := fun _ h => List.mem_append_left _ (List.mem_append_left _ (List.mem_append_left _ (List.mem_append_left _ (List.mem_append_left _ (List.mem_append_left _ (List.mem_append_left _ (List.mem_append_left _ (List.mem_append_left _ (List.mem_append_left _ (List.mem_append_left _ (List.mem_append_left _ (List.mem_append_right _ (List.mem_append_right _ (List.mem_append_right _ (List.mem_append_right _ (List.mem_append_right _ (List.mem_append_right _ (List.mem_append_right _ (List.mem_append_right _ (List.mem_append_right _ (List.mem_append_right _ (List.mem_append_right _ (List.mem_append_right _ (List.mem_append_left _ (h)))))))))))))))))))))))))
theorem inr_14 : ∀ w ∈ wsL_law_r14, w ∈ wsL_law := fun _ h => List.mem_append_left _ (List.mem_append_left _ (List.mem_append_left _ (List.mem_append_left _ (List.mem_append_left _ (List.mem_append_left _ (List.mem_append_left _ (List.mem_append_left _ (List.mem_append_left _ (List.mem_append_left _ (List.mem_append_left _ (List.mem_append_left _ (List.mem_append_right _ (List.mem_append_right _ (List.mem_append_right _ (List.mem_append_right _ (List.mem_append_right _ (List.mem_append_right _ (List.mem_append_right _ (List.mem_append_right _ (List.mem_append_right _ (List.mem_append_right _ (List.mem_append_right _ (List.mem_append_right _ (List.mem_append_right _ (List.mem_append_left _ (h))))))))))))))))))))))))))
theorem inr_15 : ∀ w ∈ wsL_law_r15, w ∈ wsL_law := fun _ h => List.mem_append_left _ (List.mem_append_left _ (List.mem_append_left _ (List.mem_append_left _ (List.mem_append_left _ (List.mem_append_left _ (List.mem_append_left _ (List.mem_append_left _ (List.mem_append_left _ (List.mem_append_left _ (List.mem_append_left _ (List.mem_append_left _ (List.mem_append_right _ (List.mem_append_right _ (List.mem_append_right _ (List.mem_append_right _ (List.mem_append_right _ (List.mem_append_right _ (List.mem_append_right _ (List.mem_append_right _ (List.mem_append_right _ (List.mem_append_right _ (List.mem_append_right _ (List.mem_append_right _ (List.mem_append_right _ (List.mem_append_right _ (List.mem_append_left _ (h)))))))))))))))))))))))))))
theorem inr_16 : ∀ w ∈ wsL_law_r16, w ∈ wsL_law := fun _ h => List.mem_append_left _ (List.mem_append_left _ (List.mem_append_left _ (List.mem_append_left _ (List.mem_append_left _ (List.mem_append_left _ (List.mem_append_left _ (List.mem_append_left _ (List.mem_append_left _ (List.mem_append_left _ (List.mem_append_left _ (List.mem_append_left _ (List.mem_append_right _ (List.mem_append_right _ (List.mem_append_right _ (List.mem_append_right _ (List.mem_append_right _ (List.mem_append_right _ (List.mem_append_right _ (List.mem_append_right _ (List.mem_append_right _ (List.mem_append_right _ (List.mem_append_right _ (List.mem_append_right _ (List.mem_append_right _ (List.mem_append_right _ (List.mem_append_right _ (List.mem_append_left _ (h))))))))))))))))))))))))))))
theorem inr_17 : ∀ w ∈ wsL_law_r17, w ∈ wsL_law := fun _ h => List.mem_append_left _ (List.mem_append_left _ (List.mem_append_left _ (List.mem_append_left _ (List.mem_append_left _ (List.mem_append_left _ (List.mem_append_left _ (List.mem_append_left _ (List.mem_append_left _ (List.mem_append_left _ (List.mem_append_left _ (List.mem_append_left _ (List.mem_append_right _ (List.mem_append_right _ (List.mem_append_right _ (List.mem_append_right _ (List.mem_append_right _ (List.mem_append_right _ (List.mem_append_right _ (List.mem_append_right _ (List.mem_append_right _ (List.mem_append_right _ (List.mem_append_right _ (List.mem_append_right _ (List.mem_append_right _ (List.mem_append_right _ (List.mem_append_right _ (List.mem_append_right _ (List.mem_append_left _ (h)))))))))))))))))))))))))))))
theorem inr_18 : ∀ w ∈ wsL_law_r18, w ∈ wsL_law := fun _ h => List.mem_append_left _ (List.mem_append_left _ (List.mem_append_left _ (List.mem_append_left _ (List.mem_append_left _ (List.mem_append_left _ (List.mem_append_left _ (List.mem_append_left _ (List.mem_append_left _ (List.mem_append_left _ (List.mem_append_left _ (List.mem_append_left _ (List.mem_append_right _ (List.mem_append_right _ (List.mem_append_right _ (List.mem_append_right _ (List.mem_append_right _ (List.mem_append_right _ (List.mem_append_right _ (List.mem_append_right _ (List.mem_append_right _ (List.mem_append_right _ (List.mem_append_right _ (List.mem_append_right _ (List.mem_append_right _ (List.mem_append_right _ (List.mem_append_right _ (List.mem_append_right _ (List.mem_append_right _ (List.mem_append_left _ (h))))))))))))))))))))))))))))))
theorem inr_19 : ∀ w ∈ wsL_law_r19, w ∈ wsL_law := fun _ h => List.mem_append_left _ (List.mem_append_left _ (List.mem_append_left _ (List.mem_append_left _ (List.mem_append_left _ (List.mem_append_left _ (List.mem_append_left _ (List.mem_append_left _ (List.mem_append_left _ (List.mem_append_left _ (List.mem_append_left _ (List.mem_append_left _ (List.mem_append_right _ (List.mem_append_right _ (List.mem_append_right _ (List.mem_append_right _ (List.mem_append_right _ (List.mem_append_right _ (List.mem_append_right _ (List.mem_append_right _ (List.mem_append_right _ (List.mem_append_right _ (List.mem_append_right _ (List.mem_append_right _ (List.mem_append_right _ (List.mem_append_right _ (List.mem_append_right _ (List.mem_append_right _ (List.mem_append_right _ (List.mem_append_right _ (List.mem_append_left _ (h)))))))))))))))))))))))))))))))
theorem inr_20 : ∀ w ∈ wsL_law_r20, w ∈ wsL_law := fun _ h => List.mem_append_left _ (List.mem_append_left _ (List.mem_append_left _ (List.mem_append_left _ (List.mem_append_left _ (List.mem_append_left _ (List.mem_append_left _ (List.mem_append_left _ (List.mem_append_left _ (List.mem_append_left _ (List.mem_append_left _ (List.mem_append_left _ (List.mem_append_right _ (List.mem_append_right _ (List.mem_append_right _ (List.mem_append_right _ (List.mem_append_right _ (List.mem_append_right _ (List.mem_append_right _ (List.mem_append_right _ (List.mem_append_right _ (List.mem_append_right _ (List.mem_append_right _ (List.mem_append_right _ (List.mem_append_right _ (List.mem_append_right _ (List.mem_append_right _ (List.mem_append_right _ (List.mem_append_right _ (List.mem_append_right _ (List.mem_append_right _ (List.mem_append_left _ (h))))))))))))))))))))))))))))))))
theorem inr_21 : ∀ w ∈ wsL_law_r21, w ∈ wsL_law := fun _ h => List.mem_append_left _ (List.mem_append_left _ (List.mem_append_left _ (List.mem_append_left _ (List.mem_append_left _ (List.mem_append_left _ (List.mem_append_left _ (List.mem_append_left _ (List.mem_append_left _ (List.mem_append_left _ (List.mem_append_left _ (List.mem_append_left _ (List.mem_append_right _ (List.mem_append_right _ (List.mem_append_right _ (List.mem_append_right _ (List.mem_append_right _ (List.mem_append_right _ (List.mem_append_right _ (List.mem_append_right _ (List.mem_append_right _ (List.mem_append_right _ (List.mem_append_right _ (List.mem_append_right _ (List.mem_append_right _ (List.mem_append_right _ (List.mem_append_right _ (List.mem_append_right _ (List.mem_append_right _ (List.mem_append_right _ (List.mem_append_right _ (List.mem_append_right _ (List.mem_append_left _ (h)))))))))))))))))))))))))))))))))
theorem inr_22 : ∀ w ∈ wsL_law_r22, w ∈ wsL_law := fun _ h => List.mem_append_left _ (List.mem_append_left _ (List.mem_append_left _ (List.mem_append_left _ (List.mem_append_left _ (List.mem_append_left _ (List.mem_append_left _ (List.mem_append_left _ (List.mem_append_left _ (List.mem_append_left _ (List.mem_append_left _ (List.mem_append_left _ (List.mem_append_right _ (List.mem_append_right _ (List.mem_append_right _ (List.mem_append_right _ (List.mem_append_right _ (List.mem_append_right _ (List.mem_append_right _ (List.mem_append_right _ (List.mem_append_right _ (List.mem_append_right _ (List.mem_append_right _ (List.mem_append_right _ (List.mem_append_right _ (List.mem_append_right _ (List.mem_append_right _ (List.mem_append_right _ (List.mem_append_right _ (List.mem_append_right _ (List.mem_append_right _ (List.mem_append_right _ (List.mem_append_right _ (List.mem_append_left _ (h))))))))))))))))))))))))))))))))))
theorem inr_23 : ∀ w ∈ wsL_law_r23, w ∈ wsL_law := fun _ h => List.mem_append_left _ (List.mem_append_left _ (List.mem_append_left _ (List.mem_append_left _ (List.mem_append_left _ (List.mem_append_left _ (List.mem_append_left _ (List.mem_append_left _ (List.mem_append_left _ (List.mem_append_left _ (List.mem_append_left _ (List.mem_append_left _ (List.mem_append_right _ (List.mem_append_right _ (List.mem_append_right _ (List.mem_append_right _ (List.mem_append_right _ (List.mem_append_right _ (List.mem_append_right _ (List.mem_append_right _ (List.mem_append_right _ (List.mem_append_right _ (List.mem_append_right _ (List.mem_append_right _ (List.mem_append_right _ (List.mem_append_right _ (List.mem_append_right _ (List.mem_append_right _ (List.mem_append_right _ (List.mem_append_right _ (List.mem_append_right _ (List.mem_append_right _ (List.mem_append_right _ (List.mem_append_right _ (List.mem_append_left _ (h)))))))))))))))))))))))))))))))))))
theorem inr_24 : ∀ w ∈ wsL_law_r24, w ∈ wsL_law := fun _ h => List.mem_append_left _ (List.mem_append_left _ (List.mem_append_left _ (List.mem_append_left _ (List.mem_append_left _ (List.mem_append_left _ (List.mem_append_left _ (List.mem_append_left _ (List.mem_append_left _ (List.mem_append_left _ (List.mem_append_left _ (List.mem_append_left _ (List.mem_append_right _ (List.mem_append_right _ (List.mem_append_right _ (List.mem_append_right _ (List.mem_append_right _ (List.mem_append_right _ (List.mem_append_right _ (List.mem_append_right _ (List.mem_append_right _ (List.mem_append_right _ (List.mem_append_right _ (List.mem_append_right _ (List.mem_append_right _ (List.mem_append_right _ (List.mem_append_right _ (List.mem_append_right _ (List.mem_append_right _ (List.mem_append_right _ (List.mem_append_right _ (List.mem_append_right _ (List.mem_append_right _ (List.mem_append_right _ (List.mem_append_right _ (List.mem_append_left _ (h))))))))))))))))))))))))))))))))))))
theorem inr_25 : ∀ w ∈ wsL_law_r25, w ∈ wsL_law := fun _ h => List.mem_append_left _ (List.mem_append_left _ (List.mem_append_left _ (List.mem_append_left _ (List.mem_append_left _ (List.mem_append_left _ (List.mem_append_left _ (List.mem_append_left _ (List.mem_append_left _ (List.mem_append_left _ (List.mem_append_left _ (List.mem_append_left _ (List.mem_append_right _ (List.mem_append_right _ (List.mem_append_right _ (List.mem_append_right _ (List.mem_append_right _ (List.mem_append_right _ (List.mem_append_right _ (List.mem_append_right _ (List.mem_append_right _ (List.mem_append_right _ (List.mem_append_right _ (List.mem_append_right _ (List.mem_append_right _ (List.mem_append_right _ (List.mem_append_right _ (List.mem_append_right _ (List.mem_append_right _ (List.mem_append_right _ (List.mem_append_right _ (List.mem_append_right _ (List.mem_append_right _ (List.mem_append_right _ (List.mem_append_right _ (List.mem_append_right _ (List.mem_append_left _ (h)))))))))))))))))))))))))))))))))))))
theorem inr_26 : ∀ w ∈ wsL_law_r26, w ∈ wsL_law := fun _ h => List.mem_append_left _ (List.mem_append_left _ (List.mem_append_left _ (List.mem_append_left _ (List.mem_append_left _ (List.mem_append_left _ (List.mem_append_left _ (List.mem_append_left _ (List.mem_append_left _ (List.mem_append_left _ (List.mem_append_left _ (List.mem_append_left _ (List.mem_append_right _ (List.mem_append_right _ (List.mem_append_right _ (List.mem_append_right _ (List.mem_append_right _ (List.mem_append_right _ (List.mem_append_right _ (List.mem_append_right _ (List.mem_append_right _ (List.mem_append_right _ (List.mem_append_right _ (List.mem_append_right _ (List.mem_append_right _ (List.mem_append_right _ (List.mem_append_right _ (List.mem_append_right _ (List.mem_append_right _ (List.mem_append_right _ (List.mem_append_right _ (List.mem_append_right _ (List.mem_append_right _ (List.mem_append_right _ (List.mem_append_right _ (List.mem_append_right _ (List.mem_append_right _ (List.mem_append_left _ (h))))))))))))))))))))))))))))))))))))))
theorem inr_27 : ∀ w ∈ wsL_law_r27, w ∈ wsL_law := fun _ h => List.mem_append_left _ (List.mem_append_left _ (List.mem_append_left _ (List.mem_append_left _ (List.mem_append_left _ (List.mem_append_left _ (List.mem_append_left _ (List.mem_append_left _ (List.mem_append_left _ (List.mem_append_left _ (List.mem_append_left _ (List.mem_append_left _ (List.mem_append_right _ (List.mem_append_right _ (List.mem_append_right _ (List.mem_append_right _ (List.mem_append_right _ (List.mem_append_right _ (List.mem_append_right _ (List.mem_append_right _ (List.mem_append_right _ (List.mem_append_right _ (List.mem_append_right _ (List.mem_append_right _ (List.mem_append_right _ (List.mem_append_right _ (List.mem_append_right _ (List.mem_append_right _ (List.mem_append_right _ (List.mem_append_right _ (List.mem_append_right _ (List.mem_append_right _ (List.mem_append_right _ (List.mem_append_right _ (List.mem_append_right _ (List.mem_append_right _ (List.mem_append_right _ (List.mem_append_right _ (List.mem_append_left _ (h)))))))))))))))))))))))))))))))))))))))
theorem inr_28 : ∀ w ∈ wsL_law_r28, w ∈ wsL_law := fun _ h => List.mem_append_left _ (List.mem_append_left _ (List.mem_append_left _ (List.mem_append_left _ (List.mem_append_left _ (List.mem_append_left _ (List.mem_append_left _ (List.mem_append_left _ (List.mem_append_left _ (List.mem_append_left _ (List.mem_append_left _ (List.mem_append_left _ (List.mem_append_right _ (List.mem_append_right _ (List.mem_append_right _ (List.mem_append_right _ (List.mem_append_right _ (List.mem_append_right _ (List.mem_append_right _ (List.mem_append_right _ (List.mem_append_right _ (List.mem_append_right _ (List.mem_append_right _ (List.mem_append_right _ (List.mem_append_right _ (List.mem_append_right _ (List.mem_append_right _ (List.mem_append_right _ (List.mem_append_right _ (List.mem_append_right _ (List.mem_append_right _ (List.mem_append_right _ (List.mem_append_right _ (List.mem_append_right _ (List.mem_append_right _ (List.mem_append_right _ (List.mem_append_right _ (List.mem_append_right _ (List.mem_append_right _ (List.mem_append_left _ (h))))))))))))))))))))))))))))))))))))))))
theorem inr_29 : ∀ w ∈ wsL_law_r29, w ∈ wsL_law := fun _ h => List.mem_append_left _ (List.mem_append_left _ (List.mem_append_left _ (List.mem_append_left _ (List.mem_append_left _ (List.mem_append_left _ (List.mem_append_left _ (List.mem_append_left _ (List.mem_append_left _ (List.mem_append_left _ (List.mem_append_left _ (List.mem_append_left _ (List.mem_append_right _ (List.mem_append_right _ (List.mem_append_right _ (List.mem_append_right _ (List.mem_append_right _ (List.mem_append_right _ (List.mem_append_right _ (List.mem_append_right _ (List.mem_append_right _ (List.mem_append_right _ (List.mem_append_right _ (List.mem_append_right _ (List.mem_append_right _ (List.mem_append_right _ (List.mem_append_right _ (List.mem_append_right _ (List.mem_append_right _ (List.mem_append_right _ (List.mem_append_right _ (List.mem_append_right _ (List.mem_append_right _ (List.mem_append_right _ (List.mem_append_right _ (List.mem_append_right _ (List.mem_append_right _ (List.mem_append_right _ (List.mem_append_right _ (List.mem_append_right _ (List.mem_append_left _ (h)))))))))))))))))))))))))))))))))))))))))
theorem inr_30 : ∀ w ∈ wsL_law_r30, w ∈ wsL_law := fun _ h => List.mem_append_left _ (List.mem_append_left _ (List.mem_append_left _ (List.mem_append_left _ (List.mem_append_left _ (List.mem_append_left _ (List.mem_append_left _ (List.mem_append_left _ (List.mem_append_left _ (List.mem_append_left _ (List.mem_append_left _ (List.mem_append_left _ (List.mem_append_right _ (List.mem_append_right _ (List.mem_append_right _ (List.mem_append_right _ (List.mem_append_right _ (List.mem_append_right _ (List.mem_append_right _ (List.mem_append_right _ (List.mem_append_right _ (List.mem_append_right _ (List.mem_append_right _ (List.mem_append_right _ (List.mem_append_right _ (List.mem_append_right _ (List.mem_append_right _ (List.mem_append_right _ (List.mem_append_right _ (List.mem_append_right _ (List.mem_append_right _ (List.mem_append_right _ (List.mem_append_right _ (List.mem_append_right _ (List.mem_append_right _ (List.mem_append_right _ (List.mem_append_right _ (List.mem_append_right _ (List.mem_append_right _ (List.mem_append_right _ (List.mem_append_right _ (List.mem_append_left _ (h))))))))))))))))))))))))))))))))))))))))))
theorem inr_31 : ∀ w ∈ wsL_law_r31, w ∈ wsL_law := fun _ h => List.mem_append_left _ (List.mem_append_left _ (List.mem_append_left _ (List.mem_append_left _ (List.mem_append_left _ (List.mem_append_left _ (List.mem_append_left _ (List.mem_append_left _ (List.mem_append_left _ (List.mem_append_left _ (List.mem_append_left _ (List.mem_append_left _ (List.mem_append_right _ (List.mem_append_right _ (List.mem_append_right _ (List.mem_append_right _ (List.mem_append_right _ (List.mem_append_right _ (List.mem_append_right _ (List.mem_append_right _ (List.mem_append_right _ (List.mem_append_right _ (List.mem_append_right _ (List.mem_append_right _ (List.mem_append_right _ (List.mem_append_right _ (List.mem_append_right _ (List.mem_append_right _ (List.mem_append_right _ (List.mem_append_right _ (List.mem_append_right _ (List.mem_append_right _ (List.mem_append_right _ (List.mem_append_right _ (List.mem_append_right _ (List.mem_append_right _ (List.mem_append_right _ (List.mem_append_right _ (List.mem_append_right _ (List.mem_append_right _ (List.mem_append_right _ (List.mem_append_right _ (List.mem_append_left _ (h)))))))))))))))))))))))))))))))))))))))))))
theorem inr_32 : ∀ w ∈ wsL_law_r32, w ∈ wsL_law := fun _ h => List.mem_append_left _ (List.mem_append_left _ (List.mem_append_left _ (List.mem_append_left _ (List.mem_append_left _ (List.mem_append_left _ (List.mem_append_left _ (List.mem_append_left _ (List.mem_append_left _ (List.mem_append_left _ (List.mem_append_left _ (List.mem_append_left _ (List.mem_append_right _ (List.mem_append_right _ (List.mem_append_right _ (List.mem_append_right _ (List.mem_append_right _ (List.mem_append_right _ (List.mem_append_right _ (List.mem_append_right _ (List.mem_append_right _ (List.mem_append_right _ (List.mem_append_right _ (List.mem_append_right _ (List.mem_append_right _ (List.mem_append_right _ (List.mem_append_right _ (List.mem_append_right _ (List.mem_append_right _ (List.mem_append_right _ (List.mem_append_right _ (List.mem_append_right _ (List.mem_append_right _ (List.mem_append_right _ (List.mem_append_right _ (List.mem_append_right _ (List.mem_append_right _ (List.mem_append_right _ (List.mem_append_right _ (List.mem_append_right _ (List.mem_append_right _ (List.mem_append_right _ (List.mem_append_right _ (List.mem_append_left _ (h))))))))))))))))))))))))))))))))))))))))))))
theorem inr_33 : ∀ w ∈ wsL_law_r33, w ∈ wsL_law := fun _ h => List.mem_append_left _ (List.mem_append_left _ (List.mem_append_left _ (List.mem_append_left _ (List.mem_append_left _ (List.mem_append_left _ (List.mem_append_left _ (List.mem_append_left _ (List.mem_append_left _ (List.mem_append_left _ (List.mem_append_left _ (List.mem_append_left _ (List.mem_append_right _ (List.mem_append_right _ (List.mem_append_right _ (List.mem_append_right _ (List.mem_append_right _ (List.mem_append_right _ (List.mem_append_right _ (List.mem_append_right _ (List.mem_append_right _ (List.mem_append_right _ (List.mem_append_right _ (List.mem_append_right _ (List.mem_append_right _ (List.mem_append_right _ (List.mem_append_right _ (List.mem_append_right _ (List.mem_append_right _ (List.mem_append_right _ (List.mem_append_right _ (List.mem_append_right _ (List.mem_append_right _ (List.mem_append_right _ (List.mem_append_right _ (List.mem_append_right _ (List.mem_append_right _ (List.mem_append_right _ (List.mem_append_right _ (List.mem_append_right _ (List.mem_append_right _ (List.mem_append_right _ (List.mem_append_right _ (List.mem_append_right _ (List.mem_append_left _ (h)))))))))))))))))))))))))))))))))))))))))))))
theorem inr_34 : ∀ w ∈ wsL_law_r34, w ∈ wsL_law := fun _ h => List.mem_append_left _ (List.mem_append_left _ (List.mem_append_left _ (List.mem_append_left _ (List.mem_append_left _ (List.mem_append_left _ (List.mem_append_left _ (List.mem_append_left _ (List.mem_append_left _ (List.mem_append_left _ (List.mem_append_left _ (List.mem_append_left _ (List.mem_append_right _ (List.mem_append_right _ (List.mem_append_right _ (List.mem_append_right _ (List.mem_append_right _ (List.mem_append_right _ (List.mem_append_right _ (List.mem_append_right _ (List.mem_append_right _ (List.mem_append_right _ (List.mem_append_right _ (List.mem_append_right _ (List.mem_append_right _ (List.mem_append_right _ (List.mem_append_right _ (List.mem_append_right _ (List.mem_append_right _ (List.mem_append_right _ (List.mem_append_right _ (List.mem_append_right _ (List.mem_append_right _ (List.mem_append_right _ (List.mem_append_right _ (List.mem_append_right _ (List.mem_append_right _ (List.mem_append_right _ (List.mem_append_right _ (List.mem_append_right _ (List.mem_append_right _ (List.mem_append_right _ (List.mem_append_right _ (List.mem_append_right _ (List.mem_append_right _ (List.mem_append_left _ (h))))))))))))))))))))))))))))))))))))))))))))))
theorem inr_35 : ∀ w ∈ wsL_law_r35, w ∈ wsL_law := fun _ h => List.mem_append_left _ (List.mem_append_left _ (List.mem_append_left _ (List.mem_append_left _ (List.mem_append_left _ (List.mem_append_left _ (List.mem_append_left _ (List.mem_append_left _ (List.mem_append_left _ (List.mem_append_left _ (List.mem_append_left _ (List.mem_append_left _ (List.mem_append_right _ (List.mem_append_right _ (List.mem_append_right _ (List.mem_append_right _ (List.mem_append_right _ (List.mem_append_right _ (List.mem_append_right _ (List.mem_append_right _ (List.mem_append_right _ (List.mem_append_right _ (List.mem_append_right _ (List.mem_append_right _ (List.mem_append_right _ (List.mem_append_right _ (List.mem_append_right _ (List.mem_append_right _ (List.mem_append_right _ (List.mem_append_right _ (List.mem_append_right _ (List.mem_append_right _ (List.mem_append_right _ (List.mem_append_right _ (List.mem_append_right _ (List.mem_append_right _ (List.mem_append_right _ (List.mem_append_right _ (List.mem_append_right _ (List.mem_append_right _ (List.mem_append_right _ (List.mem_append_right _ (List.mem_append_right _ (List.mem_append_right _ (List.mem_append_right _ (List.mem_append_right _ (List.mem_append_left _ (h)))))))))))))))))))))))))))))))))))))))))))))))
theorem inr_36 : ∀ w ∈ wsL_law_r36, w ∈ wsL_law := fun _ h => List.mem_append_left _ (List.mem_append_left _ (List.mem_append_left _ (List.mem_append_left _ (List.mem_append_left _ (List.mem_append_left _ (List.mem_append_left _ (List.mem_append_left _ (List.mem_append_left _ (List.mem_append_left _ (List.mem_append_left _ (List.mem_append_left _ (List.mem_append_right _ (List.mem_append_right _ (List.mem_append_right _ (List.mem_append_right _ (List.mem_append_right _ (List.mem_append_right _ (List.mem_append_right _ (List.mem_append_right _ (List.mem_append_right _ (List.mem_append_right _ (List.mem_append_right _ (List.mem_append_right _ (List.mem_append_right _ (List.mem_append_right _ (List.mem_append_right _ (List.mem_append_right _ (List.mem_append_right _ (List.mem_append_right _ (List.mem_append_right _ (List.mem_append_right _ (List.mem_append_right _ (List.mem_append_right _ (List.mem_append_right _ (List.mem_append_right _ (List.mem_append_right _ (List.mem_append_right _ (List.mem_append_right _ (List.mem_append_right _ (List.mem_append_right _ (List.mem_append_right _ (List.mem_append_right _ (List.mem_append_right _ (List.mem_append_right _ (List.mem_append_right _ (List.mem_append_right _ (List.mem_append_left _ (h))))))))))))))))))))))))))))))))))))))))))))))))
theorem inr_37 : ∀ w ∈ wsL_law_r37, w ∈ wsL_law := fun _ h => List.mem_append_left _ (List.mem_append_left _ (List.mem_append_left _ (List.mem_append_left _ (List.mem_append_left _ (List.mem_append_left _ (List.mem_append_left _ (List.mem_append_left _ (List.mem_append_left _ (List.mem_append_left _ (List.mem_append_left _ (List.mem_append_left _ (List.mem_append_right _ (List.mem_append_right _ (List.mem_append_right _ (List.mem_append_right _ (List.mem_append_right _ (List.mem_append_right _ (List.mem_append_right _ (List.mem_append_right _ (List.mem_append_right _ (List.mem_append_right _ (List.mem_append_right _ (List.mem_append_right _ (List.mem_append_right _ (List.mem_append_right _ (List.mem_append_right _ (List.mem_append_right _ (List.mem_append_right _ (List.mem_append_right _ (List.mem_append_right _ (List.mem_append_right _ (List.mem_append_right _ (List.mem_append_right _ (List.mem_append_right _ (List.mem_append_right _ (List.mem_append_right _ (List.mem_append_right _ (List.mem_append_right _ (List.mem_append_right _ (List.mem_append_right _ (List.mem_append_right _ (List.mem_append_right _ (List.mem_append_right _ (List.mem_append_right _ (List.mem_append_right _ (List.mem_append_right _ (List.mem_append_right _ (List.mem_append_left _ (h)))))))))))))))))))))))))))))))))))))))))))))))))
theorem inr_38 : ∀ w ∈ wsL_law_r38, w ∈ wsL_law := fun _ h => List.mem_append_left _ (List.mem_append_left _ (List.mem_append_left _ (List.mem_append_left _ (List.mem_append_left _ (List.mem_append_left _ (List.mem_append_left _ (List.mem_append_left _ (List.mem_append_left _ (List.mem_append_left _ (List.mem_append_left _ (List.mem_append_left _ (List.mem_append_right _ (List.mem_append_right _ (List.mem_append_right _ (List.mem_append_right _ (List.mem_append_right _ (List.mem_append_right _ (List.mem_append_right _ (List.mem_append_right _ (List.mem_append_right _ (List.mem_append_right _ (List.mem_append_right _ (List.mem_append_right _ (List.mem_append_right _ (List.mem_append_right _ (List.mem_append_right _ (List.mem_append_right _ (List.mem_append_right _ (List.mem_append_right _ (List.mem_append_right _ (List.mem_append_right _ (List.mem_append_right _ (List.mem_append_right _ (List.mem_append_right _ (List.mem_append_right _ (List.mem_append_right _ (List.mem_append_right _ (List.mem_append_right _ (List.mem_append_right _ (List.mem_append_right _ (List.mem_append_right _ (List.mem_append_right _ (List.mem_append_right _ (List.mem_append_right _ (List.mem_append_right _ (List.mem_append_right _ (List.mem_append_right _ (List.mem_append_right _ (List.mem_append_left _ (h))))))))))))))))))))))))))))))))))))))))))))))))))
theorem inr_39 : ∀ w ∈ wsL_law_r39, w ∈ wsL_law := fun _ h => List.mem_append_left _ (List.mem_append_left _ (List.mem_append_left _ (List.mem_append_left _ (List.mem_append_left _ (List.mem_append_left _ (List.mem_append_left _ (List.mem_append_left _ (List.mem_append_left _ (List.mem_append_left _ (List.mem_append_left _ (List.mem_append_left _ (List.mem_append_right _ (List.mem_append_right _ (List.mem_append_right _ (List.mem_append_right _ (List.mem_append_right _ (List.mem_append_right _ (List.mem_append_right _ (List.mem_append_right _ (List.mem_append_right _ (List.mem_append_right _ (List.mem_append_right _ (List.mem_append_right _ (List.mem_append_right _ (List.mem_append_right _ (List.mem_append_right _ (List.mem_append_right _ (List.mem_append_right _ (List.mem_append_right _ (List.mem_append_right _ (List.mem_append_right _ (List.mem_append_right _ (List.mem_append_right _ (List.mem_append_right _ (List.mem_append_right _ (List.mem_append_right _ (List.mem_append_right _ (List.mem_append_right _ (List.mem_append_right _ (List.mem_append_right _ (List.mem_append_right _ (List.mem_append_right _ (List.mem_append_right _ (List.mem_append_right _ (List.mem_append_right _ (List.mem_append_right _ (List.mem_append_right _ (List.mem_append_right _ (List.mem_append_right _ (List.mem_append_left _ (h)))))))))))))))))))))))))))))))))))))))))))))))))))
theorem inr_40 : ∀ w ∈ wsL_law_r40, w ∈ wsL_law := fun _ h => List.mem_append_left _ (List.mem_append_left _ (List.mem_append_left _ (List.mem_append_left _ (List.mem_append_left _ (List.mem_append_left _ (List.mem_append_left _ (List.mem_append_left _ (List.mem_append_left _ (List.mem_append_left _ (List.mem_append_left _ (List.mem_append_left _ (List.mem_append_right _ (List.mem_append_right _ (List.mem_append_right _ (List.mem_append_right _ (List.mem_append_right _ (List.mem_append_right _ (List.mem_append_right _ (List.mem_append_right _ (List.mem_append_right _ (List.mem_append_right _ (List.mem_append_right _ (List.mem_append_right _ (List.mem_append_right _ (List.mem_append_right _ (List.mem_append_right _ (List.mem_append_right _ (List.mem_append_right _ (List.mem_append_right _ (List.mem_append_right _ (List.mem_append_right _ (List.mem_append_right _ (List.mem_append_right _ (List.mem_append_right _ (List.mem_append_right _ (List.mem_append_right _ (List.mem_append_right _ (List.mem_append_right _ (List.mem_append_right _ (List.mem_append_right _ (List.mem_append_right _ (List.mem_append_right _ (List.mem_append_right _ (List.mem_append_right _ (List.mem_append_right _ (List.mem_append_right _ (List.mem_append_right _ (List.mem_append_right _ (List.mem_append_right _ (List.mem_append_right _ (List.mem_append_left _ (h))))))))))))))))))))))))))))))))))))))))))))))))))))
theorem inr_41 : ∀ w ∈ wsL_law_r41, w ∈ wsL_law := fun _ h => List.mem_append_left _ (List.mem_append_left _ (List.mem_append_left _ (List.mem_append_left _ (List.mem_append_left _ (List.mem_append_left _ (List.mem_append_left _ (List.mem_append_left _ (List.mem_append_left _ (List.mem_append_left _ (List.mem_append_left _ (List.mem_append_left _ (List.mem_append_right _ (List.mem_append_right _ (List.mem_append_right _ (List.mem_append_right _ (List.mem_append_right _ (List.mem_append_right _ (List.mem_append_right _ (List.mem_append_right _ (List.mem_append_right _ (List.mem_append_right _ (List.mem_append_right _ (List.mem_append_right _ (List.mem_append_right _ (List.mem_append_right _ (List.mem_append_right _ (List.mem_append_right _ (List.mem_append_right _ (List.mem_append_right _ (List.mem_append_right _ (List.mem_append_right _ (List.mem_append_right _ (List.mem_append_right _ (List.mem_append_right _ (List.mem_append_right _ (List.mem_append_right _ (List.mem_append_right _ (List.mem_append_right _ (List.mem_append_right _ (List.mem_append_right _ (List.mem_append_right _ (List.mem_append_right _ (List.mem_append_right _ (List.mem_append_right _ (List.mem_append_right _ (List.mem_append_right _ (List.mem_append_right _ (List.mem_append_right _ (List.mem_append_right _ (List.mem_append_right _ (List.mem_append_right _ (List.mem_append_left _ (h)))))))))))))))))))))))))))))))))))))))))))))))))))))
theorem inr_42 : ∀ w ∈ wsL_law_r42, w ∈ wsL_law := fun _ h => List.mem_append_left _ (List.mem_append_left _ (List.mem_append_left _ (List.mem_append_left _ (List.mem_append_left _ (List.mem_append_left _ (List.mem_append_left _ (List.mem_append_left _ (List.mem_append_left _ (List.mem_append_left _ (List.mem_append_left _ (List.mem_append_left _ (List.mem_append_right _ (List.mem_append_right _ (List.mem_append_right _ (List.mem_append_right _ (List.mem_append_right _ (List.mem_append_right _ (List.mem_append_right _ (List.mem_append_right _ (List.mem_append_right _ (List.mem_append_right _ (List.mem_append_right _ (List.mem_append_right _ (List.mem_append_right _ (List.mem_append_right _ (List.mem_append_right _ (List.mem_append_right _ (List.mem_append_right _ (List.mem_append_right _ (List.mem_append_right _ (List.mem_append_right _ (List.mem_append_right _ (List.mem_append_right _ (List.mem_append_right _ (List.mem_append_right _ (List.mem_append_right _ (List.mem_append_right _ (List.mem_append_right _ (List.mem_append_right _ (List.mem_append_right _ (List.mem_append_right _ (List.mem_append_right _ (List.mem_append_right _ (List.mem_append_right _ (List.mem_append_right _ (List.mem_append_right _ (List.mem_append_right _ (List.mem_append_right _ (List.mem_append_right _ (List.mem_append_right _ (List.mem_append_right _ (List.mem_append_right _ (List.mem_append_left _ (h))))))))))))))))))))))))))))))))))))))))))))))))))))))
theorem inr_43 : ∀ w ∈ wsL_law_r43, w ∈ wsL_law := fun _ h => List.mem_append_left _ (List.mem_append_left _ (List.mem_append_left _ (List.mem_append_left _ (List.mem_append_left _ (List.mem_append_left _ (List.mem_append_left _ (List.mem_append_left _ (List.mem_append_left _ (List.mem_append_left _ (List.mem_append_left _ (List.mem_append_left _ (List.mem_append_right _ (List.mem_append_right _ (List.mem_append_right _ (List.mem_append_right _ (List.mem_append_right _ (List.mem_append_right _ (List.mem_append_right _ (List.mem_append_right _ (List.mem_append_right _ (List.mem_append_right _ (List.mem_append_right _ (List.mem_append_right _ (List.mem_append_right _ (List.mem_append_right _ (List.mem_append_right _ (List.mem_append_right _ (List.mem_append_right _ (List.mem_append_right _ (List.mem_append_right _ (List.mem_append_right _ (List.mem_append_right _ (List.mem_append_right _ (List.mem_append_right _ (List.mem_append_right _ (List.mem_append_right _ (List.mem_append_right _ (List.mem_append_right _ (List.mem_append_right _ (List.mem_append_right _ (List.mem_append_right _ (List.mem_append_right _ (List.mem_append_right _ (List.mem_append_right _ (List.mem_append_right _ (List.mem_append_right _ (List.mem_append_right _ (List.mem_append_right _ (List.mem_append_right _ (List.mem_append_right _ (List.mem_append_right _ (List.mem_append_right _ (List.mem_append_right _ (List.mem_append_left _ (h)))))))))))))))))))))))))))))))))))))))))))))))))))))))
theorem inr_44 : ∀ w ∈ wsL_law_r44, w ∈ wsL_law := fun _ h => List.mem_append_left _ (List.mem_append_left _ (List.mem_append_left _ (List.mem_append_left _ (List.mem_append_left _ (List.mem_append_left _ (List.mem_append_left _ (List.mem_append_left _ (List.mem_append_left _ (List.mem_append_left _ (List.mem_append_left _ (List.mem_append_left _ (List.mem_append_right _ (List.mem_append_right _ (List.mem_append_right _ (List.mem_append_right _ (List.mem_append_right _ (List.mem_append_right _ (List.mem_append_right _ (List.mem_append_right _ (List.mem_append_right _ (List.mem_append_right _ (List.mem_append_right _ (List.mem_append_right _ (List.mem_append_right _ (List.mem_append_right _ (List.mem_append_right _ (List.mem_append_right _ (List.mem_append_right _ (List.mem_append_right _ (List.mem_append_right _ (List.mem_append_right _ (List.mem_append_right _ (List.mem_append_right _ (List.mem_append_right _ (List.mem_append_right _ (List.mem_append_right _ (List.mem_append_right _ (List.mem_append_right _ (List.mem_append_right _ (List.mem_append_right _ (List.mem_append_right _ (List.mem_append_right _ (List.mem_append_right _ (List.mem_append_right _ (List.mem_append_right _ (List.mem_append_right _ (List.mem_append_right _ (List.mem_append_right _ (List.mem_append_right _ (List.mem_append_right _ (List.mem_append_right _ (List.mem_append_right _ (List.mem_append_right _ (List.mem_append_right _ (List.mem_append_left _ (h))))))))))))))))))))))))))))))))))))))))))))))))))))))))
theorem inr_45 : ∀ w ∈ wsL_law_r45, w ∈ wsL_law := fun _ h => List.mem_append_left _ (List.mem_append_left _ (List.mem_append_left _ (List.mem_append_left _ (List.mem_append_left _ (List.mem_append_left _ (List.mem_append_left _ (List.mem_append_left _ (List.mem_append_left _ (List.mem_append_left _ (List.mem_append_left _ (List.mem_append_left _ (List.mem_append_right _ (List.mem_append_right _ (List.mem_append_right _ (List.mem_append_right _ (List.mem_append_right _ (List.mem_append_right _ (List.mem_append_right _ (List.mem_append_right _ (List.mem_append_right _ (List.mem_append_right _ (List.mem_append_right _ (List.mem_append_right _ (List.mem_append_right _ (List.mem_append_right _ (List.mem_append_right _ (List.mem_append_right _ (List.mem_append_right _ (List.mem_append_right _ (List.mem_append_right _ (List.mem_append_right _ (List.mem_append_right _ (List.mem_append_right _ (List.mem_append_right _ (List.mem_append_right _ (List.mem_append_right _ (List.mem_append_right _ (List.mem_append_right _ (List.mem_append_right _ (List.mem_append_right _ (List.mem_append_right _ (List.mem_append_right _ (List.mem_append_right _ (List.mem_append_right _ (List.mem_append_right _ (List.mem_append_right _ (List.mem_append_right _ (List.mem_append_right _ (List.mem_append_right _ (List.mem_append_right _ (List.mem_append_right _ (List.mem_append_right _ (List.mem_append_right _ (List.mem_append_right _ (List.mem_append_right _ (List.mem_append_left _ (h)))))))))))))))))))))))))))))))))))))))))))))))))))))))))
theorem inr_46 : ∀ w ∈ wsL_law_r46, w ∈ wsL_law := fun _ h => List.mem_append_left _ (List.mem_append_left _ (List.mem_append_left _ (List.mem_append_left _ (List.mem_append_left _ (List.mem_append_left _ (List.mem_append_left _ (List.mem_append_left _ (List.mem_append_left _ (List.mem_append_left _ (List.mem_append_left _ (List.mem_append_left _ (List.mem_append_right _ (List.mem_append_right _ (List.mem_append_right _ (List.mem_append_right _ (List.mem_append_right _ (List.mem_append_right _ (List.mem_append_right _ (List.mem_append_right _ (List.mem_append_right _ (List.mem_append_right _ (List.mem_append_right _ (List.mem_append_right _ (List.mem_append_right _ (List.mem_append_right _ (List.mem_append_right _ (List.mem_append_right _ (List.mem_append_right _ (List.mem_append_right _ (List.mem_append_right _ (List.mem_append_right _ (List.mem_append_right _ (List.mem_append_right _ (List.mem_append_right _ (List.mem_append_right _ (List.mem_append_right _ (List.mem_append_right _ (List.mem_append_right _ (List.mem_append_right _ (List.mem_append_right _ (List.mem_append_right _ (List.mem_append_right _ (List.mem_append_right _ (List.mem_append_right _ (List.mem_append_right _ (List.mem_append_right _ (List.mem_append_right _ (List.mem_append_right _ (List.mem_append_right _ (List.mem_append_right _ (List.mem_append_right _ (List.mem_append_right _ (List.mem_append_right _ (List.mem_append_right _ (List.mem_append_right _ (List.mem_append_right _ (List.mem_append_left _ (h))))))))))))))))))))))))))))))))))))))))))))))))))))))))))
theorem inr_47 : ∀ w ∈ wsL_law_r47, w ∈ wsL_law := fun _ h => List.mem_append_left _ (List.mem_append_left _ (List.mem_append_left _ (List.mem_append_left _ (List.mem_append_left _ (List.mem_append_left _ (List.mem_append_left _ (List.mem_append_left _ (List.mem_append_left _ (List.mem_append_left _ (List.mem_append_left _ (List.mem_append_left _ (List.mem_append_right _ (List.mem_append_right _ (List.mem_append_right _ (List.mem_append_right _ (List.mem_append_right _ (List.mem_append_right _ (List.mem_append_right _ (List.mem_append_right _ (List.mem_append_right _ (List.mem_append_right _ (List.mem_append_right _ (List.mem_append_right _ (List.mem_append_right _ (List.mem_append_right _ (List.mem_append_right _ (List.mem_append_right _ (List.mem_append_right _ (List.mem_append_right _ (List.mem_append_right _ (List.mem_append_right _ (List.mem_append_right _ (List.mem_append_right _ (List.mem_append_right _ (List.mem_append_right _ (List.mem_append_right _ (List.mem_append_right _ (List.mem_append_right _ (List.mem_append_right _ (List.mem_append_right _ (List.mem_append_right _ (List.mem_append_right _ (List.mem_append_right _ (List.mem_append_right _ (List.mem_append_right _ (List.mem_append_right _ (List.mem_append_right _ (List.mem_append_right _ (List.mem_append_right _ (List.mem_append_right _ (List.mem_append_right _ (List.mem_append_right _ (List.mem_append_right _ (List.mem_append_right _ (List.mem_append_right _ (List.mem_append_right _ (List.mem_append_right _ (List.mem_append_left _ (h)))))))))))))))))))))))))))))))))))))))))))))))))))))))))))
theorem inr_48 : ∀ w ∈ wsL_law_r48, w ∈ wsL_law := fun _ h => List.mem_append_left _ (List.mem_append_left _ (List.mem_append_left _ (List.mem_append_left _ (List.mem_append_left _ (List.mem_append_left _ (List.mem_append_left _ (List.mem_append_left _ (List.mem_append_left _ (List.mem_append_left _ (List.mem_append_left _ (List.mem_append_left _ (List.mem_append_right _ (List.mem_append_right _ (List.mem_append_right _ (List.mem_append_right _ (List.mem_append_right _ (List.mem_append_right _ (List.mem_append_right _ (List.mem_append_right _ (List.mem_append_right _ (List.mem_append_right _ (List.mem_append_right _ (List.mem_append_right _ (List.mem_append_right _ (List.mem_append_right _ (List.mem_append_right _ (List.mem_append_right _ (List.mem_append_right _ (List.mem_append_right _ (List.mem_append_right _ (List.mem_append_right _ (List.mem_append_right _ (List.mem_append_right _ (List.mem_append_right _ (List.mem_append_right _ (List.mem_append_right _ (List.mem_append_right _ (List.mem_append_right _ (List.mem_append_right _ (List.mem_append_right _ (List.mem_append_right _ (List.mem_append_right _ (List.mem_append_right _ (List.mem_append_right _ (List.mem_append_right _ (List.mem_append_right _ (List.mem_append_right _ (List.mem_append_right _ (List.mem_append_right _ (List.mem_append_right _ (List.mem_append_right _ (List.mem_append_right _ (List.mem_append_right _ (List.mem_append_right _ (List.mem_append_right _ (List.mem_append_right _ (List.mem_append_right _ (List.mem_append_right _ (List.mem_append_left _ (h))))))))))))))))))))))))))))))))))))))))))))))))))))))))))))
theorem inr_49 : ∀ w ∈ wsL_law_r49, w ∈ wsL_law := fun _ h => List.mem_append_left _ (List.mem_append_left _ (List.mem_append_left _ (List.mem_append_left _ (List.mem_append_left _ (List.mem_append_left _ (List.mem_append_left _ (List.mem_append_left _ (List.mem_append_left _ (List.mem_append_left _ (List.mem_append_left _ (List.mem_append_left _ (List.mem_append_right _ (List.mem_append_right _ (List.mem_append_right _ (List.mem_append_right _ (List.mem_append_right _ (List.mem_append_right _ (List.mem_append_right _ (List.mem_append_right _ (List.mem_append_right _ (List.mem_append_right _ (List.mem_append_right _ (List.mem_append_right _ (List.mem_append_right _ (List.mem_append_right _ (List.mem_append_right _ (List.mem_append_right _ (List.mem_append_right _ (List.mem_append_right _ (List.mem_append_right _ (List.mem_append_right _ (List.mem_append_right _ (List.mem_append_right _ (List.mem_append_right _ (List.mem_append_right _ (List.mem_append_right _ (List.mem_append_right _ (List.mem_append_right _ (List.mem_append_right _ (List.mem_append_right _ (List.mem_append_right _ (List.mem_append_right _ (List.mem_append_right _ (List.mem_append_right _ (List.mem_append_right _ (List.mem_append_right _ (List.mem_append_right _ (List.mem_append_right _ (List.mem_append_right _ (List.mem_append_right _ (List.mem_append_right _ (List.mem_append_right _ (List.mem_append_right _ (List.mem_append_right _ (List.mem_append_right _ (List.mem_append_right _ (List.mem_append_right _ (List.mem_append_right _ (List.mem_append_right _ (List.mem_append_left _ (h)))))))))))))))))))))))))))))))))))))))))))))))))))))))))))))
theorem inr_50 : ∀ w ∈ wsL_law_r50, w ∈ wsL_law := fun _ h => List.mem_append_left _ (List.mem_append_left _ (List.mem_append_left _ (List.mem_append_left _ (List.mem_append_left _ (List.mem_append_left _ (List.mem_append_left _ (List.mem_append_left _ (List.mem_append_left _ (List.mem_append_left _ (List.mem_append_left _ (List.mem_append_left _ (List.mem_append_right _ (List.mem_append_right _ (List.mem_append_right _ (List.mem_append_right _ (List.mem_append_right _ (List.mem_append_right _ (List.mem_append_right _ (List.mem_append_right _ (List.mem_append_right _ (List.mem_append_right _ (List.mem_append_right _ (List.mem_append_right _ (List.mem_append_right _ (List.mem_append_right _ (List.mem_append_right _ (List.mem_append_right _ (List.mem_append_right _ (List.mem_append_right _ (List.mem_append_right _ (List.mem_append_right _ (List.mem_append_right _ (List.mem_append_right _ (List.mem_append_right _ (List.mem_append_right _ (List.mem_append_right _ (List.mem_append_right _ (List.mem_append_right _ (List.mem_append_right _ (List.mem_append_right _ (List.mem_append_right _ (List.mem_append_right _ (List.mem_append_right _ (List.mem_append_right _ (List.mem_append_right _ (List.mem_append_right _ (List.mem_append_right _ (List.mem_append_right _ (List.mem_append_right _ (List.mem_append_right _ (List.mem_append_right _ (List.mem_append_right _ (List.mem_append_right _ (List.mem_append_right _ (List.mem_append_right _ (List.mem_append_right _ (List.mem_append_right _ (List.mem_append_right _ (List.mem_append_right _ (List.mem_append_right _ (List.mem_append_left _ (h))))))))))))))))))))))))))))))))))))))))))))))))))))))))))))))
theorem inr_51 : ∀ w ∈ wsL_law_r51, w ∈ wsL_law := fun _ h => List.mem_append_left _ (List.mem_append_left _ (List.mem_append_left _ (List.mem_append_left _ (List.mem_append_left _ (List.mem_append_left _ (List.mem_append_left _ (List.mem_append_left _ (List.mem_append_left _ (List.mem_append_left _ (List.mem_append_left _ (List.mem_append_left _ (List.mem_append_right _ (List.mem_append_right _ (List.mem_append_right _ (List.mem_append_right _ (List.mem_append_right _ (List.mem_append_right _ (List.mem_append_right _ (List.mem_append_right _ (List.mem_append_right _ (List.mem_append_right _ (List.mem_append_right _ (List.mem_append_right _ (List.mem_append_right _ (List.mem_append_right _ (List.mem_append_right _ (List.mem_append_right _ (List.mem_append_right _ (List.mem_append_right _ (List.mem_append_right _ (List.mem_append_right _ (List.mem_append_right _ (List.mem_append_right _ (List.mem_append_right _ (List.mem_append_right _ (List.mem_append_right _ (List.mem_append_right _ (List.mem_append_right _ (List.mem_append_right _ (List.mem_append_right _ (List.mem_append_right _ (List.mem_append_right _ (List.mem_append_right _ (List.mem_append_right _ (List.mem_append_right _ (List.mem_append_right _ (List.mem_append_right _ (List.mem_append_right _ (List.mem_append_right _ (List.mem_append_right _ (List.mem_append_right _ (List.mem_append_right _ (List.mem_append_right _ (List.mem_append_right _ (List.mem_append_right _ (List.mem_append_right _ (List.mem_append_right _ (List.mem_append_right _ (List.mem_append_right _ (List.mem_append_right _ (List.mem_append_right _ (List.mem_append_left _ (h)))))))))))))))))))))))))))))))))))))))))))))))))))))))))))))))
theorem inr_52 : ∀ w ∈ wsL_law_r52, w ∈ wsL_law := fun _ h => List.mem_append_left _ (List.mem_append_left _ (List.mem_append_left _ (List.mem_append_left _ (List.mem_append_left _ (List.mem_append_left _ (List.mem_append_left _ (List.mem_append_left _ (List.mem_append_left _ (List.mem_append_left _ (List.mem_append_left _ (List.mem_append_left _ (List.mem_append_right _ (List.mem_append_right _ (List.mem_append_right _ (List.mem_append_right _ (List.mem_append_right _ (List.mem_append_right _ (List.mem_append_right _ (List.mem_append_right _ (List.mem_append_right _ (List.mem_append_right _ (List.mem_append_right _ (List.mem_append_right _ (List.mem_append_right _ (List.mem_append_right _ (List.mem_append_right _ (List.mem_append_right _ (List.mem_append_right _ (List.mem_append_right _ (List.mem_append_right _ (List.mem_append_right _ (List.mem_append_right _ (List.mem_append_right _ (List.mem_append_right _ (List.mem_append_right _ (List.mem_append_right _ (List.mem_append_right _ (List.mem_append_right _ (List.mem_append_right _ (List.mem_append_right _ (List.mem_append_right _ (List.mem_append_right _ (List.mem_append_right _ (List.mem_append_right _ (List.mem_append_right _ (List.mem_append_right _ (List.mem_append_right _ (List.mem_append_right _ (List.mem_append_right _ (List.mem_append_right _ (List.mem_append_right _ (List.mem_append_right _ (List.mem_append_right _ (List.mem_append_right _ (List.mem_append_right _ (List.mem_append_right _ (List.mem_append_right _ (List.mem_append_right _ (List.mem_append_right _ (List.mem_append_right _ (List.mem_append_right _ (List.mem_append_right _ (List.mem_append_left _ (h))))))))))))))))))))))))))))))))))))))))))))))))))))))))))))))))
theorem inr_53 : ∀ w ∈ wsL_law_r53, w ∈ wsL_law := fun _ h => List.mem_append_left _ (List.mem_append_left _ (List.mem_append_left _ (List.mem_append_left _ (List.mem_append_left _ (List.mem_append_left _ (List.mem_append_left _ (List.mem_append_left _ (List.mem_append_left _ (List.mem_append_left _ (List.mem_append_left _ (List.mem_append_left _ (List.mem_append_right _ (List.mem_append_right _ (List.mem_append_right _ (List.mem_append_right _ (List.mem_append_right _ (List.mem_append_right _ (List.mem_append_right _ (List.mem_append_right _ (List.mem_append_right _ (List.mem_append_right _ (List.mem_append_right _ (List.mem_append_right _ (List.mem_append_right _ (List.mem_append_right _ (List.mem_append_right _ (List.mem_append_right _ (List.mem_append_right _ (List.mem_append_right _ (List.mem_append_right _ (List.mem_append_right _ (List.mem_append_right _ (List.mem_append_right _ (List.mem_append_right _ (List.mem_append_right _ (List.mem_append_right _ (List.mem_append_right _ (List.mem_append_right _ (List.mem_append_right _ (List.mem_append_right _ (List.mem_append_right _ (List.mem_append_right _ (List.mem_append_right _ (List.mem_append_right _ (List.mem_append_right _ (List.mem_append_right _ (List.mem_append_right _ (List.mem_append_right _ (List.mem_append_right _ (List.mem_append_right _ (List.mem_append_right _ (List.mem_append_right _ (List.mem_append_right _ (List.mem_append_right _ (List.mem_append_right _ (List.mem_append_right _ (List.mem_append_right _ (List.mem_append_right _ (List.mem_append_right _ (List.mem_append_right _ (List.mem_append_right _ (List.mem_append_right _ (List.mem_append_right _ (List.mem_append_left _ (h)))))))))))))))))))))))))))))))))))))))))))))))))))))))))))))))))
theorem inr_54 : ∀ w ∈ wsL_law_r54, w ∈ wsL_law := fun _ h => List.mem_append_left _ (List.mem_append_left _ (List.mem_append_left _ (List.mem_append_left _ (List.mem_append_left _ (List.mem_append_left _ (List.mem_append_left _ (List.mem_append_left _ (List.mem_append_left _ (List.mem_append_left _ (List.mem_append_left _ (List.mem_append_left _ (List.mem_append_right _ (List.mem_append_right _ (List.mem_append_right _ (List.mem_append_right _ (List.mem_append_right _ (List.mem_append_right _ (List.mem_append_right _ (List.mem_append_right _ (List.mem_append_right _ (List.mem_append_right _ (List.mem_append_right _ (List.mem_append_right _ (List.mem_append_right _ (List.mem_append_right _ (List.mem_append_right _ (List.mem_append_right _ (List.mem_append_right _ (List.mem_append_right _ (List.mem_append_right _ (List.mem_append_right _ (List.mem_append_right _ (List.mem_append_right _ (List.mem_append_right _ (List.mem_append_right _ (List.mem_append_right _ (List.mem_append_right _ (List.mem_append_right _ (List.mem_append_right _ (List.mem_append_right _ (List.mem_append_right _ (List.mem_append_right _ (List.mem_append_right _ (List.mem_append_right _ (List.mem_append_right _ (List.mem_append_right _ (List.mem_append_right _ (List.mem_append_right _ (List.mem_append_right _ (List.mem_append_right _ (List.mem_append_right _ (List.mem_append_right _ (List.mem_append_right _ (List.mem_append_right _ (List.mem_append_right _ (List.mem_append_right _ (List.mem_append_right _ (List.mem_append_right _ (List.mem_append_right _ (List.mem_append_right _ (List.mem_append_right _ (List.mem_append_right _ (List.mem_append_right _ (List.mem_append_right _ (List.mem_append_left _ (h))))))))))))))))))))))))))))))))))))))))))))))))))))))))))))))))))
theorem inr_55 : ∀ w ∈ wsL_law_r55, w ∈ wsL_law := fun _ h => List.mem_append_left _ (List.mem_append_left _ (List.mem_append_left _ (List.mem_append_left _ (List.mem_append_left _ (List.mem_append_left _ (List.mem_append_left _ (List.mem_append_left _ (List.mem_append_left _ (List.mem_append_left _ (List.mem_append_left _ (List.mem_append_left _ (List.mem_append_right _ (List.mem_append_right _ (List.mem_append_right _ (List.mem_append_right _ (List.mem_append_right _ (List.mem_append_right _ (List.mem_append_right _ (List.mem_append_right _ (List.mem_append_right _ (List.mem_append_right _ (List.mem_append_right _ (List.mem_append_right _ (List.mem_append_right _ (List.mem_append_right _ (List.mem_append_right _ (List.mem_append_right _ (List.mem_append_right _ (List.mem_append_right _ (List.mem_append_right _ (List.mem_append_right _ (List.mem_append_right _ (List.mem_append_right _ (List.mem_append_right _ (List.mem_append_right _ (List.mem_append_right _ (List.mem_append_right _ (List.mem_append_right _ (List.mem_append_right _ (List.mem_append_right _ (List.mem_append_right _ (List.mem_append_right _ (List.mem_append_right _ (List.mem_append_right _ (List.mem_append_right _ (List.mem_append_right _ (List.mem_append_right _ (List.mem_append_right _ (List.mem_append_right _ (List.mem_append_right _ (List.mem_append_right _ (List.mem_append_right _ (List.mem_append_right _ (List.mem_append_right _ (List.mem_append_right _ (List.mem_append_right _ (List.mem_append_right _ (List.mem_append_right _ (List.mem_append_right _ (List.mem_append_right _ (List.mem_append_right _ (List.mem_append_right _ (List.mem_append_right _ (List.mem_append_right _ (List.mem_append_right _ (List.mem_append_left _ (h)))))))))))))))))))))))))))))))))))))))))))))))))))))))))))))))))))
theorem inr_56 : ∀ w ∈ wsL_law_r56, w ∈ wsL_law := fun _ h => List.mem_append_left _ (List.mem_append_left _ (List.mem_append_left _ (List.mem_append_left _ (List.mem_append_left _ (List.mem_append_left _ (List.mem_append_left _ (List.mem_append_left _ (List.mem_append_left _ (List.mem_append_left _ (List.mem_append_left _ (List.mem_append_left _ (List.mem_append_right _ (List.mem_append_right _ (List.mem_append_right _ (List.mem_append_right _ (List.mem_append_right _ (List.mem_append_right _ (List.mem_append_right _ (List.mem_append_right _ (List.mem_append_right _ (List.mem_append_right _ (List.mem_append_right _ (List.mem_append_right _ (List.mem_append_right _ (List.mem_append_right _ (List.mem_append_right _ (List.mem_append_right _ (List.mem_append_right _ (List.mem_append_right _ (List.mem_append_right _ (List.mem_append_right _ (List.mem_append_right _ (List.mem_append_right _ (List.mem_append_right _ (List.mem_append_right _ (List.mem_append_right _ (List.mem_append_right _ (List.mem_append_right _ (List.mem_append_right _ (List.mem_append_right _ (List.mem_append_right _ (List.mem_append_right _ (List.mem_append_right _ (List.mem_append_right _ (List.mem_append_right _ (List.mem_append_right _ (List.mem_append_right _ (List.mem_append_right _ (List.mem_append_right _ (List.mem_append_right _ (List.mem_append_right _ (List.mem_append_right _ (List.mem_append_right _ (List.mem_append_right _ (List.mem_append_right _ (List.mem_append_right _ (List.mem_append_right _ (List.mem_append_right _ (List.mem_append_right _ (List.mem_append_right _ (List.mem_append_right _ (List.mem_append_right _ (List.mem_append_right _ (List.mem_append_right _ (List.mem_append_right _ (List.mem_append_right _ (List.mem_append_left _ (h))))))))))))))))))))))))))))))))))))))))))))))))))))))))))))))))))))
theorem inr_57 : ∀ w ∈ wsL_law_r57, w ∈ wsL_law := fun _ h => List.mem_append_left _ (List.mem_append_left _ (List.mem_append_left _ (List.mem_append_left _ (List.mem_append_left _ (List.mem_append_left _ (List.mem_append_left _ (List.mem_append_left _ (List.mem_append_left _ (List.mem_append_left _ (List.mem_append_left _ (List.mem_append_left _ (List.mem_append_right _ (List.mem_append_right _ (List.mem_append_right _ (List.mem_append_right _ (List.mem_append_right _ (List.mem_append_right _ (List.mem_append_right _ (List.mem_append_right _ (List.mem_append_right _ (List.mem_append_right _ (List.mem_append_right _ (List.mem_append_right _ (List.mem_append_right _ (List.mem_append_right _ (List.mem_append_right _ (List.mem_append_right _ (List.mem_append_right _ (List.mem_append_right _ (List.mem_append_right _ (List.mem_append_right _ (List.mem_append_right _ (List.mem_append_right _ (List.mem_append_right _ (List.mem_append_right _ (List.mem_append_right _ (List.mem_append_right _ (List.mem_append_right _ (List.mem_append_right _ (List.mem_append_right _ (List.mem_append_right _ (List.mem_append_right _ (List.mem_append_right _ (List.mem_append_right _ (List.mem_append_right _ (List.mem_append_right _ (List.mem_append_right _ (List.mem_append_right _ (List.mem_append_right _ (List.mem_append_right _ (List.mem_append_right _ (List.mem_append_right _ (List.mem_append_right _ (List.mem_append_right _ (List.mem_append_right _ (List.mem_append_right _ (List.mem_append_right _ (List.mem_append_right _ (List.mem_append_right _ (List.mem_append_right _ (List.mem_append_right _ (List.mem_append_right _ (List.mem_append_right _ (List.mem_append_right _ (List.mem_append_right _ (List.mem_append_right _ (List.mem_append_right _ (List.mem_append_left _ (h)))))))))))))))))))))))))))))))))))))))))))))))))))))))))))))))))))))
theorem inr_58 : ∀ w ∈ wsL_law_r58, w ∈ wsL_law := fun _ h => List.mem_append_left _ (List.mem_append_left _ (List.mem_append_left _ (List.mem_append_left _ (List.mem_append_left _ (List.mem_append_left _ (List.mem_append_left _ (List.mem_append_left _ (List.mem_append_left _ (List.mem_append_left _ (List.mem_append_left _ (List.mem_append_left _ (List.mem_append_right _ (List.mem_append_right _ (List.mem_append_right _ (List.mem_append_right _ (List.mem_append_right _ (List.mem_append_right _ (List.mem_append_right _ (List.mem_append_right _ (List.mem_append_right _ (List.mem_append_right _ (List.mem_append_right _ (List.mem_append_right _ (List.mem_append_right _ (List.mem_append_right _ (List.mem_append_right _ (List.mem_append_right _ (List.mem_append_right _ (List.mem_append_right _ (List.mem_append_right _ (List.mem_append_right _ (List.mem_append_right _ (List.mem_append_right _ (List.mem_append_right _ (List.mem_append_right _ (List.mem_append_right _ (List.mem_append_right _ (List.mem_append_right _ (List.mem_append_right _ (List.mem_append_right _ (List.mem_append_right _ (List.mem_append_right _ (List.mem_append_right _ (List.mem_append_right _ (List.mem_append_right _ (List.mem_append_right _ (List.mem_append_right _ (List.mem_append_right _ (List.mem_append_right _ (List.mem_append_right _ (List.mem_append_right _ (List.mem_append_right _ (List.mem_append_right _ (List.mem_append_right _ (List.mem_append_right _ (List.mem_append_right _ (List.mem_append_right _ (List.mem_append_right _ (List.mem_append_right _ (List.mem_append_right _ (List.mem_append_right _ (List.mem_append_right _ (List.mem_append_right _ (List.mem_append_right _ (List.mem_append_right _ (List.mem_append_right _ (List.mem_append_right _ (List.mem_append_right _ (h)))))))))))))))))))))))))))))))))))))))))))))))))))))))))))))))))))))
theorem dX11_drawn_165 : decode cX11_drawn 165 = .ok (.iconst 0, 1) := by decide +kernel
theorem dX11_drawn_166 : decode cX11_drawn 166 = .ok (.istore 8, 2) := by decide +kernel
theorem dX11_drawn_168 : decode cX11_drawn 168 = .ok (.iload 8, 2) := by decide +kernel
theorem dX11_drawn_170 : decode cX11_drawn 170 = .ok (.bipush 24, 2) := by decide +kernel
theorem dX11_drawn_172 : decode cX11_drawn 172 = .ok (.if_icmp .ge 23, 3) := by decide +kernel
theorem dX11_drawn_175 : decode cX11_drawn 175 = .ok (.aload_n 0, 1) := by decide +kernel
theorem dX11_drawn_176 : decode cX11_drawn 176 = .ok (.getfield 24, 3) := by decide +kernel
theorem dX11_drawn_179 : decode cX11_drawn 179 = .ok (.iload 8, 2) := by decide +kernel
theorem dX11_drawn_181 : decode cX11_drawn 181 = .ok (.aload_n 0, 1) := by decide +kernel
theorem dX11_drawn_182 : decode cX11_drawn 182 = .ok (.getfield 77, 3) := by decide +kernel
theorem dX11_drawn_185 : decode cX11_drawn 185 = .ok (.iload 8, 2) := by decide +kernel
theorem dX11_drawn_187 : decode cX11_drawn 187 = .ok (.iaload, 1) := by decide +kernel
theorem dX11_drawn_188 : decode cX11_drawn 188 = .ok (.iastore, 1) := by decide +kernel
theorem dX11_drawn_189 : decode cX11_drawn 189 = .ok (.iinc 8 1, 3) := by decide +kernel
theorem dX11_drawn_192 : decode cX11_drawn 192 = .ok (.goto (-24), 3) := by decide +kernel
theorem dX11_drawn_195 : decode cX11_drawn 195 = .ok (.iload 4, 2) := by decide +kernel
theorem dX11_drawn_197 : decode cX11_drawn 197 = .ok (.ifCond .ne 8, 3) := by decide +kernel
theorem dX11_drawn_200 : decode cX11_drawn 200 = .ok (.iload 6, 2) := by decide +kernel
theorem dX11_drawn_202 : decode cX11_drawn 202 = .ok (.goto 5, 3) := by decide +kernel
theorem dX11_drawn_205 : decode cX11_drawn 205 = .ok (.iload 7, 2) := by decide +kernel
theorem dX11_drawn_207 : decode cX11_drawn 207 = .ok (.ireturn, 1) := by decide +kernel
set_option maxRecDepth 20000 in
theorem ggX11_singNow_X11_canSing : GoodIn wsX11_singNow wsX11_canSing := goodIn_r _ [7, 8, 9, 10, 6, 11, 12, 13, 14, 15, 16, 17, 18, 19, 20, 21, 22, 23, 24, 25, 26, 27, 28, 29, 30, 31, 32, 33, 34, 35, 36, 37, 38, 39, 40, 41, 42, 43, 44, 45, 46, 47, 48, 49, 50, 51, 52, 53, 54, 55, 56, 57, 58, 59, 60, 61, 62, 63, 64, 65, 66, 67, 68, 69] rfl (by decide +kernel)
set_option maxRecDepth 20000 in
theorem gX11_singNow_X11_canSing : GoodIn wsX11_singNow (wsV RX11 274 RX11 yX11_canSing wsX11_canSing) := goodIn_app (goodIn_of _ (by decide +kernel)) ggX11_singNow_X11_canSing
theorem dX11_singNow_0 : decode cX11_singNow 0 = .ok (.aload_n 0, 1) := by decide +kernel
theorem dX11_singNow_1 : decode cX11_singNow 1 = .ok (.iload_n 1, 1) := by decide +kernel
theorem dX11_singNow_2 : decode cX11_singNow 2 = .ok (.iload_n 2, 1) := by decide +kernel
theorem dX11_singNow_3 : decode cX11_singNow 3 = .ok (.invokevirtual 274, 3) := by decide +kernel
theorem dX11_singNow_6 : decode cX11_singNow 6 = .ok (.ifCond .ne 22, 3) := by decide +kernel
theorem dX11_singNow_9 : decode cX11_singNow 9 = .ok (.aload_n 0, 1) := by decide +kernel
theorem dX11_singNow_10 : decode cX11_singNow 10 = .ok (.getfield 80, 3) := by decide +kernel
theorem dX11_singNow_13 : decode cX11_singNow 13 = .ok (.iconst 2, 1) := by decide +kernel
theorem dX11_singNow_14 : decode cX11_singNow 14 = .ok (.dup2, 1) := by decide +kernel
theorem dX11_singNow_15 : decode cX11_singNow 15 = .ok (.iaload, 1) := by decide +kernel
theorem dX11_singNow_16 : decode cX11_singNow 16 = .ok (.iconst 1, 1) := by decide +kernel
theorem dX11_singNow_17 : decode cX11_singNow 17 = .ok (.iadd, 1) := by decide +kernel
theorem dX11_singNow_18 : decode cX11_singNow 18 = .ok (.iastore, 1) := by decide +kernel
theorem dX11_singNow_19 : decode cX11_singNow 19 = .ok (.aload_n 0, 1) := by decide +kernel
theorem dX11_singNow_20 : decode cX11_singNow 20 = .ok (.getfield 80, 3) := by decide +kernel
theorem dX11_singNow_23 : decode cX11_singNow 23 = .ok (.iconst 4, 1) := by decide +kernel
theorem dX11_singNow_24 : decode cX11_singNow 24 = .ok (.iconst (-1), 1) := by decide +kernel
theorem dX11_singNow_25 : decode cX11_singNow 25 = .ok (.iastore, 1) := by decide +kernel
theorem dX11_singNow_26 : decode cX11_singNow 26 = .ok (.iconst 0, 1) := by decide +kernel
theorem dX11_singNow_27 : decode cX11_singNow 27 = .ok (.ireturn, 1) := by decide +kernel
theorem dX11_singNow_28 : decode cX11_singNow 28 = .ok (.aload_n 0, 1) := by decide +kernel
theorem dX11_singNow_29 : decode cX11_singNow 29 = .ok (.getfield 80, 3) := by decide +kernel
theorem dX11_singNow_32 : decode cX11_singNow 32 = .ok (.iconst 1, 1) := by decide +kernel
theorem dX11_singNow_33 : decode cX11_singNow 33 = .ok (.dup2, 1) := by decide +kernel
theorem dX11_singNow_34 : decode cX11_singNow 34 = .ok (.iaload, 1) := by decide +kernel
theorem dX11_singNow_35 : decode cX11_singNow 35 = .ok (.iconst 1, 1) := by decide +kernel
theorem dX11_singNow_36 : decode cX11_singNow 36 = .ok (.iadd, 1) := by decide +kernel
theorem dX11_singNow_37 : decode cX11_singNow 37 = .ok (.iastore, 1) := by decide +kernel
theorem dX11_singNow_38 : decode cX11_singNow 38 = .ok (.aload_n 0, 1) := by decide +kernel
theorem dX11_singNow_39 : decode cX11_singNow 39 = .ok (.getfield 80, 3) := by decide +kernel
theorem dX11_singNow_42 : decode cX11_singNow 42 = .ok (.iconst 4, 1) := by decide +kernel
theorem dX11_singNow_43 : decode cX11_singNow 43 = .ok (.iload_n 2, 1) := by decide +kernel
theorem dX11_singNow_44 : decode cX11_singNow 44 = .ok (.iastore, 1) := by decide +kernel
theorem dX11_singNow_45 : decode cX11_singNow 45 = .ok (.aload_n 0, 1) := by decide +kernel
theorem dX11_singNow_46 : decode cX11_singNow 46 = .ok (.getfield 80, 3) := by decide +kernel
theorem dX11_singNow_49 : decode cX11_singNow 49 = .ok (.bipush 6, 2) := by decide +kernel
theorem dX11_singNow_51 : decode cX11_singNow 51 = .ok (.dup2, 1) := by decide +kernel
theorem dX11_singNow_52 : decode cX11_singNow 52 = .ok (.iaload, 1) := by decide +kernel
theorem dX11_singNow_53 : decode cX11_singNow 53 = .ok (.iconst 1, 1) := by decide +kernel
theorem dX11_singNow_54 : decode cX11_singNow 54 = .ok (.iadd, 1) := by decide +kernel
theorem dX11_singNow_55 : decode cX11_singNow 55 = .ok (.iastore, 1) := by decide +kernel
theorem dX11_singNow_56 : decode cX11_singNow 56 = .ok (.aload_n 0, 1) := by decide +kernel
theorem dX11_singNow_57 : decode cX11_singNow 57 = .ok (.getfield 83, 3) := by decide +kernel
theorem dX11_singNow_60 : decode cX11_singNow 60 = .ok (.iload_n 2, 1) := by decide +kernel
theorem dX11_singNow_61 : decode cX11_singNow 61 = .ok (.dup2, 1) := by decide +kernel
theorem dX11_singNow_62 : decode cX11_singNow 62 = .ok (.iaload, 1) := by decide +kernel
theorem dX11_singNow_63 : decode cX11_singNow 63 = .ok (.iconst 1, 1) := by decide +kernel
theorem dX11_singNow_64 : decode cX11_singNow 64 = .ok (.iadd, 1) := by decide +kernel
theorem dX11_singNow_65 : decode cX11_singNow 65 = .ok (.iastore, 1) := by decide +kernel
theorem dX11_singNow_66 : decode cX11_singNow 66 = .ok (.aload_n 0, 1) := by decide +kernel
theorem dX11_singNow_67 : decode cX11_singNow 67 = .ok (.getfield 80, 3) := by decide +kernel
theorem dX11_singNow_70 : decode cX11_singNow 70 = .ok (.bipush 6, 2) := by decide +kernel
theorem dX11_singNow_72 : decode cX11_singNow 72 = .ok (.iaload, 1) := by decide +kernel
theorem dX11_singNow_73 : decode cX11_singNow 73 = .ok (.aload_n 0, 1) := by decide +kernel
theorem dX11_singNow_74 : decode cX11_singNow 74 = .ok (.getfield 80, 3) := by decide +kernel
theorem dX11_singNow_77 : decode cX11_singNow 77 = .ok (.iconst 3, 1) := by decide +kernel
theorem dX11_singNow_78 : decode cX11_singNow 78 = .ok (.iaload, 1) := by decide +kernel
theorem dX11_singNow_79 : decode cX11_singNow 79 = .ok (.if_icmp .le 16, 3) := by decide +kernel
theorem dX11_singNow_82 : decode cX11_singNow 82 = .ok (.aload_n 0, 1) := by decide +kernel
theorem dX11_singNow_83 : decode cX11_singNow 83 = .ok (.getfield 80, 3) := by decide +kernel
theorem dX11_singNow_86 : decode cX11_singNow 86 = .ok (.iconst 3, 1) := by decide +kernel
theorem dX11_singNow_87 : decode cX11_singNow 87 = .ok (.aload_n 0, 1) := by decide +kernel
theorem dX11_singNow_88 : decode cX11_singNow 88 = .ok (.getfield 80, 3) := by decide +kernel
theorem dX11_singNow_91 : decode cX11_singNow 91 = .ok (.bipush 6, 2) := by decide +kernel
theorem dX11_singNow_93 : decode cX11_singNow 93 = .ok (.iaload, 1) := by decide +kernel
theorem dX11_singNow_94 : decode cX11_singNow 94 = .ok (.iastore, 1) := by decide +kernel
theorem dX11_singNow_95 : decode cX11_singNow 95 = .ok (.iconst 1, 1) := by decide +kernel
theorem dX11_singNow_96 : decode cX11_singNow 96 = .ok (.ireturn, 1) := by decide +kernel
set_option maxRecDepth 20000 in
theorem ggX11_begin_X11_isLine : GoodIn wsX11_begin wsX11_isLine := goodIn_r _ [7, 8, 9, 10, 6, 11, 12, 13, 14, 35, 36, 37, 38, 39, 40, 41, 42, 43, 44, 45, 46, 47, 48, 49, 50, 51, 52, 53, 54, 55, 56, 57, 58, 59, 60, 61, 62, 63, 64, 65, 66, 67, 68, 69, 70, 71, 72, 73, 74, 75, 76, 77, 78, 79, 80, 81, 82, 83, 84] rfl (by decide +kernel)
set_option maxRecDepth 20000 in
theorem gX11_begin_X11_isLine : GoodIn wsX11_begin (wsV RX11 142 RX11 yX11_isLine wsX11_isLine) := goodIn_app (goodIn_of _ (by decide +kernel)) ggX11_begin_X11_isLine
set_option maxRecDepth 20000 in
theorem ggX11_begin_X11_singNow : GoodIn wsX11_begin wsX11_singNow := goodIn_r _ [18, 1, 2, 19, 20, 21, 6, 22, 23, 24, 25, 26, 27, 28, 29, 30, 31, 32, 33, 34, 35, 36, 37, 38, 39, 40, 41, 42, 43, 44, 45, 46, 47, 48, 49, 50, 51, 52, 53, 54, 55, 56, 57, 58, 59, 60, 61, 62, 63, 64, 65, 66, 67, 68, 69, 70, 71, 72, 73, 74, 75, 76, 77, 78, 79, 80, 81, 82, 83, 84] rfl (by decide +kernel)
set_option maxRecDepth 20000 in
theorem gX11_begin_X11_singNow : GoodIn wsX11_begin (wsV RX11 331 RX11 yX11_singNow wsX11_singNow) := goodIn_app (goodIn_of _ (by decide +kernel)) ggX11_begin_X11_singNow
theorem dX11_begin_0 : decode cX11_begin 0 = .ok (.aload_n 0, 1) := by decide +kernel
theorem dX11_begin_1 : decode cX11_begin 1 = .ok (.iload_n 1, 1) := by decide +kernel
theorem dX11_begin_2 : decode cX11_begin 2 = .ok (.invokevirtual 142, 3) := by decide +kernel
theorem dX11_begin_5 : decode cX11_begin 5 = .ok (.ifCond .ne 5, 3) := by decide +kernel
theorem dX11_begin_8 : decode cX11_begin 8 = .ok (.iconst (-1), 1) := by decide +kernel
theorem dX11_begin_9 : decode cX11_begin 9 = .ok (.ireturn, 1) := by decide +kernel
theorem dX11_begin_10 : decode cX11_begin 10 = .ok (.aload_n 0, 1) := by decide +kernel
theorem dX11_begin_11 : decode cX11_begin 11 = .ok (.getfield 80, 3) := by decide +kernel
theorem dX11_begin_14 : decode cX11_begin 14 = .ok (.iconst 4, 1) := by decide +kernel
theorem dX11_begin_15 : decode cX11_begin 15 = .ok (.iaload, 1) := by decide +kernel
theorem dX11_begin_16 : decode cX11_begin 16 = .ok (.ifCond .lt 6, 3) := by decide +kernel
theorem dX11_begin_19 : decode cX11_begin 19 = .ok (.bipush (-5), 2) := by decide +kernel
theorem dX11_begin_21 : decode cX11_begin 21 = .ok (.ireturn, 1) := by decide +kernel
theorem dX11_begin_22 : decode cX11_begin 22 = .ok (.aload_n 0, 1) := by decide +kernel
theorem dX11_begin_23 : decode cX11_begin 23 = .ok (.getfield 80, 3) := by decide +kernel
theorem dX11_begin_26 : decode cX11_begin 26 = .ok (.iconst 0, 1) := by decide +kernel
theorem dX11_begin_27 : decode cX11_begin 27 = .ok (.dup2, 1) := by decide +kernel
theorem dX11_begin_28 : decode cX11_begin 28 = .ok (.iaload, 1) := by decide +kernel
theorem dX11_begin_29 : decode cX11_begin 29 = .ok (.iconst 1, 1) := by decide +kernel
theorem dX11_begin_30 : decode cX11_begin 30 = .ok (.iadd, 1) := by decide +kernel
theorem dX11_begin_31 : decode cX11_begin 31 = .ok (.iastore, 1) := by decide +kernel
theorem dX11_begin_32 : decode cX11_begin 32 = .ok (.aload_n 0, 1) := by decide +kernel
theorem dX11_begin_33 : decode cX11_begin 33 = .ok (.getfield 80, 3) := by decide +kernel
theorem dX11_begin_36 : decode cX11_begin 36 = .ok (.iconst 5, 1) := by decide +kernel
theorem dX11_begin_37 : decode cX11_begin 37 = .ok (.iload_n 1, 1) := by decide +kernel
theorem dX11_begin_38 : decode cX11_begin 38 = .ok (.bipush 100, 2) := by decide +kernel
theorem dX11_begin_40 : decode cX11_begin 40 = .ok (.idiv, 1) := by decide +kernel
theorem dX11_begin_41 : decode cX11_begin 41 = .ok (.iastore, 1) := by decide +kernel
theorem dX11_begin_42 : decode cX11_begin 42 = .ok (.aload_n 0, 1) := by decide +kernel
theorem dX11_begin_43 : decode cX11_begin 43 = .ok (.getfield 80, 3) := by decide +kernel
theorem dX11_begin_46 : decode cX11_begin 46 = .ok (.bipush 6, 2) := by decide +kernel
theorem dX11_begin_48 : decode cX11_begin 48 = .ok (.iconst 0, 1) := by decide +kernel
theorem dX11_begin_49 : decode cX11_begin 49 = .ok (.iastore, 1) := by decide +kernel
theorem dX11_begin_50 : decode cX11_begin 50 = .ok (.iconst 0, 1) := by decide +kernel
theorem dX11_begin_51 : decode cX11_begin 51 = .ok (.istore_n 2, 1) := by decide +kernel
theorem dX11_begin_52 : decode cX11_begin 52 = .ok (.iload_n 2, 1) := by decide +kernel
theorem dX11_begin_53 : decode cX11_begin 53 = .ok (.bipush 12, 2) := by decide +kernel
theorem dX11_begin_55 : decode cX11_begin 55 = .ok (.if_icmp .ge 16, 3) := by decide +kernel
theorem dX11_begin_58 : decode cX11_begin 58 = .ok (.aload_n 0, 1) := by decide +kernel
theorem dX11_begin_59 : decode cX11_begin 59 = .ok (.getfield 83, 3) := by decide +kernel
theorem dX11_begin_62 : decode cX11_begin 62 = .ok (.iload_n 2, 1) := by decide +kernel
theorem dX11_begin_63 : decode cX11_begin 63 = .ok (.iconst 0, 1) := by decide +kernel
theorem dX11_begin_64 : decode cX11_begin 64 = .ok (.iastore, 1) := by decide +kernel
theorem dX11_begin_65 : decode cX11_begin 65 = .ok (.iinc 2 1, 3) := by decide +kernel
theorem dX11_begin_68 : decode cX11_begin 68 = .ok (.goto (-16), 3) := by decide +kernel
theorem dX11_begin_71 : decode cX11_begin 71 = .ok (.aload_n 0, 1) := by decide +kernel
theorem dX11_begin_72 : decode cX11_begin 72 = .ok (.iload_n 1, 1) := by decide +kernel
theorem dX11_begin_73 : decode cX11_begin 73 = .ok (.bipush 100, 2) := by decide +kernel
theorem dX11_begin_75 : decode cX11_begin 75 = .ok (.idiv, 1) := by decide +kernel
theorem dX11_begin_76 : decode cX11_begin 76 = .ok (.iload_n 1, 1) := by decide +kernel
theorem dX11_begin_77 : decode cX11_begin 77 = .ok (.bipush 100, 2) := by decide +kernel
theorem dX11_begin_79 : decode cX11_begin 79 = .ok (.irem, 1) := by decide +kernel
theorem dX11_begin_80 : decode cX11_begin 80 = .ok (.invokevirtual 331, 3) := by decide +kernel
theorem dX11_begin_83 : decode cX11_begin 83 = .ok (.ifCond .eq 7, 3) := by decide +kernel
theorem dX11_begin_86 : decode cX11_begin 86 = .ok (.iconst 1, 1) := by decide +kernel
theorem dX11_begin_87 : decode cX11_begin 87 = .ok (.goto 4, 3) := by decide +kernel
theorem dX11_begin_90 : decode cX11_begin 90 = .ok (.iconst 0, 1) := by decide +kernel
theorem dX11_begin_91 : decode cX11_begin 91 = .ok (.ireturn, 1) := by decide +kernel
set_option maxRecDepth 20000 in
theorem ggX11_on_X11_nextOf : GoodIn wsX11_on wsX11_nextOf := goodIn_r _ [8, 9, 10, 11, 12, 13, 7, 14, 15, 16, 17, 18, 19, 20, 21, 22, 23, 24, 25, 26, 2, 27, 28, 29, 30, 31, 32, 33, 34, 35, 36, 37, 38, 39, 40, 41, 42, 43, 44, 45, 58, 59, 60, 61, 62, 63, 64, 65, 66, 67, 68, 69, 70, 71, 72, 73, 74, 75, 76, 77, 78, 79, 80, 81, 82, 83, 84, 85, 86, 87, 88, 89, 90, 91, 92, 93, 94, 95, 96, 97, 98, 99, 100, 101, 102, 103, 104, 105, 106, 107] rfl (by decide +kernel)
set_option maxRecDepth 20000 in
theorem gX11_on_X11_nextOf : GoodIn wsX11_on (wsV RX11 280 RX11 yX11_nextOf wsX11_nextOf) := goodIn_app (goodIn_of _ (by decide +kernel)) ggX11_on_X11_nextOf
set_option maxRecDepth 20000 in
theorem ggX11_on_X11_singNow : GoodIn wsX11_on wsX11_singNow := goodIn_r _ [49, 1, 3, 50, 51, 52, 7, 53, 54, 55, 56, 57, 11, 12, 13, 14, 15, 16, 17, 18, 58, 59, 60, 61, 62, 63, 64, 65, 66, 67, 68, 69, 70, 71, 72, 73, 74, 75, 76, 77, 78, 79, 80, 81, 82, 83, 84, 85, 86, 87, 88, 89, 90, 91, 92, 93, 94, 95, 96, 97, 98, 99, 100, 101, 102, 103, 104, 105, 106, 107] rfl (by decide +kernel)
set_option maxRecDepth 20000 in
theorem gX11_on_X11_singNow : GoodIn wsX11_on (wsV RX11 331 RX11 yX11_singNow wsX11_singNow) := goodIn_app (goodIn_of _ (by decide +kernel)) ggX11_on_X11_singNow
theorem dX11_on_0 : decode cX11_on 0 = .ok (.aload_n 0, 1) := by decide +kernel
theorem dX11_on_1 : decode cX11_on 1 = .ok (.getfield 80, 3) := by decide +kernel
theorem dX11_on_4 : decode cX11_on 4 = .ok (.iconst 4, 1) := by decide +kernel
theorem dX11_on_5 : decode cX11_on 5 = .ok (.iaload, 1) := by decide +kernel
theorem dX11_on_6 : decode cX11_on 6 = .ok (.ifCond .ge 6, 3) := by decide +kernel
theorem dX11_on_9 : decode cX11_on 9 = .ok (.bipush (-5), 2) := by decide +kernel
theorem dX11_on_11 : decode cX11_on 11 = .ok (.ireturn, 1) := by decide +kernel
theorem dX11_on_12 : decode cX11_on 12 = .ok (.aload_n 0, 1) := by decide +kernel
theorem dX11_on_13 : decode cX11_on 13 = .ok (.getfield 80, 3) := by decide +kernel
theorem dX11_on_16 : decode cX11_on 16 = .ok (.bipush 6, 2) := by decide +kernel
theorem dX11_on_18 : decode cX11_on 18 = .ok (.iaload, 1) := by decide +kernel
theorem dX11_on_19 : decode cX11_on 19 = .ok (.bipush 60, 2) := by decide +kernel
theorem dX11_on_21 : decode cX11_on 21 = .ok (.if_icmp .ne 13, 3) := by decide +kernel
theorem dX11_on_24 : decode cX11_on 24 = .ok (.aload_n 0, 1) := by decide +kernel
theorem dX11_on_25 : decode cX11_on 25 = .ok (.getfield 80, 3) := by decide +kernel
theorem dX11_on_28 : decode cX11_on 28 = .ok (.iconst 4, 1) := by decide +kernel
theorem dX11_on_29 : decode cX11_on 29 = .ok (.iconst (-1), 1) := by decide +kernel
theorem dX11_on_30 : decode cX11_on 30 = .ok (.iastore, 1) := by decide +kernel
theorem dX11_on_31 : decode cX11_on 31 = .ok (.bipush (-6), 2) := by decide +kernel
theorem dX11_on_33 : decode cX11_on 33 = .ok (.ireturn, 1) := by decide +kernel
theorem dX11_on_34 : decode cX11_on 34 = .ok (.iconst 0, 1) := by decide +kernel
theorem dX11_on_35 : decode cX11_on 35 = .ok (.istore_n 1, 1) := by decide +kernel
theorem dX11_on_36 : decode cX11_on 36 = .ok (.iload_n 1, 1) := by decide +kernel
theorem dX11_on_37 : decode cX11_on 37 = .ok (.bipush 12, 2) := by decide +kernel
theorem dX11_on_39 : decode cX11_on 39 = .ok (.if_icmp .ge 21, 3) := by decide +kernel
theorem dX11_on_42 : decode cX11_on 42 = .ok (.aload_n 0, 1) := by decide +kernel
theorem dX11_on_43 : decode cX11_on 43 = .ok (.getfield 68, 3) := by decide +kernel
theorem dX11_on_46 : decode cX11_on 46 = .ok (.iload_n 1, 1) := by decide +kernel
theorem dX11_on_47 : decode cX11_on 47 = .ok (.aload_n 0, 1) := by decide +kernel
theorem dX11_on_48 : decode cX11_on 48 = .ok (.getfield 83, 3) := by decide +kernel
theorem dX11_on_51 : decode cX11_on 51 = .ok (.iload_n 1, 1) := by decide +kernel
theorem dX11_on_52 : decode cX11_on 52 = .ok (.iaload, 1) := by decide +kernel
theorem dX11_on_53 : decode cX11_on 53 = .ok (.iastore, 1) := by decide +kernel
theorem dX11_on_54 : decode cX11_on 54 = .ok (.iinc 1 1, 3) := by decide +kernel
theorem dX11_on_57 : decode cX11_on 57 = .ok (.goto (-21), 3) := by decide +kernel
theorem dX11_on_60 : decode cX11_on 60 = .ok (.aload_n 0, 1) := by decide +kernel
theorem dX11_on_61 : decode cX11_on 61 = .ok (.aload_n 0, 1) := by decide +kernel
theorem dX11_on_62 : decode cX11_on 62 = .ok (.getfield 80, 3) := by decide +kernel
theorem dX11_on_65 : decode cX11_on 65 = .ok (.iconst 5, 1) := by decide +kernel
theorem dX11_on_66 : decode cX11_on 66 = .ok (.iaload, 1) := by decide +kernel
theorem dX11_on_67 : decode cX11_on 67 = .ok (.aload_n 0, 1) := by decide +kernel
theorem dX11_on_68 : decode cX11_on 68 = .ok (.getfield 80, 3) := by decide +kernel
theorem dX11_on_71 : decode cX11_on 71 = .ok (.iconst 4, 1) := by decide +kernel
theorem dX11_on_72 : decode cX11_on 72 = .ok (.iaload, 1) := by decide +kernel
theorem dX11_on_73 : decode cX11_on 73 = .ok (.invokevirtual 280, 3) := by decide +kernel
theorem dX11_on_76 : decode cX11_on 76 = .ok (.istore_n 1, 1) := by decide +kernel
theorem dX11_on_77 : decode cX11_on 77 = .ok (.iload_n 1, 1) := by decide +kernel
theorem dX11_on_78 : decode cX11_on 78 = .ok (.ifCond .ge 13, 3) := by decide +kernel
theorem dX11_on_81 : decode cX11_on 81 = .ok (.aload_n 0, 1) := by decide +kernel
theorem dX11_on_82 : decode cX11_on 82 = .ok (.getfield 80, 3) := by decide +kernel
theorem dX11_on_85 : decode cX11_on 85 = .ok (.iconst 4, 1) := by decide +kernel
theorem dX11_on_86 : decode cX11_on 86 = .ok (.iconst (-1), 1) := by decide +kernel
theorem dX11_on_87 : decode cX11_on 87 = .ok (.iastore, 1) := by decide +kernel
theorem dX11_on_88 : decode cX11_on 88 = .ok (.bipush (-2), 2) := by decide +kernel
theorem dX11_on_90 : decode cX11_on 90 = .ok (.ireturn, 1) := by decide +kernel
theorem dX11_on_91 : decode cX11_on 91 = .ok (.aload_n 0, 1) := by decide +kernel
theorem dX11_on_92 : decode cX11_on 92 = .ok (.aload_n 0, 1) := by decide +kernel
theorem dX11_on_93 : decode cX11_on 93 = .ok (.getfield 80, 3) := by decide +kernel
theorem dX11_on_96 : decode cX11_on 96 = .ok (.iconst 5, 1) := by decide +kernel
theorem dX11_on_97 : decode cX11_on 97 = .ok (.iaload, 1) := by decide +kernel
theorem dX11_on_98 : decode cX11_on 98 = .ok (.iload_n 1, 1) := by decide +kernel
theorem dX11_on_99 : decode cX11_on 99 = .ok (.invokevirtual 331, 3) := by decide +kernel
theorem dX11_on_102 : decode cX11_on 102 = .ok (.ifCond .eq 7, 3) := by decide +kernel
theorem dX11_on_105 : decode cX11_on 105 = .ok (.iload_n 1, 1) := by decide +kernel
theorem dX11_on_106 : decode cX11_on 106 = .ok (.goto 7, 3) := by decide +kernel
theorem dX11_on_109 : decode cX11_on 109 = .ok (.bipush (-20), 2) := by decide +kernel
theorem dX11_on_111 : decode cX11_on 111 = .ok (.iload_n 1, 1) := by decide +kernel
theorem dX11_on_112 : decode cX11_on 112 = .ok (.isub, 1) := by decide +kernel
theorem dX11_on_113 : decode cX11_on 113 = .ok (.ireturn, 1) := by decide +kernel
set_option maxRecDepth 20000 in
theorem ggX11_led_X11_in : GoodIn wsX11_led wsX11_in := goodIn_r _ [5] rfl (by decide +kernel)
set_option maxRecDepth 20000 in
theorem gX11_led_X11_in : GoodIn wsX11_led (va_wsS RX11 118 yX11_in wsX11_in) := goodIn_app (goodIn_of _ (by decide +kernel)) ggX11_led_X11_in
theorem dX11_led_0 : decode cX11_led 0 = .ok (.iload_n 1, 1) := by decide +kernel
theorem dX11_led_1 : decode cX11_led 1 = .ok (.iconst 4, 1) := by decide +kernel
theorem dX11_led_2 : decode cX11_led 2 = .ok (.if_icmp .ne 25, 3) := by decide +kernel
theorem dX11_led_5 : decode cX11_led 5 = .ok (.aload_n 0, 1) := by decide +kernel
theorem dX11_led_6 : decode cX11_led 6 = .ok (.getfield 80, 3) := by decide +kernel
theorem dX11_led_9 : decode cX11_led 9 = .ok (.iconst 4, 1) := by decide +kernel
theorem dX11_led_10 : decode cX11_led 10 = .ok (.iaload, 1) := by decide +kernel
theorem dX11_led_11 : decode cX11_led 11 = .ok (.ifCond .ge 8, 3) := by decide +kernel
theorem dX11_led_14 : decode cX11_led 14 = .ok (.bipush (-5), 2) := by decide +kernel
theorem dX11_led_16 : decode cX11_led 16 = .ok (.goto 10, 3) := by decide +kernel
theorem dX11_led_19 : decode cX11_led 19 = .ok (.aload_n 0, 1) := by decide +kernel
theorem dX11_led_20 : decode cX11_led 20 = .ok (.getfield 80, 3) := by decide +kernel
theorem dX11_led_23 : decode cX11_led 23 = .ok (.bipush 6, 2) := by decide +kernel
theorem dX11_led_25 : decode cX11_led 25 = .ok (.iaload, 1) := by decide +kernel
theorem dX11_led_26 : decode cX11_led 26 = .ok (.ireturn, 1) := by decide +kernel
theorem dX11_led_27 : decode cX11_led 27 = .ok (.iload_n 1, 1) := by decide +kernel
theorem dX11_led_28 : decode cX11_led 28 = .ok (.iconst 0, 1) := by decide +kernel
theorem dX11_led_29 : decode cX11_led 29 = .ok (.iconst 3, 1) := by decide +kernel
theorem dX11_led_30 : decode cX11_led 30 = .ok (.invokestatic 118, 3) := by decide +kernel
theorem dX11_led_33 : decode cX11_led 33 = .ok (.ifCond .eq 12, 3) := by decide +kernel
theorem dX11_led_36 : decode cX11_led 36 = .ok (.aload_n 0, 1) := by decide +kernel
theorem dX11_led_37 : decode cX11_led 37 = .ok (.getfield 80, 3) := by decide +kernel
theorem dX11_led_40 : decode cX11_led 40 = .ok (.iload_n 1, 1) := by decide +kernel
theorem dX11_led_41 : decode cX11_led 41 = .ok (.iaload, 1) := by decide +kernel
theorem dX11_led_42 : decode cX11_led 42 = .ok (.goto 4, 3) := by decide +kernel
theorem dX11_led_45 : decode cX11_led 45 = .ok (.iconst (-1), 1) := by decide +kernel
theorem dX11_led_46 : decode cX11_led 46 = .ok (.ireturn, 1) := by decide +kernel
theorem dX11_image_0 : decode cX11_image 0 = .ok (.aload_n 0, 1) := by decide +kernel
theorem dX11_image_1 : decode cX11_image 1 = .ok (.iconst 1, 1) := by decide +kernel
theorem dX11_image_2 : decode cX11_image 2 = .ok (.putfield 334, 3) := by decide +kernel
theorem dX11_image_5 : decode cX11_image 5 = .ok (.iconst 0, 1) := by decide +kernel
theorem dX11_image_6 : decode cX11_image 6 = .ok (.istore_n 1, 1) := by decide +kernel
theorem dX11_image_7 : decode cX11_image 7 = .ok (.iload_n 1, 1) := by decide +kernel
theorem dX11_image_8 : decode cX11_image 8 = .ok (.bipush 7, 2) := by decide +kernel
theorem dX11_image_10 : decode cX11_image 10 = .ok (.if_icmp .ge 21, 3) := by decide +kernel
theorem dX11_image_13 : decode cX11_image 13 = .ok (.aload_n 0, 1) := by decide +kernel
theorem dX11_image_14 : decode cX11_image 14 = .ok (.getfield 86, 3) := by decide +kernel
theorem dX11_image_17 : decode cX11_image 17 = .ok (.iload_n 1, 1) := by decide +kernel
theorem dX11_image_18 : decode cX11_image 18 = .ok (.aload_n 0, 1) := by decide +kernel
theorem dX11_image_19 : decode cX11_image 19 = .ok (.getfield 80, 3) := by decide +kernel
theorem dX11_image_22 : decode cX11_image 22 = .ok (.iload_n 1, 1) := by decide +kernel
theorem dX11_image_23 : decode cX11_image 23 = .ok (.iaload, 1) := by decide +kernel
theorem dX11_image_24 : decode cX11_image 24 = .ok (.iastore, 1) := by decide +kernel
theorem dX11_image_25 : decode cX11_image 25 = .ok (.iinc 1 1, 3) := by decide +kernel
theorem dX11_image_28 : decode cX11_image 28 = .ok (.goto (-21), 3) := by decide +kernel
theorem dX11_image_31 : decode cX11_image 31 = .ok (.iconst 0, 1) := by decide +kernel
theorem dX11_image_32 : decode cX11_image 32 = .ok (.istore_n 1, 1) := by decide +kernel
theorem dX11_image_33 : decode cX11_image 33 = .ok (.iload_n 1, 1) := by decide +kernel
theorem dX11_image_34 : decode cX11_image 34 = .ok (.bipush 12, 2) := by decide +kernel
theorem dX11_image_36 : decode cX11_image 36 = .ok (.if_icmp .ge 21, 3) := by decide +kernel
theorem dX11_image_39 : decode cX11_image 39 = .ok (.aload_n 0, 1) := by decide +kernel
theorem dX11_image_40 : decode cX11_image 40 = .ok (.getfield 89, 3) := by decide +kernel
theorem dX11_image_43 : decode cX11_image 43 = .ok (.iload_n 1, 1) := by decide +kernel
theorem dX11_image_44 : decode cX11_image 44 = .ok (.aload_n 0, 1) := by decide +kernel
theorem dX11_image_45 : decode cX11_image 45 = .ok (.getfield 83, 3) := by decide +kernel
theorem dX11_image_48 : decode cX11_image 48 = .ok (.iload_n 1, 1) := by decide +kernel
theorem dX11_image_49 : decode cX11_image 49 = .ok (.iaload, 1) := by decide +kernel
theorem dX11_image_50 : decode cX11_image 50 = .ok (.iastore, 1) := by decide +kernel
theorem dX11_image_51 : decode cX11_image 51 = .ok (.iinc 1 1, 3) := by decide +kernel
theorem dX11_image_54 : decode cX11_image 54 = .ok (.goto (-21), 3) := by decide +kernel
theorem dX11_image_57 : decode cX11_image 57 = .ok (.iconst 0, 1) := by decide +kernel
theorem dX11_image_58 : decode cX11_image 58 = .ok (.istore_n 1, 1) := by decide +kernel
theorem dX11_image_59 : decode cX11_image 59 = .ok (.iload_n 1, 1) := by decide +kernel
theorem dX11_image_60 : decode cX11_image 60 = .ok (.bipush 24, 2) := by decide +kernel
theorem dX11_image_62 : decode cX11_image 62 = .ok (.if_icmp .ge 21, 3) := by decide +kernel
theorem dX11_image_65 : decode cX11_image 65 = .ok (.aload_n 0, 1) := by decide +kernel
theorem dX11_image_66 : decode cX11_image 66 = .ok (.getfield 92, 3) := by decide +kernel
theorem dX11_image_69 : decode cX11_image 69 = .ok (.iload_n 1, 1) := by decide +kernel
theorem dX11_image_70 : decode cX11_image 70 = .ok (.aload_n 0, 1) := by decide +kernel
theorem dX11_image_71 : decode cX11_image 71 = .ok (.getfield 24, 3) := by decide +kernel
theorem dX11_image_74 : decode cX11_image 74 = .ok (.iload_n 1, 1) := by decide +kernel
theorem dX11_image_75 : decode cX11_image 75 = .ok (.iaload, 1) := by decide +kernel
theorem dX11_image_76 : decode cX11_image 76 = .ok (.iastore, 1) := by decide +kernel
theorem dX11_image_77 : decode cX11_image 77 = .ok (.iinc 1 1, 3) := by decide +kernel
theorem dX11_image_80 : decode cX11_image 80 = .ok (.goto (-21), 3) := by decide +kernel
theorem dX11_image_83 : decode cX11_image 83 = .ok (.aload_n 0, 1) := by decide +kernel
theorem dX11_image_84 : decode cX11_image 84 = .ok (.getfield 80, 3) := by decide +kernel
theorem dX11_image_87 : decode cX11_image 87 = .ok (.iconst 0, 1) := by decide +kernel
theorem dX11_image_88 : decode cX11_image 88 = .ok (.iaload, 1) := by decide +kernel
theorem dX11_image_89 : decode cX11_image 89 = .ok (.ireturn, 1) := by decide +kernel
theorem dX11_back_0 : decode cX11_back 0 = .ok (.aload_n 0, 1) := by decide +kernel
theorem dX11_back_1 : decode cX11_back 1 = .ok (.getfield 334, 3) := by decide +kernel
theorem dX11_back_4 : decode cX11_back 4 = .ok (.ifCond .ne 6, 3) := by decide +kernel
theorem dX11_back_7 : decode cX11_back 7 = .ok (.bipush (-5), 2) := by decide +kernel
theorem dX11_back_9 : decode cX11_back 9 = .ok (.ireturn, 1) := by decide +kernel
theorem dX11_back_10 : decode cX11_back 10 = .ok (.iconst 0, 1) := by decide +kernel
theorem dX11_back_11 : decode cX11_back 11 = .ok (.istore_n 1, 1) := by decide +kernel
theorem dX11_back_12 : decode cX11_back 12 = .ok (.iload_n 1, 1) := by decide +kernel
theorem dX11_back_13 : decode cX11_back 13 = .ok (.bipush 7, 2) := by decide +kernel
theorem dX11_back_15 : decode cX11_back 15 = .ok (.if_icmp .ge 21, 3) := by decide +kernel
theorem dX11_back_18 : decode cX11_back 18 = .ok (.aload_n 0, 1) := by decide +kernel
theorem dX11_back_19 : decode cX11_back 19 = .ok (.getfield 80, 3) := by decide +kernel
theorem dX11_back_22 : decode cX11_back 22 = .ok (.iload_n 1, 1) := by decide +kernel
theorem dX11_back_23 : decode cX11_back 23 = .ok (.aload_n 0, 1) := by decide +kernel
theorem dX11_back_24 : decode cX11_back 24 = .ok (.getfield 86, 3) := by decide +kernel
theorem dX11_back_27 : decode cX11_back 27 = .ok (.iload_n 1, 1) := by decide +kernel
theorem dX11_back_28 : decode cX11_back 28 = .ok (.iaload, 1) := by decide +kernel
theorem dX11_back_29 : decode cX11_back 29 = .ok (.iastore, 1) := by decide +kernel
theorem dX11_back_30 : decode cX11_back 30 = .ok (.iinc 1 1, 3) := by decide +kernel
theorem dX11_back_33 : decode cX11_back 33 = .ok (.goto (-21), 3) := by decide +kernel
theorem dX11_back_36 : decode cX11_back 36 = .ok (.iconst 0, 1) := by decide +kernel
theorem dX11_back_37 : decode cX11_back 37 = .ok (.istore_n 1, 1) := by decide +kernel
theorem dX11_back_38 : decode cX11_back 38 = .ok (.iload_n 1, 1) := by decide +kernel
theorem dX11_back_39 : decode cX11_back 39 = .ok (.bipush 12, 2) := by decide +kernel
theorem dX11_back_41 : decode cX11_back 41 = .ok (.if_icmp .ge 21, 3) := by decide +kernel
theorem dX11_back_44 : decode cX11_back 44 = .ok (.aload_n 0, 1) := by decide +kernel
theorem dX11_back_45 : decode cX11_back 45 = .ok (.getfield 83, 3) := by decide +kernel
theorem dX11_back_48 : decode cX11_back 48 = .ok (.iload_n 1, 1) := by decide +kernel
theorem dX11_back_49 : decode cX11_back 49 = .ok (.aload_n 0, 1) := by decide +kernel
theorem dX11_back_50 : decode cX11_back 50 = .ok (.getfield 89, 3) := by decide +kernel
theorem dX11_back_53 : decode cX11_back 53 = .ok (.iload_n 1, 1) := by decide +kernel
theorem dX11_back_54 : decode cX11_back 54 = .ok (.iaload, 1) := by decide +kernel
theorem dX11_back_55 : decode cX11_back 55 = .ok (.iastore, 1) := by decide +kernel
theorem dX11_back_56 : decode cX11_back 56 = .ok (.iinc 1 1, 3) := by decide +kernel
theorem dX11_back_59 : decode cX11_back 59 = .ok (.goto (-21), 3) := by decide +kernel
theorem dX11_back_62 : decode cX11_back 62 = .ok (.iconst 0, 1) := by decide +kernel
theorem dX11_back_63 : decode cX11_back 63 = .ok (.istore_n 1, 1) := by decide +kernel
theorem dX11_back_64 : decode cX11_back 64 = .ok (.iload_n 1, 1) := by decide +kernel
theorem dX11_back_65 : decode cX11_back 65 = .ok (.bipush 24, 2) := by decide +kernel
theorem dX11_back_67 : decode cX11_back 67 = .ok (.if_icmp .ge 21, 3) := by decide +kernel
theorem dX11_back_70 : decode cX11_back 70 = .ok (.aload_n 0, 1) := by decide +kernel
theorem dX11_back_71 : decode cX11_back 71 = .ok (.getfield 24, 3) := by decide +kernel
theorem dX11_back_74 : decode cX11_back 74 = .ok (.iload_n 1, 1) := by decide +kernel
theorem dX11_back_75 : decode cX11_back 75 = .ok (.aload_n 0, 1) := by decide +kernel
theorem dX11_back_76 : decode cX11_back 76 = .ok (.getfield 92, 3) := by decide +kernel
theorem dX11_back_79 : decode cX11_back 79 = .ok (.iload_n 1, 1) := by decide +kernel
theorem dX11_back_80 : decode cX11_back 80 = .ok (.iaload, 1) := by decide +kernel
theorem dX11_back_81 : decode cX11_back 81 = .ok (.iastore, 1) := by decide +kernel
theorem dX11_back_82 : decode cX11_back 82 = .ok (.iinc 1 1, 3) := by decide +kernel
theorem dX11_back_85 : decode cX11_back 85 = .ok (.goto (-21), 3) := by decide +kernel
theorem dX11_back_88 : decode cX11_back 88 = .ok (.aload_n 0, 1) := by decide +kernel
theorem dX11_back_89 : decode cX11_back 89 = .ok (.getfield 80, 3) := by decide +kernel
theorem dX11_back_92 : decode cX11_back 92 = .ok (.iconst 0, 1) := by decide +kernel
theorem dX11_back_93 : decode cX11_back 93 = .ok (.iaload, 1) := by decide +kernel
theorem dX11_back_94 : decode cX11_back 94 = .ok (.ireturn, 1) := by decide +kernel
set_option maxRecDepth 20000 in
theorem ggX11_isBody_X11_in : GoodIn wsX11_isBody wsX11_in := goodIn_r _ [5] rfl (by decide +kernel)
set_option maxRecDepth 20000 in
theorem gX11_isBody_X11_in : GoodIn wsX11_isBody (va_wsS RX11 118 yX11_in wsX11_in) := goodIn_app (goodIn_of _ (by decide +kernel)) ggX11_isBody_X11_in
theorem dX11_isBody_0 : decode cX11_isBody 0 = .ok (.iload_n 1, 1) := by decide +kernel
theorem dX11_isBody_1 : decode cX11_isBody 1 = .ok (.iconst 0, 1) := by decide +kernel
theorem dX11_isBody_2 : decode cX11_isBody 2 = .ok (.aload_n 0, 1) := by decide +kernel
theorem dX11_isBody_3 : decode cX11_isBody 3 = .ok (.getfield 337, 3) := by decide +kernel
theorem dX11_isBody_6 : decode cX11_isBody 6 = .ok (.iconst 1, 1) := by decide +kernel
theorem dX11_isBody_7 : decode cX11_isBody 7 = .ok (.isub, 1) := by decide +kernel
theorem dX11_isBody_8 : decode cX11_isBody 8 = .ok (.invokestatic 118, 3) := by decide +kernel
theorem dX11_isBody_11 : decode cX11_isBody 11 = .ok (.ireturn, 1) := by decide +kernel
theorem dX11_ran_0 : decode cX11_ran 0 = .ok (.aload_n 0, 1) := by decide +kernel
theorem dX11_ran_1 : decode cX11_ran 1 = .ok (.getfield 340, 3) := by decide +kernel
theorem dX11_ran_4 : decode cX11_ran 4 = .ok (.bipush 24, 2) := by decide +kernel
theorem dX11_ran_6 : decode cX11_ran 6 = .ok (.if_icmp .ge 13, 3) := by decide +kernel
theorem dX11_ran_9 : decode cX11_ran 9 = .ok (.aload_n 0, 1) := by decide +kernel
theorem dX11_ran_10 : decode cX11_ran 10 = .ok (.getfield 98, 3) := by decide +kernel
theorem dX11_ran_13 : decode cX11_ran 13 = .ok (.aload_n 0, 1) := by decide +kernel
theorem dX11_ran_14 : decode cX11_ran 14 = .ok (.getfield 340, 3) := by decide +kernel
theorem dX11_ran_17 : decode cX11_ran 17 = .ok (.iload_n 1, 1) := by decide +kernel
theorem dX11_ran_18 : decode cX11_ran 18 = .ok (.iastore, 1) := by decide +kernel
theorem dX11_ran_19 : decode cX11_ran 19 = .ok (.aload_n 0, 1) := by decide +kernel
theorem dX11_ran_20 : decode cX11_ran 20 = .ok (.dup, 1) := by decide +kernel
theorem dX11_ran_21 : decode cX11_ran 21 = .ok (.getfield 340, 3) := by decide +kernel
theorem dX11_ran_24 : decode cX11_ran 24 = .ok (.iconst 1, 1) := by decide +kernel
theorem dX11_ran_25 : decode cX11_ran 25 = .ok (.iadd, 1) := by decide +kernel
theorem dX11_ran_26 : decode cX11_ran 26 = .ok (.putfield 340, 3) := by decide +kernel
theorem dX11_ran_29 : decode cX11_ran 29 = .ok (.return_, 1) := by decide +kernel
theorem dX11_trace_0 : decode cX11_trace 0 = .ok (.iload_n 1, 1) := by decide +kernel
theorem dX11_trace_1 : decode cX11_trace 1 = .ok (.ifCond .lt 26, 3) := by decide +kernel
theorem dX11_trace_4 : decode cX11_trace 4 = .ok (.iload_n 1, 1) := by decide +kernel
theorem dX11_trace_5 : decode cX11_trace 5 = .ok (.aload_n 0, 1) := by decide +kernel
theorem dX11_trace_6 : decode cX11_trace 6 = .ok (.getfield 340, 3) := by decide +kernel
theorem dX11_trace_9 : decode cX11_trace 9 = .ok (.if_icmp .ge 18, 3) := by decide +kernel
theorem dX11_trace_12 : decode cX11_trace 12 = .ok (.iload_n 1, 1) := by decide +kernel
theorem dX11_trace_13 : decode cX11_trace 13 = .ok (.bipush 24, 2) := by decide +kernel
theorem dX11_trace_15 : decode cX11_trace 15 = .ok (.if_icmp .ge 12, 3) := by decide +kernel
theorem dX11_trace_18 : decode cX11_trace 18 = .ok (.aload_n 0, 1) := by decide +kernel
theorem dX11_trace_19 : decode cX11_trace 19 = .ok (.getfield 98, 3) := by decide +kernel
theorem dX11_trace_22 : decode cX11_trace 22 = .ok (.iload_n 1, 1) := by decide +kernel
theorem dX11_trace_23 : decode cX11_trace 23 = .ok (.iaload, 1) := by decide +kernel
theorem dX11_trace_24 : decode cX11_trace 24 = .ok (.goto 4, 3) := by decide +kernel
theorem dX11_trace_27 : decode cX11_trace 27 = .ok (.iconst (-1), 1) := by decide +kernel
theorem dX11_trace_28 : decode cX11_trace 28 = .ok (.ireturn, 1) := by decide +kernel
set_option maxRecDepth 20000 in
theorem ggX11_body_X11_in : GoodIn wsX11_body wsX11_in := goodIn_r _ [6] rfl (by decide +kernel)
set_option maxRecDepth 20000 in
theorem gX11_body_X11_in : GoodIn wsX11_body (va_wsS RX11 118 yX11_in wsX11_in) := goodIn_app (goodIn_of _ (by decide +kernel)) ggX11_body_X11_in
theorem dX11_body_0 : decode cX11_body 0 = .ok (.iload_n 1, 1) := by decide +kernel
theorem dX11_body_1 : decode cX11_body 1 = .ok (.iconst 0, 1) := by decide +kernel
theorem dX11_body_2 : decode cX11_body 2 = .ok (.bipush 7, 2) := by decide +kernel
theorem dX11_body_4 : decode cX11_body 4 = .ok (.invokestatic 118, 3) := by decide +kernel
theorem dX11_body_7 : decode cX11_body 7 = .ok (.ifCond .ne 5, 3) := by decide +kernel
theorem dX11_body_10 : decode cX11_body 10 = .ok (.iconst (-1), 1) := by decide +kernel
theorem dX11_body_11 : decode cX11_body 11 = .ok (.ireturn, 1) := by decide +kernel
theorem dX11_body_12 : decode cX11_body 12 = .ok (.aload_n 0, 1) := by decide +kernel
theorem dX11_body_13 : decode cX11_body 13 = .ok (.getfield 337, 3) := by decide +kernel
theorem dX11_body_16 : decode cX11_body 16 = .ok (.bipush 50, 2) := by decide +kernel
theorem dX11_body_18 : decode cX11_body 18 = .ok (.if_icmp .ne 6, 3) := by decide +kernel
theorem dX11_body_21 : decode cX11_body 21 = .ok (.bipush (-3), 2) := by decide +kernel
theorem dX11_body_23 : decode cX11_body 23 = .ok (.ireturn, 1) := by decide +kernel
theorem dX11_body_24 : decode cX11_body 24 = .ok (.aload_n 0, 1) := by decide +kernel
theorem dX11_body_25 : decode cX11_body 25 = .ok (.getfield 95, 3) := by decide +kernel
theorem dX11_body_28 : decode cX11_body 28 = .ok (.aload_n 0, 1) := by decide +kernel
theorem dX11_body_29 : decode cX11_body 29 = .ok (.getfield 337, 3) := by decide +kernel
theorem dX11_body_32 : decode cX11_body 32 = .ok (.iload_n 1, 1) := by decide +kernel
theorem dX11_body_33 : decode cX11_body 33 = .ok (.iastore, 1) := by decide +kernel
theorem dX11_body_34 : decode cX11_body 34 = .ok (.aload_n 0, 1) := by decide +kernel
theorem dX11_body_35 : decode cX11_body 35 = .ok (.dup, 1) := by decide +kernel
theorem dX11_body_36 : decode cX11_body 36 = .ok (.getfield 337, 3) := by decide +kernel
theorem dX11_body_39 : decode cX11_body 39 = .ok (.iconst 1, 1) := by decide +kernel
theorem dX11_body_40 : decode cX11_body 40 = .ok (.iadd, 1) := by decide +kernel
theorem dX11_body_41 : decode cX11_body 41 = .ok (.putfield 337, 3) := by decide +kernel
theorem dX11_body_44 : decode cX11_body 44 = .ok (.aload_n 0, 1) := by decide +kernel
theorem dX11_body_45 : decode cX11_body 45 = .ok (.getfield 337, 3) := by decide +kernel
theorem dX11_body_48 : decode cX11_body 48 = .ok (.iconst 1, 1) := by decide +kernel
theorem dX11_body_49 : decode cX11_body 49 = .ok (.isub, 1) := by decide +kernel
theorem dX11_body_50 : decode cX11_body 50 = .ok (.ireturn, 1) := by decide +kernel
theorem dX11_isUnder_0 : decode cX11_isUnder 0 = .ok (.iload_n 1, 1) := by decide +kernel
theorem dX11_isUnder_1 : decode cX11_isUnder 1 = .ok (.ifCond .eq 55, 3) := by decide +kernel
theorem dX11_isUnder_4 : decode cX11_isUnder 4 = .ok (.iload_n 0, 1) := by decide +kernel
theorem dX11_isUnder_5 : decode cX11_isUnder 5 = .ok (.iload_n 1, 1) := by decide +kernel
theorem dX11_isUnder_6 : decode cX11_isUnder 6 = .ok (.if_icmp .eq 50, 3) := by decide +kernel
theorem dX11_isUnder_9 : decode cX11_isUnder 9 = .ok (.iload_n 1, 1) := by decide +kernel
theorem dX11_isUnder_10 : decode cX11_isUnder 10 = .ok (.iconst 1, 1) := by decide +kernel
theorem dX11_isUnder_11 : decode cX11_isUnder 11 = .ok (.if_icmp .ne 8, 3) := by decide +kernel
theorem dX11_isUnder_14 : decode cX11_isUnder 14 = .ok (.iload_n 0, 1) := by decide +kernel
theorem dX11_isUnder_15 : decode cX11_isUnder 15 = .ok (.iconst 4, 1) := by decide +kernel
theorem dX11_isUnder_16 : decode cX11_isUnder 16 = .ok (.if_icmp .eq 40, 3) := by decide +kernel
theorem dX11_isUnder_19 : decode cX11_isUnder 19 = .ok (.iload_n 1, 1) := by decide +kernel
theorem dX11_isUnder_20 : decode cX11_isUnder 20 = .ok (.iconst 2, 1) := by decide +kernel
theorem dX11_isUnder_21 : decode cX11_isUnder 21 = .ok (.if_icmp .ne 13, 3) := by decide +kernel
theorem dX11_isUnder_24 : decode cX11_isUnder 24 = .ok (.iload_n 0, 1) := by decide +kernel
theorem dX11_isUnder_25 : decode cX11_isUnder 25 = .ok (.iconst 3, 1) := by decide +kernel
theorem dX11_isUnder_26 : decode cX11_isUnder 26 = .ok (.if_icmp .eq 30, 3) := by decide +kernel
theorem dX11_isUnder_29 : decode cX11_isUnder 29 = .ok (.iload_n 0, 1) := by decide +kernel
theorem dX11_isUnder_30 : decode cX11_isUnder 30 = .ok (.iconst 5, 1) := by decide +kernel
theorem dX11_isUnder_31 : decode cX11_isUnder 31 = .ok (.if_icmp .eq 25, 3) := by decide +kernel
theorem dX11_isUnder_34 : decode cX11_isUnder 34 = .ok (.iload_n 1, 1) := by decide +kernel
theorem dX11_isUnder_35 : decode cX11_isUnder 35 = .ok (.iconst 3, 1) := by decide +kernel
theorem dX11_isUnder_36 : decode cX11_isUnder 36 = .ok (.if_icmp .ne 8, 3) := by decide +kernel
theorem dX11_isUnder_39 : decode cX11_isUnder 39 = .ok (.iload_n 0, 1) := by decide +kernel
theorem dX11_isUnder_40 : decode cX11_isUnder 40 = .ok (.iconst 5, 1) := by decide +kernel
theorem dX11_isUnder_41 : decode cX11_isUnder 41 = .ok (.if_icmp .eq 15, 3) := by decide +kernel
theorem dX11_isUnder_44 : decode cX11_isUnder 44 = .ok (.iload_n 1, 1) := by decide +kernel
theorem dX11_isUnder_45 : decode cX11_isUnder 45 = .ok (.bipush 6, 2) := by decide +kernel
theorem dX11_isUnder_47 : decode cX11_isUnder 47 = .ok (.if_icmp .ne 13, 3) := by decide +kernel
theorem dX11_isUnder_50 : decode cX11_isUnder 50 = .ok (.iload_n 0, 1) := by decide +kernel
theorem dX11_isUnder_51 : decode cX11_isUnder 51 = .ok (.bipush 7, 2) := by decide +kernel
theorem dX11_isUnder_53 : decode cX11_isUnder 53 = .ok (.if_icmp .ne 7, 3) := by decide +kernel
theorem dX11_isUnder_56 : decode cX11_isUnder 56 = .ok (.iconst 1, 1) := by decide +kernel
theorem dX11_isUnder_57 : decode cX11_isUnder 57 = .ok (.goto 4, 3) := by decide +kernel
theorem dX11_isUnder_60 : decode cX11_isUnder 60 = .ok (.iconst 0, 1) := by decide +kernel
theorem dX11_isUnder_61 : decode cX11_isUnder 61 = .ok (.ireturn, 1) := by decide +kernel
set_option maxRecDepth 20000 in
theorem ggX11_plainBegins_X11_ran : GoodIn wsX11_plainBegins wsX11_ran := goodIn_r _ [5, 6, 7, 8, 9, 10, 11, 12, 13, 14, 15, 16, 17, 18, 19, 20, 21, 22, 23, 24, 25, 26, 27, 28, 29, 30, 31, 32, 33, 34, 35, 36, 37, 38, 39, 40, 41, 42, 43, 44, 45, 46, 47, 48, 49, 50, 51, 52, 53, 54, 55, 56, 57] rfl (by decide +kernel)
set_option maxRecDepth 20000 in
theorem gX11_plainBegins_X11_ran : GoodIn wsX11_plainBegins (wsV RX11 343 RX11 yX11_ran wsX11_ran) := goodIn_app (goodIn_of _ (by decide +kernel)) ggX11_plainBegins_X11_ran
theorem dX11_plainBegins_0 : decode cX11_plainBegins 0 = .ok (.aload_n 0, 1) := by decide +kernel
theorem dX11_plainBegins_1 : decode cX11_plainBegins 1 = .ok (.iconst 1, 1) := by decide +kernel
theorem dX11_plainBegins_2 : decode cX11_plainBegins 2 = .ok (.invokevirtual 343, 3) := by decide +kernel
theorem dX11_plainBegins_5 : decode cX11_plainBegins 5 = .ok (.iload_n 2, 1) := by decide +kernel
theorem dX11_plainBegins_6 : decode cX11_plainBegins 6 = .ok (.iload_n 1, 1) := by decide +kernel
theorem dX11_plainBegins_7 : decode cX11_plainBegins 7 = .ok (.iadd, 1) := by decide +kernel
theorem dX11_plainBegins_8 : decode cX11_plainBegins 8 = .ok (.ireturn, 1) := by decide +kernel
set_option maxRecDepth 20000 in
theorem ggX11_wholeBegins_X11_ran : GoodIn wsX11_wholeBegins wsX11_ran := goodIn_r _ [5, 6, 7, 12, 13, 14, 15, 16, 17, 18, 19, 20, 21, 22, 23, 24, 25, 26, 27, 28, 29, 30, 31, 32, 33, 34, 35, 36, 37, 38, 39, 40, 41, 42, 43, 44, 45, 46, 47, 48, 49, 50, 51, 52, 53, 54, 55, 56, 57, 58, 59, 60, 61] rfl (by decide +kernel)
set_option maxRecDepth 20000 in
theorem gX11_wholeBegins_X11_ran : GoodIn wsX11_wholeBegins (wsV RX11 343 RX11 yX11_ran wsX11_ran) := goodIn_app (goodIn_of _ (by decide +kernel)) ggX11_wholeBegins_X11_ran
set_option maxRecDepth 20000 in
theorem ggX11_wholeBegins_X11_plainBegins : GoodIn wsX11_wholeBegins wsX11_plainBegins := goodIn_r _ [11, 1, 2, 3, 4, 5, 6, 7, 12, 13, 14, 15, 16, 17, 18, 19, 20, 21, 22, 23, 24, 25, 26, 27, 28, 29, 30, 31, 32, 33, 34, 35, 36, 37, 38, 39, 40, 41, 42, 43, 44, 45, 46, 47, 48, 49, 50, 51, 52, 53, 54, 55, 56, 57, 58, 59, 60, 61] rfl (by decide +kernel)
set_option maxRecDepth 20000 in
theorem gX11_wholeBegins_X11_plainBegins : GoodIn wsX11_wholeBegins (wsV RX11 347 RX11 yX11_plainBegins wsX11_plainBegins) := goodIn_app (goodIn_of _ (by decide +kernel)) ggX11_wholeBegins_X11_plainBegins
theorem dX11_wholeBegins_0 : decode cX11_wholeBegins 0 = .ok (.aload_n 0, 1) := by decide +kernel
theorem dX11_wholeBegins_1 : decode cX11_wholeBegins 1 = .ok (.bipush 70, 2) := by decide +kernel
theorem dX11_wholeBegins_3 : decode cX11_wholeBegins 3 = .ok (.invokevirtual 343, 3) := by decide +kernel
theorem dX11_wholeBegins_6 : decode cX11_wholeBegins 6 = .ok (.aload_n 0, 1) := by decide +kernel
theorem dX11_wholeBegins_7 : decode cX11_wholeBegins 7 = .ok (.iload_n 1, 1) := by decide +kernel
theorem dX11_wholeBegins_8 : decode cX11_wholeBegins 8 = .ok (.iload_n 2, 1) := by decide +kernel
theorem dX11_wholeBegins_9 : decode cX11_wholeBegins 9 = .ok (.invokevirtual 347, 3) := by decide +kernel
theorem dX11_wholeBegins_12 : decode cX11_wholeBegins 12 = .ok (.iconst 2, 1) := by decide +kernel
theorem dX11_wholeBegins_13 : decode cX11_wholeBegins 13 = .ok (.imul, 1) := by decide +kernel
theorem dX11_wholeBegins_14 : decode cX11_wholeBegins 14 = .ok (.ireturn, 1) := by decide +kernel
set_option maxRecDepth 20000 in
theorem ggX11_beginning_X11_isUnder : GoodIn wsX11_beginning wsX11_isUnder := goodIn_r _ [5] rfl (by decide +kernel)
set_option maxRecDepth 20000 in
theorem gX11_beginning_X11_isUnder : GoodIn wsX11_beginning (va_wsS RX11 350 yX11_isUnder wsX11_isUnder) := goodIn_app (goodIn_of _ (by decide +kernel)) ggX11_beginning_X11_isUnder
set_option maxRecDepth 20000 in
theorem ggX11_beginning_X11_ran : GoodIn wsX11_beginning wsX11_ran := goodIn_r _ [9, 10, 11, 20, 21, 22, 23, 24, 25, 26, 27, 28, 29, 30, 31, 32, 33, 34, 35, 36, 37, 38, 39, 40, 41, 42, 43, 44, 45, 46, 47, 48, 49, 50, 51, 52, 53, 54, 55, 56, 57, 58, 59, 60, 61, 62, 63, 64, 65, 66, 67, 68, 69] rfl (by decide +kernel)
set_option maxRecDepth 20000 in
theorem gX11_beginning_X11_ran : GoodIn wsX11_beginning (wsV RX11 343 RX11 yX11_ran wsX11_ran) := goodIn_app (goodIn_of _ (by decide +kernel)) ggX11_beginning_X11_ran
set_option maxRecDepth 20000 in
theorem ggX11_beginning_X11_plainBegins : GoodIn wsX11_beginning wsX11_plainBegins := goodIn_r _ [15, 6, 7, 8, 4, 9, 10, 11, 20, 21, 22, 23, 24, 25, 26, 27, 28, 29, 30, 31, 32, 33, 34, 35, 36, 37, 38, 39, 40, 41, 42, 43, 44, 45, 46, 47, 48, 49, 50, 51, 52, 53, 54, 55, 56, 57, 58, 59, 60, 61, 62, 63, 64, 65, 66, 67, 68, 69] rfl (by decide +kernel)
set_option maxRecDepth 20000 in
theorem gX11_beginning_X11_plainBegins : GoodIn wsX11_beginning (wsV RX11 347 RX11 yX11_plainBegins wsX11_plainBegins) := goodIn_app (goodIn_of _ (by decide +kernel)) ggX11_beginning_X11_plainBegins
set_option maxRecDepth 20000 in
theorem ggX11_beginning_X11_wholeBegins : GoodIn wsX11_beginning wsX11_wholeBegins := goodIn_r _ [19, 6, 7, 8, 4, 9, 10, 11, 12, 13, 14, 15, 20, 21, 22, 23, 24, 25, 26, 27, 28, 29, 30, 31, 32, 33, 34, 35, 36, 37, 38, 39, 40, 41, 42, 43, 44, 45, 46, 47, 48, 49, 50, 51, 52, 53, 54, 55, 56, 57, 58, 59, 60, 61, 62, 63, 64, 65, 66, 67, 68, 69] rfl (by decide +kernel)
set_option maxRecDepth 20000 in
theorem gX11_beginning_X11_wholeBegins : GoodIn wsX11_beginning (wsV RX11 353 RX11 yX11_wholeBegins wsX11_wholeBegins) := goodIn_app (goodIn_of _ (by decide +kernel)) ggX11_beginning_X11_wholeBegins
theorem dX11_beginning_0 : decode cX11_beginning 0 = .ok (.aload_n 0, 1) := by decide +kernel
theorem dX11_beginning_1 : decode cX11_beginning 1 = .ok (.getfield 95, 3) := by decide +kernel
theorem dX11_beginning_4 : decode cX11_beginning 4 = .ok (.iload_n 1, 1) := by decide +kernel
theorem dX11_beginning_5 : decode cX11_beginning 5 = .ok (.iaload, 1) := by decide +kernel
theorem dX11_beginning_6 : decode cX11_beginning 6 = .ok (.iconst 1, 1) := by decide +kernel
theorem dX11_beginning_7 : decode cX11_beginning 7 = .ok (.invokestatic 350, 3) := by decide +kernel
theorem dX11_beginning_10 : decode cX11_beginning 10 = .ok (.ifCond .eq 18, 3) := by decide +kernel
theorem dX11_beginning_13 : decode cX11_beginning 13 = .ok (.aload_n 0, 1) := by decide +kernel
theorem dX11_beginning_14 : decode cX11_beginning 14 = .ok (.bipush 20, 2) := by decide +kernel
theorem dX11_beginning_16 : decode cX11_beginning 16 = .ok (.invokevirtual 343, 3) := by decide +kernel
theorem dX11_beginning_19 : decode cX11_beginning 19 = .ok (.aload_n 0, 1) := by decide +kernel
theorem dX11_beginning_20 : decode cX11_beginning 20 = .ok (.iload_n 1, 1) := by decide +kernel
theorem dX11_beginning_21 : decode cX11_beginning 21 = .ok (.iload_n 2, 1) := by decide +kernel
theorem dX11_beginning_22 : decode cX11_beginning 22 = .ok (.invokevirtual 347, 3) := by decide +kernel
theorem dX11_beginning_25 : decode cX11_beginning 25 = .ok (.iconst 3, 1) := by decide +kernel
theorem dX11_beginning_26 : decode cX11_beginning 26 = .ok (.iadd, 1) := by decide +kernel
theorem dX11_beginning_27 : decode cX11_beginning 27 = .ok (.ireturn, 1) := by decide +kernel
theorem dX11_beginning_28 : decode cX11_beginning 28 = .ok (.aload_n 0, 1) := by decide +kernel
theorem dX11_beginning_29 : decode cX11_beginning 29 = .ok (.getfield 95, 3) := by decide +kernel
theorem dX11_beginning_32 : decode cX11_beginning 32 = .ok (.iload_n 1, 1) := by decide +kernel
theorem dX11_beginning_33 : decode cX11_beginning 33 = .ok (.iaload, 1) := by decide +kernel
theorem dX11_beginning_34 : decode cX11_beginning 34 = .ok (.bipush 7, 2) := by decide +kernel
theorem dX11_beginning_36 : decode cX11_beginning 36 = .ok (.if_icmp .ne 18, 3) := by decide +kernel
theorem dX11_beginning_39 : decode cX11_beginning 39 = .ok (.aload_n 0, 1) := by decide +kernel
theorem dX11_beginning_40 : decode cX11_beginning 40 = .ok (.bipush 81, 2) := by decide +kernel
theorem dX11_beginning_42 : decode cX11_beginning 42 = .ok (.invokevirtual 343, 3) := by decide +kernel
theorem dX11_beginning_45 : decode cX11_beginning 45 = .ok (.aload_n 0, 1) := by decide +kernel
theorem dX11_beginning_46 : decode cX11_beginning 46 = .ok (.iload_n 1, 1) := by decide +kernel
theorem dX11_beginning_47 : decode cX11_beginning 47 = .ok (.iload_n 2, 1) := by decide +kernel
theorem dX11_beginning_48 : decode cX11_beginning 48 = .ok (.invokevirtual 353, 3) := by decide +kernel
theorem dX11_beginning_51 : decode cX11_beginning 51 = .ok (.iconst 1, 1) := by decide +kernel
theorem dX11_beginning_52 : decode cX11_beginning 52 = .ok (.isub, 1) := by decide +kernel
theorem dX11_beginning_53 : decode cX11_beginning 53 = .ok (.ireturn, 1) := by decide +kernel
theorem dX11_beginning_54 : decode cX11_beginning 54 = .ok (.aload_n 0, 1) := by decide +kernel
theorem dX11_beginning_55 : decode cX11_beginning 55 = .ok (.getfield 95, 3) := by decide +kernel
theorem dX11_beginning_58 : decode cX11_beginning 58 = .ok (.iload_n 1, 1) := by decide +kernel
theorem dX11_beginning_59 : decode cX11_beginning 59 = .ok (.iaload, 1) := by decide +kernel
theorem dX11_beginning_60 : decode cX11_beginning 60 = .ok (.bipush 6, 2) := by decide +kernel
theorem dX11_beginning_62 : decode cX11_beginning 62 = .ok (.if_icmp .ne 12, 3) := by decide +kernel
theorem dX11_beginning_65 : decode cX11_beginning 65 = .ok (.aload_n 0, 1) := by decide +kernel
theorem dX11_beginning_66 : decode cX11_beginning 66 = .ok (.iload_n 1, 1) := by decide +kernel
theorem dX11_beginning_67 : decode cX11_beginning 67 = .ok (.iload_n 2, 1) := by decide +kernel
theorem dX11_beginning_68 : decode cX11_beginning 68 = .ok (.invokevirtual 353, 3) := by decide +kernel
theorem dX11_beginning_71 : decode cX11_beginning 71 = .ok (.goto 9, 3) := by decide +kernel
theorem dX11_beginning_74 : decode cX11_beginning 74 = .ok (.aload_n 0, 1) := by decide +kernel
theorem dX11_beginning_75 : decode cX11_beginning 75 = .ok (.iload_n 1, 1) := by decide +kernel
theorem dX11_beginning_76 : decode cX11_beginning 76 = .ok (.iload_n 2, 1) := by decide +kernel
theorem dX11_beginning_77 : decode cX11_beginning 77 = .ok (.invokevirtual 347, 3) := by decide +kernel
theorem dX11_beginning_80 : decode cX11_beginning 80 = .ok (.ireturn, 1) := by decide +kernel
set_option maxRecDepth 20000 in
theorem ggX11_plainHums_X11_ran : GoodIn wsX11_plainHums wsX11_ran := goodIn_r _ [5, 6, 7, 24, 25, 26, 27, 28, 29, 30, 31, 32, 33, 34, 35, 36, 37, 38, 39, 40, 41, 42, 43, 44, 45, 46, 47, 48, 49, 50, 51, 52, 53, 54, 55, 56, 57, 58, 59, 60, 61, 62, 63, 64, 65, 66, 67, 68, 69, 70, 71, 72, 73] rfl (by decide +kernel)
set_option maxRecDepth 20000 in
theorem gX11_plainHums_X11_ran : GoodIn wsX11_plainHums (wsV RX11 343 RX11 yX11_ran wsX11_ran) := goodIn_app (goodIn_of _ (by decide +kernel)) ggX11_plainHums_X11_ran
set_option maxRecDepth 20000 in
theorem ggX11_plainHums_X11_beginning : GoodIn wsX11_plainHums wsX11_beginning := goodIn_r _ [11, 12, 13, 14, 4, 15, 1, 2, 3, 5, 6, 7, 16, 17, 18, 19, 20, 21, 22, 23, 24, 25, 26, 27, 28, 29, 30, 31, 32, 33, 34, 35, 36, 37, 38, 39, 40, 41, 42, 43, 44, 45, 46, 47, 48, 49, 50, 51, 52, 53, 54, 55, 56, 57, 58, 59, 60, 61, 62, 63, 64, 65, 66, 67, 68, 69, 70, 71, 72, 73] rfl (by decide +kernel)
set_option maxRecDepth 20000 in
theorem gX11_plainHums_X11_beginning : GoodIn wsX11_plainHums (wsV RX11 356 RX11 yX11_beginning wsX11_beginning) := goodIn_app (goodIn_of _ (by decide +kernel)) ggX11_plainHums_X11_beginning
theorem dX11_plainHums_0 : decode cX11_plainHums 0 = .ok (.aload_n 0, 1) := by decide +kernel
theorem dX11_plainHums_1 : decode cX11_plainHums 1 = .ok (.bipush 10, 2) := by decide +kernel
theorem dX11_plainHums_3 : decode cX11_plainHums 3 = .ok (.invokevirtual 343, 3) := by decide +kernel
theorem dX11_plainHums_6 : decode cX11_plainHums 6 = .ok (.aload_n 0, 1) := by decide +kernel
theorem dX11_plainHums_7 : decode cX11_plainHums 7 = .ok (.iload_n 1, 1) := by decide +kernel
theorem dX11_plainHums_8 : decode cX11_plainHums 8 = .ok (.iload_n 2, 1) := by decide +kernel
theorem dX11_plainHums_9 : decode cX11_plainHums 9 = .ok (.invokevirtual 356, 3) := by decide +kernel
theorem dX11_plainHums_12 : decode cX11_plainHums 12 = .ok (.iconst 2, 1) := by decide +kernel
theorem dX11_plainHums_13 : decode cX11_plainHums 13 = .ok (.imul, 1) := by decide +kernel
theorem dX11_plainHums_14 : decode cX11_plainHums 14 = .ok (.ireturn, 1) := by decide +kernel
set_option maxRecDepth 20000 in
theorem ggX11_wordedHums_X11_ran : GoodIn wsX11_wordedHums wsX11_ran := goodIn_r _ [5, 6, 7, 28, 29, 30, 31, 32, 33, 34, 35, 36, 37, 38, 39, 40, 41, 42, 43, 44, 45, 46, 47, 48, 49, 50, 51, 52, 53, 54, 55, 56, 57, 58, 59, 60, 61, 62, 63, 64, 65, 66, 67, 68, 69, 70, 71, 72, 73, 74, 75, 76, 77] rfl (by decide +kernel)
set_option maxRecDepth 20000 in
theorem gX11_wordedHums_X11_ran : GoodIn wsX11_wordedHums (wsV RX11 343 RX11 yX11_ran wsX11_ran) := goodIn_app (goodIn_of _ (by decide +kernel)) ggX11_wordedHums_X11_ran
set_option maxRecDepth 20000 in
theorem ggX11_wordedHums_X11_plainHums : GoodIn wsX11_wordedHums wsX11_plainHums := goodIn_r _ [11, 1, 2, 3, 4, 5, 6, 7, 12, 13, 14, 15, 16, 17, 18, 19, 20, 21, 22, 23, 24, 25, 26, 27, 28, 29, 30, 31, 32, 33, 34, 35, 36, 37, 38, 39, 40, 41, 42, 43, 44, 45, 46, 47, 48, 49, 50, 51, 52, 53, 54, 55, 56, 57, 58, 59, 60, 61, 62, 63, 64, 65, 66, 67, 68, 69, 70, 71, 72, 73, 74, 75, 76, 77] rfl (by decide +kernel)
set_option maxRecDepth 20000 in
theorem gX11_wordedHums_X11_plainHums : GoodIn wsX11_wordedHums (wsV RX11 359 RX11 yX11_plainHums wsX11_plainHums) := goodIn_app (goodIn_of _ (by decide +kernel)) ggX11_wordedHums_X11_plainHums
theorem dX11_wordedHums_0 : decode cX11_wordedHums 0 = .ok (.aload_n 0, 1) := by decide +kernel
theorem dX11_wordedHums_1 : decode cX11_wordedHums 1 = .ok (.bipush 30, 2) := by decide +kernel
theorem dX11_wordedHums_3 : decode cX11_wordedHums 3 = .ok (.invokevirtual 343, 3) := by decide +kernel
theorem dX11_wordedHums_6 : decode cX11_wordedHums 6 = .ok (.aload_n 0, 1) := by decide +kernel
theorem dX11_wordedHums_7 : decode cX11_wordedHums 7 = .ok (.iload_n 1, 1) := by decide +kernel
theorem dX11_wordedHums_8 : decode cX11_wordedHums 8 = .ok (.iload_n 2, 1) := by decide +kernel
theorem dX11_wordedHums_9 : decode cX11_wordedHums 9 = .ok (.invokevirtual 359, 3) := by decide +kernel
theorem dX11_wordedHums_12 : decode cX11_wordedHums 12 = .ok (.ineg, 1) := by decide +kernel
theorem dX11_wordedHums_13 : decode cX11_wordedHums 13 = .ok (.ireturn, 1) := by decide +kernel
set_option maxRecDepth 20000 in
theorem ggX11_humming_X11_isUnder : GoodIn wsX11_humming wsX11_isUnder := goodIn_r _ [5] rfl (by decide +kernel)
set_option maxRecDepth 20000 in
theorem gX11_humming_X11_isUnder : GoodIn wsX11_humming (va_wsS RX11 350 yX11_isUnder wsX11_isUnder) := goodIn_app (goodIn_of _ (by decide +kernel)) ggX11_humming_X11_isUnder
set_option maxRecDepth 20000 in
theorem ggX11_humming_X11_ran : GoodIn wsX11_humming wsX11_ran := goodIn_r _ [9, 10, 11, 44, 45, 46, 47, 48, 49, 50, 51, 52, 53, 54, 55, 56, 57, 58, 59, 60, 61, 62, 63, 64, 65, 66, 67, 68, 69, 70, 71, 72, 73, 74, 75, 76, 77, 78, 79, 80, 81, 82, 83, 84, 85, 86, 87, 88, 89, 90, 91, 92, 93] rfl (by decide +kernel)
set_option maxRecDepth 20000 in
theorem gX11_humming_X11_ran : GoodIn wsX11_humming (wsV RX11 343 RX11 yX11_ran wsX11_ran) := goodIn_app (goodIn_of _ (by decide +kernel)) ggX11_humming_X11_ran
set_option maxRecDepth 20000 in
theorem ggX11_humming_X11_wordedHums : GoodIn wsX11_humming wsX11_wordedHums := goodIn_r _ [15, 6, 7, 8, 4, 9, 10, 11, 16, 17, 18, 19, 20, 21, 22, 23, 1, 2, 3, 5, 24, 25, 26, 27, 28, 29, 30, 31, 44, 45, 46, 47, 48, 49, 50, 51, 52, 53, 54, 55, 56, 57, 58, 59, 60, 61, 62, 63, 64, 65, 66, 67, 68, 69, 70, 71, 72, 73, 74, 75, 76, 77, 78, 79, 80, 81, 82, 83, 84, 85, 86, 87, 88, 89, 90, 91, 92, 93] rfl (by decide +kernel)
set_option maxRecDepth 20000 in
theorem gX11_humming_X11_wordedHums : GoodIn wsX11_humming (wsV RX11 362 RX11 yX11_wordedHums wsX11_wordedHums) := goodIn_app (goodIn_of _ (by decide +kernel)) ggX11_humming_X11_wordedHums
set_option maxRecDepth 20000 in
theorem ggX11_humming_X11_plainHums : GoodIn wsX11_humming wsX11_plainHums := goodIn_r _ [19, 6, 7, 8, 4, 9, 10, 11, 20, 21, 22, 23, 1, 2, 3, 5, 24, 25, 26, 27, 28, 29, 30, 31, 44, 45, 46, 47, 48, 49, 50, 51, 52, 53, 54, 55, 56, 57, 58, 59, 60, 61, 62, 63, 64, 65, 66, 67, 68, 69, 70, 71, 72, 73, 74, 75, 76, 77, 78, 79, 80, 81, 82, 83, 84, 85, 86, 87, 88, 89, 90, 91, 92, 93] rfl (by decide +kernel)
set_option maxRecDepth 20000 in
theorem gX11_humming_X11_plainHums : GoodIn wsX11_humming (wsV RX11 359 RX11 yX11_plainHums wsX11_plainHums) := goodIn_app (goodIn_of _ (by decide +kernel)) ggX11_humming_X11_plainHums
set_option maxRecDepth 20000 in
theorem ggX11_humming_X11_saying : GoodIn wsX11_humming wsX11_saying := goodIn_r _ [35, 1, 6, 7, 8, 4, 9, 10, 11, 36, 37, 38, 39, 40, 41, 42, 43, 20, 21, 22, 23, 2, 3, 5, 24, 25, 26, 27, 28, 29, 30, 31, 44, 45, 46, 47, 48, 49, 50, 51, 52, 53, 54, 55, 56, 57, 58, 59, 60, 61, 62, 63, 64, 65, 66, 67, 68, 69, 70, 71, 72, 73, 74, 75, 76, 77, 78, 79, 80, 81, 82, 83, 84, 85, 86, 87, 88, 89, 90, 91, 92, 93] rfl (by decide +kernel)
set_option maxRecDepth 20000 in
theorem gX11_humming_X11_saying : GoodIn wsX11_humming (wsV RX11 365 RX11 yX11_saying wsX11_saying) := goodIn_app (goodIn_of _ (by decide +kernel)) ggX11_humming_X11_saying
theorem dX11_humming_0 : decode cX11_humming 0 = .ok (.aload_n 0, 1) := by decide +kernel
theorem dX11_humming_1 : decode cX11_humming 1 = .ok (.getfield 95, 3) := by decide +kernel
theorem dX11_humming_4 : decode cX11_humming 4 = .ok (.iload_n 1, 1) := by decide +kernel
theorem dX11_humming_5 : decode cX11_humming 5 = .ok (.iaload, 1) := by decide +kernel
theorem dX11_humming_6 : decode cX11_humming 6 = .ok (.iconst 3, 1) := by decide +kernel
theorem dX11_humming_7 : decode cX11_humming 7 = .ok (.invokestatic 350, 3) := by decide +kernel
theorem dX11_humming_10 : decode cX11_humming 10 = .ok (.ifCond .eq 18, 3) := by decide +kernel
theorem dX11_humming_13 : decode cX11_humming 13 = .ok (.aload_n 0, 1) := by decide +kernel
theorem dX11_humming_14 : decode cX11_humming 14 = .ok (.bipush 41, 2) := by decide +kernel
theorem dX11_humming_16 : decode cX11_humming 16 = .ok (.invokevirtual 343, 3) := by decide +kernel
theorem dX11_humming_19 : decode cX11_humming 19 = .ok (.aload_n 0, 1) := by decide +kernel
theorem dX11_humming_20 : decode cX11_humming 20 = .ok (.iload_n 1, 1) := by decide +kernel
theorem dX11_humming_21 : decode cX11_humming 21 = .ok (.iload_n 2, 1) := by decide +kernel
theorem dX11_humming_22 : decode cX11_humming 22 = .ok (.iconst 1, 1) := by decide +kernel
theorem dX11_humming_23 : decode cX11_humming 23 = .ok (.iadd, 1) := by decide +kernel
theorem dX11_humming_24 : decode cX11_humming 24 = .ok (.invokevirtual 362, 3) := by decide +kernel
theorem dX11_humming_27 : decode cX11_humming 27 = .ok (.ireturn, 1) := by decide +kernel
theorem dX11_humming_28 : decode cX11_humming 28 = .ok (.aload_n 0, 1) := by decide +kernel
theorem dX11_humming_29 : decode cX11_humming 29 = .ok (.getfield 95, 3) := by decide +kernel
theorem dX11_humming_32 : decode cX11_humming 32 = .ok (.iload_n 1, 1) := by decide +kernel
theorem dX11_humming_33 : decode cX11_humming 33 = .ok (.iaload, 1) := by decide +kernel
theorem dX11_humming_34 : decode cX11_humming 34 = .ok (.bipush 7, 2) := by decide +kernel
theorem dX11_humming_36 : decode cX11_humming 36 = .ok (.if_icmp .ne 25, 3) := by decide +kernel
theorem dX11_humming_39 : decode cX11_humming 39 = .ok (.aload_n 0, 1) := by decide +kernel
theorem dX11_humming_40 : decode cX11_humming 40 = .ok (.bipush 80, 2) := by decide +kernel
theorem dX11_humming_42 : decode cX11_humming 42 = .ok (.invokevirtual 343, 3) := by decide +kernel
theorem dX11_humming_45 : decode cX11_humming 45 = .ok (.aload_n 0, 1) := by decide +kernel
theorem dX11_humming_46 : decode cX11_humming 46 = .ok (.iload_n 1, 1) := by decide +kernel
theorem dX11_humming_47 : decode cX11_humming 47 = .ok (.iload_n 2, 1) := by decide +kernel
theorem dX11_humming_48 : decode cX11_humming 48 = .ok (.invokevirtual 359, 3) := by decide +kernel
theorem dX11_humming_51 : decode cX11_humming 51 = .ok (.istore_n 3, 1) := by decide +kernel
theorem dX11_humming_52 : decode cX11_humming 52 = .ok (.iload_n 3, 1) := by decide +kernel
theorem dX11_humming_53 : decode cX11_humming 53 = .ok (.aload_n 0, 1) := by decide +kernel
theorem dX11_humming_54 : decode cX11_humming 54 = .ok (.iload_n 1, 1) := by decide +kernel
theorem dX11_humming_55 : decode cX11_humming 55 = .ok (.iconst 2, 1) := by decide +kernel
theorem dX11_humming_56 : decode cX11_humming 56 = .ok (.invokevirtual 365, 3) := by decide +kernel
theorem dX11_humming_59 : decode cX11_humming 59 = .ok (.iadd, 1) := by decide +kernel
theorem dX11_humming_60 : decode cX11_humming 60 = .ok (.ireturn, 1) := by decide +kernel
theorem dX11_humming_61 : decode cX11_humming 61 = .ok (.aload_n 0, 1) := by decide +kernel
theorem dX11_humming_62 : decode cX11_humming 62 = .ok (.getfield 95, 3) := by decide +kernel
theorem dX11_humming_65 : decode cX11_humming 65 = .ok (.iload_n 1, 1) := by decide +kernel
theorem dX11_humming_66 : decode cX11_humming 66 = .ok (.iaload, 1) := by decide +kernel
theorem dX11_humming_67 : decode cX11_humming 67 = .ok (.iconst 2, 1) := by decide +kernel
theorem dX11_humming_68 : decode cX11_humming 68 = .ok (.if_icmp .ne 12, 3) := by decide +kernel
theorem dX11_humming_71 : decode cX11_humming 71 = .ok (.aload_n 0, 1) := by decide +kernel
theorem dX11_humming_72 : decode cX11_humming 72 = .ok (.iload_n 1, 1) := by decide +kernel
theorem dX11_humming_73 : decode cX11_humming 73 = .ok (.iload_n 2, 1) := by decide +kernel
theorem dX11_humming_74 : decode cX11_humming 74 = .ok (.invokevirtual 362, 3) := by decide +kernel
theorem dX11_humming_77 : decode cX11_humming 77 = .ok (.goto 9, 3) := by decide +kernel
theorem dX11_humming_80 : decode cX11_humming 80 = .ok (.aload_n 0, 1) := by decide +kernel
theorem dX11_humming_81 : decode cX11_humming 81 = .ok (.iload_n 1, 1) := by decide +kernel
theorem dX11_humming_82 : decode cX11_humming 82 = .ok (.iload_n 2, 1) := by decide +kernel
theorem dX11_humming_83 : decode cX11_humming 83 = .ok (.invokevirtual 359, 3) := by decide +kernel
theorem dX11_humming_86 : decode cX11_humming 86 = .ok (.ireturn, 1) := by decide +kernel
set_option maxRecDepth 20000 in
theorem ggX11_plainSays_X11_ran : GoodIn wsX11_plainSays wsX11_ran := goodIn_r _ [5, 6, 7, 8, 9, 10, 11, 12, 13, 14, 15, 16, 17, 18, 19, 20, 21, 22, 23, 24, 25, 26, 27, 28, 29, 30, 31, 32, 33, 34, 35, 36, 37, 38, 39, 40, 41, 42, 43, 44, 45, 46, 47, 48, 49, 50, 51, 52, 53, 54, 55, 56, 57] rfl (by decide +kernel)
set_option maxRecDepth 20000 in
theorem gX11_plainSays_X11_ran : GoodIn wsX11_plainSays (wsV RX11 343 RX11 yX11_ran wsX11_ran) := goodIn_app (goodIn_of _ (by decide +kernel)) ggX11_plainSays_X11_ran
theorem dX11_plainSays_0 : decode cX11_plainSays 0 = .ok (.aload_n 0, 1) := by decide +kernel
theorem dX11_plainSays_1 : decode cX11_plainSays 1 = .ok (.bipush 11, 2) := by decide +kernel
theorem dX11_plainSays_3 : decode cX11_plainSays 3 = .ok (.invokevirtual 343, 3) := by decide +kernel
theorem dX11_plainSays_6 : decode cX11_plainSays 6 = .ok (.iload_n 2, 1) := by decide +kernel
theorem dX11_plainSays_7 : decode cX11_plainSays 7 = .ok (.iload_n 1, 1) := by decide +kernel
theorem dX11_plainSays_8 : decode cX11_plainSays 8 = .ok (.ixor, 1) := by decide +kernel
theorem dX11_plainSays_9 : decode cX11_plainSays 9 = .ok (.ireturn, 1) := by decide +kernel
set_option maxRecDepth 20000 in
theorem ggX11_rhymedSays_X11_ran : GoodIn wsX11_rhymedSays wsX11_ran := goodIn_r _ [5, 6, 7, 12, 13, 14, 15, 16, 17, 18, 19, 20, 21, 22, 23, 24, 25, 26, 27, 28, 29, 30, 31, 32, 33, 34, 35, 36, 37, 38, 39, 40, 41, 42, 43, 44, 45, 46, 47, 48, 49, 50, 51, 52, 53, 54, 55, 56, 57, 58, 59, 60, 61] rfl (by decide +kernel)
set_option maxRecDepth 20000 in
theorem gX11_rhymedSays_X11_ran : GoodIn wsX11_rhymedSays (wsV RX11 343 RX11 yX11_ran wsX11_ran) := goodIn_app (goodIn_of _ (by decide +kernel)) ggX11_rhymedSays_X11_ran
set_option maxRecDepth 20000 in
theorem ggX11_rhymedSays_X11_plainSays : GoodIn wsX11_rhymedSays wsX11_plainSays := goodIn_r _ [11, 1, 2, 3, 4, 5, 6, 7, 12, 13, 14, 15, 16, 17, 18, 19, 20, 21, 22, 23, 24, 25, 26, 27, 28, 29, 30, 31, 32, 33, 34, 35, 36, 37, 38, 39, 40, 41, 42, 43, 44, 45, 46, 47, 48, 49, 50, 51, 52, 53, 54, 55, 56, 57, 58, 59, 60, 61] rfl (by decide +kernel)
set_option maxRecDepth 20000 in
theorem gX11_rhymedSays_X11_plainSays : GoodIn wsX11_rhymedSays (wsV RX11 368 RX11 yX11_plainSays wsX11_plainSays) := goodIn_app (goodIn_of _ (by decide +kernel)) ggX11_rhymedSays_X11_plainSays
theorem dX11_rhymedSays_0 : decode cX11_rhymedSays 0 = .ok (.aload_n 0, 1) := by decide +kernel
theorem dX11_rhymedSays_1 : decode cX11_rhymedSays 1 = .ok (.bipush 40, 2) := by decide +kernel
theorem dX11_rhymedSays_3 : decode cX11_rhymedSays 3 = .ok (.invokevirtual 343, 3) := by decide +kernel
theorem dX11_rhymedSays_6 : decode cX11_rhymedSays 6 = .ok (.aload_n 0, 1) := by decide +kernel
theorem dX11_rhymedSays_7 : decode cX11_rhymedSays 7 = .ok (.iload_n 1, 1) := by decide +kernel
theorem dX11_rhymedSays_8 : decode cX11_rhymedSays 8 = .ok (.iload_n 2, 1) := by decide +kernel
theorem dX11_rhymedSays_9 : decode cX11_rhymedSays 9 = .ok (.invokevirtual 368, 3) := by decide +kernel
theorem dX11_rhymedSays_12 : decode cX11_rhymedSays 12 = .ok (.iconst 3, 1) := by decide +kernel
theorem dX11_rhymedSays_13 : decode cX11_rhymedSays 13 = .ok (.imul, 1) := by decide +kernel
theorem dX11_rhymedSays_14 : decode cX11_rhymedSays 14 = .ok (.ireturn, 1) := by decide +kernel
set_option maxRecDepth 20000 in
theorem ggX11_saying_X11_ran : GoodIn wsX11_saying wsX11_ran := goodIn_r _ [6, 7, 8, 32, 33, 34, 35, 36, 37, 38, 39, 40, 41, 42, 43, 44, 45, 46, 47, 48, 49, 50, 51, 52, 53, 54, 55, 56, 57, 58, 59, 60, 61, 62, 63, 64, 65, 66, 67, 68, 69, 70, 71, 72, 73, 74, 75, 76, 77, 78, 79, 80, 81] rfl (by decide +kernel)
set_option maxRecDepth 20000 in
theorem gX11_saying_X11_ran : GoodIn wsX11_saying (wsV RX11 343 RX11 yX11_ran wsX11_ran) := goodIn_app (goodIn_of _ (by decide +kernel)) ggX11_saying_X11_ran
set_option maxRecDepth 20000 in
theorem ggX11_saying_X11_rhymedSays : GoodIn wsX11_saying wsX11_rhymedSays := goodIn_r _ [12, 2, 3, 4, 5, 6, 7, 8, 13, 14, 15, 16, 32, 33, 34, 35, 36, 37, 38, 39, 40, 41, 42, 43, 44, 45, 46, 47, 48, 49, 50, 51, 52, 53, 54, 55, 56, 57, 58, 59, 60, 61, 62, 63, 64, 65, 66, 67, 68, 69, 70, 71, 72, 73, 74, 75, 76, 77, 78, 79, 80, 81] rfl (by decide +kernel)
set_option maxRecDepth 20000 in
theorem gX11_saying_X11_rhymedSays : GoodIn wsX11_saying (wsV RX11 371 RX11 yX11_rhymedSays wsX11_rhymedSays) := goodIn_app (goodIn_of _ (by decide +kernel)) ggX11_saying_X11_rhymedSays
set_option maxRecDepth 20000 in
theorem ggX11_saying_X11_beginning : GoodIn wsX11_saying wsX11_beginning := goodIn_r _ [20, 1, 21, 22, 5, 23, 2, 3, 4, 6, 7, 8, 24, 25, 26, 27, 28, 29, 30, 31, 32, 33, 34, 35, 36, 37, 38, 39, 40, 41, 42, 43, 44, 45, 46, 47, 48, 49, 50, 51, 52, 53, 54, 55, 56, 57, 58, 59, 60, 61, 62, 63, 64, 65, 66, 67, 68, 69, 70, 71, 72, 73, 74, 75, 76, 77, 78, 79, 80, 81] rfl (by decide +kernel)
set_option maxRecDepth 20000 in
theorem gX11_saying_X11_beginning : GoodIn wsX11_saying (wsV RX11 356 RX11 yX11_beginning wsX11_beginning) := goodIn_app (goodIn_of _ (by decide +kernel)) ggX11_saying_X11_beginning
set_option maxRecDepth 20000 in
theorem ggX11_saying_X11_plainSays : GoodIn wsX11_saying wsX11_plainSays := goodIn_r _ [16, 2, 3, 4, 5, 6, 7, 8, 32, 33, 34, 35, 36, 37, 38, 39, 40, 41, 42, 43, 44, 45, 46, 47, 48, 49, 50, 51, 52, 53, 54, 55, 56, 57, 58, 59, 60, 61, 62, 63, 64, 65, 66, 67, 68, 69, 70, 71, 72, 73, 74, 75, 76, 77, 78, 79, 80, 81] rfl (by decide +kernel)
set_option maxRecDepth 20000 in
theorem gX11_saying_X11_plainSays : GoodIn wsX11_saying (wsV RX11 368 RX11 yX11_plainSays wsX11_plainSays) := goodIn_app (goodIn_of _ (by decide +kernel)) ggX11_saying_X11_plainSays
theorem dX11_saying_0 : decode cX11_saying 0 = .ok (.aload_n 0, 1) := by decide +kernel
theorem dX11_saying_1 : decode cX11_saying 1 = .ok (.getfield 95, 3) := by decide +kernel
theorem dX11_saying_4 : decode cX11_saying 4 = .ok (.iload_n 1, 1) := by decide +kernel
theorem dX11_saying_5 : decode cX11_saying 5 = .ok (.iaload, 1) := by decide +kernel
theorem dX11_saying_6 : decode cX11_saying 6 = .ok (.iconst 5, 1) := by decide +kernel
theorem dX11_saying_7 : decode cX11_saying 7 = .ok (.if_icmp .ne 25, 3) := by decide +kernel
theorem dX11_saying_10 : decode cX11_saying 10 = .ok (.aload_n 0, 1) := by decide +kernel
theorem dX11_saying_11 : decode cX11_saying 11 = .ok (.bipush 60, 2) := by decide +kernel
theorem dX11_saying_13 : decode cX11_saying 13 = .ok (.invokevirtual 343, 3) := by decide +kernel
theorem dX11_saying_16 : decode cX11_saying 16 = .ok (.aload_n 0, 1) := by decide +kernel
theorem dX11_saying_17 : decode cX11_saying 17 = .ok (.iload_n 1, 1) := by decide +kernel
theorem dX11_saying_18 : decode cX11_saying 18 = .ok (.iload_n 2, 1) := by decide +kernel
theorem dX11_saying_19 : decode cX11_saying 19 = .ok (.invokevirtual 371, 3) := by decide +kernel
theorem dX11_saying_22 : decode cX11_saying 22 = .ok (.istore_n 3, 1) := by decide +kernel
theorem dX11_saying_23 : decode cX11_saying 23 = .ok (.iload_n 3, 1) := by decide +kernel
theorem dX11_saying_24 : decode cX11_saying 24 = .ok (.aload_n 0, 1) := by decide +kernel
theorem dX11_saying_25 : decode cX11_saying 25 = .ok (.iload_n 1, 1) := by decide +kernel
theorem dX11_saying_26 : decode cX11_saying 26 = .ok (.iconst 2, 1) := by decide +kernel
theorem dX11_saying_27 : decode cX11_saying 27 = .ok (.invokevirtual 356, 3) := by decide +kernel
theorem dX11_saying_30 : decode cX11_saying 30 = .ok (.isub, 1) := by decide +kernel
theorem dX11_saying_31 : decode cX11_saying 31 = .ok (.ireturn, 1) := by decide +kernel
theorem dX11_saying_32 : decode cX11_saying 32 = .ok (.aload_n 0, 1) := by decide +kernel
theorem dX11_saying_33 : decode cX11_saying 33 = .ok (.getfield 95, 3) := by decide +kernel
theorem dX11_saying_36 : decode cX11_saying 36 = .ok (.iload_n 1, 1) := by decide +kernel
theorem dX11_saying_37 : decode cX11_saying 37 = .ok (.iaload, 1) := by decide +kernel
theorem dX11_saying_38 : decode cX11_saying 38 = .ok (.iconst 3, 1) := by decide +kernel
theorem dX11_saying_39 : decode cX11_saying 39 = .ok (.if_icmp .ne 12, 3) := by decide +kernel
theorem dX11_saying_42 : decode cX11_saying 42 = .ok (.aload_n 0, 1) := by decide +kernel
theorem dX11_saying_43 : decode cX11_saying 43 = .ok (.iload_n 1, 1) := by decide +kernel
theorem dX11_saying_44 : decode cX11_saying 44 = .ok (.iload_n 2, 1) := by decide +kernel
theorem dX11_saying_45 : decode cX11_saying 45 = .ok (.invokevirtual 371, 3) := by decide +kernel
theorem dX11_saying_48 : decode cX11_saying 48 = .ok (.goto 9, 3) := by decide +kernel
theorem dX11_saying_51 : decode cX11_saying 51 = .ok (.aload_n 0, 1) := by decide +kernel
theorem dX11_saying_52 : decode cX11_saying 52 = .ok (.iload_n 1, 1) := by decide +kernel
theorem dX11_saying_53 : decode cX11_saying 53 = .ok (.iload_n 2, 1) := by decide +kernel
theorem dX11_saying_54 : decode cX11_saying 54 = .ok (.invokevirtual 368, 3) := by decide +kernel
theorem dX11_saying_57 : decode cX11_saying 57 = .ok (.ireturn, 1) := by decide +kernel
set_option maxRecDepth 20000 in
theorem ggX11_plainTells_X11_ran : GoodIn wsX11_plainTells wsX11_ran := goodIn_r _ [5, 6, 7, 48, 49, 50, 51, 52, 53, 54, 55, 56, 57, 58, 59, 60, 61, 62, 63, 64, 65, 66, 67, 68, 69, 70, 71, 72, 73, 74, 75, 76, 77, 78, 79, 80, 81, 82, 83, 84, 85, 86, 87, 88, 89, 90, 91, 92, 93, 94, 95, 96, 97] rfl (by decide +kernel)
set_option maxRecDepth 20000 in
theorem gX11_plainTells_X11_ran : GoodIn wsX11_plainTells (wsV RX11 343 RX11 yX11_ran wsX11_ran) := goodIn_app (goodIn_of _ (by decide +kernel)) ggX11_plainTells_X11_ran
set_option maxRecDepth 20000 in
theorem ggX11_plainTells_X11_humming : GoodIn wsX11_plainTells wsX11_humming := goodIn_r _ [11, 12, 13, 14, 4, 15, 1, 2, 3, 5, 6, 7, 16, 17, 18, 19, 20, 21, 22, 23, 24, 25, 26, 27, 28, 29, 30, 31, 32, 33, 34, 35, 36, 37, 38, 39, 40, 41, 42, 43, 44, 45, 46, 47, 48, 49, 50, 51, 52, 53, 54, 55, 56, 57, 58, 59, 60, 61, 62, 63, 64, 65, 66, 67, 68, 69, 70, 71, 72, 73, 74, 75, 76, 77, 78, 79, 80, 81, 82, 83, 84, 85, 86, 87, 88, 89, 90, 91, 92, 93, 94, 95, 96, 97] rfl (by decide +kernel)
set_option maxRecDepth 20000 in
theorem gX11_plainTells_X11_humming : GoodIn wsX11_plainTells (wsV RX11 374 RX11 yX11_humming wsX11_humming) := goodIn_app (goodIn_of _ (by decide +kernel)) ggX11_plainTells_X11_humming
set_option maxRecDepth 20000 in
theorem ggX11_plainTells_X11_saying : GoodIn wsX11_plainTells wsX11_saying := goodIn_r _ [39, 12, 1, 2, 3, 4, 5, 6, 7, 40, 41, 42, 43, 44, 45, 46, 47, 24, 25, 26, 27, 13, 14, 15, 28, 29, 30, 31, 32, 33, 34, 35, 48, 49, 50, 51, 52, 53, 54, 55, 56, 57, 58, 59, 60, 61, 62, 63, 64, 65, 66, 67, 68, 69, 70, 71, 72, 73, 74, 75, 76, 77, 78, 79, 80, 81, 82, 83, 84, 85, 86, 87, 88, 89, 90, 91, 92, 93, 94, 95, 96, 97] rfl (by decide +kernel)
set_option maxRecDepth 20000 in
theorem gX11_plainTells_X11_saying : GoodIn wsX11_plainTells (wsV RX11 365 RX11 yX11_saying wsX11_saying) := goodIn_app (goodIn_of _ (by decide +kernel)) ggX11_plainTells_X11_saying
theorem dX11_plainTells_0 : decode cX11_plainTells 0 = .ok (.aload_n 0, 1) := by decide +kernel
theorem dX11_plainTells_1 : decode cX11_plainTells 1 = .ok (.iconst 2, 1) := by decide +kernel
theorem dX11_plainTells_2 : decode cX11_plainTells 2 = .ok (.invokevirtual 343, 3) := by decide +kernel
theorem dX11_plainTells_5 : decode cX11_plainTells 5 = .ok (.aload_n 0, 1) := by decide +kernel
theorem dX11_plainTells_6 : decode cX11_plainTells 6 = .ok (.iload_n 1, 1) := by decide +kernel
theorem dX11_plainTells_7 : decode cX11_plainTells 7 = .ok (.iload_n 2, 1) := by decide +kernel
theorem dX11_plainTells_8 : decode cX11_plainTells 8 = .ok (.invokevirtual 374, 3) := by decide +kernel
theorem dX11_plainTells_11 : decode cX11_plainTells 11 = .ok (.istore_n 3, 1) := by decide +kernel
theorem dX11_plainTells_12 : decode cX11_plainTells 12 = .ok (.iload_n 3, 1) := by decide +kernel
theorem dX11_plainTells_13 : decode cX11_plainTells 13 = .ok (.aload_n 0, 1) := by decide +kernel
theorem dX11_plainTells_14 : decode cX11_plainTells 14 = .ok (.iload_n 1, 1) := by decide +kernel
theorem dX11_plainTells_15 : decode cX11_plainTells 15 = .ok (.iconst 1, 1) := by decide +kernel
theorem dX11_plainTells_16 : decode cX11_plainTells 16 = .ok (.invokevirtual 365, 3) := by decide +kernel
theorem dX11_plainTells_19 : decode cX11_plainTells 19 = .ok (.isub, 1) := by decide +kernel
theorem dX11_plainTells_20 : decode cX11_plainTells 20 = .ok (.ireturn, 1) := by decide +kernel
set_option maxRecDepth 20000 in
theorem ggX11_telling_X11_ran : GoodIn wsX11_telling wsX11_ran := goodIn_r _ [6, 7, 8, 52, 53, 54, 55, 56, 57, 58, 59, 60, 61, 62, 63, 64, 65, 66, 67, 68, 69, 70, 71, 72, 73, 74, 75, 76, 77, 78, 79, 80, 81, 82, 83, 84, 85, 86, 87, 88, 89, 90, 91, 92, 93, 94, 95, 96, 97, 98, 99, 100, 101] rfl (by decide +kernel)
set_option maxRecDepth 20000 in
theorem gX11_telling_X11_ran : GoodIn wsX11_telling (wsV RX11 343 RX11 yX11_ran wsX11_ran) := goodIn_app (goodIn_of _ (by decide +kernel)) ggX11_telling_X11_ran
set_option maxRecDepth 20000 in
theorem ggX11_telling_X11_plainTells : GoodIn wsX11_telling wsX11_plainTells := goodIn_r _ [12, 2, 3, 4, 5, 6, 7, 8, 13, 14, 15, 16, 1, 17, 18, 19, 20, 21, 22, 23, 24, 25, 26, 27, 28, 29, 30, 31, 32, 33, 34, 35, 36, 37, 38, 39, 40, 41, 42, 43, 44, 45, 46, 47, 48, 49, 50, 51, 52, 53, 54, 55, 56, 57, 58, 59, 60, 61, 62, 63, 64, 65, 66, 67, 68, 69, 70, 71, 72, 73, 74, 75, 76, 77, 78, 79, 80, 81, 82, 83, 84, 85, 86, 87, 88, 89, 90, 91, 92, 93, 94, 95, 96, 97, 98, 99, 100, 101] rfl (by decide +kernel)
set_option maxRecDepth 20000 in
theorem gX11_telling_X11_plainTells : GoodIn wsX11_telling (wsV RX11 377 RX11 yX11_plainTells wsX11_plainTells) := goodIn_app (goodIn_of _ (by decide +kernel)) ggX11_telling_X11_plainTells
theorem dX11_telling_0 : decode cX11_telling 0 = .ok (.aload_n 0, 1) := by decide +kernel
theorem dX11_telling_1 : decode cX11_telling 1 = .ok (.getfield 95, 3) := by decide +kernel
theorem dX11_telling_4 : decode cX11_telling 4 = .ok (.iload_n 1, 1) := by decide +kernel
theorem dX11_telling_5 : decode cX11_telling 5 = .ok (.iaload, 1) := by decide +kernel
theorem dX11_telling_6 : decode cX11_telling 6 = .ok (.iconst 4, 1) := by decide +kernel
theorem dX11_telling_7 : decode cX11_telling 7 = .ok (.if_icmp .ne 18, 3) := by decide +kernel
theorem dX11_telling_10 : decode cX11_telling 10 = .ok (.aload_n 0, 1) := by decide +kernel
theorem dX11_telling_11 : decode cX11_telling 11 = .ok (.bipush 50, 2) := by decide +kernel
theorem dX11_telling_13 : decode cX11_telling 13 = .ok (.invokevirtual 343, 3) := by decide +kernel
theorem dX11_telling_16 : decode cX11_telling 16 = .ok (.aload_n 0, 1) := by decide +kernel
theorem dX11_telling_17 : decode cX11_telling 17 = .ok (.iload_n 1, 1) := by decide +kernel
theorem dX11_telling_18 : decode cX11_telling 18 = .ok (.iload_n 2, 1) := by decide +kernel
theorem dX11_telling_19 : decode cX11_telling 19 = .ok (.invokevirtual 377, 3) := by decide +kernel
theorem dX11_telling_22 : decode cX11_telling 22 = .ok (.iconst 5, 1) := by decide +kernel
theorem dX11_telling_23 : decode cX11_telling 23 = .ok (.ixor, 1) := by decide +kernel
theorem dX11_telling_24 : decode cX11_telling 24 = .ok (.ireturn, 1) := by decide +kernel
theorem dX11_telling_25 : decode cX11_telling 25 = .ok (.aload_n 0, 1) := by decide +kernel
theorem dX11_telling_26 : decode cX11_telling 26 = .ok (.getfield 95, 3) := by decide +kernel
theorem dX11_telling_29 : decode cX11_telling 29 = .ok (.iload_n 1, 1) := by decide +kernel
theorem dX11_telling_30 : decode cX11_telling 30 = .ok (.iaload, 1) := by decide +kernel
theorem dX11_telling_31 : decode cX11_telling 31 = .ok (.iconst 5, 1) := by decide +kernel
theorem dX11_telling_32 : decode cX11_telling 32 = .ok (.if_icmp .ne 18, 3) := by decide +kernel
theorem dX11_telling_35 : decode cX11_telling 35 = .ok (.aload_n 0, 1) := by decide +kernel
theorem dX11_telling_36 : decode cX11_telling 36 = .ok (.bipush 61, 2) := by decide +kernel
theorem dX11_telling_38 : decode cX11_telling 38 = .ok (.invokevirtual 343, 3) := by decide +kernel
theorem dX11_telling_41 : decode cX11_telling 41 = .ok (.aload_n 0, 1) := by decide +kernel
theorem dX11_telling_42 : decode cX11_telling 42 = .ok (.iload_n 1, 1) := by decide +kernel
theorem dX11_telling_43 : decode cX11_telling 43 = .ok (.iload_n 2, 1) := by decide +kernel
theorem dX11_telling_44 : decode cX11_telling 44 = .ok (.invokevirtual 377, 3) := by decide +kernel
theorem dX11_telling_47 : decode cX11_telling 47 = .ok (.iconst 1, 1) := by decide +kernel
theorem dX11_telling_48 : decode cX11_telling 48 = .ok (.iadd, 1) := by decide +kernel
theorem dX11_telling_49 : decode cX11_telling 49 = .ok (.ireturn, 1) := by decide +kernel
theorem dX11_telling_50 : decode cX11_telling 50 = .ok (.aload_n 0, 1) := by decide +kernel
theorem dX11_telling_51 : decode cX11_telling 51 = .ok (.iload_n 1, 1) := by decide +kernel
theorem dX11_telling_52 : decode cX11_telling 52 = .ok (.iload_n 2, 1) := by decide +kernel
theorem dX11_telling_53 : decode cX11_telling 53 = .ok (.invokevirtual 377, 3) := by decide +kernel
theorem dX11_telling_56 : decode cX11_telling 56 = .ok (.ireturn, 1) := by decide +kernel
set_option maxRecDepth 20000 in
theorem ggX11_act_X11_isBody : GoodIn wsX11_act wsX11_isBody := goodIn_r _ [6, 7, 8, 9, 5, 10, 64, 65, 66, 67, 68, 69, 70, 71, 72, 73, 74, 75, 76, 77, 78, 79, 80, 81, 82, 83, 84, 85, 86, 87, 88, 89, 90, 91, 92, 93, 94, 95, 96, 97, 98, 99, 100, 101, 102, 103, 104, 105, 106, 107, 108, 109, 110, 111, 112, 113] rfl (by decide +kernel)
set_option maxRecDepth 20000 in
theorem gX11_act_X11_isBody : GoodIn wsX11_act (wsV RX11 380 RX11 yX11_isBody wsX11_isBody) := goodIn_app (goodIn_of _ (by decide +kernel)) ggX11_act_X11_isBody
set_option maxRecDepth 20000 in
theorem ggX11_act_X11_in : GoodIn wsX11_act wsX11_in := goodIn_r _ [10] rfl (by decide +kernel)
set_option maxRecDepth 20000 in
theorem gX11_act_X11_in : GoodIn wsX11_act (va_wsS RX11 118 yX11_in wsX11_in) := goodIn_app (goodIn_of _ (by decide +kernel)) ggX11_act_X11_in
set_option maxRecDepth 20000 in
theorem ggX11_act_X11_beginning : GoodIn wsX11_act wsX11_beginning := goodIn_r _ [14, 15, 16, 17, 5, 18, 19, 20, 21, 22, 1, 23, 24, 25, 26, 27, 28, 29, 30, 31, 64, 65, 66, 67, 68, 69, 70, 71, 72, 73, 74, 75, 76, 77, 78, 79, 80, 81, 82, 83, 84, 85, 86, 87, 88, 89, 90, 91, 92, 93, 94, 95, 96, 97, 98, 99, 100, 101, 102, 103, 104, 105, 106, 107, 108, 109, 110, 111, 112, 113] rfl (by decide +kernel)
set_option maxRecDepth 20000 in
theorem gX11_act_X11_beginning : GoodIn wsX11_act (wsV RX11 356 RX11 yX11_beginning wsX11_beginning) := goodIn_app (goodIn_of _ (by decide +kernel)) ggX11_act_X11_beginning
set_option maxRecDepth 20000 in
theorem ggX11_act_X11_humming : GoodIn wsX11_act wsX11_humming := goodIn_r _ [35, 15, 16, 17, 5, 18, 19, 20, 21, 22, 1, 23, 36, 37, 38, 39, 40, 41, 42, 43, 11, 12, 13, 14, 24, 25, 26, 27, 28, 29, 30, 31, 44, 45, 46, 47, 48, 49, 50, 51, 52, 53, 54, 55, 64, 65, 66, 67, 68, 69, 70, 71, 72, 73, 74, 75, 76, 77, 78, 79, 80, 81, 82, 83, 84, 85, 86, 87, 88, 89, 90, 91, 92, 93, 94, 95, 96, 97, 98, 99, 100, 101, 102, 103, 104, 105, 106, 107, 108, 109, 110, 111, 112, 113] rfl (by decide +kernel)
set_option maxRecDepth 20000 in
theorem gX11_act_X11_humming : GoodIn wsX11_act (wsV RX11 374 RX11 yX11_humming wsX11_humming) := goodIn_app (goodIn_of _ (by decide +kernel)) ggX11_act_X11_humming
set_option maxRecDepth 20000 in
theorem ggX11_act_X11_saying : GoodIn wsX11_act wsX11_saying := goodIn_r _ [47, 15, 19, 20, 21, 5, 22, 1, 23, 48, 49, 50, 51, 52, 53, 54, 55, 11, 12, 13, 14, 16, 17, 18, 24, 25, 26, 27, 28, 29, 30, 31, 64, 65, 66, 67, 68, 69, 70, 71, 72, 73, 74, 75, 76, 77, 78, 79, 80, 81, 82, 83, 84, 85, 86, 87, 88, 89, 90, 91, 92, 93, 94, 95, 96, 97, 98, 99, 100, 101, 102, 103, 104, 105, 106, 107, 108, 109, 110, 111, 112, 113] rfl (by decide +kernel)
set_option maxRecDepth 20000 in
theorem gX11_act_X11_saying : GoodIn wsX11_act (wsV RX11 365 RX11 yX11_saying wsX11_saying) := goodIn_app (goodIn_of _ (by decide +kernel)) ggX11_act_X11_saying
set_option maxRecDepth 20000 in
theorem ggX11_act_X11_telling : GoodIn wsX11_act wsX11_telling := goodIn_r _ [59, 15, 19, 20, 21, 5, 22, 1, 23, 60, 61, 62, 63, 32, 33, 34, 35, 16, 17, 18, 36, 37, 38, 39, 40, 41, 42, 43, 11, 12, 13, 14, 24, 25, 26, 27, 28, 29, 30, 31, 44, 45, 46, 47, 48, 49, 50, 51, 52, 53, 54, 55, 64, 65, 66, 67, 68, 69, 70, 71, 72, 73, 74, 75, 76, 77, 78, 79, 80, 81, 82, 83, 84, 85, 86, 87, 88, 89, 90, 91, 92, 93, 94, 95, 96, 97, 98, 99, 100, 101, 102, 103, 104, 105, 106, 107, 108, 109, 110, 111, 112, 113] rfl (by decide +kernel)
set_option maxRecDepth 20000 in
theorem gX11_act_X11_telling : GoodIn wsX11_act (wsV RX11 383 RX11 yX11_telling wsX11_telling) := goodIn_app (goodIn_of _ (by decide +kernel)) ggX11_act_X11_telling
theorem dX11_act_0 : decode cX11_act 0 = .ok (.aload_n 0, 1) := by decide +kernel
theorem dX11_act_1 : decode cX11_act 1 = .ok (.iconst 0, 1) := by decide +kernel
theorem dX11_act_2 : decode cX11_act 2 = .ok (.putfield 340, 3) := by decide +kernel
theorem dX11_act_5 : decode cX11_act 5 = .ok (.aload_n 0, 1) := by decide +kernel
theorem dX11_act_6 : decode cX11_act 6 = .ok (.iload_n 1, 1) := by decide +kernel
theorem dX11_act_7 : decode cX11_act 7 = .ok (.invokevirtual 380, 3) := by decide +kernel
theorem dX11_act_10 : decode cX11_act 10 = .ok (.ifCond .eq 12, 3) := by decide +kernel
theorem dX11_act_13 : decode cX11_act 13 = .ok (.iload_n 2, 1) := by decide +kernel
theorem dX11_act_14 : decode cX11_act 14 = .ok (.iconst 0, 1) := by decide +kernel
theorem dX11_act_15 : decode cX11_act 15 = .ok (.iconst 3, 1) := by decide +kernel
theorem dX11_act_16 : decode cX11_act 16 = .ok (.invokestatic 118, 3) := by decide +kernel
theorem dX11_act_19 : decode cX11_act 19 = .ok (.ifCond .ne 5, 3) := by decide +kernel
theorem dX11_act_22 : decode cX11_act 22 = .ok (.iconst 0, 1) := by decide +kernel
theorem dX11_act_23 : decode cX11_act 23 = .ok (.ireturn, 1) := by decide +kernel
theorem dX11_act_24 : decode cX11_act 24 = .ok (.iload_n 2, 1) := by decide +kernel
theorem dX11_act_25 : decode cX11_act 25 = .ok (.ifCond .ne 12, 3) := by decide +kernel
theorem dX11_act_28 : decode cX11_act 28 = .ok (.aload_n 0, 1) := by decide +kernel
theorem dX11_act_29 : decode cX11_act 29 = .ok (.iload_n 1, 1) := by decide +kernel
theorem dX11_act_30 : decode cX11_act 30 = .ok (.iload_n 3, 1) := by decide +kernel
theorem dX11_act_31 : decode cX11_act 31 = .ok (.invokevirtual 356, 3) := by decide +kernel
theorem dX11_act_34 : decode cX11_act 34 = .ok (.goto 37, 3) := by decide +kernel
theorem dX11_act_37 : decode cX11_act 37 = .ok (.iload_n 2, 1) := by decide +kernel
theorem dX11_act_38 : decode cX11_act 38 = .ok (.iconst 1, 1) := by decide +kernel
theorem dX11_act_39 : decode cX11_act 39 = .ok (.if_icmp .ne 12, 3) := by decide +kernel
theorem dX11_act_42 : decode cX11_act 42 = .ok (.aload_n 0, 1) := by decide +kernel
theorem dX11_act_43 : decode cX11_act 43 = .ok (.iload_n 1, 1) := by decide +kernel
theorem dX11_act_44 : decode cX11_act 44 = .ok (.iload_n 3, 1) := by decide +kernel
theorem dX11_act_45 : decode cX11_act 45 = .ok (.invokevirtual 374, 3) := by decide +kernel
theorem dX11_act_48 : decode cX11_act 48 = .ok (.goto 23, 3) := by decide +kernel
theorem dX11_act_51 : decode cX11_act 51 = .ok (.iload_n 2, 1) := by decide +kernel
theorem dX11_act_52 : decode cX11_act 52 = .ok (.iconst 2, 1) := by decide +kernel
theorem dX11_act_53 : decode cX11_act 53 = .ok (.if_icmp .ne 12, 3) := by decide +kernel
theorem dX11_act_56 : decode cX11_act 56 = .ok (.aload_n 0, 1) := by decide +kernel
theorem dX11_act_57 : decode cX11_act 57 = .ok (.iload_n 1, 1) := by decide +kernel
theorem dX11_act_58 : decode cX11_act 58 = .ok (.iload_n 3, 1) := by decide +kernel
theorem dX11_act_59 : decode cX11_act 59 = .ok (.invokevirtual 365, 3) := by decide +kernel
theorem dX11_act_62 : decode cX11_act 62 = .ok (.goto 9, 3) := by decide +kernel
theorem dX11_act_65 : decode cX11_act 65 = .ok (.aload_n 0, 1) := by decide +kernel
theorem dX11_act_66 : decode cX11_act 66 = .ok (.iload_n 1, 1) := by decide +kernel
theorem dX11_act_67 : decode cX11_act 67 = .ok (.iload_n 3, 1) := by decide +kernel
theorem dX11_act_68 : decode cX11_act 68 = .ok (.invokevirtual 383, 3) := by decide +kernel
theorem dX11_act_71 : decode cX11_act 71 = .ok (.ireturn, 1) := by decide +kernel
set_option maxRecDepth 20000 in
theorem ggX11_count_X11_bitsLeft : GoodIn wsX11_count wsX11_bitsLeft := goodIn_r _ [10, 11, 12, 13, 9, 14, 15, 16, 17, 18, 19, 20, 21, 22, 23, 24, 25, 26, 27, 28, 29, 30, 31, 32, 33, 34, 35, 36, 37, 38, 39, 40, 41, 42, 43, 44, 45, 46, 47, 48, 49, 50, 51, 52, 53, 54, 55, 56, 57, 58, 59, 60, 61, 62, 63, 64] rfl (by decide +kernel)
set_option maxRecDepth 20000 in
theorem gX11_count_X11_bitsLeft : GoodIn wsX11_count (wsV RX11 328 RX11 yX11_bitsLeft wsX11_bitsLeft) := goodIn_app (goodIn_of _ (by decide +kernel)) ggX11_count_X11_bitsLeft
theorem dX11_count_0 : decode cX11_count 0 = .ok (.iload_n 1, 1) := by decide +kernel
theorem dX11_count_1 : decode cX11_count 1 = .ok (.tableswitch 98 0 5 #[39, 60, 78, 83, 88, 93], 39) := by decide +kernel
theorem dX11_count_40 : decode cX11_count 40 = .ok (.aload_n 0, 1) := by decide +kernel
theorem dX11_count_41 : decode cX11_count 41 = .ok (.getfield 9, 3) := by decide +kernel
theorem dX11_count_44 : decode cX11_count 44 = .ok (.iconst 0, 1) := by decide +kernel
theorem dX11_count_45 : decode cX11_count 45 = .ok (.iaload, 1) := by decide +kernel
theorem dX11_count_46 : decode cX11_count 46 = .ok (.aload_n 0, 1) := by decide +kernel
theorem dX11_count_47 : decode cX11_count 47 = .ok (.getfield 9, 3) := by decide +kernel
theorem dX11_count_50 : decode cX11_count 50 = .ok (.iconst 1, 1) := by decide +kernel
theorem dX11_count_51 : decode cX11_count 51 = .ok (.iaload, 1) := by decide +kernel
theorem dX11_count_52 : decode cX11_count 52 = .ok (.iadd, 1) := by decide +kernel
theorem dX11_count_53 : decode cX11_count 53 = .ok (.aload_n 0, 1) := by decide +kernel
theorem dX11_count_54 : decode cX11_count 54 = .ok (.getfield 9, 3) := by decide +kernel
theorem dX11_count_57 : decode cX11_count 57 = .ok (.iconst 2, 1) := by decide +kernel
theorem dX11_count_58 : decode cX11_count 58 = .ok (.iaload, 1) := by decide +kernel
theorem dX11_count_59 : decode cX11_count 59 = .ok (.iadd, 1) := by decide +kernel
theorem dX11_count_60 : decode cX11_count 60 = .ok (.ireturn, 1) := by decide +kernel
theorem dX11_count_61 : decode cX11_count 61 = .ok (.aload_n 0, 1) := by decide +kernel
theorem dX11_count_62 : decode cX11_count 62 = .ok (.iconst 0, 1) := by decide +kernel
theorem dX11_count_63 : decode cX11_count 63 = .ok (.invokevirtual 328, 3) := by decide +kernel
theorem dX11_count_66 : decode cX11_count 66 = .ok (.aload_n 0, 1) := by decide +kernel
theorem dX11_count_67 : decode cX11_count 67 = .ok (.iconst 1, 1) := by decide +kernel
theorem dX11_count_68 : decode cX11_count 68 = .ok (.invokevirtual 328, 3) := by decide +kernel
theorem dX11_count_71 : decode cX11_count 71 = .ok (.iadd, 1) := by decide +kernel
theorem dX11_count_72 : decode cX11_count 72 = .ok (.aload_n 0, 1) := by decide +kernel
theorem dX11_count_73 : decode cX11_count 73 = .ok (.iconst 2, 1) := by decide +kernel
theorem dX11_count_74 : decode cX11_count 74 = .ok (.invokevirtual 328, 3) := by decide +kernel
theorem dX11_count_77 : decode cX11_count 77 = .ok (.iadd, 1) := by decide +kernel
theorem dX11_count_78 : decode cX11_count 78 = .ok (.ireturn, 1) := by decide +kernel
theorem dX11_count_79 : decode cX11_count 79 = .ok (.aload_n 0, 1) := by decide +kernel
theorem dX11_count_80 : decode cX11_count 80 = .ok (.getfield 186, 3) := by decide +kernel
theorem dX11_count_83 : decode cX11_count 83 = .ok (.ireturn, 1) := by decide +kernel
theorem dX11_count_84 : decode cX11_count 84 = .ok (.aload_n 0, 1) := by decide +kernel
theorem dX11_count_85 : decode cX11_count 85 = .ok (.getfield 166, 3) := by decide +kernel
theorem dX11_count_88 : decode cX11_count 88 = .ok (.ireturn, 1) := by decide +kernel
theorem dX11_count_89 : decode cX11_count 89 = .ok (.aload_n 0, 1) := by decide +kernel
theorem dX11_count_90 : decode cX11_count 90 = .ok (.getfield 337, 3) := by decide +kernel
theorem dX11_count_93 : decode cX11_count 93 = .ok (.ireturn, 1) := by decide +kernel
theorem dX11_count_94 : decode cX11_count 94 = .ok (.aload_n 0, 1) := by decide +kernel
theorem dX11_count_95 : decode cX11_count 95 = .ok (.getfield 340, 3) := by decide +kernel
theorem dX11_count_98 : decode cX11_count 98 = .ok (.ireturn, 1) := by decide +kernel
theorem dX11_count_99 : decode cX11_count 99 = .ok (.iconst (-1), 1) := by decide +kernel
theorem dX11_count_100 : decode cX11_count 100 = .ok (.ireturn, 1) := by decide +kernel
set_option maxRecDepth 20000 in
theorem ggX11_isShelf_X11_in : GoodIn wsX11_isShelf wsX11_in := goodIn_r _ [4] rfl (by decide +kernel)
set_option maxRecDepth 20000 in
theorem gX11_isShelf_X11_in : GoodIn wsX11_isShelf (va_wsS RX11 118 yX11_in wsX11_in) := goodIn_app (goodIn_of _ (by decide +kernel)) ggX11_isShelf_X11_in
theorem dX11_isShelf_0 : decode cX11_isShelf 0 = .ok (.iload_n 0, 1) := by decide +kernel
theorem dX11_isShelf_1 : decode cX11_isShelf 1 = .ok (.iconst 0, 1) := by decide +kernel
theorem dX11_isShelf_2 : decode cX11_isShelf 2 = .ok (.iconst 5, 1) := by decide +kernel
theorem dX11_isShelf_3 : decode cX11_isShelf 3 = .ok (.invokestatic 118, 3) := by decide +kernel
theorem dX11_isShelf_6 : decode cX11_isShelf 6 = .ok (.ireturn, 1) := by decide +kernel
set_option maxRecDepth 20000 in
theorem ggX11_keep_X11_isShelf : GoodIn wsX11_keep wsX11_isShelf := goodIn_r _ [5, 6, 7, 4, 8] rfl (by decide +kernel)
set_option maxRecDepth 20000 in
theorem gX11_keep_X11_isShelf : GoodIn wsX11_keep (va_wsS RX11 130 yX11_isShelf wsX11_isShelf) := goodIn_app (goodIn_of _ (by decide +kernel)) ggX11_keep_X11_isShelf
set_option maxRecDepth 20000 in
theorem ggX11_keep_X11_isBody : GoodIn wsX11_keep wsX11_isBody := goodIn_r _ [12, 13, 6, 7, 4, 8, 14, 15, 16, 17, 18, 19, 20, 21, 22, 23, 24, 25, 26, 27, 28, 29, 30, 31, 32, 33, 34, 35, 36, 37, 38, 39, 40, 41, 42, 43, 44, 45, 46, 47, 48, 49, 50, 51, 52, 53, 54, 55, 56, 57, 58, 59, 60, 61, 62, 63] rfl (by decide +kernel)
set_option maxRecDepth 20000 in
theorem gX11_keep_X11_isBody : GoodIn wsX11_keep (wsV RX11 380 RX11 yX11_isBody wsX11_isBody) := goodIn_app (goodIn_of _ (by decide +kernel)) ggX11_keep_X11_isBody
theorem dX11_keep_0 : decode cX11_keep 0 = .ok (.iload_n 1, 1) := by decide +kernel
theorem dX11_keep_1 : decode cX11_keep 1 = .ok (.invokestatic 130, 3) := by decide +kernel
theorem dX11_keep_4 : decode cX11_keep 4 = .ok (.ifCond .eq 16, 3) := by decide +kernel
theorem dX11_keep_7 : decode cX11_keep 7 = .ok (.iload_n 2, 1) := by decide +kernel
theorem dX11_keep_8 : decode cX11_keep 8 = .ok (.iconst (-1), 1) := by decide +kernel
theorem dX11_keep_9 : decode cX11_keep 9 = .ok (.if_icmp .eq 13, 3) := by decide +kernel
theorem dX11_keep_12 : decode cX11_keep 12 = .ok (.aload_n 0, 1) := by decide +kernel
theorem dX11_keep_13 : decode cX11_keep 13 = .ok (.iload_n 2, 1) := by decide +kernel
theorem dX11_keep_14 : decode cX11_keep 14 = .ok (.invokevirtual 380, 3) := by decide +kernel
theorem dX11_keep_17 : decode cX11_keep 17 = .ok (.ifCond .ne 5, 3) := by decide +kernel
theorem dX11_keep_20 : decode cX11_keep 20 = .ok (.iconst (-1), 1) := by decide +kernel
theorem dX11_keep_21 : decode cX11_keep 21 = .ok (.ireturn, 1) := by decide +kernel
theorem dX11_keep_22 : decode cX11_keep 22 = .ok (.aload_n 0, 1) := by decide +kernel
theorem dX11_keep_23 : decode cX11_keep 23 = .ok (.getfield 101, 3) := by decide +kernel
theorem dX11_keep_26 : decode cX11_keep 26 = .ok (.iload_n 1, 1) := by decide +kernel
theorem dX11_keep_27 : decode cX11_keep 27 = .ok (.iload_n 2, 1) := by decide +kernel
theorem dX11_keep_28 : decode cX11_keep 28 = .ok (.iastore, 1) := by decide +kernel
theorem dX11_keep_29 : decode cX11_keep 29 = .ok (.iconst 1, 1) := by decide +kernel
theorem dX11_keep_30 : decode cX11_keep 30 = .ok (.ireturn, 1) := by decide +kernel
set_option maxRecDepth 20000 in
theorem ggX11_row_X11_isShelf : GoodIn wsX11_row wsX11_isShelf := goodIn_r _ [7, 8, 9, 6, 10] rfl (by decide +kernel)
set_option maxRecDepth 20000 in
theorem gX11_row_X11_isShelf : GoodIn wsX11_row (va_wsS RX11 130 yX11_isShelf wsX11_isShelf) := goodIn_app (goodIn_of _ (by decide +kernel)) ggX11_row_X11_isShelf
set_option maxRecDepth 20000 in
theorem ggX11_row_X11_in : GoodIn wsX11_row wsX11_in := goodIn_r _ [10] rfl (by decide +kernel)
set_option maxRecDepth 20000 in
theorem gX11_row_X11_in : GoodIn wsX11_row (va_wsS RX11 118 yX11_in wsX11_in) := goodIn_app (goodIn_of _ (by decide +kernel)) ggX11_row_X11_in
theorem dX11_row_0 : decode cX11_row 0 = .ok (.iload_n 1, 1) := by decide +kernel
theorem dX11_row_1 : decode cX11_row 1 = .ok (.invokestatic 130, 3) := by decide +kernel
theorem dX11_row_4 : decode cX11_row 4 = .ok (.ifCond .eq 18, 3) := by decide +kernel
theorem dX11_row_7 : decode cX11_row 7 = .ok (.iload_n 2, 1) := by decide +kernel
theorem dX11_row_8 : decode cX11_row 8 = .ok (.iconst 0, 1) := by decide +kernel
theorem dX11_row_9 : decode cX11_row 9 = .ok (.iconst 4, 1) := by decide +kernel
theorem dX11_row_10 : decode cX11_row 10 = .ok (.invokestatic 118, 3) := by decide +kernel
theorem dX11_row_13 : decode cX11_row 13 = .ok (.ifCond .eq 9, 3) := by decide +kernel
theorem dX11_row_16 : decode cX11_row 16 = .ok (.iload_n 3, 1) := by decide +kernel
theorem dX11_row_17 : decode cX11_row 17 = .ok (.bipush 60, 2) := by decide +kernel
theorem dX11_row_19 : decode cX11_row 19 = .ok (.if_icmp .le 5, 3) := by decide +kernel
theorem dX11_row_22 : decode cX11_row 22 = .ok (.iconst (-1), 1) := by decide +kernel
theorem dX11_row_23 : decode cX11_row 23 = .ok (.ireturn, 1) := by decide +kernel
theorem dX11_row_24 : decode cX11_row 24 = .ok (.iload_n 3, 1) := by decide +kernel
theorem dX11_row_25 : decode cX11_row 25 = .ok (.ifCond .ge 6, 3) := by decide +kernel
theorem dX11_row_28 : decode cX11_row 28 = .ok (.bipush (-14), 2) := by decide +kernel
theorem dX11_row_30 : decode cX11_row 30 = .ok (.ireturn, 1) := by decide +kernel
theorem dX11_row_31 : decode cX11_row 31 = .ok (.aload_n 0, 1) := by decide +kernel
theorem dX11_row_32 : decode cX11_row 32 = .ok (.getfield 101, 3) := by decide +kernel
theorem dX11_row_35 : decode cX11_row 35 = .ok (.iload_n 1, 1) := by decide +kernel
theorem dX11_row_36 : decode cX11_row 36 = .ok (.bipush (-2), 2) := by decide +kernel
theorem dX11_row_38 : decode cX11_row 38 = .ok (.iload_n 2, 1) := by decide +kernel
theorem dX11_row_39 : decode cX11_row 39 = .ok (.isub, 1) := by decide +kernel
theorem dX11_row_40 : decode cX11_row 40 = .ok (.iastore, 1) := by decide +kernel
theorem dX11_row_41 : decode cX11_row 41 = .ok (.aload_n 0, 1) := by decide +kernel
theorem dX11_row_42 : decode cX11_row 42 = .ok (.getfield 104, 3) := by decide +kernel
theorem dX11_row_45 : decode cX11_row 45 = .ok (.iload_n 1, 1) := by decide +kernel
theorem dX11_row_46 : decode cX11_row 46 = .ok (.iload_n 3, 1) := by decide +kernel
theorem dX11_row_47 : decode cX11_row 47 = .ok (.iastore, 1) := by decide +kernel
theorem dX11_row_48 : decode cX11_row 48 = .ok (.bipush 60, 2) := by decide +kernel
theorem dX11_row_50 : decode cX11_row 50 = .ok (.iload_n 1, 1) := by decide +kernel
theorem dX11_row_51 : decode cX11_row 51 = .ok (.imul, 1) := by decide +kernel
theorem dX11_row_52 : decode cX11_row 52 = .ok (.istore 4, 2) := by decide +kernel
theorem dX11_row_54 : decode cX11_row 54 = .ok (.iload 4, 2) := by decide +kernel
theorem dX11_row_56 : decode cX11_row 56 = .ok (.bipush 60, 2) := by decide +kernel
theorem dX11_row_58 : decode cX11_row 58 = .ok (.iload_n 1, 1) := by decide +kernel
theorem dX11_row_59 : decode cX11_row 59 = .ok (.imul, 1) := by decide +kernel
theorem dX11_row_60 : decode cX11_row 60 = .ok (.bipush 60, 2) := by decide +kernel
theorem dX11_row_62 : decode cX11_row 62 = .ok (.iadd, 1) := by decide +kernel
theorem dX11_row_63 : decode cX11_row 63 = .ok (.if_icmp .ge 17, 3) := by decide +kernel
theorem dX11_row_66 : decode cX11_row 66 = .ok (.aload_n 0, 1) := by decide +kernel
theorem dX11_row_67 : decode cX11_row 67 = .ok (.getfield 107, 3) := by decide +kernel
theorem dX11_row_70 : decode cX11_row 70 = .ok (.iload 4, 2) := by decide +kernel
theorem dX11_row_72 : decode cX11_row 72 = .ok (.lconst 0, 1) := by decide +kernel
theorem dX11_row_73 : decode cX11_row 73 = .ok (.lastore, 1) := by decide +kernel
theorem dX11_row_74 : decode cX11_row 74 = .ok (.iinc 4 1, 3) := by decide +kernel
theorem dX11_row_77 : decode cX11_row 77 = .ok (.goto (-23), 3) := by decide +kernel
theorem dX11_row_80 : decode cX11_row 80 = .ok (.iconst 1, 1) := by decide +kernel
theorem dX11_row_81 : decode cX11_row 81 = .ok (.ireturn, 1) := by decide +kernel
set_option maxRecDepth 20000 in
theorem ggX11_whyNoPlace_X11_isShelf : GoodIn wsX11_whyNoPlace wsX11_isShelf := goodIn_r _ [6, 7, 8, 5, 9] rfl (by decide +kernel)
set_option maxRecDepth 20000 in
theorem gX11_whyNoPlace_X11_isShelf : GoodIn wsX11_whyNoPlace (va_wsS RX11 130 yX11_isShelf wsX11_isShelf) := goodIn_app (goodIn_of _ (by decide +kernel)) ggX11_whyNoPlace_X11_isShelf
set_option maxRecDepth 20000 in
theorem ggX11_whyNoPlace_X11_in : GoodIn wsX11_whyNoPlace wsX11_in := goodIn_r _ [9] rfl (by decide +kernel)
set_option maxRecDepth 20000 in
theorem gX11_whyNoPlace_X11_in : GoodIn wsX11_whyNoPlace (va_wsS RX11 118 yX11_in wsX11_in) := goodIn_app (goodIn_of _ (by decide +kernel)) ggX11_whyNoPlace_X11_in
theorem dX11_whyNoPlace_0 : decode cX11_whyNoPlace 0 = .ok (.iload_n 1, 1) := by decide +kernel
theorem dX11_whyNoPlace_1 : decode cX11_whyNoPlace 1 = .ok (.invokestatic 130, 3) := by decide +kernel
theorem dX11_whyNoPlace_4 : decode cX11_whyNoPlace 4 = .ok (.ifCond .ne 5, 3) := by decide +kernel
theorem dX11_whyNoPlace_7 : decode cX11_whyNoPlace 7 = .ok (.iconst (-1), 1) := by decide +kernel
theorem dX11_whyNoPlace_8 : decode cX11_whyNoPlace 8 = .ok (.ireturn, 1) := by decide +kernel
theorem dX11_whyNoPlace_9 : decode cX11_whyNoPlace 9 = .ok (.aload_n 0, 1) := by decide +kernel
theorem dX11_whyNoPlace_10 : decode cX11_whyNoPlace 10 = .ok (.getfield 101, 3) := by decide +kernel
theorem dX11_whyNoPlace_13 : decode cX11_whyNoPlace 13 = .ok (.iload_n 1, 1) := by decide +kernel
theorem dX11_whyNoPlace_14 : decode cX11_whyNoPlace 14 = .ok (.iaload, 1) := by decide +kernel
theorem dX11_whyNoPlace_15 : decode cX11_whyNoPlace 15 = .ok (.iconst (-1), 1) := by decide +kernel
theorem dX11_whyNoPlace_16 : decode cX11_whyNoPlace 16 = .ok (.if_icmp .ne 6, 3) := by decide +kernel
theorem dX11_whyNoPlace_19 : decode cX11_whyNoPlace 19 = .ok (.bipush (-11), 2) := by decide +kernel
theorem dX11_whyNoPlace_21 : decode cX11_whyNoPlace 21 = .ok (.ireturn, 1) := by decide +kernel
theorem dX11_whyNoPlace_22 : decode cX11_whyNoPlace 22 = .ok (.aload_n 0, 1) := by decide +kernel
theorem dX11_whyNoPlace_23 : decode cX11_whyNoPlace 23 = .ok (.getfield 101, 3) := by decide +kernel
theorem dX11_whyNoPlace_26 : decode cX11_whyNoPlace 26 = .ok (.iload_n 1, 1) := by decide +kernel
theorem dX11_whyNoPlace_27 : decode cX11_whyNoPlace 27 = .ok (.iaload, 1) := by decide +kernel
theorem dX11_whyNoPlace_28 : decode cX11_whyNoPlace 28 = .ok (.ifCond .lt 6, 3) := by decide +kernel
theorem dX11_whyNoPlace_31 : decode cX11_whyNoPlace 31 = .ok (.bipush (-12), 2) := by decide +kernel
theorem dX11_whyNoPlace_33 : decode cX11_whyNoPlace 33 = .ok (.ireturn, 1) := by decide +kernel
theorem dX11_whyNoPlace_34 : decode cX11_whyNoPlace 34 = .ok (.iload_n 2, 1) := by decide +kernel
theorem dX11_whyNoPlace_35 : decode cX11_whyNoPlace 35 = .ok (.iconst 0, 1) := by decide +kernel
theorem dX11_whyNoPlace_36 : decode cX11_whyNoPlace 36 = .ok (.aload_n 0, 1) := by decide +kernel
theorem dX11_whyNoPlace_37 : decode cX11_whyNoPlace 37 = .ok (.getfield 104, 3) := by decide +kernel
theorem dX11_whyNoPlace_40 : decode cX11_whyNoPlace 40 = .ok (.iload_n 1, 1) := by decide +kernel
theorem dX11_whyNoPlace_41 : decode cX11_whyNoPlace 41 = .ok (.iaload, 1) := by decide +kernel
theorem dX11_whyNoPlace_42 : decode cX11_whyNoPlace 42 = .ok (.iconst 1, 1) := by decide +kernel
theorem dX11_whyNoPlace_43 : decode cX11_whyNoPlace 43 = .ok (.isub, 1) := by decide +kernel
theorem dX11_whyNoPlace_44 : decode cX11_whyNoPlace 44 = .ok (.invokestatic 118, 3) := by decide +kernel
theorem dX11_whyNoPlace_47 : decode cX11_whyNoPlace 47 = .ok (.ifCond .eq 7, 3) := by decide +kernel
theorem dX11_whyNoPlace_50 : decode cX11_whyNoPlace 50 = .ok (.iconst 0, 1) := by decide +kernel
theorem dX11_whyNoPlace_51 : decode cX11_whyNoPlace 51 = .ok (.goto 5, 3) := by decide +kernel
theorem dX11_whyNoPlace_54 : decode cX11_whyNoPlace 54 = .ok (.bipush (-13), 2) := by decide +kernel
theorem dX11_whyNoPlace_56 : decode cX11_whyNoPlace 56 = .ok (.ireturn, 1) := by decide +kernel
set_option maxRecDepth 20000 in
theorem ggX11_put_X11_whyNoPlace : GoodIn wsX11_put wsX11_whyNoPlace := goodIn_r _ [7, 1, 8, 9, 10, 6, 11, 12, 13, 14, 15, 16, 17, 18, 19, 20, 21, 22, 23, 24, 25, 26, 27, 28, 29, 30, 31, 32, 33, 34, 35, 36, 37, 38, 39, 40, 41, 42, 43, 44, 45, 46, 47, 48, 49, 50, 51, 52, 53, 54, 55, 56, 57, 58, 59, 60, 61, 62, 63, 64] rfl (by decide +kernel)
set_option maxRecDepth 20000 in
theorem gX11_put_X11_whyNoPlace : GoodIn wsX11_put (wsV RX11 386 RX11 yX11_whyNoPlace wsX11_whyNoPlace) := goodIn_app (goodIn_of _ (by decide +kernel)) ggX11_put_X11_whyNoPlace
theorem dX11_put_0 : decode cX11_put 0 = .ok (.aload_n 0, 1) := by decide +kernel
theorem dX11_put_1 : decode cX11_put 1 = .ok (.iload_n 1, 1) := by decide +kernel
theorem dX11_put_2 : decode cX11_put 2 = .ok (.iload_n 2, 1) := by decide +kernel
theorem dX11_put_3 : decode cX11_put 3 = .ok (.invokevirtual 386, 3) := by decide +kernel
theorem dX11_put_6 : decode cX11_put 6 = .ok (.istore 5, 2) := by decide +kernel
theorem dX11_put_8 : decode cX11_put 8 = .ok (.iload 5, 2) := by decide +kernel
theorem dX11_put_10 : decode cX11_put 10 = .ok (.ifCond .ge 6, 3) := by decide +kernel
theorem dX11_put_13 : decode cX11_put 13 = .ok (.iload 5, 2) := by decide +kernel
theorem dX11_put_15 : decode cX11_put 15 = .ok (.ireturn, 1) := by decide +kernel
theorem dX11_put_16 : decode cX11_put 16 = .ok (.bipush (-2), 2) := by decide +kernel
theorem dX11_put_18 : decode cX11_put 18 = .ok (.aload_n 0, 1) := by decide +kernel
theorem dX11_put_19 : decode cX11_put 19 = .ok (.getfield 101, 3) := by decide +kernel
theorem dX11_put_22 : decode cX11_put 22 = .ok (.iload_n 1, 1) := by decide +kernel
theorem dX11_put_23 : decode cX11_put 23 = .ok (.iaload, 1) := by decide +kernel
theorem dX11_put_24 : decode cX11_put 24 = .ok (.isub, 1) := by decide +kernel
theorem dX11_put_25 : decode cX11_put 25 = .ok (.istore 6, 2) := by decide +kernel
theorem dX11_put_27 : decode cX11_put 27 = .ok (.aload_n 0, 1) := by decide +kernel
theorem dX11_put_28 : decode cX11_put 28 = .ok (.getfield 107, 3) := by decide +kernel
theorem dX11_put_31 : decode cX11_put 31 = .ok (.bipush 60, 2) := by decide +kernel
theorem dX11_put_33 : decode cX11_put 33 = .ok (.iload_n 1, 1) := by decide +kernel
theorem dX11_put_34 : decode cX11_put 34 = .ok (.imul, 1) := by decide +kernel
theorem dX11_put_35 : decode cX11_put 35 = .ok (.iload_n 2, 1) := by decide +kernel
theorem dX11_put_36 : decode cX11_put 36 = .ok (.iadd, 1) := by decide +kernel
theorem dX11_put_37 : decode cX11_put 37 = .ok (.iload 6, 2) := by decide +kernel
theorem dX11_put_39 : decode cX11_put 39 = .ok (.ifCond .ne 10, 3) := by decide +kernel
theorem dX11_put_42 : decode cX11_put 42 = .ok (.lload_n 3, 1) := by decide +kernel
theorem dX11_put_43 : decode cX11_put 43 = .ok (.l2i, 1) := by decide +kernel
theorem dX11_put_44 : decode cX11_put 44 = .ok (.i2b, 1) := by decide +kernel
theorem dX11_put_45 : decode cX11_put 45 = .ok (.i2l, 1) := by decide +kernel
theorem dX11_put_46 : decode cX11_put 46 = .ok (.goto 49, 3) := by decide +kernel
theorem dX11_put_49 : decode cX11_put 49 = .ok (.iload 6, 2) := by decide +kernel
theorem dX11_put_51 : decode cX11_put 51 = .ok (.iconst 1, 1) := by decide +kernel
theorem dX11_put_52 : decode cX11_put 52 = .ok (.if_icmp .ne 10, 3) := by decide +kernel
theorem dX11_put_55 : decode cX11_put 55 = .ok (.lload_n 3, 1) := by decide +kernel
theorem dX11_put_56 : decode cX11_put 56 = .ok (.l2i, 1) := by decide +kernel
theorem dX11_put_57 : decode cX11_put 57 = .ok (.i2s, 1) := by decide +kernel
theorem dX11_put_58 : decode cX11_put 58 = .ok (.i2l, 1) := by decide +kernel
theorem dX11_put_59 : decode cX11_put 59 = .ok (.goto 36, 3) := by decide +kernel
theorem dX11_put_62 : decode cX11_put 62 = .ok (.iload 6, 2) := by decide +kernel
theorem dX11_put_64 : decode cX11_put 64 = .ok (.iconst 2, 1) := by decide +kernel
theorem dX11_put_65 : decode cX11_put 65 = .ok (.if_icmp .ne 9, 3) := by decide +kernel
theorem dX11_put_68 : decode cX11_put 68 = .ok (.lload_n 3, 1) := by decide +kernel
theorem dX11_put_69 : decode cX11_put 69 = .ok (.l2i, 1) := by decide +kernel
theorem dX11_put_70 : decode cX11_put 70 = .ok (.i2l, 1) := by decide +kernel
theorem dX11_put_71 : decode cX11_put 71 = .ok (.goto 24, 3) := by decide +kernel
theorem dX11_put_74 : decode cX11_put 74 = .ok (.iload 6, 2) := by decide +kernel
theorem dX11_put_76 : decode cX11_put 76 = .ok (.iconst 3, 1) := by decide +kernel
theorem dX11_put_77 : decode cX11_put 77 = .ok (.if_icmp .ne 7, 3) := by decide +kernel
theorem dX11_put_80 : decode cX11_put 80 = .ok (.lload_n 3, 1) := by decide +kernel
theorem dX11_put_81 : decode cX11_put 81 = .ok (.goto 14, 3) := by decide +kernel
theorem dX11_put_84 : decode cX11_put 84 = .ok (.lload_n 3, 1) := by decide +kernel
theorem dX11_put_85 : decode cX11_put 85 = .ok (.lconst 0, 1) := by decide +kernel
theorem dX11_put_86 : decode cX11_put 86 = .ok (.lcmp, 1) := by decide +kernel
theorem dX11_put_87 : decode cX11_put 87 = .ok (.ifCond .eq 7, 3) := by decide +kernel
theorem dX11_put_90 : decode cX11_put 90 = .ok (.lconst 1, 1) := by decide +kernel
theorem dX11_put_91 : decode cX11_put 91 = .ok (.goto 4, 3) := by decide +kernel
theorem dX11_put_94 : decode cX11_put 94 = .ok (.lconst 0, 1) := by decide +kernel
theorem dX11_put_95 : decode cX11_put 95 = .ok (.lastore, 1) := by decide +kernel
theorem dX11_put_96 : decode cX11_put 96 = .ok (.iconst 1, 1) := by decide +kernel
theorem dX11_put_97 : decode cX11_put 97 = .ok (.ireturn, 1) := by decide +kernel
set_option maxRecDepth 20000 in
theorem ggX11_element_X11_whyNoPlace : GoodIn wsX11_element wsX11_whyNoPlace := goodIn_r _ [7, 8, 9, 10, 11, 6, 12, 13, 14, 15, 16, 17, 18, 19, 20, 21, 22, 23, 24, 25, 26, 27, 28, 29, 30, 31, 32, 33, 34, 35, 36, 37, 38, 39, 40, 41, 42, 43, 44, 45, 46, 47, 48, 49, 50, 51, 52, 53, 54, 55, 56, 57, 58, 59, 60, 61, 62, 63, 64, 65] rfl (by decide +kernel)
set_option maxRecDepth 20000 in
theorem gX11_element_X11_whyNoPlace : GoodIn wsX11_element (wsV RX11 386 RX11 yX11_whyNoPlace wsX11_whyNoPlace) := goodIn_app (goodIn_of _ (by decide +kernel)) ggX11_element_X11_whyNoPlace
theorem dX11_element_0 : decode cX11_element 0 = .ok (.aload_n 0, 1) := by decide +kernel
theorem dX11_element_1 : decode cX11_element 1 = .ok (.iload_n 1, 1) := by decide +kernel
theorem dX11_element_2 : decode cX11_element 2 = .ok (.iload_n 2, 1) := by decide +kernel
theorem dX11_element_3 : decode cX11_element 3 = .ok (.invokevirtual 386, 3) := by decide +kernel
theorem dX11_element_6 : decode cX11_element 6 = .ok (.ifCond .ge 9, 3) := by decide +kernel
theorem dX11_element_9 : decode cX11_element 9 = .ok (.ldc2_w 316, 3) := by decide +kernel
theorem dX11_element_12 : decode cX11_element 12 = .ok (.goto 14, 3) := by decide +kernel
theorem dX11_element_15 : decode cX11_element 15 = .ok (.aload_n 0, 1) := by decide +kernel
theorem dX11_element_16 : decode cX11_element 16 = .ok (.getfield 107, 3) := by decide +kernel
theorem dX11_element_19 : decode cX11_element 19 = .ok (.bipush 60, 2) := by decide +kernel
theorem dX11_element_21 : decode cX11_element 21 = .ok (.iload_n 1, 1) := by decide +kernel
theorem dX11_element_22 : decode cX11_element 22 = .ok (.imul, 1) := by decide +kernel
theorem dX11_element_23 : decode cX11_element 23 = .ok (.iload_n 2, 1) := by decide +kernel
theorem dX11_element_24 : decode cX11_element 24 = .ok (.iadd, 1) := by decide +kernel
theorem dX11_element_25 : decode cX11_element 25 = .ok (.laload, 1) := by decide +kernel
theorem dX11_element_26 : decode cX11_element 26 = .ok (.lreturn, 1) := by decide +kernel
set_option maxRecDepth 20000 in
theorem ggX11_shift_X11_isShelf : GoodIn wsX11_shift wsX11_isShelf := goodIn_r _ [8, 9, 10, 7, 11] rfl (by decide +kernel)
set_option maxRecDepth 20000 in
theorem gX11_shift_X11_isShelf : GoodIn wsX11_shift (va_wsS RX11 130 yX11_isShelf wsX11_isShelf) := goodIn_app (goodIn_of _ (by decide +kernel)) ggX11_shift_X11_isShelf
theorem dX11_shift_0 : decode cX11_shift 0 = .ok (.iload_n 1, 1) := by decide +kernel
theorem dX11_shift_1 : decode cX11_shift 1 = .ok (.invokestatic 130, 3) := by decide +kernel
theorem dX11_shift_4 : decode cX11_shift 4 = .ok (.ifCond .eq 10, 3) := by decide +kernel
theorem dX11_shift_7 : decode cX11_shift 7 = .ok (.iload_n 3, 1) := by decide +kernel
theorem dX11_shift_8 : decode cX11_shift 8 = .ok (.invokestatic 130, 3) := by decide +kernel
theorem dX11_shift_11 : decode cX11_shift 11 = .ok (.ifCond .ne 5, 3) := by decide +kernel
theorem dX11_shift_14 : decode cX11_shift 14 = .ok (.iconst (-1), 1) := by decide +kernel
theorem dX11_shift_15 : decode cX11_shift 15 = .ok (.ireturn, 1) := by decide +kernel
theorem dX11_shift_16 : decode cX11_shift 16 = .ok (.aload_n 0, 1) := by decide +kernel
theorem dX11_shift_17 : decode cX11_shift 17 = .ok (.getfield 101, 3) := by decide +kernel
theorem dX11_shift_20 : decode cX11_shift 20 = .ok (.iload_n 1, 1) := by decide +kernel
theorem dX11_shift_21 : decode cX11_shift 21 = .ok (.iaload, 1) := by decide +kernel
theorem dX11_shift_22 : decode cX11_shift 22 = .ok (.iconst (-1), 1) := by decide +kernel
theorem dX11_shift_23 : decode cX11_shift 23 = .ok (.if_icmp .eq 13, 3) := by decide +kernel
theorem dX11_shift_26 : decode cX11_shift 26 = .ok (.aload_n 0, 1) := by decide +kernel
theorem dX11_shift_27 : decode cX11_shift 27 = .ok (.getfield 101, 3) := by decide +kernel
theorem dX11_shift_30 : decode cX11_shift 30 = .ok (.iload_n 3, 1) := by decide +kernel
theorem dX11_shift_31 : decode cX11_shift 31 = .ok (.iaload, 1) := by decide +kernel
theorem dX11_shift_32 : decode cX11_shift 32 = .ok (.iconst (-1), 1) := by decide +kernel
theorem dX11_shift_33 : decode cX11_shift 33 = .ok (.if_icmp .ne 6, 3) := by decide +kernel
theorem dX11_shift_36 : decode cX11_shift 36 = .ok (.bipush (-11), 2) := by decide +kernel
theorem dX11_shift_38 : decode cX11_shift 38 = .ok (.ireturn, 1) := by decide +kernel
theorem dX11_shift_39 : decode cX11_shift 39 = .ok (.aload_n 0, 1) := by decide +kernel
theorem dX11_shift_40 : decode cX11_shift 40 = .ok (.getfield 101, 3) := by decide +kernel
theorem dX11_shift_43 : decode cX11_shift 43 = .ok (.iload_n 1, 1) := by decide +kernel
theorem dX11_shift_44 : decode cX11_shift 44 = .ok (.iaload, 1) := by decide +kernel
theorem dX11_shift_45 : decode cX11_shift 45 = .ok (.ifCond .ge 18, 3) := by decide +kernel
theorem dX11_shift_48 : decode cX11_shift 48 = .ok (.aload_n 0, 1) := by decide +kernel
theorem dX11_shift_49 : decode cX11_shift 49 = .ok (.getfield 101, 3) := by decide +kernel
theorem dX11_shift_52 : decode cX11_shift 52 = .ok (.iload_n 1, 1) := by decide +kernel
theorem dX11_shift_53 : decode cX11_shift 53 = .ok (.iaload, 1) := by decide +kernel
theorem dX11_shift_54 : decode cX11_shift 54 = .ok (.aload_n 0, 1) := by decide +kernel
theorem dX11_shift_55 : decode cX11_shift 55 = .ok (.getfield 101, 3) := by decide +kernel
theorem dX11_shift_58 : decode cX11_shift 58 = .ok (.iload_n 3, 1) := by decide +kernel
theorem dX11_shift_59 : decode cX11_shift 59 = .ok (.iaload, 1) := by decide +kernel
theorem dX11_shift_60 : decode cX11_shift 60 = .ok (.if_icmp .eq 6, 3) := by decide +kernel
theorem dX11_shift_63 : decode cX11_shift 63 = .ok (.bipush (-12), 2) := by decide +kernel
theorem dX11_shift_65 : decode cX11_shift 65 = .ok (.ireturn, 1) := by decide +kernel
theorem dX11_shift_66 : decode cX11_shift 66 = .ok (.iload 5, 2) := by decide +kernel
theorem dX11_shift_68 : decode cX11_shift 68 = .ok (.ifCond .lt 39, 3) := by decide +kernel
theorem dX11_shift_71 : decode cX11_shift 71 = .ok (.iload_n 2, 1) := by decide +kernel
theorem dX11_shift_72 : decode cX11_shift 72 = .ok (.ifCond .lt 35, 3) := by decide +kernel
theorem dX11_shift_75 : decode cX11_shift 75 = .ok (.iload 4, 2) := by decide +kernel
theorem dX11_shift_77 : decode cX11_shift 77 = .ok (.ifCond .lt 30, 3) := by decide +kernel
theorem dX11_shift_80 : decode cX11_shift 80 = .ok (.iload_n 2, 1) := by decide +kernel
theorem dX11_shift_81 : decode cX11_shift 81 = .ok (.aload_n 0, 1) := by decide +kernel
theorem dX11_shift_82 : decode cX11_shift 82 = .ok (.getfield 104, 3) := by decide +kernel
theorem dX11_shift_85 : decode cX11_shift 85 = .ok (.iload_n 1, 1) := by decide +kernel
theorem dX11_shift_86 : decode cX11_shift 86 = .ok (.iaload, 1) := by decide +kernel
theorem dX11_shift_87 : decode cX11_shift 87 = .ok (.iload 5, 2) := by decide +kernel
theorem dX11_shift_89 : decode cX11_shift 89 = .ok (.isub, 1) := by decide +kernel
theorem dX11_shift_90 : decode cX11_shift 90 = .ok (.if_icmp .gt 17, 3) := by decide +kernel
theorem dX11_shift_93 : decode cX11_shift 93 = .ok (.iload 4, 2) := by decide +kernel
theorem dX11_shift_95 : decode cX11_shift 95 = .ok (.aload_n 0, 1) := by decide +kernel
theorem dX11_shift_96 : decode cX11_shift 96 = .ok (.getfield 104, 3) := by decide +kernel
theorem dX11_shift_99 : decode cX11_shift 99 = .ok (.iload_n 3, 1) := by decide +kernel
theorem dX11_shift_100 : decode cX11_shift 100 = .ok (.iaload, 1) := by decide +kernel
theorem dX11_shift_101 : decode cX11_shift 101 = .ok (.iload 5, 2) := by decide +kernel
theorem dX11_shift_103 : decode cX11_shift 103 = .ok (.isub, 1) := by decide +kernel
theorem dX11_shift_104 : decode cX11_shift 104 = .ok (.if_icmp .le 6, 3) := by decide +kernel
theorem dX11_shift_107 : decode cX11_shift 107 = .ok (.bipush (-13), 2) := by decide +kernel
theorem dX11_shift_109 : decode cX11_shift 109 = .ok (.ireturn, 1) := by decide +kernel
theorem dX11_shift_110 : decode cX11_shift 110 = .ok (.iconst 0, 1) := by decide +kernel
theorem dX11_shift_111 : decode cX11_shift 111 = .ok (.istore 6, 2) := by decide +kernel
theorem dX11_shift_113 : decode cX11_shift 113 = .ok (.iload 6, 2) := by decide +kernel
theorem dX11_shift_115 : decode cX11_shift 115 = .ok (.iload 5, 2) := by decide +kernel
theorem dX11_shift_117 : decode cX11_shift 117 = .ok (.if_icmp .ge 30, 3) := by decide +kernel
theorem dX11_shift_120 : decode cX11_shift 120 = .ok (.aload_n 0, 1) := by decide +kernel
theorem dX11_shift_121 : decode cX11_shift 121 = .ok (.getfield 111, 3) := by decide +kernel
theorem dX11_shift_124 : decode cX11_shift 124 = .ok (.iload 6, 2) := by decide +kernel
theorem dX11_shift_126 : decode cX11_shift 126 = .ok (.aload_n 0, 1) := by decide +kernel
theorem dX11_shift_127 : decode cX11_shift 127 = .ok (.getfield 107, 3) := by decide +kernel
theorem dX11_shift_130 : decode cX11_shift 130 = .ok (.bipush 60, 2) := by decide +kernel
theorem dX11_shift_132 : decode cX11_shift 132 = .ok (.iload_n 1, 1) := by decide +kernel
theorem dX11_shift_133 : decode cX11_shift 133 = .ok (.imul, 1) := by decide +kernel
theorem dX11_shift_134 : decode cX11_shift 134 = .ok (.iload_n 2, 1) := by decide +kernel
theorem dX11_shift_135 : decode cX11_shift 135 = .ok (.iadd, 1) := by decide +kernel
theorem dX11_shift_136 : decode cX11_shift 136 = .ok (.iload 6, 2) := by decide +kernel
theorem dX11_shift_138 : decode cX11_shift 138 = .ok (.iadd, 1) := by decide +kernel
theorem dX11_shift_139 : decode cX11_shift 139 = .ok (.laload, 1) := by decide +kernel
theorem dX11_shift_140 : decode cX11_shift 140 = .ok (.lastore, 1) := by decide +kernel
theorem dX11_shift_141 : decode cX11_shift 141 = .ok (.iinc 6 1, 3) := by decide +kernel
theorem dX11_shift_144 : decode cX11_shift 144 = .ok (.goto (-31), 3) := by decide +kernel
theorem dX11_shift_147 : decode cX11_shift 147 = .ok (.iconst 0, 1) := by decide +kernel
theorem dX11_shift_148 : decode cX11_shift 148 = .ok (.istore 6, 2) := by decide +kernel
theorem dX11_shift_150 : decode cX11_shift 150 = .ok (.iload 6, 2) := by decide +kernel
theorem dX11_shift_152 : decode cX11_shift 152 = .ok (.iload 5, 2) := by decide +kernel
theorem dX11_shift_154 : decode cX11_shift 154 = .ok (.if_icmp .ge 31, 3) := by decide +kernel
theorem dX11_shift_157 : decode cX11_shift 157 = .ok (.aload_n 0, 1) := by decide +kernel
theorem dX11_shift_158 : decode cX11_shift 158 = .ok (.getfield 107, 3) := by decide +kernel
theorem dX11_shift_161 : decode cX11_shift 161 = .ok (.bipush 60, 2) := by decide +kernel
theorem dX11_shift_163 : decode cX11_shift 163 = .ok (.iload_n 3, 1) := by decide +kernel
theorem dX11_shift_164 : decode cX11_shift 164 = .ok (.imul, 1) := by decide +kernel
theorem dX11_shift_165 : decode cX11_shift 165 = .ok (.iload 4, 2) := by decide +kernel
theorem dX11_shift_167 : decode cX11_shift 167 = .ok (.iadd, 1) := by decide +kernel
theorem dX11_shift_168 : decode cX11_shift 168 = .ok (.iload 6, 2) := by decide +kernel
theorem dX11_shift_170 : decode cX11_shift 170 = .ok (.iadd, 1) := by decide +kernel
theorem dX11_shift_171 : decode cX11_shift 171 = .ok (.aload_n 0, 1) := by decide +kernel
theorem dX11_shift_172 : decode cX11_shift 172 = .ok (.getfield 111, 3) := by decide +kernel
theorem dX11_shift_175 : decode cX11_shift 175 = .ok (.iload 6, 2) := by decide +kernel
theorem dX11_shift_177 : decode cX11_shift 177 = .ok (.laload, 1) := by decide +kernel
theorem dX11_shift_178 : decode cX11_shift 178 = .ok (.lastore, 1) := by decide +kernel
theorem dX11_shift_179 : decode cX11_shift 179 = .ok (.iinc 6 1, 3) := by decide +kernel
theorem dX11_shift_182 : decode cX11_shift 182 = .ok (.goto (-32), 3) := by decide +kernel
theorem dX11_shift_185 : decode cX11_shift 185 = .ok (.iload 5, 2) := by decide +kernel
theorem dX11_shift_187 : decode cX11_shift 187 = .ok (.ireturn, 1) := by decide +kernel
set_option maxRecDepth 20000 in
theorem ggX11_taken_X11_isShelf : GoodIn wsX11_taken wsX11_isShelf := goodIn_r _ [6, 7, 8, 5, 9] rfl (by decide +kernel)
set_option maxRecDepth 20000 in
theorem gX11_taken_X11_isShelf : GoodIn wsX11_taken (va_wsS RX11 130 yX11_isShelf wsX11_isShelf) := goodIn_app (goodIn_of _ (by decide +kernel)) ggX11_taken_X11_isShelf
set_option maxRecDepth 20000 in
theorem ggX11_taken_X11_in : GoodIn wsX11_taken wsX11_in := goodIn_r _ [9] rfl (by decide +kernel)
set_option maxRecDepth 20000 in
theorem gX11_taken_X11_in : GoodIn wsX11_taken (va_wsS RX11 118 yX11_in wsX11_in) := goodIn_app (goodIn_of _ (by decide +kernel)) ggX11_taken_X11_in
set_option maxRecDepth 20000 in
theorem ggX11_taken_X11_isUnder : GoodIn wsX11_taken wsX11_isUnder := goodIn_r _ [12] rfl (by decide +kernel)
set_option maxRecDepth 20000 in
theorem gX11_taken_X11_isUnder : GoodIn wsX11_taken (va_wsS RX11 350 yX11_isUnder wsX11_isUnder) := goodIn_app (goodIn_of _ (by decide +kernel)) ggX11_taken_X11_isUnder
theorem dX11_taken_0 : decode cX11_taken 0 = .ok (.iload_n 1, 1) := by decide +kernel
theorem dX11_taken_1 : decode cX11_taken 1 = .ok (.invokestatic 130, 3) := by decide +kernel
theorem dX11_taken_4 : decode cX11_taken 4 = .ok (.ifCond .eq 13, 3) := by decide +kernel
theorem dX11_taken_7 : decode cX11_taken 7 = .ok (.iload_n 2, 1) := by decide +kernel
theorem dX11_taken_8 : decode cX11_taken 8 = .ok (.iconst 0, 1) := by decide +kernel
theorem dX11_taken_9 : decode cX11_taken 9 = .ok (.bipush 7, 2) := by decide +kernel
theorem dX11_taken_11 : decode cX11_taken 11 = .ok (.invokestatic 118, 3) := by decide +kernel
theorem dX11_taken_14 : decode cX11_taken 14 = .ok (.ifCond .ne 5, 3) := by decide +kernel
theorem dX11_taken_17 : decode cX11_taken 17 = .ok (.iconst (-1), 1) := by decide +kernel
theorem dX11_taken_18 : decode cX11_taken 18 = .ok (.ireturn, 1) := by decide +kernel
theorem dX11_taken_19 : decode cX11_taken 19 = .ok (.aload_n 0, 1) := by decide +kernel
theorem dX11_taken_20 : decode cX11_taken 20 = .ok (.getfield 101, 3) := by decide +kernel
theorem dX11_taken_23 : decode cX11_taken 23 = .ok (.iload_n 1, 1) := by decide +kernel
theorem dX11_taken_24 : decode cX11_taken 24 = .ok (.iaload, 1) := by decide +kernel
theorem dX11_taken_25 : decode cX11_taken 25 = .ok (.iconst (-1), 1) := by decide +kernel
theorem dX11_taken_26 : decode cX11_taken 26 = .ok (.if_icmp .ne 6, 3) := by decide +kernel
theorem dX11_taken_29 : decode cX11_taken 29 = .ok (.bipush (-11), 2) := by decide +kernel
theorem dX11_taken_31 : decode cX11_taken 31 = .ok (.ireturn, 1) := by decide +kernel
theorem dX11_taken_32 : decode cX11_taken 32 = .ok (.aload_n 0, 1) := by decide +kernel
theorem dX11_taken_33 : decode cX11_taken 33 = .ok (.getfield 101, 3) := by decide +kernel
theorem dX11_taken_36 : decode cX11_taken 36 = .ok (.iload_n 1, 1) := by decide +kernel
theorem dX11_taken_37 : decode cX11_taken 37 = .ok (.iaload, 1) := by decide +kernel
theorem dX11_taken_38 : decode cX11_taken 38 = .ok (.ifCond .lt 35, 3) := by decide +kernel
theorem dX11_taken_41 : decode cX11_taken 41 = .ok (.aload_n 0, 1) := by decide +kernel
theorem dX11_taken_42 : decode cX11_taken 42 = .ok (.getfield 95, 3) := by decide +kernel
theorem dX11_taken_45 : decode cX11_taken 45 = .ok (.aload_n 0, 1) := by decide +kernel
theorem dX11_taken_46 : decode cX11_taken 46 = .ok (.getfield 101, 3) := by decide +kernel
theorem dX11_taken_49 : decode cX11_taken 49 = .ok (.iload_n 1, 1) := by decide +kernel
theorem dX11_taken_50 : decode cX11_taken 50 = .ok (.iaload, 1) := by decide +kernel
theorem dX11_taken_51 : decode cX11_taken 51 = .ok (.iaload, 1) := by decide +kernel
theorem dX11_taken_52 : decode cX11_taken 52 = .ok (.iload_n 2, 1) := by decide +kernel
theorem dX11_taken_53 : decode cX11_taken 53 = .ok (.invokestatic 350, 3) := by decide +kernel
theorem dX11_taken_56 : decode cX11_taken 56 = .ok (.ifCond .eq 17, 3) := by decide +kernel
theorem dX11_taken_59 : decode cX11_taken 59 = .ok (.aload_n 0, 1) := by decide +kernel
theorem dX11_taken_60 : decode cX11_taken 60 = .ok (.getfield 95, 3) := by decide +kernel
theorem dX11_taken_63 : decode cX11_taken 63 = .ok (.aload_n 0, 1) := by decide +kernel
theorem dX11_taken_64 : decode cX11_taken 64 = .ok (.getfield 101, 3) := by decide +kernel
theorem dX11_taken_67 : decode cX11_taken 67 = .ok (.iload_n 1, 1) := by decide +kernel
theorem dX11_taken_68 : decode cX11_taken 68 = .ok (.iaload, 1) := by decide +kernel
theorem dX11_taken_69 : decode cX11_taken 69 = .ok (.iaload, 1) := by decide +kernel
theorem dX11_taken_70 : decode cX11_taken 70 = .ok (.goto 5, 3) := by decide +kernel
theorem dX11_taken_73 : decode cX11_taken 73 = .ok (.bipush (-12), 2) := by decide +kernel
theorem dX11_taken_75 : decode cX11_taken 75 = .ok (.ireturn, 1) := by decide +kernel
theorem dJ6_bitCount_0f7a4_0 : decode cJ6_bitCount_0f7a4 0 = .ok (.iload_n 0, 1) := by decide +kernel
theorem dJ6_bitCount_0f7a4_1 : decode cJ6_bitCount_0f7a4 1 = .ok (.iload_n 0, 1) := by decide +kernel
theorem dJ6_bitCount_0f7a4_2 : decode cJ6_bitCount_0f7a4 2 = .ok (.iconst 1, 1) := by decide +kernel
theorem dJ6_bitCount_0f7a4_3 : decode cJ6_bitCount_0f7a4 3 = .ok (.iushr, 1) := by decide +kernel
theorem dJ6_bitCount_0f7a4_4 : decode cJ6_bitCount_0f7a4 4 = .ok (.ldc_w 265, 3) := by decide +kernel
theorem dJ6_bitCount_0f7a4_7 : decode cJ6_bitCount_0f7a4 7 = .ok (.iand, 1) := by decide +kernel
theorem dJ6_bitCount_0f7a4_8 : decode cJ6_bitCount_0f7a4 8 = .ok (.isub, 1) := by decide +kernel
theorem dJ6_bitCount_0f7a4_9 : decode cJ6_bitCount_0f7a4 9 = .ok (.istore_n 0, 1) := by decide +kernel
theorem dJ6_bitCount_0f7a4_10 : decode cJ6_bitCount_0f7a4 10 = .ok (.iload_n 0, 1) := by decide +kernel
theorem dJ6_bitCount_0f7a4_11 : decode cJ6_bitCount_0f7a4 11 = .ok (.ldc_w 266, 3) := by decide +kernel
theorem dJ6_bitCount_0f7a4_14 : decode cJ6_bitCount_0f7a4 14 = .ok (.iand, 1) := by decide +kernel
theorem dJ6_bitCount_0f7a4_15 : decode cJ6_bitCount_0f7a4 15 = .ok (.iload_n 0, 1) := by decide +kernel
theorem dJ6_bitCount_0f7a4_16 : decode cJ6_bitCount_0f7a4 16 = .ok (.iconst 2, 1) := by decide +kernel
theorem dJ6_bitCount_0f7a4_17 : decode cJ6_bitCount_0f7a4 17 = .ok (.iushr, 1) := by decide +kernel
theorem dJ6_bitCount_0f7a4_18 : decode cJ6_bitCount_0f7a4 18 = .ok (.ldc_w 266, 3) := by decide +kernel
theorem dJ6_bitCount_0f7a4_21 : decode cJ6_bitCount_0f7a4 21 = .ok (.iand, 1) := by decide +kernel
theorem dJ6_bitCount_0f7a4_22 : decode cJ6_bitCount_0f7a4 22 = .ok (.iadd, 1) := by decide +kernel
theorem dJ6_bitCount_0f7a4_23 : decode cJ6_bitCount_0f7a4 23 = .ok (.istore_n 0, 1) := by decide +kernel
theorem dJ6_bitCount_0f7a4_24 : decode cJ6_bitCount_0f7a4 24 = .ok (.iload_n 0, 1) := by decide +kernel
theorem dJ6_bitCount_0f7a4_25 : decode cJ6_bitCount_0f7a4 25 = .ok (.iload_n 0, 1) := by decide +kernel
theorem dJ6_bitCount_0f7a4_26 : decode cJ6_bitCount_0f7a4 26 = .ok (.iconst 4, 1) := by decide +kernel
theorem dJ6_bitCount_0f7a4_27 : decode cJ6_bitCount_0f7a4 27 = .ok (.iushr, 1) := by decide +kernel
theorem dJ6_bitCount_0f7a4_28 : decode cJ6_bitCount_0f7a4 28 = .ok (.iadd, 1) := by decide +kernel
theorem dJ6_bitCount_0f7a4_29 : decode cJ6_bitCount_0f7a4 29 = .ok (.ldc_w 267, 3) := by decide +kernel
theorem dJ6_bitCount_0f7a4_32 : decode cJ6_bitCount_0f7a4 32 = .ok (.iand, 1) := by decide +kernel
theorem dJ6_bitCount_0f7a4_33 : decode cJ6_bitCount_0f7a4 33 = .ok (.istore_n 0, 1) := by decide +kernel
theorem dJ6_bitCount_0f7a4_34 : decode cJ6_bitCount_0f7a4 34 = .ok (.iload_n 0, 1) := by decide +kernel
theorem dJ6_bitCount_0f7a4_35 : decode cJ6_bitCount_0f7a4 35 = .ok (.iload_n 0, 1) := by decide +kernel
theorem dJ6_bitCount_0f7a4_36 : decode cJ6_bitCount_0f7a4 36 = .ok (.bipush 8, 2) := by decide +kernel
theorem dJ6_bitCount_0f7a4_38 : decode cJ6_bitCount_0f7a4 38 = .ok (.iushr, 1) := by decide +kernel
theorem dJ6_bitCount_0f7a4_39 : decode cJ6_bitCount_0f7a4 39 = .ok (.iadd, 1) := by decide +kernel
theorem dJ6_bitCount_0f7a4_40 : decode cJ6_bitCount_0f7a4 40 = .ok (.istore_n 0, 1) := by decide +kernel
theorem dJ6_bitCount_0f7a4_41 : decode cJ6_bitCount_0f7a4 41 = .ok (.iload_n 0, 1) := by decide +kernel
theorem dJ6_bitCount_0f7a4_42 : decode cJ6_bitCount_0f7a4 42 = .ok (.iload_n 0, 1) := by decide +kernel
theorem dJ6_bitCount_0f7a4_43 : decode cJ6_bitCount_0f7a4 43 = .ok (.bipush 16, 2) := by decide +kernel
theorem dJ6_bitCount_0f7a4_45 : decode cJ6_bitCount_0f7a4 45 = .ok (.iushr, 1) := by decide +kernel
theorem dJ6_bitCount_0f7a4_46 : decode cJ6_bitCount_0f7a4 46 = .ok (.iadd, 1) := by decide +kernel
theorem dJ6_bitCount_0f7a4_47 : decode cJ6_bitCount_0f7a4 47 = .ok (.istore_n 0, 1) := by decide +kernel
theorem dJ6_bitCount_0f7a4_48 : decode cJ6_bitCount_0f7a4 48 = .ok (.iload_n 0, 1) := by decide +kernel
theorem dJ6_bitCount_0f7a4_49 : decode cJ6_bitCount_0f7a4 49 = .ok (.bipush 63, 2) := by decide +kernel
theorem dJ6_bitCount_0f7a4_51 : decode cJ6_bitCount_0f7a4 51 = .ok (.iand, 1) := by decide +kernel
theorem dJ6_bitCount_0f7a4_52 : decode cJ6_bitCount_0f7a4 52 = .ok (.ireturn, 1) := by decide +kernel
theorem dJ9_max_7cf53_0 : decode cJ9_max_7cf53 0 = .ok (.iload_n 0, 1) := by decide +kernel
theorem dJ9_max_7cf53_1 : decode cJ9_max_7cf53 1 = .ok (.iload_n 1, 1) := by decide +kernel
theorem dJ9_max_7cf53_2 : decode cJ9_max_7cf53 2 = .ok (.if_icmp .lt 7, 3) := by decide +kernel
theorem dJ9_max_7cf53_5 : decode cJ9_max_7cf53 5 = .ok (.iload_n 0, 1) := by decide +kernel
theorem dJ9_max_7cf53_6 : decode cJ9_max_7cf53 6 = .ok (.goto 4, 3) := by decide +kernel
theorem dJ9_max_7cf53_9 : decode cJ9_max_7cf53 9 = .ok (.iload_n 1, 1) := by decide +kernel
theorem dJ9_max_7cf53_10 : decode cJ9_max_7cf53 10 = .ok (.ireturn, 1) := by decide +kernel
theorem dJ9_min_7cf53_0 : decode cJ9_min_7cf53 0 = .ok (.iload_n 0, 1) := by decide +kernel
theorem dJ9_min_7cf53_1 : decode cJ9_min_7cf53 1 = .ok (.iload_n 1, 1) := by decide +kernel
theorem dJ9_min_7cf53_2 : decode cJ9_min_7cf53 2 = .ok (.if_icmp .gt 7, 3) := by decide +kernel
theorem dJ9_min_7cf53_5 : decode cJ9_min_7cf53 5 = .ok (.iload_n 0, 1) := by decide +kernel
theorem dJ9_min_7cf53_6 : decode cJ9_min_7cf53 6 = .ok (.goto 4, 3) := by decide +kernel
theorem dJ9_min_7cf53_9 : decode cJ9_min_7cf53 9 = .ok (.iload_n 1, 1) := by decide +kernel
theorem dJ9_min_7cf53_10 : decode cJ9_min_7cf53 10 = .ok (.ireturn, 1) := by decide +kernel
set_option maxRecDepth 20000 in
theorem ggJ0_length_8abf5_J0_coder_7d493 : GoodIn wsJ0_length_8abf5 wsJ0_coder_7d493 := goodIn_r _ [6, 7, 8] rfl (by decide +kernel)
set_option maxRecDepth 20000 in
theorem gJ0_length_8abf5_J0_coder_7d493 : GoodIn wsJ0_length_8abf5 (wsV RJ0 335 RJ0 yJ0_coder_7d493 wsJ0_coder_7d493) := goodIn_app (goodIn_of _ (by decide +kernel)) ggJ0_length_8abf5_J0_coder_7d493
theorem dJ0_length_8abf5_0 : decode cJ0_length_8abf5 0 = .ok (.aload_n 0, 1) := by decide +kernel
theorem dJ0_length_8abf5_1 : decode cJ0_length_8abf5 1 = .ok (.getfield 9, 3) := by decide +kernel
theorem dJ0_length_8abf5_4 : decode cJ0_length_8abf5 4 = .ok (.arraylength, 1) := by decide +kernel
theorem dJ0_length_8abf5_5 : decode cJ0_length_8abf5 5 = .ok (.aload_n 0, 1) := by decide +kernel
theorem dJ0_length_8abf5_6 : decode cJ0_length_8abf5 6 = .ok (.invokevirtual 335, 3) := by decide +kernel
theorem dJ0_length_8abf5_9 : decode cJ0_length_8abf5 9 = .ok (.ishr, 1) := by decide +kernel
theorem dJ0_length_8abf5_10 : decode cJ0_length_8abf5 10 = .ok (.ireturn, 1) := by decide +kernel
set_option maxRecDepth 20000 in
theorem ggJ0_charAt_5068e_J0_isLatin1_aae02 : GoodIn wsJ0_charAt_5068e wsJ0_isLatin1_aae02 := goodIn_r _ [6, 7, 8] rfl (by decide +kernel)
set_option maxRecDepth 20000 in
theorem gJ0_charAt_5068e_J0_isLatin1_aae02 : GoodIn wsJ0_charAt_5068e (wsV RJ0 492 RJ0 yJ0_isLatin1_aae02 wsJ0_isLatin1_aae02) := goodIn_app (goodIn_of _ (by decide +kernel)) ggJ0_charAt_5068e_J0_isLatin1_aae02
set_option maxRecDepth 20000 in
theorem ggJ0_charAt_5068e_J1_charAt_3b067 : GoodIn wsJ0_charAt_5068e wsJ1_charAt_3b067 := goodIn_r _ [12, 13, 14, 5, 15, 16, 17, 18, 19, 20] rfl (by decide +kernel)
set_option maxRecDepth 20000 in
theorem gJ0_charAt_5068e_J1_charAt_3b067 : GoodIn wsJ0_charAt_5068e (va_wsS RJ0 495 yJ1_charAt_3b067 wsJ1_charAt_3b067) := goodIn_app (goodIn_of _ (by decide +kernel)) ggJ0_charAt_5068e_J1_charAt_3b067
set_option maxRecDepth 20000 in
theorem ggJ0_charAt_5068e_J2_charAt_3b067 : GoodIn wsJ0_charAt_5068e wsJ2_charAt_3b067 := goodIn_r _ [24, 25, 26, 23, 27, 28, 29, 30, 31, 14, 5, 15, 16, 17, 18, 19, 20, 32, 33, 34, 35, 36, 37] rfl (by decide +kernel)
set_option maxRecDepth 20000 in
theorem gJ0_charAt_5068e_J2_charAt_3b067 : GoodIn wsJ0_charAt_5068e (va_wsS RJ0 498 yJ2_charAt_3b067 wsJ2_charAt_3b067) := goodIn_app (goodIn_of _ (by decide +kernel)) ggJ0_charAt_5068e_J2_charAt_3b067
theorem dJ0_charAt_5068e_0 : decode cJ0_charAt_5068e 0 = .ok (.aload_n 0, 1) := by decide +kernel
theorem dJ0_charAt_5068e_1 : decode cJ0_charAt_5068e 1 = .ok (.invokevirtual 492, 3) := by decide +kernel
theorem dJ0_charAt_5068e_4 : decode cJ0_charAt_5068e 4 = .ok (.ifCond .eq 12, 3) := by decide +kernel
theorem dJ0_charAt_5068e_7 : decode cJ0_charAt_5068e 7 = .ok (.aload_n 0, 1) := by decide +kernel
theorem dJ0_charAt_5068e_8 : decode cJ0_charAt_5068e 8 = .ok (.getfield 9, 3) := by decide +kernel
theorem dJ0_charAt_5068e_11 : decode cJ0_charAt_5068e 11 = .ok (.iload_n 1, 1) := by decide +kernel
theorem dJ0_charAt_5068e_12 : decode cJ0_charAt_5068e 12 = .ok (.invokestatic 495, 3) := by decide +kernel
theorem dJ0_charAt_5068e_15 : decode cJ0_charAt_5068e 15 = .ok (.ireturn, 1) := by decide +kernel
theorem dJ0_charAt_5068e_16 : decode cJ0_charAt_5068e 16 = .ok (.aload_n 0, 1) := by decide +kernel
theorem dJ0_charAt_5068e_17 : decode cJ0_charAt_5068e 17 = .ok (.getfield 9, 3) := by decide +kernel
theorem dJ0_charAt_5068e_20 : decode cJ0_charAt_5068e 20 = .ok (.iload_n 1, 1) := by decide +kernel
theorem dJ0_charAt_5068e_21 : decode cJ0_charAt_5068e 21 = .ok (.invokestatic 498, 3) := by decide +kernel
theorem dJ0_charAt_5068e_24 : decode cJ0_charAt_5068e 24 = .ok (.ireturn, 1) := by decide +kernel
theorem dJ0_coder_7d493_0 : decode cJ0_coder_7d493 0 = .ok (.getstatic 38, 3) := by decide +kernel
theorem dJ0_coder_7d493_3 : decode cJ0_coder_7d493 3 = .ok (.ifCond .eq 10, 3) := by decide +kernel
theorem dJ0_coder_7d493_6 : decode cJ0_coder_7d493 6 = .ok (.aload_n 0, 1) := by decide +kernel
theorem dJ0_coder_7d493_7 : decode cJ0_coder_7d493 7 = .ok (.getfield 15, 3) := by decide +kernel
theorem dJ0_coder_7d493_10 : decode cJ0_coder_7d493 10 = .ok (.goto 4, 3) := by decide +kernel
theorem dJ0_coder_7d493_13 : decode cJ0_coder_7d493 13 = .ok (.iconst 1, 1) := by decide +kernel
theorem dJ0_coder_7d493_14 : decode cJ0_coder_7d493 14 = .ok (.ireturn, 1) := by decide +kernel
theorem dJ0_isLatin1_aae02_0 : decode cJ0_isLatin1_aae02 0 = .ok (.getstatic 38, 3) := by decide +kernel
theorem dJ0_isLatin1_aae02_3 : decode cJ0_isLatin1_aae02 3 = .ok (.ifCond .eq 14, 3) := by decide +kernel
theorem dJ0_isLatin1_aae02_6 : decode cJ0_isLatin1_aae02 6 = .ok (.aload_n 0, 1) := by decide +kernel
theorem dJ0_isLatin1_aae02_7 : decode cJ0_isLatin1_aae02 7 = .ok (.getfield 15, 3) := by decide +kernel
theorem dJ0_isLatin1_aae02_10 : decode cJ0_isLatin1_aae02 10 = .ok (.ifCond .ne 7, 3) := by decide +kernel
theorem dJ0_isLatin1_aae02_13 : decode cJ0_isLatin1_aae02 13 = .ok (.iconst 1, 1) := by decide +kernel
theorem dJ0_isLatin1_aae02_14 : decode cJ0_isLatin1_aae02 14 = .ok (.goto 4, 3) := by decide +kernel
theorem dJ0_isLatin1_aae02_17 : decode cJ0_isLatin1_aae02 17 = .ok (.iconst 0, 1) := by decide +kernel
theorem dJ0_isLatin1_aae02_18 : decode cJ0_isLatin1_aae02 18 = .ok (.ireturn, 1) := by decide +kernel
set_option maxRecDepth 20000 in
theorem ggJ0_checkIndex_df160_J3_checkIndex_8e157 : GoodIn wsJ0_checkIndex_df160 wsJ3_checkIndex_8e157 := goodIn_r _ [5] rfl (by decide +kernel)
set_option maxRecDepth 20000 in
theorem gJ0_checkIndex_df160_J3_checkIndex_8e157 : GoodIn wsJ0_checkIndex_df160 (va_wsS RJ0 1059 yJ3_checkIndex_8e157 wsJ3_checkIndex_8e157) := goodIn_app (goodIn_of _ (by decide +kernel)) ggJ0_checkIndex_df160_J3_checkIndex_8e157
theorem dJ0_checkIndex_df160_0 : decode cJ0_checkIndex_df160 0 = .ok (.iload_n 0, 1) := by decide +kernel
theorem dJ0_checkIndex_df160_1 : decode cJ0_checkIndex_df160 1 = .ok (.iload_n 1, 1) := by decide +kernel
theorem dJ0_checkIndex_df160_2 : decode cJ0_checkIndex_df160 2 = .ok (.getstatic 1053, 3) := by decide +kernel
theorem dJ0_checkIndex_df160_5 : decode cJ0_checkIndex_df160 5 = .ok (.invokestatic 1059, 3) := by decide +kernel
theorem dJ0_checkIndex_df160_8 : decode cJ0_checkIndex_df160 8 = .ok (.pop, 1) := by decide +kernel
theorem dJ0_checkIndex_df160_9 : decode cJ0_checkIndex_df160 9 = .ok (.return_, 1) := by decide +kernel
set_option maxRecDepth 20000 in
theorem ggJ1_charAt_3b067_J0_checkIndex_df160 : GoodIn wsJ1_charAt_3b067 wsJ0_checkIndex_df160 := goodIn_r _ [4, 5, 6, 7, 8, 9] rfl (by decide +kernel)
set_option maxRecDepth 20000 in
theorem gJ1_charAt_3b067_J0_checkIndex_df160 : GoodIn wsJ1_charAt_3b067 (va_wsS RJ1 9 yJ0_checkIndex_df160 wsJ0_checkIndex_df160) := goodIn_app (goodIn_of _ (by decide +kernel)) ggJ1_charAt_3b067_J0_checkIndex_df160
theorem dJ1_charAt_3b067_0 : decode cJ1_charAt_3b067 0 = .ok (.iload_n 1, 1) := by decide +kernel
theorem dJ1_charAt_3b067_1 : decode cJ1_charAt_3b067 1 = .ok (.aload_n 0, 1) := by decide +kernel
theorem dJ1_charAt_3b067_2 : decode cJ1_charAt_3b067 2 = .ok (.arraylength, 1) := by decide +kernel
theorem dJ1_charAt_3b067_3 : decode cJ1_charAt_3b067 3 = .ok (.invokestatic 9, 3) := by decide +kernel
theorem dJ1_charAt_3b067_6 : decode cJ1_charAt_3b067 6 = .ok (.aload_n 0, 1) := by decide +kernel
theorem dJ1_charAt_3b067_7 : decode cJ1_charAt_3b067 7 = .ok (.iload_n 1, 1) := by decide +kernel
theorem dJ1_charAt_3b067_8 : decode cJ1_charAt_3b067 8 = .ok (.baload, 1) := by decide +kernel
theorem dJ1_charAt_3b067_9 : decode cJ1_charAt_3b067 9 = .ok (.sipush 255, 3) := by decide +kernel
theorem dJ1_charAt_3b067_12 : decode cJ1_charAt_3b067 12 = .ok (.iand, 1) := by decide +kernel
theorem dJ1_charAt_3b067_13 : decode cJ1_charAt_3b067 13 = .ok (.i2c, 1) := by decide +kernel
theorem dJ1_charAt_3b067_14 : decode cJ1_charAt_3b067 14 = .ok (.ireturn, 1) := by decide +kernel
set_option maxRecDepth 20000 in
theorem ggJ2_getChar_3b067_J2_length_9d52b : GoodIn wsJ2_getChar_3b067 wsJ2_length_9d52b := goodIn_r _ [7] rfl (by decide +kernel)
set_option maxRecDepth 20000 in
theorem gJ2_getChar_3b067_J2_length_9d52b : GoodIn wsJ2_getChar_3b067 (va_wsS RJ2 48 yJ2_length_9d52b wsJ2_length_9d52b) := goodIn_app (goodIn_of _ (by decide +kernel)) ggJ2_getChar_3b067_J2_length_9d52b
theorem dJ2_getChar_3b067_0 : decode cJ2_getChar_3b067 0 = .ok (.getstatic 44, 3) := by decide +kernel
theorem dJ2_getChar_3b067_3 : decode cJ2_getChar_3b067 3 = .ok (.ifCond .ne 25, 3) := by decide +kernel
theorem dJ2_getChar_3b067_6 : decode cJ2_getChar_3b067 6 = .ok (.iload_n 1, 1) := by decide +kernel
theorem dJ2_getChar_3b067_7 : decode cJ2_getChar_3b067 7 = .ok (.ifCond .lt 11, 3) := by decide +kernel
theorem dJ2_getChar_3b067_10 : decode cJ2_getChar_3b067 10 = .ok (.iload_n 1, 1) := by decide +kernel
theorem dJ2_getChar_3b067_11 : decode cJ2_getChar_3b067 11 = .ok (.aload_n 0, 1) := by decide +kernel
theorem dJ2_getChar_3b067_12 : decode cJ2_getChar_3b067 12 = .ok (.invokestatic 48, 3) := by decide +kernel
theorem dJ2_getChar_3b067_15 : decode cJ2_getChar_3b067 15 = .ok (.if_icmp .lt 13, 3) := by decide +kernel
theorem dJ2_getChar_3b067_18 : decode cJ2_getChar_3b067 18 = .ok (.new 52, 3) := by decide +kernel
theorem dJ2_getChar_3b067_21 : decode cJ2_getChar_3b067 21 = .ok (.dup, 1) := by decide +kernel
theorem dJ2_getChar_3b067_22 : decode cJ2_getChar_3b067 22 = .ok (.ldc 54, 2) := by decide +kernel
theorem dJ2_getChar_3b067_24 : decode cJ2_getChar_3b067 24 = .ok (.invokespecial 56, 3) := by decide +kernel
theorem dJ2_getChar_3b067_27 : decode cJ2_getChar_3b067 27 = .ok (.athrow, 1) := by decide +kernel
theorem dJ2_getChar_3b067_28 : decode cJ2_getChar_3b067 28 = .ok (.iload_n 1, 1) := by decide +kernel
theorem dJ2_getChar_3b067_29 : decode cJ2_getChar_3b067 29 = .ok (.iconst 1, 1) := by decide +kernel
theorem dJ2_getChar_3b067_30 : decode cJ2_getChar_3b067 30 = .ok (.ishl, 1) := by decide +kernel
theorem dJ2_getChar_3b067_31 : decode cJ2_getChar_3b067 31 = .ok (.istore_n 1, 1) := by decide +kernel
theorem dJ2_getChar_3b067_32 : decode cJ2_getChar_3b067 32 = .ok (.aload_n 0, 1) := by decide +kernel
theorem dJ2_getChar_3b067_33 : decode cJ2_getChar_3b067 33 = .ok (.iload_n 1, 1) := by decide +kernel
theorem dJ2_getChar_3b067_34 : decode cJ2_getChar_3b067 34 = .ok (.iinc 1 1, 3) := by decide +kernel
theorem dJ2_getChar_3b067_37 : decode cJ2_getChar_3b067 37 = .ok (.baload, 1) := by decide +kernel
theorem dJ2_getChar_3b067_38 : decode cJ2_getChar_3b067 38 = .ok (.sipush 255, 3) := by decide +kernel
theorem dJ2_getChar_3b067_41 : decode cJ2_getChar_3b067 41 = .ok (.iand, 1) := by decide +kernel
theorem dJ2_getChar_3b067_42 : decode cJ2_getChar_3b067 42 = .ok (.getstatic 59, 3) := by decide +kernel
theorem dJ2_getChar_3b067_45 : decode cJ2_getChar_3b067 45 = .ok (.ishl, 1) := by decide +kernel
theorem dJ2_getChar_3b067_46 : decode cJ2_getChar_3b067 46 = .ok (.aload_n 0, 1) := by decide +kernel
theorem dJ2_getChar_3b067_47 : decode cJ2_getChar_3b067 47 = .ok (.iload_n 1, 1) := by decide +kernel
theorem dJ2_getChar_3b067_48 : decode cJ2_getChar_3b067 48 = .ok (.baload, 1) := by decide +kernel
theorem dJ2_getChar_3b067_49 : decode cJ2_getChar_3b067 49 = .ok (.sipush 255, 3) := by decide +kernel
theorem dJ2_getChar_3b067_52 : decode cJ2_getChar_3b067 52 = .ok (.iand, 1) := by decide +kernel
theorem dJ2_getChar_3b067_53 : decode cJ2_getChar_3b067 53 = .ok (.getstatic 63, 3) := by decide +kernel
theorem dJ2_getChar_3b067_56 : decode cJ2_getChar_3b067 56 = .ok (.ishl, 1) := by decide +kernel
theorem dJ2_getChar_3b067_57 : decode cJ2_getChar_3b067 57 = .ok (.ior, 1) := by decide +kernel
theorem dJ2_getChar_3b067_58 : decode cJ2_getChar_3b067 58 = .ok (.i2c, 1) := by decide +kernel
theorem dJ2_getChar_3b067_59 : decode cJ2_getChar_3b067 59 = .ok (.ireturn, 1) := by decide +kernel
theorem dJ2_length_9d52b_0 : decode cJ2_length_9d52b 0 = .ok (.aload_n 0, 1) := by decide +kernel
theorem dJ2_length_9d52b_1 : decode cJ2_length_9d52b 1 = .ok (.arraylength, 1) := by decide +kernel
theorem dJ2_length_9d52b_2 : decode cJ2_length_9d52b 2 = .ok (.iconst 1, 1) := by decide +kernel
theorem dJ2_length_9d52b_3 : decode cJ2_length_9d52b 3 = .ok (.ishr, 1) := by decide +kernel
theorem dJ2_length_9d52b_4 : decode cJ2_length_9d52b 4 = .ok (.ireturn, 1) := by decide +kernel
set_option maxRecDepth 20000 in
theorem ggJ2_charAt_3b067_J2_checkIndex_2214a : GoodIn wsJ2_charAt_3b067 wsJ2_checkIndex_2214a := goodIn_r _ [4, 5, 6, 3, 7, 8, 9, 10, 11, 12, 13, 14, 15, 16] rfl (by decide +kernel)
set_option maxRecDepth 20000 in
theorem gJ2_charAt_3b067_J2_checkIndex_2214a : GoodIn wsJ2_charAt_3b067 (va_wsS RJ2 67 yJ2_checkIndex_2214a wsJ2_checkIndex_2214a) := goodIn_app (goodIn_of _ (by decide +kernel)) ggJ2_charAt_3b067_J2_checkIndex_2214a
set_option maxRecDepth 20000 in
theorem ggJ2_charAt_3b067_J2_getChar_3b067 : GoodIn wsJ2_charAt_3b067 wsJ2_getChar_3b067 := goodIn_r _ [19, 20, 21, 22, 5, 6, 3, 7] rfl (by decide +kernel)
set_option maxRecDepth 20000 in
theorem gJ2_charAt_3b067_J2_getChar_3b067 : GoodIn wsJ2_charAt_3b067 (va_wsS RJ2 71 yJ2_getChar_3b067 wsJ2_getChar_3b067) := goodIn_app (goodIn_of _ (by decide +kernel)) ggJ2_charAt_3b067_J2_getChar_3b067
theorem dJ2_charAt_3b067_0 : decode cJ2_charAt_3b067 0 = .ok (.iload_n 1, 1) := by decide +kernel
theorem dJ2_charAt_3b067_1 : decode cJ2_charAt_3b067 1 = .ok (.aload_n 0, 1) := by decide +kernel
theorem dJ2_charAt_3b067_2 : decode cJ2_charAt_3b067 2 = .ok (.invokestatic 67, 3) := by decide +kernel
theorem dJ2_charAt_3b067_5 : decode cJ2_charAt_3b067 5 = .ok (.aload_n 0, 1) := by decide +kernel
theorem dJ2_charAt_3b067_6 : decode cJ2_charAt_3b067 6 = .ok (.iload_n 1, 1) := by decide +kernel
theorem dJ2_charAt_3b067_7 : decode cJ2_charAt_3b067 7 = .ok (.invokestatic 71, 3) := by decide +kernel
theorem dJ2_charAt_3b067_10 : decode cJ2_charAt_3b067 10 = .ok (.ireturn, 1) := by decide +kernel
set_option maxRecDepth 20000 in
theorem ggJ2_checkIndex_2214a_J2_length_9d52b : GoodIn wsJ2_checkIndex_2214a wsJ2_length_9d52b := goodIn_r _ [4] rfl (by decide +kernel)
set_option maxRecDepth 20000 in
theorem gJ2_checkIndex_2214a_J2_length_9d52b : GoodIn wsJ2_checkIndex_2214a (va_wsS RJ2 48 yJ2_length_9d52b wsJ2_length_9d52b) := goodIn_app (goodIn_of _ (by decide +kernel)) ggJ2_checkIndex_2214a_J2_length_9d52b
set_option maxRecDepth 20000 in
theorem ggJ2_checkIndex_2214a_J0_checkIndex_df160 : GoodIn wsJ2_checkIndex_2214a wsJ0_checkIndex_df160 := goodIn_r _ [8, 9, 10, 11, 12, 13] rfl (by decide +kernel)
set_option maxRecDepth 20000 in
theorem gJ2_checkIndex_2214a_J0_checkIndex_df160 : GoodIn wsJ2_checkIndex_2214a (va_wsS RJ2 414 yJ0_checkIndex_df160 wsJ0_checkIndex_df160) := goodIn_app (goodIn_of _ (by decide +kernel)) ggJ2_checkIndex_2214a_J0_checkIndex_df160
theorem dJ2_checkIndex_2214a_0 : decode cJ2_checkIndex_2214a 0 = .ok (.iload_n 0, 1) := by decide +kernel
theorem dJ2_checkIndex_2214a_1 : decode cJ2_checkIndex_2214a 1 = .ok (.aload_n 1, 1) := by decide +kernel
theorem dJ2_checkIndex_2214a_2 : decode cJ2_checkIndex_2214a 2 = .ok (.invokestatic 48, 3) := by decide +kernel
theorem dJ2_checkIndex_2214a_5 : decode cJ2_checkIndex_2214a 5 = .ok (.invokestatic 414, 3) := by decide +kernel
theorem dJ2_checkIndex_2214a_8 : decode cJ2_checkIndex_2214a 8 = .ok (.return_, 1) := by decide +kernel
theorem dJ7_fill_d0a16_0 : decode cJ7_fill_d0a16 0 = .ok (.iconst 0, 1) := by decide +kernel
theorem dJ7_fill_d0a16_1 : decode cJ7_fill_d0a16 1 = .ok (.istore_n 3, 1) := by decide +kernel
theorem dJ7_fill_d0a16_2 : decode cJ7_fill_d0a16 2 = .ok (.aload_n 0, 1) := by decide +kernel
theorem dJ7_fill_d0a16_3 : decode cJ7_fill_d0a16 3 = .ok (.arraylength, 1) := by decide +kernel
theorem dJ7_fill_d0a16_4 : decode cJ7_fill_d0a16 4 = .ok (.istore 4, 2) := by decide +kernel
theorem dJ7_fill_d0a16_6 : decode cJ7_fill_d0a16 6 = .ok (.iload_n 3, 1) := by decide +kernel
theorem dJ7_fill_d0a16_7 : decode cJ7_fill_d0a16 7 = .ok (.iload 4, 2) := by decide +kernel
theorem dJ7_fill_d0a16_9 : decode cJ7_fill_d0a16 9 = .ok (.if_icmp .ge 13, 3) := by decide +kernel
theorem dJ7_fill_d0a16_12 : decode cJ7_fill_d0a16 12 = .ok (.aload_n 0, 1) := by decide +kernel
theorem dJ7_fill_d0a16_13 : decode cJ7_fill_d0a16 13 = .ok (.iload_n 3, 1) := by decide +kernel
theorem dJ7_fill_d0a16_14 : decode cJ7_fill_d0a16 14 = .ok (.lload_n 1, 1) := by decide +kernel
theorem dJ7_fill_d0a16_15 : decode cJ7_fill_d0a16 15 = .ok (.lastore, 1) := by decide +kernel
theorem dJ7_fill_d0a16_16 : decode cJ7_fill_d0a16 16 = .ok (.iinc 3 1, 3) := by decide +kernel
theorem dJ7_fill_d0a16_19 : decode cJ7_fill_d0a16 19 = .ok (.goto (-13), 3) := by decide +kernel
theorem dJ7_fill_d0a16_22 : decode cJ7_fill_d0a16 22 = .ok (.return_, 1) := by decide +kernel
theorem dJ7_fill_53178_0 : decode cJ7_fill_53178 0 = .ok (.iconst 0, 1) := by decide +kernel
theorem dJ7_fill_53178_1 : decode cJ7_fill_53178 1 = .ok (.istore_n 2, 1) := by decide +kernel
theorem dJ7_fill_53178_2 : decode cJ7_fill_53178 2 = .ok (.aload_n 0, 1) := by decide +kernel
theorem dJ7_fill_53178_3 : decode cJ7_fill_53178 3 = .ok (.arraylength, 1) := by decide +kernel
theorem dJ7_fill_53178_4 : decode cJ7_fill_53178 4 = .ok (.istore_n 3, 1) := by decide +kernel
theorem dJ7_fill_53178_5 : decode cJ7_fill_53178 5 = .ok (.iload_n 2, 1) := by decide +kernel
theorem dJ7_fill_53178_6 : decode cJ7_fill_53178 6 = .ok (.iload_n 3, 1) := by decide +kernel
theorem dJ7_fill_53178_7 : decode cJ7_fill_53178 7 = .ok (.if_icmp .ge 13, 3) := by decide +kernel
theorem dJ7_fill_53178_10 : decode cJ7_fill_53178 10 = .ok (.aload_n 0, 1) := by decide +kernel
theorem dJ7_fill_53178_11 : decode cJ7_fill_53178 11 = .ok (.iload_n 2, 1) := by decide +kernel
theorem dJ7_fill_53178_12 : decode cJ7_fill_53178 12 = .ok (.iload_n 1, 1) := by decide +kernel
theorem dJ7_fill_53178_13 : decode cJ7_fill_53178 13 = .ok (.iastore, 1) := by decide +kernel
theorem dJ7_fill_53178_14 : decode cJ7_fill_53178 14 = .ok (.iinc 2 1, 3) := by decide +kernel
theorem dJ7_fill_53178_17 : decode cJ7_fill_53178 17 = .ok (.goto (-12), 3) := by decide +kernel
theorem dJ7_fill_53178_20 : decode cJ7_fill_53178 20 = .ok (.return_, 1) := by decide +kernel
theorem dJ3_checkIndex_8e157_0 : decode cJ3_checkIndex_8e157 0 = .ok (.iload_n 0, 1) := by decide +kernel
theorem dJ3_checkIndex_8e157_1 : decode cJ3_checkIndex_8e157 1 = .ok (.ifCond .lt 8, 3) := by decide +kernel
theorem dJ3_checkIndex_8e157_4 : decode cJ3_checkIndex_8e157 4 = .ok (.iload_n 0, 1) := by decide +kernel
theorem dJ3_checkIndex_8e157_5 : decode cJ3_checkIndex_8e157 5 = .ok (.iload_n 1, 1) := by decide +kernel
theorem dJ3_checkIndex_8e157_6 : decode cJ3_checkIndex_8e157 6 = .ok (.if_icmp .lt 10, 3) := by decide +kernel
theorem dJ3_checkIndex_8e157_9 : decode cJ3_checkIndex_8e157 9 = .ok (.aload_n 2, 1) := by decide +kernel
theorem dJ3_checkIndex_8e157_10 : decode cJ3_checkIndex_8e157 10 = .ok (.iload_n 0, 1) := by decide +kernel
theorem dJ3_checkIndex_8e157_11 : decode cJ3_checkIndex_8e157 11 = .ok (.iload_n 1, 1) := by decide +kernel
theorem dJ3_checkIndex_8e157_12 : decode cJ3_checkIndex_8e157 12 = .ok (.invokestatic 95, 3) := by decide +kernel
theorem dJ3_checkIndex_8e157_15 : decode cJ3_checkIndex_8e157 15 = .ok (.athrow, 1) := by decide +kernel
theorem dJ3_checkIndex_8e157_16 : decode cJ3_checkIndex_8e157 16 = .ok (.iload_n 0, 1) := by decide +kernel
theorem dJ3_checkIndex_8e157_17 : decode cJ3_checkIndex_8e157 17 = .ok (.ireturn, 1) := by decide +kernel

theorem ggL_law_X10_init_0 : ∀ w ∈ (wsX10_init_r1 : List Cond), w ∈ wsL_law := List.forall_mem_cons.mpr ⟨inr_1 _ (List.mem_of_getElem? (i := 10) rfl), List.forall_mem_cons.mpr ⟨inr_1 _ (List.mem_of_getElem? (i := 11) rfl), List.forall_mem_cons.mpr ⟨inr_1 _ (List.mem_of_getElem? (i := 12) rfl), List.forall_mem_cons.mpr ⟨inr_1 _ (List.mem_of_getElem? (i := 13) rfl), List.forall_mem_cons.mpr ⟨inr_1 _ (List.mem_of_getElem? (i := 14) rfl), List.forall_mem_cons.mpr ⟨inr_1 _ (List.mem_of_getElem? (i := 15) rfl), List.forall_mem_cons.mpr ⟨inr_1 _ (List.mem_of_getElem? (i := 16) rfl), List.forall_mem_cons.mpr ⟨inr_1 _ (List.mem_of_getElem? (i := 17) rfl), List.forall_mem_cons.mpr ⟨inr_1 _ (List.mem_of_getElem? (i := 18) rfl), List.forall_mem_cons.mpr ⟨inr_1 _ (List.mem_of_getElem? (i := 19) rfl), List.forall_mem_cons.mpr ⟨inr_1 _ (List.mem_of_getElem? (i := 20) rfl), List.forall_mem_cons.mpr ⟨inr_1 _ (List.mem_of_getElem? (i := 21) rfl), List.forall_mem_cons.mpr ⟨inr_1 _ (List.mem_of_getElem? (i := 22) rfl), List.forall_mem_cons.mpr ⟨inr_1 _ (List.mem_of_getElem? (i := 23) rfl), List.forall_mem_cons.mpr ⟨inr_2 _ (List.mem_of_getElem? (i := 0) rfl), List.forall_mem_cons.mpr ⟨inr_2 _ (List.mem_of_getElem? (i := 1) rfl), List.forall_mem_cons.mpr ⟨inr_2 _ (List.mem_of_getElem? (i := 2) rfl), List.forall_mem_cons.mpr ⟨inr_2 _ (List.mem_of_getElem? (i := 3) rfl), List.forall_mem_cons.mpr ⟨inr_2 _ (List.mem_of_getElem? (i := 4) rfl), List.forall_mem_cons.mpr ⟨inr_2 _ (List.mem_of_getElem? (i := 5) rfl), List.forall_mem_cons.mpr ⟨inr_2 _ (List.mem_of_getElem? (i := 6) rfl), List.forall_mem_cons.mpr ⟨inr_2 _ (List.mem_of_getElem? (i := 7) rfl), List.forall_mem_cons.mpr ⟨inr_2 _ (List.mem_of_getElem? (i := 8) rfl), List.forall_mem_cons.mpr ⟨inr_2 _ (List.mem_of_getElem? (i := 9) rfl), fun _ h => absurd h List.not_mem_nil⟩⟩⟩⟩⟩⟩⟩⟩⟩⟩⟩⟩⟩⟩⟩⟩⟩⟩⟩⟩⟩⟩⟩⟩
theorem ggL_law_X10_init_1 : ∀ w ∈ (wsX10_init_r2 : List Cond), w ∈ wsL_law := List.forall_mem_cons.mpr ⟨inr_2 _ (List.mem_of_getElem? (i := 10) rfl), List.forall_mem_cons.mpr ⟨inr_2 _ (List.mem_of_getElem? (i := 11) rfl), List.forall_mem_cons.mpr ⟨inr_2 _ (List.mem_of_getElem? (i := 12) rfl), List.forall_mem_cons.mpr ⟨inr_2 _ (List.mem_of_getElem? (i := 13) rfl), List.forall_mem_cons.mpr ⟨inr_2 _ (List.mem_of_getElem? (i := 14) rfl), List.forall_mem_cons.mpr ⟨inr_2 _ (List.mem_of_getElem? (i := 15) rfl), List.forall_mem_cons.mpr ⟨inr_2 _ (List.mem_of_getElem? (i := 16) rfl), List.forall_mem_cons.mpr ⟨inr_2 _ (List.mem_of_getElem? (i := 17) rfl), List.forall_mem_cons.mpr ⟨inr_2 _ (List.mem_of_getElem? (i := 18) rfl), List.forall_mem_cons.mpr ⟨inr_2 _ (List.mem_of_getElem? (i := 19) rfl), List.forall_mem_cons.mpr ⟨inr_2 _ (List.mem_of_getElem? (i := 20) rfl), List.forall_mem_cons.mpr ⟨inr_2 _ (List.mem_of_getElem? (i := 21) rfl), List.forall_mem_cons.mpr ⟨inr_2 _ (List.mem_of_getElem? (i := 22) rfl), List.forall_mem_cons.mpr ⟨inr_2 _ (List.mem_of_getElem? (i := 23) rfl), List.forall_mem_cons.mpr ⟨inr_3 _ (List.mem_of_getElem? (i := 0) rfl), List.forall_mem_cons.mpr ⟨inr_3 _ (List.mem_of_getElem? (i := 1) rfl), List.forall_mem_cons.mpr ⟨inr_3 _ (List.mem_of_getElem? (i := 2) rfl), List.forall_mem_cons.mpr ⟨inr_3 _ (List.mem_of_getElem? (i := 3) rfl), List.forall_mem_cons.mpr ⟨inr_3 _ (List.mem_of_getElem? (i := 4) rfl), List.forall_mem_cons.mpr ⟨inr_3 _ (List.mem_of_getElem? (i := 5) rfl), List.forall_mem_cons.mpr ⟨inr_3 _ (List.mem_of_getElem? (i := 6) rfl), List.forall_mem_cons.mpr ⟨inr_3 _ (List.mem_of_getElem? (i := 7) rfl), List.forall_mem_cons.mpr ⟨inr_3 _ (List.mem_of_getElem? (i := 8) rfl), List.forall_mem_cons.mpr ⟨inr_3 _ (List.mem_of_getElem? (i := 9) rfl), fun _ h => absurd h List.not_mem_nil⟩⟩⟩⟩⟩⟩⟩⟩⟩⟩⟩⟩⟩⟩⟩⟩⟩⟩⟩⟩⟩⟩⟩⟩
theorem ggL_law_X10_init_2 : ∀ w ∈ (wsX10_init_r3 : List Cond), w ∈ wsL_law := List.forall_mem_cons.mpr ⟨inr_3 _ (List.mem_of_getElem? (i := 10) rfl), List.forall_mem_cons.mpr ⟨inr_3 _ (List.mem_of_getElem? (i := 11) rfl), List.forall_mem_cons.mpr ⟨inr_3 _ (List.mem_of_getElem? (i := 12) rfl), List.forall_mem_cons.mpr ⟨inr_3 _ (List.mem_of_getElem? (i := 13) rfl), List.forall_mem_cons.mpr ⟨inr_3 _ (List.mem_of_getElem? (i := 14) rfl), List.forall_mem_cons.mpr ⟨inr_3 _ (List.mem_of_getElem? (i := 15) rfl), List.forall_mem_cons.mpr ⟨inr_3 _ (List.mem_of_getElem? (i := 16) rfl), List.forall_mem_cons.mpr ⟨inr_3 _ (List.mem_of_getElem? (i := 17) rfl), List.forall_mem_cons.mpr ⟨inr_3 _ (List.mem_of_getElem? (i := 18) rfl), List.forall_mem_cons.mpr ⟨inr_3 _ (List.mem_of_getElem? (i := 19) rfl), List.forall_mem_cons.mpr ⟨inr_3 _ (List.mem_of_getElem? (i := 20) rfl), List.forall_mem_cons.mpr ⟨inr_3 _ (List.mem_of_getElem? (i := 21) rfl), List.forall_mem_cons.mpr ⟨inr_3 _ (List.mem_of_getElem? (i := 22) rfl), List.forall_mem_cons.mpr ⟨inr_3 _ (List.mem_of_getElem? (i := 23) rfl), List.forall_mem_cons.mpr ⟨inr_4 _ (List.mem_of_getElem? (i := 0) rfl), List.forall_mem_cons.mpr ⟨inr_4 _ (List.mem_of_getElem? (i := 1) rfl), List.forall_mem_cons.mpr ⟨inr_4 _ (List.mem_of_getElem? (i := 2) rfl), List.forall_mem_cons.mpr ⟨inr_4 _ (List.mem_of_getElem? (i := 3) rfl), List.forall_mem_cons.mpr ⟨inr_4 _ (List.mem_of_getElem? (i := 4) rfl), List.forall_mem_cons.mpr ⟨inr_4 _ (List.mem_of_getElem? (i := 5) rfl), List.forall_mem_cons.mpr ⟨inr_4 _ (List.mem_of_getElem? (i := 6) rfl), List.forall_mem_cons.mpr ⟨inr_4 _ (List.mem_of_getElem? (i := 7) rfl), List.forall_mem_cons.mpr ⟨inr_4 _ (List.mem_of_getElem? (i := 8) rfl), List.forall_mem_cons.mpr ⟨inr_4 _ (List.mem_of_getElem? (i := 9) rfl), fun _ h => absurd h List.not_mem_nil⟩⟩⟩⟩⟩⟩⟩⟩⟩⟩⟩⟩⟩⟩⟩⟩⟩⟩⟩⟩⟩⟩⟩⟩
theorem ggL_law_X10_init_3 : ∀ w ∈ (wsX10_init_r4 : List Cond), w ∈ wsL_law := List.forall_mem_cons.mpr ⟨inr_4 _ (List.mem_of_getElem? (i := 10) rfl), List.forall_mem_cons.mpr ⟨inr_4 _ (List.mem_of_getElem? (i := 11) rfl), List.forall_mem_cons.mpr ⟨inr_4 _ (List.mem_of_getElem? (i := 12) rfl), List.forall_mem_cons.mpr ⟨inr_4 _ (List.mem_of_getElem? (i := 13) rfl), List.forall_mem_cons.mpr ⟨inr_4 _ (List.mem_of_getElem? (i := 14) rfl), List.forall_mem_cons.mpr ⟨inr_4 _ (List.mem_of_getElem? (i := 15) rfl), List.forall_mem_cons.mpr ⟨inr_4 _ (List.mem_of_getElem? (i := 16) rfl), List.forall_mem_cons.mpr ⟨inr_4 _ (List.mem_of_getElem? (i := 17) rfl), List.forall_mem_cons.mpr ⟨inr_4 _ (List.mem_of_getElem? (i := 18) rfl), List.forall_mem_cons.mpr ⟨inr_4 _ (List.mem_of_getElem? (i := 19) rfl), List.forall_mem_cons.mpr ⟨inr_4 _ (List.mem_of_getElem? (i := 20) rfl), List.forall_mem_cons.mpr ⟨inr_4 _ (List.mem_of_getElem? (i := 21) rfl), List.forall_mem_cons.mpr ⟨inr_4 _ (List.mem_of_getElem? (i := 22) rfl), List.forall_mem_cons.mpr ⟨inr_4 _ (List.mem_of_getElem? (i := 23) rfl), List.forall_mem_cons.mpr ⟨inr_5 _ (List.mem_of_getElem? (i := 0) rfl), List.forall_mem_cons.mpr ⟨inr_5 _ (List.mem_of_getElem? (i := 1) rfl), List.forall_mem_cons.mpr ⟨inr_5 _ (List.mem_of_getElem? (i := 2) rfl), List.forall_mem_cons.mpr ⟨inr_5 _ (List.mem_of_getElem? (i := 3) rfl), List.forall_mem_cons.mpr ⟨inr_5 _ (List.mem_of_getElem? (i := 4) rfl), List.forall_mem_cons.mpr ⟨inr_5 _ (List.mem_of_getElem? (i := 5) rfl), List.forall_mem_cons.mpr ⟨inr_5 _ (List.mem_of_getElem? (i := 6) rfl), List.forall_mem_cons.mpr ⟨inr_5 _ (List.mem_of_getElem? (i := 7) rfl), List.forall_mem_cons.mpr ⟨inr_5 _ (List.mem_of_getElem? (i := 8) rfl), List.forall_mem_cons.mpr ⟨inr_5 _ (List.mem_of_getElem? (i := 9) rfl), fun _ h => absurd h List.not_mem_nil⟩⟩⟩⟩⟩⟩⟩⟩⟩⟩⟩⟩⟩⟩⟩⟩⟩⟩⟩⟩⟩⟩⟩⟩
theorem ggL_law_X10_init_4 : ∀ w ∈ (wsX10_init_r5 : List Cond), w ∈ wsL_law := List.forall_mem_cons.mpr ⟨inr_5 _ (List.mem_of_getElem? (i := 10) rfl), List.forall_mem_cons.mpr ⟨inr_5 _ (List.mem_of_getElem? (i := 11) rfl), List.forall_mem_cons.mpr ⟨inr_5 _ (List.mem_of_getElem? (i := 12) rfl), List.forall_mem_cons.mpr ⟨inr_5 _ (List.mem_of_getElem? (i := 13) rfl), List.forall_mem_cons.mpr ⟨inr_5 _ (List.mem_of_getElem? (i := 14) rfl), List.forall_mem_cons.mpr ⟨inr_5 _ (List.mem_of_getElem? (i := 15) rfl), List.forall_mem_cons.mpr ⟨inr_5 _ (List.mem_of_getElem? (i := 16) rfl), List.forall_mem_cons.mpr ⟨inr_5 _ (List.mem_of_getElem? (i := 17) rfl), List.forall_mem_cons.mpr ⟨inr_5 _ (List.mem_of_getElem? (i := 18) rfl), List.forall_mem_cons.mpr ⟨inr_5 _ (List.mem_of_getElem? (i := 19) rfl), List.forall_mem_cons.mpr ⟨inr_5 _ (List.mem_of_getElem? (i := 20) rfl), List.forall_mem_cons.mpr ⟨inr_5 _ (List.mem_of_getElem? (i := 21) rfl), List.forall_mem_cons.mpr ⟨inr_5 _ (List.mem_of_getElem? (i := 22) rfl), List.forall_mem_cons.mpr ⟨inr_5 _ (List.mem_of_getElem? (i := 23) rfl), List.forall_mem_cons.mpr ⟨inr_6 _ (List.mem_of_getElem? (i := 0) rfl), List.forall_mem_cons.mpr ⟨inr_6 _ (List.mem_of_getElem? (i := 1) rfl), List.forall_mem_cons.mpr ⟨inr_6 _ (List.mem_of_getElem? (i := 2) rfl), List.forall_mem_cons.mpr ⟨inr_6 _ (List.mem_of_getElem? (i := 3) rfl), List.forall_mem_cons.mpr ⟨inr_6 _ (List.mem_of_getElem? (i := 4) rfl), List.forall_mem_cons.mpr ⟨inr_6 _ (List.mem_of_getElem? (i := 5) rfl), List.forall_mem_cons.mpr ⟨inr_6 _ (List.mem_of_getElem? (i := 6) rfl), List.forall_mem_cons.mpr ⟨inr_6 _ (List.mem_of_getElem? (i := 7) rfl), List.forall_mem_cons.mpr ⟨inr_6 _ (List.mem_of_getElem? (i := 8) rfl), List.forall_mem_cons.mpr ⟨inr_6 _ (List.mem_of_getElem? (i := 9) rfl), fun _ h => absurd h List.not_mem_nil⟩⟩⟩⟩⟩⟩⟩⟩⟩⟩⟩⟩⟩⟩⟩⟩⟩⟩⟩⟩⟩⟩⟩⟩
theorem ggL_law_X10_init_5 : ∀ w ∈ (wsX10_init_r6 : List Cond), w ∈ wsL_law := List.forall_mem_cons.mpr ⟨inr_6 _ (List.mem_of_getElem? (i := 10) rfl), List.forall_mem_cons.mpr ⟨inr_6 _ (List.mem_of_getElem? (i := 11) rfl), List.forall_mem_cons.mpr ⟨inr_6 _ (List.mem_of_getElem? (i := 12) rfl), List.forall_mem_cons.mpr ⟨inr_6 _ (List.mem_of_getElem? (i := 13) rfl), List.forall_mem_cons.mpr ⟨inr_6 _ (List.mem_of_getElem? (i := 14) rfl), List.forall_mem_cons.mpr ⟨inr_6 _ (List.mem_of_getElem? (i := 15) rfl), List.forall_mem_cons.mpr ⟨inr_6 _ (List.mem_of_getElem? (i := 16) rfl), List.forall_mem_cons.mpr ⟨inr_6 _ (List.mem_of_getElem? (i := 17) rfl), List.forall_mem_cons.mpr ⟨inr_6 _ (List.mem_of_getElem? (i := 18) rfl), List.forall_mem_cons.mpr ⟨inr_6 _ (List.mem_of_getElem? (i := 19) rfl), List.forall_mem_cons.mpr ⟨inr_6 _ (List.mem_of_getElem? (i := 20) rfl), List.forall_mem_cons.mpr ⟨inr_6 _ (List.mem_of_getElem? (i := 21) rfl), List.forall_mem_cons.mpr ⟨inr_6 _ (List.mem_of_getElem? (i := 22) rfl), List.forall_mem_cons.mpr ⟨inr_6 _ (List.mem_of_getElem? (i := 23) rfl), List.forall_mem_cons.mpr ⟨inr_7 _ (List.mem_of_getElem? (i := 0) rfl), List.forall_mem_cons.mpr ⟨inr_7 _ (List.mem_of_getElem? (i := 1) rfl), List.forall_mem_cons.mpr ⟨inr_7 _ (List.mem_of_getElem? (i := 2) rfl), List.forall_mem_cons.mpr ⟨inr_7 _ (List.mem_of_getElem? (i := 3) rfl), List.forall_mem_cons.mpr ⟨inr_7 _ (List.mem_of_getElem? (i := 4) rfl), List.forall_mem_cons.mpr ⟨inr_7 _ (List.mem_of_getElem? (i := 5) rfl), List.forall_mem_cons.mpr ⟨inr_7 _ (List.mem_of_getElem? (i := 6) rfl), List.forall_mem_cons.mpr ⟨inr_7 _ (List.mem_of_getElem? (i := 7) rfl), List.forall_mem_cons.mpr ⟨inr_7 _ (List.mem_of_getElem? (i := 8) rfl), List.forall_mem_cons.mpr ⟨inr_7 _ (List.mem_of_getElem? (i := 9) rfl), fun _ h => absurd h List.not_mem_nil⟩⟩⟩⟩⟩⟩⟩⟩⟩⟩⟩⟩⟩⟩⟩⟩⟩⟩⟩⟩⟩⟩⟩⟩
theorem ggL_law_X10_init_6 : ∀ w ∈ (wsX10_init_r7 : List Cond), w ∈ wsL_law := List.forall_mem_cons.mpr ⟨inr_7 _ (List.mem_of_getElem? (i := 10) rfl), List.forall_mem_cons.mpr ⟨inr_7 _ (List.mem_of_getElem? (i := 11) rfl), List.forall_mem_cons.mpr ⟨inr_7 _ (List.mem_of_getElem? (i := 12) rfl), List.forall_mem_cons.mpr ⟨inr_7 _ (List.mem_of_getElem? (i := 13) rfl), List.forall_mem_cons.mpr ⟨inr_7 _ (List.mem_of_getElem? (i := 14) rfl), List.forall_mem_cons.mpr ⟨inr_7 _ (List.mem_of_getElem? (i := 15) rfl), List.forall_mem_cons.mpr ⟨inr_7 _ (List.mem_of_getElem? (i := 16) rfl), List.forall_mem_cons.mpr ⟨inr_7 _ (List.mem_of_getElem? (i := 17) rfl), List.forall_mem_cons.mpr ⟨inr_7 _ (List.mem_of_getElem? (i := 18) rfl), List.forall_mem_cons.mpr ⟨inr_7 _ (List.mem_of_getElem? (i := 19) rfl), List.forall_mem_cons.mpr ⟨inr_7 _ (List.mem_of_getElem? (i := 20) rfl), List.forall_mem_cons.mpr ⟨inr_7 _ (List.mem_of_getElem? (i := 21) rfl), List.forall_mem_cons.mpr ⟨inr_7 _ (List.mem_of_getElem? (i := 22) rfl), List.forall_mem_cons.mpr ⟨inr_7 _ (List.mem_of_getElem? (i := 23) rfl), List.forall_mem_cons.mpr ⟨inr_8 _ (List.mem_of_getElem? (i := 0) rfl), List.forall_mem_cons.mpr ⟨inr_8 _ (List.mem_of_getElem? (i := 1) rfl), List.forall_mem_cons.mpr ⟨inr_8 _ (List.mem_of_getElem? (i := 2) rfl), List.forall_mem_cons.mpr ⟨inr_8 _ (List.mem_of_getElem? (i := 3) rfl), List.forall_mem_cons.mpr ⟨inr_8 _ (List.mem_of_getElem? (i := 4) rfl), List.forall_mem_cons.mpr ⟨inr_8 _ (List.mem_of_getElem? (i := 5) rfl), List.forall_mem_cons.mpr ⟨inr_8 _ (List.mem_of_getElem? (i := 6) rfl), List.forall_mem_cons.mpr ⟨inr_8 _ (List.mem_of_getElem? (i := 7) rfl), List.forall_mem_cons.mpr ⟨inr_8 _ (List.mem_of_getElem? (i := 8) rfl), List.forall_mem_cons.mpr ⟨inr_8 _ (List.mem_of_getElem? (i := 9) rfl), fun _ h => absurd h List.not_mem_nil⟩⟩⟩⟩⟩⟩⟩⟩⟩⟩⟩⟩⟩⟩⟩⟩⟩⟩⟩⟩⟩⟩⟩⟩
theorem ggL_law_X10_init_7 : ∀ w ∈ (wsX10_init_r8 : List Cond), w ∈ wsL_law := List.forall_mem_cons.mpr ⟨inr_8 _ (List.mem_of_getElem? (i := 10) rfl), List.forall_mem_cons.mpr ⟨inr_8 _ (List.mem_of_getElem? (i := 11) rfl), List.forall_mem_cons.mpr ⟨inr_8 _ (List.mem_of_getElem? (i := 12) rfl), List.forall_mem_cons.mpr ⟨inr_8 _ (List.mem_of_getElem? (i := 13) rfl), List.forall_mem_cons.mpr ⟨inr_8 _ (List.mem_of_getElem? (i := 14) rfl), List.forall_mem_cons.mpr ⟨inr_8 _ (List.mem_of_getElem? (i := 15) rfl), List.forall_mem_cons.mpr ⟨inr_8 _ (List.mem_of_getElem? (i := 16) rfl), List.forall_mem_cons.mpr ⟨inr_8 _ (List.mem_of_getElem? (i := 17) rfl), List.forall_mem_cons.mpr ⟨inr_8 _ (List.mem_of_getElem? (i := 18) rfl), List.forall_mem_cons.mpr ⟨inr_8 _ (List.mem_of_getElem? (i := 19) rfl), List.forall_mem_cons.mpr ⟨inr_8 _ (List.mem_of_getElem? (i := 20) rfl), List.forall_mem_cons.mpr ⟨inr_8 _ (List.mem_of_getElem? (i := 21) rfl), List.forall_mem_cons.mpr ⟨inr_8 _ (List.mem_of_getElem? (i := 22) rfl), List.forall_mem_cons.mpr ⟨inr_8 _ (List.mem_of_getElem? (i := 23) rfl), List.forall_mem_cons.mpr ⟨inr_9 _ (List.mem_of_getElem? (i := 0) rfl), List.forall_mem_cons.mpr ⟨inr_9 _ (List.mem_of_getElem? (i := 1) rfl), List.forall_mem_cons.mpr ⟨inr_9 _ (List.mem_of_getElem? (i := 2) rfl), List.forall_mem_cons.mpr ⟨inr_9 _ (List.mem_of_getElem? (i := 3) rfl), List.forall_mem_cons.mpr ⟨inr_9 _ (List.mem_of_getElem? (i := 4) rfl), List.forall_mem_cons.mpr ⟨inr_9 _ (List.mem_of_getElem? (i := 5) rfl), List.forall_mem_cons.mpr ⟨inr_9 _ (List.mem_of_getElem? (i := 6) rfl), List.forall_mem_cons.mpr ⟨inr_9 _ (List.mem_of_getElem? (i := 7) rfl), List.forall_mem_cons.mpr ⟨inr_9 _ (List.mem_of_getElem? (i := 8) rfl), List.forall_mem_cons.mpr ⟨inr_9 _ (List.mem_of_getElem? (i := 9) rfl), fun _ h => absurd h List.not_mem_nil⟩⟩⟩⟩⟩⟩⟩⟩⟩⟩⟩⟩⟩⟩⟩⟩⟩⟩⟩⟩⟩⟩⟩⟩
theorem ggL_law_X10_init_8 : ∀ w ∈ (wsX10_init_r9 : List Cond), w ∈ wsL_law := List.forall_mem_cons.mpr ⟨inr_9 _ (List.mem_of_getElem? (i := 10) rfl), List.forall_mem_cons.mpr ⟨inr_9 _ (List.mem_of_getElem? (i := 11) rfl), List.forall_mem_cons.mpr ⟨inr_9 _ (List.mem_of_getElem? (i := 12) rfl), List.forall_mem_cons.mpr ⟨inr_9 _ (List.mem_of_getElem? (i := 13) rfl), List.forall_mem_cons.mpr ⟨inr_9 _ (List.mem_of_getElem? (i := 14) rfl), List.forall_mem_cons.mpr ⟨inr_9 _ (List.mem_of_getElem? (i := 15) rfl), List.forall_mem_cons.mpr ⟨inr_9 _ (List.mem_of_getElem? (i := 16) rfl), List.forall_mem_cons.mpr ⟨inr_9 _ (List.mem_of_getElem? (i := 17) rfl), List.forall_mem_cons.mpr ⟨inr_9 _ (List.mem_of_getElem? (i := 18) rfl), List.forall_mem_cons.mpr ⟨inr_9 _ (List.mem_of_getElem? (i := 19) rfl), List.forall_mem_cons.mpr ⟨inr_9 _ (List.mem_of_getElem? (i := 20) rfl), List.forall_mem_cons.mpr ⟨inr_9 _ (List.mem_of_getElem? (i := 21) rfl), List.forall_mem_cons.mpr ⟨inr_9 _ (List.mem_of_getElem? (i := 22) rfl), List.forall_mem_cons.mpr ⟨inr_9 _ (List.mem_of_getElem? (i := 23) rfl), List.forall_mem_cons.mpr ⟨inr_10 _ (List.mem_of_getElem? (i := 0) rfl), List.forall_mem_cons.mpr ⟨inr_10 _ (List.mem_of_getElem? (i := 1) rfl), List.forall_mem_cons.mpr ⟨inr_10 _ (List.mem_of_getElem? (i := 2) rfl), List.forall_mem_cons.mpr ⟨inr_10 _ (List.mem_of_getElem? (i := 3) rfl), List.forall_mem_cons.mpr ⟨inr_10 _ (List.mem_of_getElem? (i := 4) rfl), List.forall_mem_cons.mpr ⟨inr_10 _ (List.mem_of_getElem? (i := 5) rfl), List.forall_mem_cons.mpr ⟨inr_10 _ (List.mem_of_getElem? (i := 6) rfl), List.forall_mem_cons.mpr ⟨inr_10 _ (List.mem_of_getElem? (i := 7) rfl), List.forall_mem_cons.mpr ⟨inr_10 _ (List.mem_of_getElem? (i := 8) rfl), List.forall_mem_cons.mpr ⟨inr_10 _ (List.mem_of_getElem? (i := 9) rfl), fun _ h => absurd h List.not_mem_nil⟩⟩⟩⟩⟩⟩⟩⟩⟩⟩⟩⟩⟩⟩⟩⟩⟩⟩⟩⟩⟩⟩⟩⟩
theorem ggL_law_X10_init_9 : ∀ w ∈ (wsX10_init_r10 : List Cond), w ∈ wsL_law := List.forall_mem_cons.mpr ⟨inr_10 _ (List.mem_of_getElem? (i := 10) rfl), List.forall_mem_cons.mpr ⟨inr_10 _ (List.mem_of_getElem? (i := 11) rfl), List.forall_mem_cons.mpr ⟨inr_10 _ (List.mem_of_getElem? (i := 12) rfl), List.forall_mem_cons.mpr ⟨inr_10 _ (List.mem_of_getElem? (i := 13) rfl), List.forall_mem_cons.mpr ⟨inr_10 _ (List.mem_of_getElem? (i := 14) rfl), List.forall_mem_cons.mpr ⟨inr_10 _ (List.mem_of_getElem? (i := 15) rfl), List.forall_mem_cons.mpr ⟨inr_10 _ (List.mem_of_getElem? (i := 16) rfl), fun _ h => absurd h List.not_mem_nil⟩⟩⟩⟩⟩⟩⟩
set_option maxRecDepth 20000 in
theorem ggL_law_X10_init : GoodIn wsL_law wsX10_init := goodIn_sub (List.forall_mem_cons.mpr ⟨inr_1 _ (List.mem_of_getElem? (i := 9) rfl), (fun w h => (List.mem_append.mp h).elim ((fun w h => (List.mem_append.mp h).elim ((fun w h => (List.mem_append.mp h).elim ((fun w h => (List.mem_append.mp h).elim ((fun w h => (List.mem_append.mp h).elim ((fun w h => (List.mem_append.mp h).elim ((fun w h => (List.mem_append.mp h).elim ((fun w h => (List.mem_append.mp h).elim ((fun w h => (List.mem_append.mp h).elim ((fun w h => (List.mem_append.mp h).elim ((fun w h => (List.mem_append.mp h).elim (ggL_law_X10_init_0 w) ((fun w h => (List.mem_append.mp h).elim (ggL_law_X10_init_1 w) ((fun w h => (List.mem_append.mp h).elim (ggL_law_X10_init_2 w) ((fun w h => (List.mem_append.mp h).elim (ggL_law_X10_init_3 w) ((fun w h => (List.mem_append.mp h).elim (ggL_law_X10_init_4 w) ((fun w h => (List.mem_append.mp h).elim (ggL_law_X10_init_5 w) ((fun w h => (List.mem_append.mp h).elim (ggL_law_X10_init_6 w) ((fun w h => (List.mem_append.mp h).elim (ggL_law_X10_init_7 w) ((fun w h => (List.mem_append.mp h).elim (ggL_law_X10_init_8 w) (ggL_law_X10_init_9 w)) w)) w)) w)) w)) w)) w)) w)) w)) w) (inlX10 w)) w) (inlX2 w)) w) (inlX0 w)) w) (inlX5 w)) w) (inlX8 w)) w) (inlX6 w)) w) (inlX3 w)) w) (inlX7 w)) w) (inlX4 w)) w) (inlX9 w))⟩) (by decide +kernel)
set_option maxRecDepth 20000 in
theorem gL_law_X10_init : GoodIn wsL_law (wsX10_init) := ggL_law_X10_init

theorem ggL_law_X11_init_0 : ∀ w ∈ (wsX11_init_r1 : List Cond), w ∈ wsL_law := List.forall_mem_cons.mpr ⟨inr_10 _ (List.mem_of_getElem? (i := 20) rfl), List.forall_mem_cons.mpr ⟨inr_1 _ (List.mem_of_getElem? (i := 11) rfl), List.forall_mem_cons.mpr ⟨inr_1 _ (List.mem_of_getElem? (i := 12) rfl), List.forall_mem_cons.mpr ⟨inr_3 _ (List.mem_of_getElem? (i := 6) rfl), List.forall_mem_cons.mpr ⟨inr_10 _ (List.mem_of_getElem? (i := 21) rfl), List.forall_mem_cons.mpr ⟨inr_10 _ (List.mem_of_getElem? (i := 22) rfl), List.forall_mem_cons.mpr ⟨inr_10 _ (List.mem_of_getElem? (i := 23) rfl), List.forall_mem_cons.mpr ⟨inr_11 _ (List.mem_of_getElem? (i := 0) rfl), List.forall_mem_cons.mpr ⟨inr_11 _ (List.mem_of_getElem? (i := 1) rfl), List.forall_mem_cons.mpr ⟨inr_11 _ (List.mem_of_getElem? (i := 2) rfl), List.forall_mem_cons.mpr ⟨inr_11 _ (List.mem_of_getElem? (i := 3) rfl), List.forall_mem_cons.mpr ⟨inr_11 _ (List.mem_of_getElem? (i := 4) rfl), List.forall_mem_cons.mpr ⟨inr_11 _ (List.mem_of_getElem? (i := 5) rfl), List.forall_mem_cons.mpr ⟨inr_11 _ (List.mem_of_getElem? (i := 6) rfl), List.forall_mem_cons.mpr ⟨inr_11 _ (List.mem_of_getElem? (i := 7) rfl), List.forall_mem_cons.mpr ⟨inr_11 _ (List.mem_of_getElem? (i := 8) rfl), List.forall_mem_cons.mpr ⟨inr_11 _ (List.mem_of_getElem? (i := 9) rfl), List.forall_mem_cons.mpr ⟨inr_11 _ (List.mem_of_getElem? (i := 10) rfl), List.forall_mem_cons.mpr ⟨inr_11 _ (List.mem_of_getElem? (i := 11) rfl), List.forall_mem_cons.mpr ⟨inr_11 _ (List.mem_of_getElem? (i := 12) rfl), List.forall_mem_cons.mpr ⟨inr_11 _ (List.mem_of_getElem? (i := 13) rfl), List.forall_mem_cons.mpr ⟨inr_11 _ (List.mem_of_getElem? (i := 14) rfl), List.forall_mem_cons.mpr ⟨inr_11 _ (List.mem_of_getElem? (i := 15) rfl), List.forall_mem_cons.mpr ⟨inr_11 _ (List.mem_of_getElem? (i := 16) rfl), fun _ h => absurd h List.not_mem_nil⟩⟩⟩⟩⟩⟩⟩⟩⟩⟩⟩⟩⟩⟩⟩⟩⟩⟩⟩⟩⟩⟩⟩⟩
theorem ggL_law_X11_init_1 : ∀ w ∈ (wsX11_init_r2 : List Cond), w ∈ wsL_law := List.forall_mem_cons.mpr ⟨inr_11 _ (List.mem_of_getElem? (i := 17) rfl), List.forall_mem_cons.mpr ⟨inr_11 _ (List.mem_of_getElem? (i := 18) rfl), List.forall_mem_cons.mpr ⟨inr_11 _ (List.mem_of_getElem? (i := 19) rfl), List.forall_mem_cons.mpr ⟨inr_11 _ (List.mem_of_getElem? (i := 20) rfl), List.forall_mem_cons.mpr ⟨inr_11 _ (List.mem_of_getElem? (i := 21) rfl), List.forall_mem_cons.mpr ⟨inr_11 _ (List.mem_of_getElem? (i := 22) rfl), List.forall_mem_cons.mpr ⟨inr_11 _ (List.mem_of_getElem? (i := 23) rfl), List.forall_mem_cons.mpr ⟨inr_12 _ (List.mem_of_getElem? (i := 0) rfl), List.forall_mem_cons.mpr ⟨inr_12 _ (List.mem_of_getElem? (i := 1) rfl), List.forall_mem_cons.mpr ⟨inr_12 _ (List.mem_of_getElem? (i := 2) rfl), List.forall_mem_cons.mpr ⟨inr_12 _ (List.mem_of_getElem? (i := 3) rfl), List.forall_mem_cons.mpr ⟨inr_12 _ (List.mem_of_getElem? (i := 4) rfl), List.forall_mem_cons.mpr ⟨inr_12 _ (List.mem_of_getElem? (i := 5) rfl), List.forall_mem_cons.mpr ⟨inr_4 _ (List.mem_of_getElem? (i := 11) rfl), List.forall_mem_cons.mpr ⟨inr_12 _ (List.mem_of_getElem? (i := 6) rfl), List.forall_mem_cons.mpr ⟨inr_12 _ (List.mem_of_getElem? (i := 7) rfl), fun _ h => absurd h List.not_mem_nil⟩⟩⟩⟩⟩⟩⟩⟩⟩⟩⟩⟩⟩⟩⟩⟩
set_option maxRecDepth 20000 in
theorem ggL_law_X11_init : GoodIn wsL_law wsX11_init := goodIn_sub (List.forall_mem_cons.mpr ⟨inr_10 _ (List.mem_of_getElem? (i := 19) rfl), (fun w h => (List.mem_append.mp h).elim ((fun w h => (List.mem_append.mp h).elim (ggL_law_X11_init_0 w) (ggL_law_X11_init_1 w)) w) (inlX11 w))⟩) (by decide +kernel)
set_option maxRecDepth 20000 in
theorem gL_law_X11_init : GoodIn wsL_law (wsX11_init) := ggL_law_X11_init

theorem ggL_law_X10_line_0 : ∀ w ∈ (wsX10_line_r1 : List Cond), w ∈ wsL_law := List.forall_mem_cons.mpr ⟨inr_12 _ (List.mem_of_getElem? (i := 12) rfl), List.forall_mem_cons.mpr ⟨inr_12 _ (List.mem_of_getElem? (i := 13) rfl), List.forall_mem_cons.mpr ⟨inr_12 _ (List.mem_of_getElem? (i := 14) rfl), List.forall_mem_cons.mpr ⟨inr_1 _ (List.mem_of_getElem? (i := 2) rfl), List.forall_mem_cons.mpr ⟨inr_12 _ (List.mem_of_getElem? (i := 15) rfl), List.forall_mem_cons.mpr ⟨inr_1 _ (List.mem_of_getElem? (i := 14) rfl), List.forall_mem_cons.mpr ⟨inr_12 _ (List.mem_of_getElem? (i := 16) rfl), List.forall_mem_cons.mpr ⟨inr_12 _ (List.mem_of_getElem? (i := 17) rfl), List.forall_mem_cons.mpr ⟨inr_12 _ (List.mem_of_getElem? (i := 18) rfl), List.forall_mem_cons.mpr ⟨inr_12 _ (List.mem_of_getElem? (i := 19) rfl), List.forall_mem_cons.mpr ⟨inr_12 _ (List.mem_of_getElem? (i := 20) rfl), List.forall_mem_cons.mpr ⟨inr_2 _ (List.mem_of_getElem? (i := 6) rfl), List.forall_mem_cons.mpr ⟨inr_12 _ (List.mem_of_getElem? (i := 21) rfl), List.forall_mem_cons.mpr ⟨inr_12 _ (List.mem_of_getElem? (i := 22) rfl), List.forall_mem_cons.mpr ⟨inr_12 _ (List.mem_of_getElem? (i := 23) rfl), List.forall_mem_cons.mpr ⟨inr_13 _ (List.mem_of_getElem? (i := 0) rfl), List.forall_mem_cons.mpr ⟨inr_13 _ (List.mem_of_getElem? (i := 1) rfl), List.forall_mem_cons.mpr ⟨inr_13 _ (List.mem_of_getElem? (i := 2) rfl), List.forall_mem_cons.mpr ⟨inr_13 _ (List.mem_of_getElem? (i := 3) rfl), List.forall_mem_cons.mpr ⟨inr_13 _ (List.mem_of_getElem? (i := 4) rfl), List.forall_mem_cons.mpr ⟨inr_13 _ (List.mem_of_getElem? (i := 5) rfl), List.forall_mem_cons.mpr ⟨inr_13 _ (List.mem_of_getElem? (i := 6) rfl), List.forall_mem_cons.mpr ⟨inr_13 _ (List.mem_of_getElem? (i := 7) rfl), List.forall_mem_cons.mpr ⟨inr_13 _ (List.mem_of_getElem? (i := 8) rfl), fun _ h => absurd h List.not_mem_nil⟩⟩⟩⟩⟩⟩⟩⟩⟩⟩⟩⟩⟩⟩⟩⟩⟩⟩⟩⟩⟩⟩⟩⟩
theorem ggL_law_X10_line_1 : ∀ w ∈ (wsX10_line_r2 : List Cond), w ∈ wsL_law := List.forall_mem_cons.mpr ⟨inr_13 _ (List.mem_of_getElem? (i := 9) rfl), List.forall_mem_cons.mpr ⟨inr_13 _ (List.mem_of_getElem? (i := 10) rfl), List.forall_mem_cons.mpr ⟨inr_4 _ (List.mem_of_getElem? (i := 4) rfl), List.forall_mem_cons.mpr ⟨inr_13 _ (List.mem_of_getElem? (i := 11) rfl), List.forall_mem_cons.mpr ⟨inr_8 _ (List.mem_of_getElem? (i := 5) rfl), List.forall_mem_cons.mpr ⟨inr_8 _ (List.mem_of_getElem? (i := 6) rfl), List.forall_mem_cons.mpr ⟨inr_8 _ (List.mem_of_getElem? (i := 7) rfl), fun _ h => absurd h List.not_mem_nil⟩⟩⟩⟩⟩⟩⟩
set_option maxRecDepth 20000 in
theorem ggL_law_X10_line : GoodIn wsL_law wsX10_line := goodIn_sub (List.forall_mem_cons.mpr ⟨inr_12 _ (List.mem_of_getElem? (i := 11) rfl), (fun w h => (List.mem_append.mp h).elim ((fun w h => (List.mem_append.mp h).elim ((fun w h => (List.mem_append.mp h).elim (ggL_law_X10_line_0 w) (ggL_law_X10_line_1 w)) w) (inlX10 w)) w) (inlX8 w))⟩) (by decide +kernel)
