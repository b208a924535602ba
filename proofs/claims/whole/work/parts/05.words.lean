theorem mr_1 : ∀ w ∈ wsL_law_r1, w ∈ wsL_law := fun _ h => (List.mem_append_left _ (List.mem_append_left _ (List.mem_append_left _ (List.mem_append_left _ (List.mem_append_left _ (List.mem_append_left _ (List.mem_append_left _ (List.mem_append_left _ (List.mem_append_left _ (List.mem_append_left _ (List.mem_append_left _ h)))))))))))
theorem mr_2 : ∀ w ∈ wsL_law_r2, w ∈ wsL_law := fun _ h => (List.mem_append_left _ (List.mem_append_left _ (List.mem_append_left _ (List.mem_append_left _ (List.mem_append_left _ (List.mem_append_left _ (List.mem_append_left _ (List.mem_append_left _ (List.mem_append_left _ (List.mem_append_left _ (List.mem_append_right _ (List.mem_append_left _ h))))))))))))
theorem mr_3 : ∀ w ∈ wsL_law_r3, w ∈ wsL_law := fun _ h => (List.mem_append_left _ (List.mem_append_left _ (List.mem_append_left _ (List.mem_append_left _ (List.mem_append_left _ (List.mem_append_left _ (List.mem_append_left _ (List.mem_append_left _ (List.mem_append_left _ (List.mem_append_left _ (List.mem_append_right _ (List.mem_append_right _ (List.mem_append_left _ h)))))))))))))
theorem mr_4 : ∀ w ∈ wsL_law_r4, w ∈ wsL_law := fun _ h => (List.mem_append_left _ (List.mem_append_left _ (List.mem_append_left _ (List.mem_append_left _ (List.mem_append_left _ (List.mem_append_left _ (List.mem_append_left _ (List.mem_append_left _ (List.mem_append_left _ (List.mem_append_left _ (List.mem_append_right _ (List.mem_append_right _ (List.mem_append_right _ (List.mem_append_left _ h))))))))))))))
theorem mr_5 : ∀ w ∈ wsL_law_r5, w ∈ wsL_law := fun _ h => (List.mem_append_left _ (List.mem_append_left _ (List.mem_append_left _ (List.mem_append_left _ (List.mem_append_left _ (List.mem_append_left _ (List.mem_append_left _ (List.mem_append_left _ (List.mem_append_left _ (List.mem_append_left _ (List.mem_append_right _ (List.mem_append_right _ (List.mem_append_right _ (List.mem_append_right _ (List.mem_append_left _ h)))))))))))))))
theorem mr_6 : ∀ w ∈ wsL_law_r6, w ∈ wsL_law := fun _ h => (List.mem_append_left _ (List.mem_append_left _ (List.mem_append_left _ (List.mem_append_left _ (List.mem_append_left _ (List.mem_append_left _ (List.mem_append_left _ (List.mem_append_left _ (List.mem_append_left _ (List.mem_append_left _ (List.mem_append_right _ (List.mem_append_right _ (List.mem_append_right _ (List.mem_append_right _ (List.mem_append_right _ (List.mem_append_left _ h))))))))))))))))
theorem mr_7 : ∀ w ∈ wsL_law_r7, w ∈ wsL_law := fun _ h => (List.mem_append_left _ (List.mem_append_left _ (List.mem_append_left _ (List.mem_append_left _ (List.mem_append_left _ (List.mem_append_left _ (List.mem_append_left _ (List.mem_append_left _ (List.mem_append_left _ (List.mem_append_left _ (List.mem_append_right _ (List.mem_append_right _ (List.mem_append_right _ (List.mem_append_right _ (List.mem_append_right _ (List.mem_append_right _ (List.mem_append_left _ h)))))))))))))))))
theorem mr_8 : ∀ w ∈ wsL_law_r8, w ∈ wsL_law := fun _ h => (List.mem_append_left _ (List.mem_append_left _ (List.mem_append_left _ (List.mem_append_left _ (List.mem_append_left _ (List.mem_append_left _ (List.mem_append_left _ (List.mem_append_left _ (List.mem_append_left _ (List.mem_append_left _ (List.mem_append_right _ (List.mem_append_right _ (List.mem_append_right _ (List.mem_append_right _ (List.mem_append_right _ (List.mem_append_right _ (List.mem_append_right _ (List.mem_append_left _ h))))))))))))))))))
theorem mr_9 : ∀ w ∈ wsL_law_r9, w ∈ wsL_law := fun _ h => (List.mem_append_left _ (List.mem_append_left _ (List.mem_append_left _ (List.mem_append_left _ (List.mem_append_left _ (List.mem_append_left _ (List.mem_append_left _ (List.mem_append_left _ (List.mem_append_left _ (List.mem_append_left _ (List.mem_append_right _ (List.mem_append_right _ (List.mem_append_right _ (List.mem_append_right _ (List.mem_append_right _ (List.mem_append_right _ (List.mem_append_right _ (List.mem_append_right _ (List.mem_append_left _ h)))))))))))))))))))
theorem mr_10 : ∀ w ∈ wsL_law_r10, w ∈ wsL_law := fun _ h => (List.mem_append_left _ (List.mem_append_left _ (List.mem_append_left _ (List.mem_append_left _ (List.mem_append_left _ (List.mem_append_left _ (List.mem_append_left _ (List.mem_append_left _ (List.mem_append_left _ (List.mem_append_left _ (List.mem_append_right _ (List.mem_append_right _ (List.mem_append_right _ (List.mem_append_right _ (List.mem_append_right _ (List.mem_append_right _ (List.mem_append_right _ (List.mem_append_right _ (List.mem_append_right _ (List.mem_append_left _ h))))))))))))))))))))
theorem mr_11 : ∀ w ∈ wsL_law_r11, w ∈ wsL_law := fun _ h => (List.mem_append_left _ (List.mem_append_left _ (List.mem_append_left _ (List.mem_append_left _ (List.mem_append_left _ (List.mem_append_left _ (List.mem_append_left _ (List.mem_append_left _ (List.mem_append_left _ (List.mem_append_left _ (List.mem_append_right _ (List.mem_append_right _ (List.mem_append_right _ (List.mem_append_right _ (List.mem_append_right _ (List.mem_append_right _ (List.mem_append_right _ (List.mem_append_right _ (List.mem_append_right _ (List.mem_append_right _ (List.mem_append_left _ h)))))))))))))))))))))
theorem mr_12 : ∀ w ∈ wsL_law_r12, w ∈ wsL_law := fun _ h => (List.mem_append_left _ (List.mem_append_left _ (List.mem_append_left _ (List.mem_append_left _ (List.mem_append_left _ (List.mem_append_left _ (List.mem_append_left _ (List.mem_append_left _ (List.mem_append_left _ (List.mem_append_left _ (List.mem_append_right _ (List.mem_append_right _ (List.mem_append_right _ (List.mem_append_right _ (List.mem_append_right _ (List.mem_append_right _ (List.mem_append_right _ (List.mem_append_right _ (List.mem_append_right _ (List.mem_append_right _ (List.mem_append_right _ (List.mem_append_left _ h))))))))))))))))))))))
theorem mr_13 : ∀ w ∈ wsL_law_r13, w ∈ wsL_law := fun _ h => (List.mem_append_left _ (List.mem_append_left _ (List.mem_append_left _ (List.mem_append_left _ (List.mem_append_left _ (List.mem_append_left _ (List.mem_append_left _ (List.mem_append_left _ (List.mem_append_left _ (List.mem_append_left _ (List.mem_append_right _ (List.mem_append_right _ (List.mem_append_right _ (List.mem_append_right _ (List.mem_append_right _ (List.mem_append_right _ (List.mem_append_right _ (List.mem_append_right _ (List.mem_append_right _ (List.mem_append_right _ (List.mem_append_right _ (List.mem_append_right _ (List.mem_append_left _ h)))))))))))))))))))))))
theorem mr_14 : ∀ w ∈ wsL_law_r14, w ∈ wsL_law := fun _ h => (List.mem_append_left _ (List.mem_append_left _ (List.mem_append_left _ (List.mem_append_left _ (List.mem_append_left _ (List.mem_append_left _ (List.mem_append_left _ (List.mem_append_left _ (List.mem_append_left _ (List.mem_append_left _ (List.mem_append_right _ (List.mem_append_right _ (List.mem_append_right _ (List.mem_append_right _ (List.mem_append_right _ (List.mem_append_right _ (List.mem_append_right _ (List.mem_append_right _ (List.mem_append_right _ (List.mem_append_right _ (List.mem_append_right _ (List.mem_append_right _ (List.mem_append_right _ (List.mem_append_left _ h))))))))))))))))))))))))
theorem mr_15 : ∀ w ∈ wsL_law_r15, w ∈ wsL_law := fun _ h => (List.mem_append_left _ (List.mem_append_left _ (List.mem_append_left _ (List.mem_append_left _ (List.mem_append_left _ (List.mem_append_left _ (List.mem_append_left _ (List.mem_append_left _ (List.mem_append_left _ (List.mem_append_left _ (List.mem_append_right _ (List.mem_append_right _ (List.mem_append_right _ (List.mem_append_right _ (List.mem_append_right _ (List.mem_append_right _ (List.mem_append_right _ (List.mem_append_right _ (List.mem_append_right _ (List.mem_append_right _ (List.mem_append_right _ (List.mem_append_right _ (List.mem_append_right _ (List.mem_append_right _ (List.mem_append_left _ h)))))))))))))))))))))))))
theorem mr_16 : ∀ w ∈ wsL_law_r16, w ∈ wsL_law := fun _ h => (List.mem_append_left _ (List.mem_append_left _ (List.mem_append_left _ (List.mem_append_left _ (List.mem_append_left _ (List.mem_append_left _ (List.mem_append_left _ (List.mem_append_left _ (List.mem_append_left _ (List.mem_append_left _ (List.mem_append_right _ (List.mem_append_right _ (List.mem_append_right _ (List.mem_append_right _ (List.mem_append_right _ (List.mem_append_right _ (List.mem_append_right _ (List.mem_append_right _ (List.mem_append_right _ (List.mem_append_right _ (List.mem_append_right _ (List.mem_append_right _ (List.mem_append_right _ (List.mem_append_right _ (List.mem_append_right _ (List.mem_append_left _ h))))))))))))))))))))))))))
theorem mr_17 : ∀ w ∈ wsL_law_r17, w ∈ wsL_law := fun _ h => (List.mem_append_left _ (List.mem_append_left _ (List.mem_append_left _ (List.mem_append_left _ (List.mem_append_left _ (List.mem_append_left _ (List.mem_append_left _ (List.mem_append_left _ (List.mem_append_left _ (List.mem_append_left _ (List.mem_append_right _ (List.mem_append_right _ (List.mem_append_right _ (List.mem_append_right _ (List.mem_append_right _ (List.mem_append_right _ (List.mem_append_right _ (List.mem_append_right _ (List.mem_append_right _ (List.mem_append_right _ (List.mem_append_right _ (List.mem_append_right _ (List.mem_append_right _ (List.mem_append_right _ (List.mem_append_right _ (List.mem_append_right _ (List.mem_append_left _ h)))))))))))))))))))))))))))
theorem mr_18 : ∀ w ∈ wsL_law_r18, w ∈ wsL_law := fun _ h => (List.mem_append_left _ (List.mem_append_left _ (List.mem_append_left _ (List.mem_append_left _ (List.mem_append_left _ (List.mem_append_left _ (List.mem_append_left _ (List.mem_append_left _ (List.mem_append_left _ (List.mem_append_left _ (List.mem_append_right _ (List.mem_append_right _ (List.mem_append_right _ (List.mem_append_right _ (List.mem_append_right _ (List.mem_append_right _ (List.mem_append_right _ (List.mem_append_right _ (List.mem_append_right _ (List.mem_append_right _ (List.mem_append_right _ (List.mem_append_right _ (List.mem_append_right _ (List.mem_append_right _ (List.mem_append_right _ (List.mem_append_right _ (List.mem_append_right _ (List.mem_append_left _ h))))))))))))))))))))))))))))
theorem mr_19 : ∀ w ∈ wsL_law_r19, w ∈ wsL_law := fun _ h => (List.mem_append_left _ (List.mem_append_left _ (List.mem_append_left _ (List.mem_append_left _ (List.mem_append_left _ (List.mem_append_left _ (List.mem_append_left _ (List.mem_append_left _ (List.mem_append_left _ (List.mem_append_left _ (List.mem_append_right _ (List.mem_append_right _ (List.mem_append_right _ (List.mem_append_right _ (List.mem_append_right _ (List.mem_append_right _ (List.mem_append_right _ (List.mem_append_right _ (List.mem_append_right _ (List.mem_append_right _ (List.mem_append_right _ (List.mem_append_right _ (List.mem_append_right _ (List.mem_append_right _ (List.mem_append_right _ (List.mem_append_right _ (List.mem_append_right _ (List.mem_append_right _ (List.mem_append_left _ h)))))))))))))))))))))))))))))
theorem mr_20 : ∀ w ∈ wsL_law_r20, w ∈ wsL_law := fun _ h => (List.mem_append_left _ (List.mem_append_left _ (List.mem_append_left _ (List.mem_append_left _ (List.mem_append_left _ (List.mem_append_left _ (List.mem_append_left _ (List.mem_append_left _ (List.mem_append_left _ (List.mem_append_left _ (List.mem_append_right _ (List.mem_append_right _ (List.mem_append_right _ (List.mem_append_right _ (List.mem_append_right _ (List.mem_append_right _ (List.mem_append_right _ (List.mem_append_right _ (List.mem_append_right _ (List.mem_append_right _ (List.mem_append_right _ (List.mem_append_right _ (List.mem_append_right _ (List.mem_append_right _ (List.mem_append_right _ (List.mem_append_right _ (List.mem_append_right _ (List.mem_append_right _ (List.mem_append_right _ (List.mem_append_left _ h))))))))))))))))))))))))))))))
theorem mr_21 : ∀ w ∈ wsL_law_r21, w ∈ wsL_law := fun _ h => (List.mem_append_left _ (List.mem_append_left _ (List.mem_append_left _ (List.mem_append_left _ (List.mem_append_left _ (List.mem_append_left _ (List.mem_append_left _ (List.mem_append_left _ (List.mem_append_left _ (List.mem_append_left _ (List.mem_append_right _ (List.mem_append_right _ (List.mem_append_right _ (List.mem_append_right _ (List.mem_append_right _ (List.mem_append_right _ (List.mem_append_right _ (List.mem_append_right _ (List.mem_append_right _ (List.mem_append_right _ (List.mem_append_right _ (List.mem_append_right _ (List.mem_append_right _ (List.mem_append_right _ (List.mem_append_right _ (List.mem_append_right _ (List.mem_append_right _ (List.mem_append_right _ (List.mem_append_right _ (List.mem_append_right _ (List.mem_append_left _ h)))))))))))))))))))))))))))))))
theorem mr_22 : ∀ w ∈ wsL_law_r22, w ∈ wsL_law := fun _ h => (List.mem_append_left _ (List.mem_append_left _ (List.mem_append_left _ (List.mem_append_left _ (List.mem_append_left _ (List.mem_append_left _ (List.mem_append_left _ (List.mem_append_left _ (List.mem_append_left _ (List.mem_append_left _ (List.mem_append_right _ (List.mem_append_right _ (List.mem_append_right _ (List.mem_append_right _ (List.mem_append_right _ (List.mem_append_right _ (List.mem_append_right _ (List.mem_append_right _ (List.mem_append_right _ (List.mem_append_right _ (List.mem_append_right _ (List.mem_append_right _ (List.mem_append_right _ (List.mem_append_right _ (List.mem_append_right _ (List.mem_append_right _ (List.mem_append_right _ (List.mem_append_right _ (List.mem_append_right _ (List.mem_append_right _ (List.mem_append_right _ (List.mem_append_left _ h))))))))))))))))))))))))))))))))
theorem mr_23 : ∀ w ∈ wsL_law_r23, w ∈ wsL_law := fun _ h => (List.mem_append_left _ (List.mem_append_left _ (List.mem_append_left _ (List.mem_append_left _ (List.mem_append_left _ (List.mem_append_left _ (List.mem_append_left _ (List.mem_append_left _ (List.mem_append_left _ (List.mem_append_left _ (List.mem_append_right _ (List.mem_append_right _ (List.mem_append_right _ (List.mem_append_right _ (List.mem_append_right _ (List.mem_append_right _ (List.mem_append_right _ (List.mem_append_right _ (List.mem_append_right _ (List.mem_append_right _ (List.mem_append_right _ (List.mem_append_right _ (List.mem_append_right _ (List.mem_append_right _ (List.mem_append_right _ (List.mem_append_right _ (List.mem_append_right _ (List.mem_append_right _ (List.mem_append_right _ (List.mem_append_right _ (List.mem_append_right _ (List.mem_append_right _ (List.mem_append_left _ h)))))))))))))))))))))))))))))))))
theorem mr_24 : ∀ w ∈ wsL_law_r24, w ∈ wsL_law := fun _ h => (List.mem_append_left _ (List.mem_append_left _ (List.mem_append_left _ (List.mem_append_left _ (List.mem_append_left _ (List.mem_append_left _ (List.mem_append_left _ (List.mem_append_left _ (List.mem_append_left _ (List.mem_append_left _ (List.mem_append_right _ (List.mem_append_right _ (List.mem_append_right _ (List.mem_append_right _ (List.mem_append_right _ (List.mem_append_right _ (List.mem_append_right _ (List.mem_append_right _ (List.mem_append_right _ (List.mem_append_right _ (List.mem_append_right _ (List.mem_append_right _ (List.mem_append_right _ (List.mem_append_right _ (List.mem_append_right _ (List.mem_append_right _ (List.mem_append_right _ (List.mem_append_right _ (List.mem_append_right _ (List.mem_append_right _ (List.mem_append_right _ (List.mem_append_right _ (List.mem_append_right _ (List.mem_append_left _ h))))))))))))))))))))))))))))))))))
theorem mr_25 : ∀ w ∈ wsL_law_r25, w ∈ wsL_law := fun _ h => (List.mem_append_left _ (List.mem_append_left _ (List.mem_append_left _ (List.mem_append_left _ (List.mem_append_left _ (List.mem_append_left _ (List.mem_append_left _ (List.mem_append_left _ (List.mem_append_left _ (List.mem_append_left _ (List.mem_append_right _ (List.mem_append_right _ (List.mem_append_right _ (List.mem_append_right _ (List.mem_append_right _ (List.mem_append_right _ (List.mem_append_right _ (List.mem_append_right _ (List.mem_append_right _ (List.mem_append_right _ (List.mem_append_right _ (List.mem_append_right _ (List.mem_append_right _ (List.mem_append_right _ (List.mem_append_right _ (List.mem_append_right _ (List.mem_append_right _ (List.mem_append_right _ (List.mem_append_right _ (List.mem_append_right _ (List.mem_append_right _ (List.mem_append_right _ (List.mem_append_right _ (List.mem_append_right _ (List.mem_append_left _ h)))))))))))))))))))))))))))))))))))
theorem mr_26 : ∀ w ∈ wsL_law_r26, w ∈ wsL_law := fun _ h => (List.mem_append_left _ (List.mem_append_left _ (List.mem_append_left _ (List.mem_append_left _ (List.mem_append_left _ (List.mem_append_left _ (List.mem_append_left _ (List.mem_append_left _ (List.mem_append_left _ (List.mem_append_left _ (List.mem_append_right _ (List.mem_append_right _ (List.mem_append_right _ (List.mem_append_right _ (List.mem_append_right _ (List.mem_append_right _ (List.mem_append_right _ (List.mem_append_right _ (List.mem_append_right _ (List.mem_append_right _ (List.mem_append_right _ (List.mem_append_right _ (List.mem_append_right _ (List.mem_append_right _ (List.mem_append_right _ (List.mem_append_right _ (List.mem_append_right _ (List.mem_append_right _ (List.mem_append_right _ (List.mem_append_right _ (List.mem_append_right _ (List.mem_append_right _ (List.mem_append_right _ (List.mem_append_right _ (List.mem_append_right _ (List.mem_append_left _ h))))))))))))))))))))))))))))))))))))
theorem mr_27 : ∀ w ∈ wsL_law_r27, w ∈ wsL_law := fun _ h => (List.mem_append_left _ (List.mem_append_left _ (List.mem_append_left _ (List.mem_append_left _ (List.mem_append_left _ (List.mem_append_left _ (List.mem_append_left _ (List.mem_append_left _ (List.mem_append_left _ (List.mem_append_left _ (List.mem_append_right _ (List.mem_append_right _ (List.mem_append_right _ (List.mem_append_right _ (List.mem_append_right _ (List.mem_append_right _ (List.mem_append_right _ (List.mem_append_right _ (List.mem_append_right _ (List.mem_append_right _ (List.mem_append_right _ (List.mem_append_right _ (List.mem_append_right _ (List.mem_append_right _ (List.mem_append_right _ (List.mem_append_right _ (List.mem_append_right _ (List.mem_append_right _ (List.mem_append_right _ (List.mem_append_right _ (List.mem_append_right _ (List.mem_append_right _ (List.mem_append_right _ (List.mem_append_right _ (List.mem_append_right _ (List.mem_append_right _ (List.mem_append_left _ h)))))))))))))))))))))))))))))))))))))
theorem mr_28 : ∀ w ∈ wsL_law_r28, w ∈ wsL_law := fun _ h => (List.mem_append_left _ (List.mem_append_left _ (List.mem_append_left _ (List.mem_append_left _ (List.mem_append_left _ (List.mem_append_left _ (List.mem_append_left _ (List.mem_append_left _ (List.mem_append_left _ (List.mem_append_left _ (List.mem_append_right _ (List.mem_append_right _ (List.mem_append_right _ (List.mem_append_right _ (List.mem_append_right _ (List.mem_append_right _ (List.mem_append_right _ (List.mem_append_right _ (List.mem_append_right _ (List.mem_append_right _ (List.mem_append_right _ (List.mem_append_right _ (List.mem_append_right _ (List.mem_append_right _ (List.mem_append_right _ (List.mem_append_right _ (List.mem_append_right _ (List.mem_append_right _ (List.mem_append_right _ (List.mem_append_right _ (List.mem_append_right _ (List.mem_append_right _ (List.mem_append_right _ (List.mem_append_right _ (List.mem_append_right _ (List.mem_append_right _ (List.mem_append_right _ (List.mem_append_left _ h))))))))))))))))))))))))))))))))))))))
theorem mr_29 : ∀ w ∈ wsL_law_r29, w ∈ wsL_law := fun _ h => (List.mem_append_left _ (List.mem_append_left _ (List.mem_append_left _ (List.mem_append_left _ (List.mem_append_left _ (List.mem_append_left _ (List.mem_append_left _ (List.mem_append_left _ (List.mem_append_left _ (List.mem_append_left _ (List.mem_append_right _ (List.mem_append_right _ (List.mem_append_right _ (List.mem_append_right _ (List.mem_append_right _ (List.mem_append_right _ (List.mem_append_right _ (List.mem_append_right _ (List.mem_append_right _ (List.mem_append_right _ (List.mem_append_right _ (List.mem_append_right _ (List.mem_append_right _ (List.mem_append_right _ (List.mem_append_right _ (List.mem_append_right _ (List.mem_append_right _ (List.mem_append_right _ (List.mem_append_right _ (List.mem_append_right _ (List.mem_append_right _ (List.mem_append_right _ (List.mem_append_right _ (List.mem_append_right _ (List.mem_append_right _ (List.mem_append_right _ (List.mem_append_right _ (List.mem_append_right _ (List.mem_append_left _ h)))))))))))))))))))))))))))))))))))))))
theorem mr_30 : ∀ w ∈ wsL_law_r30, w ∈ wsL_law := fun _ h => (List.mem_append_left _ (List.mem_append_left _ (List.mem_append_left _ (List.mem_append_left _ (List.mem_append_left _ (List.mem_append_left _ (List.mem_append_left _ (List.mem_append_left _ (List.mem_append_left _ (List.mem_append_left _ (List.mem_append_right _ (List.mem_append_right _ (List.mem_append_right _ (List.mem_append_right _ (List.mem_append_right _ (List.mem_append_right _ (List.mem_append_right _ (List.mem_append_right _ (List.mem_append_right _ (List.mem_append_right _ (List.mem_append_right _ (List.mem_append_right _ (List.mem_append_right _ (List.mem_append_right _ (List.mem_append_right _ (List.mem_append_right _ (List.mem_append_right _ (List.mem_append_right _ (List.mem_append_right _ (List.mem_append_right _ (List.mem_append_right _ (List.mem_append_right _ (List.mem_append_right _ (List.mem_append_right _ (List.mem_append_right _ (List.mem_append_right _ (List.mem_append_right _ (List.mem_append_right _ (List.mem_append_right _ (List.mem_append_left _ h))))))))))))))))))))))))))))))))))))))))
theorem mr_31 : ∀ w ∈ wsL_law_r31, w ∈ wsL_law := fun _ h => (List.mem_append_left _ (List.mem_append_left _ (List.mem_append_left _ (List.mem_append_left _ (List.mem_append_left _ (List.mem_append_left _ (List.mem_append_left _ (List.mem_append_left _ (List.mem_append_left _ (List.mem_append_left _ (List.mem_append_right _ (List.mem_append_right _ (List.mem_append_right _ (List.mem_append_right _ (List.mem_append_right _ (List.mem_append_right _ (List.mem_append_right _ (List.mem_append_right _ (List.mem_append_right _ (List.mem_append_right _ (List.mem_append_right _ (List.mem_append_right _ (List.mem_append_right _ (List.mem_append_right _ (List.mem_append_right _ (List.mem_append_right _ (List.mem_append_right _ (List.mem_append_right _ (List.mem_append_right _ (List.mem_append_right _ (List.mem_append_right _ (List.mem_append_right _ (List.mem_append_right _ (List.mem_append_right _ (List.mem_append_right _ (List.mem_append_right _ (List.mem_append_right _ (List.mem_append_right _ (List.mem_append_right _ (List.mem_append_right _ (List.mem_append_left _ h)))))))))))))))))))))))))))))))))))))))))
theorem mr_32 : ∀ w ∈ wsL_law_r32, w ∈ wsL_law := fun _ h => (List.mem_append_left _ (List.mem_append_left _ (List.mem_append_left _ (List.mem_append_left _ (List.mem_append_left _ (List.mem_append_left _ (List.mem_append_left _ (List.mem_append_left _ (List.mem_append_left _ (List.mem_append_left _ (List.mem_append_right _ (List.mem_append_right _ (List.mem_append_right _ (List.mem_append_right _ (List.mem_append_right _ (List.mem_append_right _ (List.mem_append_right _ (List.mem_append_right _ (List.mem_append_right _ (List.mem_append_right _ (List.mem_append_right _ (List.mem_append_right _ (List.mem_append_right _ (List.mem_append_right _ (List.mem_append_right _ (List.mem_append_right _ (List.mem_append_right _ (List.mem_append_right _ (List.mem_append_right _ (List.mem_append_right _ (List.mem_append_right _ (List.mem_append_right _ (List.mem_append_right _ (List.mem_append_right _ (List.mem_append_right _ (List.mem_append_right _ (List.mem_append_right _ (List.mem_append_right _ (List.mem_append_right _ (List.mem_append_right _ (List.mem_append_right _ (List.mem_append_left _ h))))))))))))))))))))))))))))))))))))))))))
theorem mr_33 : ∀ w ∈ wsL_law_r33, w ∈ wsL_law := fun _ h => (List.mem_append_left _ (List.mem_append_left _ (List.mem_append_left _ (List.mem_append_left _ (List.mem_append_left _ (List.mem_append_left _ (List.mem_append_left _ (List.mem_append_left _ (List.mem_append_left _ (List.mem_append_left _ (List.mem_append_right _ (List.mem_append_right _ (List.mem_append_right _ (List.mem_append_right _ (List.mem_append_right _ (List.mem_append_right _ (List.mem_append_right _ (List.mem_append_right _ (List.mem_append_right _ (List.mem_append_right _ (List.mem_append_right _ (List.mem_append_right _ (List.mem_append_right _ (List.mem_append_right _ (List.mem_append_right _ (List.mem_append_right _ (List.mem_append_right _ (List.mem_append_right _ (List.mem_append_right _ (List.mem_append_right _ (List.mem_append_right _ (List.mem_append_right _ (List.mem_append_right _ (List.mem_append_right _ (List.mem_append_right _ (List.mem_append_right _ (List.mem_append_right _ (List.mem_append_right _ (List.mem_append_right _ (List.mem_append_right _ (List.mem_append_right _ (List.mem_append_right _ (List.mem_append_left _ h)))))))))))))))))))))))))))))))))))))))))))
theorem mr_34 : ∀ w ∈ wsL_law_r34, w ∈ wsL_law := fun _ h => (List.mem_append_left _ (List.mem_append_left _ (List.mem_append_left _ (List.mem_append_left _ (List.mem_append_left _ (List.mem_append_left _ (List.mem_append_left _ (List.mem_append_left _ (List.mem_append_left _ (List.mem_append_left _ (List.mem_append_right _ (List.mem_append_right _ (List.mem_append_right _ (List.mem_append_right _ (List.mem_append_right _ (List.mem_append_right _ (List.mem_append_right _ (List.mem_append_right _ (List.mem_append_right _ (List.mem_append_right _ (List.mem_append_right _ (List.mem_append_right _ (List.mem_append_right _ (List.mem_append_right _ (List.mem_append_right _ (List.mem_append_right _ (List.mem_append_right _ (List.mem_append_right _ (List.mem_append_right _ (List.mem_append_right _ (List.mem_append_right _ (List.mem_append_right _ (List.mem_append_right _ (List.mem_append_right _ (List.mem_append_right _ (List.mem_append_right _ (List.mem_append_right _ (List.mem_append_right _ (List.mem_append_right _ (List.mem_append_right _ (List.mem_append_right _ (List.mem_append_right _ (List.mem_append_right _ (List.mem_append_left _ h))))))))))))))))))))))))))))))))))))))))))))
theorem mr_35 : ∀ w ∈ wsL_law_r35, w ∈ wsL_law := fun _ h => (List.mem_append_left _ (List.mem_append_left _ (List.mem_append_left _ (List.mem_append_left _ (List.mem_append_left _ (List.mem_append_left _ (List.mem_append_left _ (List.mem_append_left _ (List.mem_append_left _ (List.mem_append_left _ (List.mem_append_right _ (List.mem_append_right _ (List.mem_append_right _ (List.mem_append_right _ (List.mem_append_right _ (List.mem_append_right _ (List.mem_append_right _ (List.mem_append_right _ (List.mem_append_right _ (List.mem_append_right _ (List.mem_append_right _ (List.mem_append_right _ (List.mem_append_right _ (List.mem_append_right _ (List.mem_append_right _ (List.mem_append_right _ (List.mem_append_right _ (List.mem_append_right _ (List.mem_append_right _ (List.mem_append_right _ (List.mem_append_right _ (List.mem_append_right _ (List.mem_append_right _ (List.mem_append_right _ (List.mem_append_right _ (List.mem_append_right _ (List.mem_append_right _ (List.mem_append_right _ (List.mem_append_right _ (List.mem_append_right _ (List.mem_append_right _ (List.mem_append_right _ (List.mem_append_right _ (List.mem_append_right _ (List.mem_append_left _ h)))))))))))))))))))))))))))))))))))))))))))))
theorem mr_36 : ∀ w ∈ wsL_law_r36, w ∈ wsL_law := fun _ h => (List.mem_append_left _ (List.mem_append_left _ (List.mem_append_left _ (List.mem_append_left _ (List.mem_append_left _ (List.mem_append_left _ (List.mem_append_left _ (List.mem_append_left _ (List.mem_append_left _ (List.mem_append_left _ (List.mem_append_right _ (List.mem_append_right _ (List.mem_append_right _ (List.mem_append_right _ (List.mem_append_right _ (List.mem_append_right _ (List.mem_append_right _ (List.mem_append_right _ (List.mem_append_right _ (List.mem_append_right _ (List.mem_append_right _ (List.mem_append_right _ (List.mem_append_right _ (List.mem_append_right _ (List.mem_append_right _ (List.mem_append_right _ (List.mem_append_right _ (List.mem_append_right _ (List.mem_append_right _ (List.mem_append_right _ (List.mem_append_right _ (List.mem_append_right _ (List.mem_append_right _ (List.mem_append_right _ (List.mem_append_right _ (List.mem_append_right _ (List.mem_append_right _ (List.mem_append_right _ (List.mem_append_right _ (List.mem_append_right _ (List.mem_append_right _ (List.mem_append_right _ (List.mem_append_right _ (List.mem_append_right _ (List.mem_append_right _ h)))))))))))))))))))))))))))))))))))))))))))))
theorem wd_1_2 : Cond.initialized RX8 ∈ wsL_law := mr_1 _ (List.mem_of_getElem? (i := 2) rfl)
theorem wd_1_5 : Cond.initialized RX9 ∈ wsL_law := mr_1 _ (List.mem_of_getElem? (i := 5) rfl)
theorem wd_1_14 : Cond.initialized RX1 ∈ wsL_law := mr_1 _ (List.mem_of_getElem? (i := 14) rfl)
theorem wd_1_15 : Cond.fieldLink RX8 12 "ZigzagLines" "text" "LZigzagLines$Letters;" ∈ wsL_law := mr_1 _ (List.mem_of_getElem? (i := 15) rfl)
theorem wd_1_18 : Cond.initialized RX4 ∈ wsL_law := mr_1 _ (List.mem_of_getElem? (i := 18) rfl)
theorem wd_1_19 : Cond.fieldLink RX8 19 "ZigzagLines" "picks" "LZigzagLines$Picks;" ∈ wsL_law := mr_1 _ (List.mem_of_getElem? (i := 19) rfl)
theorem wd_1_22 : Cond.initialized RX2 ∈ wsL_law := mr_1 _ (List.mem_of_getElem? (i := 22) rfl)
theorem wd_1_23 : Cond.fieldLink RX8 26 "ZigzagLines" "lines" "LZigzagLines$Lines;" ∈ wsL_law := mr_1 _ (List.mem_of_getElem? (i := 23) rfl)
theorem wd_2_2 : Cond.initialized RX6 ∈ wsL_law := mr_2 _ (List.mem_of_getElem? (i := 2) rfl)
theorem wd_2_3 : Cond.fieldLink RX8 33 "ZigzagLines" "ways" "LZigzagLines$Ways;" ∈ wsL_law := mr_2 _ (List.mem_of_getElem? (i := 3) rfl)
theorem wd_2_6 : Cond.initialized RX7 ∈ wsL_law := mr_2 _ (List.mem_of_getElem? (i := 6) rfl)
theorem wd_2_7 : Cond.fieldLink RX8 40 "ZigzagLines" "world" "LZigzagLines$World;" ∈ wsL_law := mr_2 _ (List.mem_of_getElem? (i := 7) rfl)
theorem wd_2_8 : Cond.fieldLink RX8 44 "ZigzagLines" "spare" "LZigzagLines$World;" ∈ wsL_law := mr_2 _ (List.mem_of_getElem? (i := 8) rfl)
theorem wd_2_14 : Cond.fieldLink RX1 9 "ZigzagLines$Letters" "letters" "[C" ∈ wsL_law := mr_2 _ (List.mem_of_getElem? (i := 14) rfl)
theorem wd_2_20 : Cond.fieldLink RX4 9 "ZigzagLines$Picks" "picked" "[I" ∈ wsL_law := mr_2 _ (List.mem_of_getElem? (i := 20) rfl)
theorem wd_3_1 : Cond.fieldLink RX2 9 "ZigzagLines$Lines" "states" "[I" ∈ wsL_law := mr_3 _ (List.mem_of_getElem? (i := 1) rfl)
theorem wd_3_2 : Cond.fieldLink RX2 15 "ZigzagLines$Lines" "ahead" "[I" ∈ wsL_law := mr_3 _ (List.mem_of_getElem? (i := 2) rfl)
theorem wd_3_3 : Cond.fieldLink RX2 18 "ZigzagLines$Lines" "needed" "[I" ∈ wsL_law := mr_3 _ (List.mem_of_getElem? (i := 3) rfl)
theorem wd_3_8 : Cond.fieldLink RX6 9 "ZigzagLines$Ways" "from" "[I" ∈ wsL_law := mr_3 _ (List.mem_of_getElem? (i := 8) rfl)
theorem wd_3_9 : Cond.fieldLink RX6 15 "ZigzagLines$Ways" "next" "[I" ∈ wsL_law := mr_3 _ (List.mem_of_getElem? (i := 9) rfl)
theorem wd_3_15 : Cond.fieldLink RX7 11 "ZigzagLines$World" "actors" "[LZigzagLines$Actor;" ∈ wsL_law := mr_3 _ (List.mem_of_getElem? (i := 15) rfl)
theorem wd_3_17 : Cond.fieldLink RX7 19 "ZigzagLines$World" "mail" "[LZigzagLines$Message;" ∈ wsL_law := mr_3 _ (List.mem_of_getElem? (i := 17) rfl)
theorem wd_3_18 : Cond.fieldLink RX7 23 "ZigzagLines$World" "queue" "[I" ∈ wsL_law := mr_3 _ (List.mem_of_getElem? (i := 18) rfl)
theorem wd_3_20 : Cond.initialized RX0 ∈ wsL_law := mr_3 _ (List.mem_of_getElem? (i := 20) rfl)
theorem wd_3_22 : Cond.initialized RX3 ∈ wsL_law := mr_3 _ (List.mem_of_getElem? (i := 22) rfl)
theorem wd_4_3 : Cond.fieldLink RX0 9 "ZigzagLines$Actor" "known" "[I" ∈ wsL_law := mr_4 _ (List.mem_of_getElem? (i := 3) rfl)
theorem wd_4_4 : Cond.fieldLink RX0 15 "ZigzagLines$Actor" "keptMark" "[I" ∈ wsL_law := mr_4 _ (List.mem_of_getElem? (i := 4) rfl)
theorem wd_4_5 : Cond.fieldLink RX0 18 "ZigzagLines$Actor" "keptAt" "[I" ∈ wsL_law := mr_4 _ (List.mem_of_getElem? (i := 5) rfl)
theorem wd_4_7 : Cond.fieldLink RX0 21 "ZigzagLines$Actor" "forced" "[Z" ∈ wsL_law := mr_4 _ (List.mem_of_getElem? (i := 7) rfl)
theorem wd_4_8 : Cond.fieldLink RX0 25 "ZigzagLines$Actor" "freed" "[Z" ∈ wsL_law := mr_4 _ (List.mem_of_getElem? (i := 8) rfl)
theorem wd_4_9 : Cond.fieldLink RX0 28 "ZigzagLines$Actor" "keptKnown" "[I" ∈ wsL_law := mr_4 _ (List.mem_of_getElem? (i := 9) rfl)
theorem wd_6_16 : Cond.methodLink RX8 59 yX1_add ∈ wsL_law := mr_6 _ (List.mem_of_getElem? (i := 16) rfl)
theorem wd_6_17 : Cond.instanceMethod yX1_add ∈ wsL_law := mr_6 _ (List.mem_of_getElem? (i := 17) rfl)
theorem wd_6_18 : Cond.selects RX1 yX1_add yX1_add ∈ wsL_law := mr_6 _ (List.mem_of_getElem? (i := 18) rfl)
theorem wd_6_19 : Cond.code yX1_add cX1_add 2 (some .boolean) ∈ wsL_law := mr_6 _ (List.mem_of_getElem? (i := 19) rfl)
theorem wd_6_20 : Cond.fieldLink RX1 15 "ZigzagLines$Letters" "length" "I" ∈ wsL_law := mr_6 _ (List.mem_of_getElem? (i := 20) rfl)
theorem wd_6_21 : Cond.methodLink RX8 63 yX5_tell ∈ wsL_law := mr_6 _ (List.mem_of_getElem? (i := 21) rfl)
theorem wd_6_22 : Cond.static yX5_tell ∈ wsL_law := mr_6 _ (List.mem_of_getElem? (i := 22) rfl)
theorem wd_6_23 : Cond.initialized RX5 ∈ wsL_law := mr_6 _ (List.mem_of_getElem? (i := 23) rfl)
theorem wd_7_0 : Cond.code yX5_tell cX5_tell 5 (some .int) ∈ wsL_law := mr_7 _ (List.mem_of_getElem? (i := 0) rfl)
theorem wd_7_1 : Cond.fieldLink RX5 9 "ZigzagLines$Letters" "length" "I" ∈ wsL_law := mr_7 _ (List.mem_of_getElem? (i := 1) rfl)
theorem wd_7_2 : Cond.methodLink RX5 15 yX5_figuresBehind ∈ wsL_law := mr_7 _ (List.mem_of_getElem? (i := 2) rfl)
theorem wd_7_3 : Cond.static yX5_figuresBehind ∈ wsL_law := mr_7 _ (List.mem_of_getElem? (i := 3) rfl)
theorem wd_7_4 : Cond.code yX5_figuresBehind cX5_figuresBehind 2 (some .int) ∈ wsL_law := mr_7 _ (List.mem_of_getElem? (i := 4) rfl)
theorem wd_7_5 : Cond.methodLink RX5 25 yX1_figureAt ∈ wsL_law := mr_7 _ (List.mem_of_getElem? (i := 5) rfl)
theorem wd_7_6 : Cond.instanceMethod yX1_figureAt ∈ wsL_law := mr_7 _ (List.mem_of_getElem? (i := 6) rfl)
theorem wd_7_7 : Cond.selects RX1 yX1_figureAt yX1_figureAt ∈ wsL_law := mr_7 _ (List.mem_of_getElem? (i := 7) rfl)
theorem wd_7_8 : Cond.code yX1_figureAt cX1_figureAt 3 (some .int) ∈ wsL_law := mr_7 _ (List.mem_of_getElem? (i := 8) rfl)
theorem wd_7_9 : Cond.methodLink RX1 19 yX1_letterAt ∈ wsL_law := mr_7 _ (List.mem_of_getElem? (i := 9) rfl)
theorem wd_7_10 : Cond.instanceMethod yX1_letterAt ∈ wsL_law := mr_7 _ (List.mem_of_getElem? (i := 10) rfl)
theorem wd_7_11 : Cond.selects RX1 yX1_letterAt yX1_letterAt ∈ wsL_law := mr_7 _ (List.mem_of_getElem? (i := 11) rfl)
theorem wd_7_12 : Cond.code yX1_letterAt cX1_letterAt 2 (some .char) ∈ wsL_law := mr_7 _ (List.mem_of_getElem? (i := 12) rfl)
theorem wd_7_13 : Cond.methodLink RX5 29 yX1_letterAt ∈ wsL_law := mr_7 _ (List.mem_of_getElem? (i := 13) rfl)
theorem wd_7_14 : Cond.methodLink RX5 21 yX5_doItem ∈ wsL_law := mr_7 _ (List.mem_of_getElem? (i := 14) rfl)
theorem wd_7_15 : Cond.static yX5_doItem ∈ wsL_law := mr_7 _ (List.mem_of_getElem? (i := 15) rfl)
theorem wd_7_16 : Cond.code yX5_doItem cX5_doItem 7 (some .boolean) ∈ wsL_law := mr_7 _ (List.mem_of_getElem? (i := 16) rfl)
theorem wd_7_17 : Cond.methodLink RX5 33 yX5_doShortItem ∈ wsL_law := mr_7 _ (List.mem_of_getElem? (i := 17) rfl)
theorem wd_7_18 : Cond.static yX5_doShortItem ∈ wsL_law := mr_7 _ (List.mem_of_getElem? (i := 18) rfl)
theorem wd_7_19 : Cond.code yX5_doShortItem cX5_doShortItem 3 (some .boolean) ∈ wsL_law := mr_7 _ (List.mem_of_getElem? (i := 19) rfl)
theorem wd_7_20 : Cond.fieldLink RX5 53 "ZigzagLines$World" "forcing" "I" ∈ wsL_law := mr_7 _ (List.mem_of_getElem? (i := 20) rfl)
theorem wd_7_21 : Cond.methodLink RX5 46 yX7_begin ∈ wsL_law := mr_7 _ (List.mem_of_getElem? (i := 21) rfl)
theorem wd_7_22 : Cond.instanceMethod yX7_begin ∈ wsL_law := mr_7 _ (List.mem_of_getElem? (i := 22) rfl)
theorem wd_7_23 : Cond.selects RX7 yX7_begin yX7_begin ∈ wsL_law := mr_7 _ (List.mem_of_getElem? (i := 23) rfl)
theorem wd_8_0 : Cond.code yX7_begin cX7_begin 3 (some .boolean) ∈ wsL_law := mr_8 _ (List.mem_of_getElem? (i := 0) rfl)
theorem wd_8_1 : Cond.fieldLink RX7 29 "ZigzagLines$World" "processes" "I" ∈ wsL_law := mr_8 _ (List.mem_of_getElem? (i := 1) rfl)
theorem wd_8_2 : Cond.fieldLink RX7 33 "ZigzagLines$World" "forcing" "I" ∈ wsL_law := mr_8 _ (List.mem_of_getElem? (i := 2) rfl)
theorem wd_8_3 : Cond.fieldLink RX7 36 "ZigzagLines$World" "messages" "I" ∈ wsL_law := mr_8 _ (List.mem_of_getElem? (i := 3) rfl)
theorem wd_8_4 : Cond.fieldLink RX7 39 "ZigzagLines$World" "waiting" "I" ∈ wsL_law := mr_8 _ (List.mem_of_getElem? (i := 4) rfl)
theorem wd_8_5 : Cond.fieldLink RX7 42 "ZigzagLines$World" "moment" "I" ∈ wsL_law := mr_8 _ (List.mem_of_getElem? (i := 5) rfl)
theorem wd_8_6 : Cond.methodLink RX7 45 yX0_begin ∈ wsL_law := mr_8 _ (List.mem_of_getElem? (i := 6) rfl)
theorem wd_8_7 : Cond.instanceMethod yX0_begin ∈ wsL_law := mr_8 _ (List.mem_of_getElem? (i := 7) rfl)
theorem wd_8_8 : Cond.selects RX0 yX0_begin yX0_begin ∈ wsL_law := mr_8 _ (List.mem_of_getElem? (i := 8) rfl)
theorem wd_8_9 : Cond.code yX0_begin cX0_begin 4 none ∈ wsL_law := mr_8 _ (List.mem_of_getElem? (i := 9) rfl)
theorem wd_8_10 : Cond.fieldLink RX0 31 "ZigzagLines$Actor" "kept" "I" ∈ wsL_law := mr_8 _ (List.mem_of_getElem? (i := 10) rfl)
theorem wd_8_11 : Cond.methodLink RX0 35 yX0_keepState ∈ wsL_law := mr_8 _ (List.mem_of_getElem? (i := 11) rfl)
theorem wd_8_12 : Cond.instanceMethod yX0_keepState ∈ wsL_law := mr_8 _ (List.mem_of_getElem? (i := 12) rfl)
theorem wd_8_13 : Cond.selects RX0 yX0_keepState yX0_keepState ∈ wsL_law := mr_8 _ (List.mem_of_getElem? (i := 13) rfl)
theorem wd_8_14 : Cond.code yX0_keepState cX0_keepState 5 none ∈ wsL_law := mr_8 _ (List.mem_of_getElem? (i := 14) rfl)
theorem wd_8_15 : Cond.fieldLink RX0 39 "ZigzagLines$Actor" "mark" "I" ∈ wsL_law := mr_8 _ (List.mem_of_getElem? (i := 15) rfl)
theorem wd_8_16 : Cond.methodLink RX0 42 arraycopyName ∈ wsL_law := mr_8 _ (List.mem_of_getElem? (i := 16) rfl)
theorem wd_8_17 : Cond.native arraycopyName ∈ wsL_law := mr_8 _ (List.mem_of_getElem? (i := 17) rfl)
theorem wd_8_18 : Cond.static arraycopyName ∈ wsL_law := mr_8 _ (List.mem_of_getElem? (i := 18) rfl)
theorem wd_8_19 : Cond.initialized "java/lang/System" ∈ wsL_law := mr_8 _ (List.mem_of_getElem? (i := 19) rfl)
theorem wd_8_20 : Cond.methodLink RX5 50 yX7_keepState ∈ wsL_law := mr_8 _ (List.mem_of_getElem? (i := 20) rfl)
theorem wd_8_21 : Cond.instanceMethod yX7_keepState ∈ wsL_law := mr_8 _ (List.mem_of_getElem? (i := 21) rfl)
theorem wd_8_22 : Cond.selects RX7 yX7_keepState yX7_keepState ∈ wsL_law := mr_8 _ (List.mem_of_getElem? (i := 22) rfl)
theorem wd_8_23 : Cond.code yX7_keepState cX7_keepState 2 (some .int) ∈ wsL_law := mr_8 _ (List.mem_of_getElem? (i := 23) rfl)
theorem wd_9_0 : Cond.fieldLink RX7 64 "ZigzagLines$Actor" "mark" "I" ∈ wsL_law := mr_9 _ (List.mem_of_getElem? (i := 0) rfl)
theorem wd_9_1 : Cond.fieldLink RX7 53 "ZigzagLines$Actor" "kept" "I" ∈ wsL_law := mr_9 _ (List.mem_of_getElem? (i := 1) rfl)
theorem wd_9_2 : Cond.methodLink RX7 49 yX7_isProcess ∈ wsL_law := mr_9 _ (List.mem_of_getElem? (i := 2) rfl)
theorem wd_9_3 : Cond.instanceMethod yX7_isProcess ∈ wsL_law := mr_9 _ (List.mem_of_getElem? (i := 3) rfl)
theorem wd_9_4 : Cond.selects RX7 yX7_isProcess yX7_isProcess ∈ wsL_law := mr_9 _ (List.mem_of_getElem? (i := 4) rfl)
theorem wd_9_5 : Cond.code yX7_isProcess cX7_isProcess 2 (some .boolean) ∈ wsL_law := mr_9 _ (List.mem_of_getElem? (i := 5) rfl)
theorem wd_9_6 : Cond.methodLink RX7 60 yX0_isFull ∈ wsL_law := mr_9 _ (List.mem_of_getElem? (i := 6) rfl)
theorem wd_9_7 : Cond.instanceMethod yX0_isFull ∈ wsL_law := mr_9 _ (List.mem_of_getElem? (i := 7) rfl)
theorem wd_9_8 : Cond.selects RX0 yX0_isFull yX0_isFull ∈ wsL_law := mr_9 _ (List.mem_of_getElem? (i := 8) rfl)
theorem wd_9_9 : Cond.code yX0_isFull cX0_isFull 1 (some .boolean) ∈ wsL_law := mr_9 _ (List.mem_of_getElem? (i := 9) rfl)
theorem wd_9_10 : Cond.methodLink RX7 67 yX0_keepState ∈ wsL_law := mr_9 _ (List.mem_of_getElem? (i := 10) rfl)
theorem wd_9_11 : Cond.methodLink RX5 37 yX7_post ∈ wsL_law := mr_9 _ (List.mem_of_getElem? (i := 11) rfl)
theorem wd_9_12 : Cond.instanceMethod yX7_post ∈ wsL_law := mr_9 _ (List.mem_of_getElem? (i := 12) rfl)
theorem wd_9_13 : Cond.selects RX7 yX7_post yX7_post ∈ wsL_law := mr_9 _ (List.mem_of_getElem? (i := 13) rfl)
theorem wd_9_14 : Cond.code yX7_post cX7_post 4 (some .int) ∈ wsL_law := mr_9 _ (List.mem_of_getElem? (i := 14) rfl)
theorem wd_9_15 : Cond.fieldLink RX7 71 "ZigzagLines$Message" "sender" "I" ∈ wsL_law := mr_9 _ (List.mem_of_getElem? (i := 15) rfl)
theorem wd_9_16 : Cond.fieldLink RX7 74 "ZigzagLines$Message" "receiver" "I" ∈ wsL_law := mr_9 _ (List.mem_of_getElem? (i := 16) rfl)
theorem wd_9_17 : Cond.fieldLink RX7 77 "ZigzagLines$Message" "sentIn" "I" ∈ wsL_law := mr_9 _ (List.mem_of_getElem? (i := 17) rfl)
theorem wd_9_18 : Cond.fieldLink RX7 80 "ZigzagLines$Message" "sentAt" "I" ∈ wsL_law := mr_9 _ (List.mem_of_getElem? (i := 18) rfl)
theorem wd_9_19 : Cond.fieldLink RX7 83 "ZigzagLines$Message" "mark" "I" ∈ wsL_law := mr_9 _ (List.mem_of_getElem? (i := 19) rfl)
theorem wd_9_20 : Cond.fieldLink RX7 84 "ZigzagLines$Actor" "known" "[I" ∈ wsL_law := mr_9 _ (List.mem_of_getElem? (i := 20) rfl)
theorem wd_9_21 : Cond.fieldLink RX7 87 "ZigzagLines$Message" "carried" "[I" ∈ wsL_law := mr_9 _ (List.mem_of_getElem? (i := 21) rfl)
theorem wd_9_22 : Cond.methodLink RX7 90 arraycopyName ∈ wsL_law := mr_9 _ (List.mem_of_getElem? (i := 22) rfl)
theorem wd_9_23 : Cond.methodLink RX7 96 yX7_putUnderWay ∈ wsL_law := mr_9 _ (List.mem_of_getElem? (i := 23) rfl)
theorem wd_10_0 : Cond.instanceMethod yX7_putUnderWay ∈ wsL_law := mr_10 _ (List.mem_of_getElem? (i := 0) rfl)
theorem wd_10_1 : Cond.selects RX7 yX7_putUnderWay yX7_putUnderWay ∈ wsL_law := mr_10 _ (List.mem_of_getElem? (i := 1) rfl)
theorem wd_10_2 : Cond.code yX7_putUnderWay cX7_putUnderWay 2 none ∈ wsL_law := mr_10 _ (List.mem_of_getElem? (i := 2) rfl)
theorem wd_10_3 : Cond.fieldLink RX7 103 "ZigzagLines$Message" "stage" "I" ∈ wsL_law := mr_10 _ (List.mem_of_getElem? (i := 3) rfl)
theorem wd_10_4 : Cond.methodLink RX5 43 yX7_take ∈ wsL_law := mr_10 _ (List.mem_of_getElem? (i := 4) rfl)
theorem wd_10_5 : Cond.instanceMethod yX7_take ∈ wsL_law := mr_10 _ (List.mem_of_getElem? (i := 5) rfl)
theorem wd_10_6 : Cond.selects RX7 yX7_take yX7_take ∈ wsL_law := mr_10 _ (List.mem_of_getElem? (i := 6) rfl)
theorem wd_10_7 : Cond.code yX7_take cX7_take 6 (some .int) ∈ wsL_law := mr_10 _ (List.mem_of_getElem? (i := 7) rfl)
theorem wd_10_8 : Cond.fieldLink RX7 110 "ZigzagLines$Message" "receivedIn" "I" ∈ wsL_law := mr_10 _ (List.mem_of_getElem? (i := 8) rfl)
theorem wd_10_9 : Cond.fieldLink RX7 113 "ZigzagLines$Message" "receivedAt" "I" ∈ wsL_law := mr_10 _ (List.mem_of_getElem? (i := 9) rfl)
theorem wd_10_10 : Cond.methodLink RX7 100 yX7_isMessage ∈ wsL_law := mr_10 _ (List.mem_of_getElem? (i := 10) rfl)
theorem wd_10_11 : Cond.instanceMethod yX7_isMessage ∈ wsL_law := mr_10 _ (List.mem_of_getElem? (i := 11) rfl)
theorem wd_10_12 : Cond.selects RX7 yX7_isMessage yX7_isMessage ∈ wsL_law := mr_10 _ (List.mem_of_getElem? (i := 12) rfl)
theorem wd_10_13 : Cond.code yX7_isMessage cX7_isMessage 2 (some .boolean) ∈ wsL_law := mr_10 _ (List.mem_of_getElem? (i := 13) rfl)
theorem wd_10_14 : Cond.methodLink RX7 106 yX7_forces ∈ wsL_law := mr_10 _ (List.mem_of_getElem? (i := 14) rfl)
theorem wd_10_15 : Cond.instanceMethod yX7_forces ∈ wsL_law := mr_10 _ (List.mem_of_getElem? (i := 15) rfl)
theorem wd_10_16 : Cond.selects RX7 yX7_forces yX7_forces ∈ wsL_law := mr_10 _ (List.mem_of_getElem? (i := 16) rfl)
theorem wd_10_17 : Cond.code yX7_forces cX7_forces 3 (some .boolean) ∈ wsL_law := mr_10 _ (List.mem_of_getElem? (i := 17) rfl)
theorem wd_10_18 : Cond.methodLink RX7 127 yX7_countSentNow ∈ wsL_law := mr_10 _ (List.mem_of_getElem? (i := 18) rfl)
theorem wd_10_19 : Cond.instanceMethod yX7_countSentNow ∈ wsL_law := mr_10 _ (List.mem_of_getElem? (i := 19) rfl)
theorem wd_10_20 : Cond.selects RX7 yX7_countSentNow yX7_countSentNow ∈ wsL_law := mr_10 _ (List.mem_of_getElem? (i := 20) rfl)
theorem wd_10_21 : Cond.code yX7_countSentNow cX7_countSentNow 5 (some .int) ∈ wsL_law := mr_10 _ (List.mem_of_getElem? (i := 21) rfl)
theorem wd_10_22 : Cond.methodLink RX7 131 yX0_wouldLearn ∈ wsL_law := mr_10 _ (List.mem_of_getElem? (i := 22) rfl)
theorem wd_10_23 : Cond.instanceMethod yX0_wouldLearn ∈ wsL_law := mr_10 _ (List.mem_of_getElem? (i := 23) rfl)
theorem wd_11_0 : Cond.selects RX0 yX0_wouldLearn yX0_wouldLearn ∈ wsL_law := mr_11 _ (List.mem_of_getElem? (i := 0) rfl)
theorem wd_11_1 : Cond.code yX0_wouldLearn cX0_wouldLearn 4 (some .boolean) ∈ wsL_law := mr_11 _ (List.mem_of_getElem? (i := 1) rfl)
theorem wd_11_2 : Cond.methodLink RX7 116 yX0_learn ∈ wsL_law := mr_11 _ (List.mem_of_getElem? (i := 2) rfl)
theorem wd_11_3 : Cond.instanceMethod yX0_learn ∈ wsL_law := mr_11 _ (List.mem_of_getElem? (i := 3) rfl)
theorem wd_11_4 : Cond.selects RX0 yX0_learn yX0_learn ∈ wsL_law := mr_11 _ (List.mem_of_getElem? (i := 4) rfl)
theorem wd_11_5 : Cond.code yX0_learn cX0_learn 4 none ∈ wsL_law := mr_11 _ (List.mem_of_getElem? (i := 5) rfl)
theorem wd_11_6 : Cond.methodLink RX0 48 Lib.Math.max.name ∈ wsL_law := mr_11 _ (List.mem_of_getElem? (i := 6) rfl)
theorem wd_11_7 : Cond.static Lib.Math.max.name ∈ wsL_law := mr_11 _ (List.mem_of_getElem? (i := 7) rfl)
theorem wd_11_8 : Cond.initialized "java/lang/Math" ∈ wsL_law := mr_11 _ (List.mem_of_getElem? (i := 8) rfl)
theorem wd_11_9 : Cond.code Lib.Math.max.name Lib.Math.max.code 2 (some .int) ∈ wsL_law := mr_11 _ (List.mem_of_getElem? (i := 9) rfl)
theorem wd_11_10 : Cond.methodLink RX7 120 yX7_dropFromQueue ∈ wsL_law := mr_11 _ (List.mem_of_getElem? (i := 10) rfl)
theorem wd_11_11 : Cond.instanceMethod yX7_dropFromQueue ∈ wsL_law := mr_11 _ (List.mem_of_getElem? (i := 11) rfl)
theorem wd_11_12 : Cond.selects RX7 yX7_dropFromQueue yX7_dropFromQueue ∈ wsL_law := mr_11 _ (List.mem_of_getElem? (i := 12) rfl)
theorem wd_11_13 : Cond.code yX7_dropFromQueue cX7_dropFromQueue 3 none ∈ wsL_law := mr_11 _ (List.mem_of_getElem? (i := 13) rfl)
theorem wd_11_14 : Cond.static yX8_oneIf ∈ wsL_law := mr_11 _ (List.mem_of_getElem? (i := 14) rfl)
theorem wd_11_15 : Cond.code yX8_oneIf cX8_oneIf 1 (some .int) ∈ wsL_law := mr_11 _ (List.mem_of_getElem? (i := 15) rfl)
theorem wd_11_16 : Cond.methodLink RX8 69 yX1_clear ∈ wsL_law := mr_11 _ (List.mem_of_getElem? (i := 16) rfl)
theorem wd_11_17 : Cond.instanceMethod yX1_clear ∈ wsL_law := mr_11 _ (List.mem_of_getElem? (i := 17) rfl)
theorem wd_11_18 : Cond.selects RX1 yX1_clear yX1_clear ∈ wsL_law := mr_11 _ (List.mem_of_getElem? (i := 18) rfl)
theorem wd_11_19 : Cond.code yX1_clear cX1_clear 2 (some .int) ∈ wsL_law := mr_11 _ (List.mem_of_getElem? (i := 19) rfl)
theorem wd_12_0 : Cond.fieldLink RX9 7 "ZigzagLinesModel" "text" "[I" ∈ wsL_law := mr_12 _ (List.mem_of_getElem? (i := 0) rfl)
theorem wd_12_1 : Cond.fieldLink RX9 13 "ZigzagLinesModel" "h" "[I" ∈ wsL_law := mr_12 _ (List.mem_of_getElem? (i := 1) rfl)
theorem wd_12_2 : Cond.fieldLink RX9 16 "ZigzagLinesModel" "aside" "[I" ∈ wsL_law := mr_12 _ (List.mem_of_getElem? (i := 2) rfl)
theorem wd_12_3 : Cond.fieldLink RX9 19 "ZigzagLinesModel" "picked" "[I" ∈ wsL_law := mr_12 _ (List.mem_of_getElem? (i := 3) rfl)
theorem wd_12_4 : Cond.fieldLink RX9 22 "ZigzagLinesModel" "line" "[I" ∈ wsL_law := mr_12 _ (List.mem_of_getElem? (i := 4) rfl)
theorem wd_12_5 : Cond.fieldLink RX9 25 "ZigzagLinesModel" "then" "[I" ∈ wsL_law := mr_12 _ (List.mem_of_getElem? (i := 5) rfl)
theorem wd_12_6 : Cond.fieldLink RX9 28 "ZigzagLinesModel" "far" "[I" ∈ wsL_law := mr_12 _ (List.mem_of_getElem? (i := 6) rfl)
theorem wd_12_8 : Cond.methodLink RX9 34 yX9_begins ∈ wsL_law := mr_12 _ (List.mem_of_getElem? (i := 8) rfl)
theorem wd_12_9 : Cond.instanceMethod yX9_begins ∈ wsL_law := mr_12 _ (List.mem_of_getElem? (i := 9) rfl)
theorem wd_12_10 : Cond.selects RX9 yX9_begins yX9_begins ∈ wsL_law := mr_12 _ (List.mem_of_getElem? (i := 10) rfl)
theorem wd_12_11 : Cond.code yX9_begins cX9_begins 4 none ∈ wsL_law := mr_12 _ (List.mem_of_getElem? (i := 11) rfl)
theorem wd_12_12 : Cond.methodLink RX9 46 yX9_keeps ∈ wsL_law := mr_12 _ (List.mem_of_getElem? (i := 12) rfl)
theorem wd_12_13 : Cond.instanceMethod yX9_keeps ∈ wsL_law := mr_12 _ (List.mem_of_getElem? (i := 13) rfl)
theorem wd_12_14 : Cond.selects RX9 yX9_keeps yX9_keeps ∈ wsL_law := mr_12 _ (List.mem_of_getElem? (i := 14) rfl)
theorem wd_12_15 : Cond.code yX9_keeps cX9_keeps 4 none ∈ wsL_law := mr_12 _ (List.mem_of_getElem? (i := 15) rfl)
theorem wd_12_16 : Cond.methodLink RX9 38 yX9_acts ∈ wsL_law := mr_12 _ (List.mem_of_getElem? (i := 16) rfl)
theorem wd_12_17 : Cond.instanceMethod yX9_acts ∈ wsL_law := mr_12 _ (List.mem_of_getElem? (i := 17) rfl)
theorem wd_12_18 : Cond.selects RX9 yX9_acts yX9_acts ∈ wsL_law := mr_12 _ (List.mem_of_getElem? (i := 18) rfl)
theorem wd_12_19 : Cond.code yX9_acts cX9_acts 5 (some .int) ∈ wsL_law := mr_12 _ (List.mem_of_getElem? (i := 19) rfl)
theorem wd_12_20 : Cond.methodLink RX9 89 yX9_mode ∈ wsL_law := mr_12 _ (List.mem_of_getElem? (i := 20) rfl)
theorem wd_12_21 : Cond.instanceMethod yX9_mode ∈ wsL_law := mr_12 _ (List.mem_of_getElem? (i := 21) rfl)
theorem wd_12_22 : Cond.selects RX9 yX9_mode yX9_mode ∈ wsL_law := mr_12 _ (List.mem_of_getElem? (i := 22) rfl)
theorem wd_12_23 : Cond.code yX9_mode cX9_mode 3 (some .int) ∈ wsL_law := mr_12 _ (List.mem_of_getElem? (i := 23) rfl)
theorem wd_13_0 : Cond.methodLink RX9 50 yX9_isIn ∈ wsL_law := mr_13 _ (List.mem_of_getElem? (i := 0) rfl)
theorem wd_13_1 : Cond.static yX9_isIn ∈ wsL_law := mr_13 _ (List.mem_of_getElem? (i := 1) rfl)
theorem wd_13_2 : Cond.code yX9_isIn cX9_isIn 3 (some .boolean) ∈ wsL_law := mr_13 _ (List.mem_of_getElem? (i := 2) rfl)
theorem wd_13_3 : Cond.methodLink RX9 92 yX9_send ∈ wsL_law := mr_13 _ (List.mem_of_getElem? (i := 3) rfl)
theorem wd_13_4 : Cond.instanceMethod yX9_send ∈ wsL_law := mr_13 _ (List.mem_of_getElem? (i := 4) rfl)
theorem wd_13_5 : Cond.selects RX9 yX9_send yX9_send ∈ wsL_law := mr_13 _ (List.mem_of_getElem? (i := 5) rfl)
theorem wd_13_6 : Cond.code yX9_send cX9_send 5 (some .int) ∈ wsL_law := mr_13 _ (List.mem_of_getElem? (i := 6) rfl)
theorem wd_13_7 : Cond.methodLink RX9 54 yX9_isProcess ∈ wsL_law := mr_13 _ (List.mem_of_getElem? (i := 7) rfl)
theorem wd_13_8 : Cond.instanceMethod yX9_isProcess ∈ wsL_law := mr_13 _ (List.mem_of_getElem? (i := 8) rfl)
theorem wd_13_9 : Cond.selects RX9 yX9_isProcess yX9_isProcess ∈ wsL_law := mr_13 _ (List.mem_of_getElem? (i := 9) rfl)
theorem wd_13_10 : Cond.code yX9_isProcess cX9_isProcess 2 (some .boolean) ∈ wsL_law := mr_13 _ (List.mem_of_getElem? (i := 10) rfl)
theorem wd_13_11 : Cond.methodLink RX9 62 yX9_puts ∈ wsL_law := mr_13 _ (List.mem_of_getElem? (i := 11) rfl)
theorem wd_13_12 : Cond.instanceMethod yX9_puts ∈ wsL_law := mr_13 _ (List.mem_of_getElem? (i := 12) rfl)
theorem wd_13_13 : Cond.selects RX9 yX9_puts yX9_puts ∈ wsL_law := mr_13 _ (List.mem_of_getElem? (i := 13) rfl)
theorem wd_13_14 : Cond.code yX9_puts cX9_puts 4 none ∈ wsL_law := mr_13 _ (List.mem_of_getElem? (i := 14) rfl)
theorem wd_13_15 : Cond.methodLink RX9 95 yX9_receive ∈ wsL_law := mr_13 _ (List.mem_of_getElem? (i := 15) rfl)
theorem wd_13_16 : Cond.instanceMethod yX9_receive ∈ wsL_law := mr_13 _ (List.mem_of_getElem? (i := 16) rfl)
theorem wd_13_17 : Cond.selects RX9 yX9_receive yX9_receive ∈ wsL_law := mr_13 _ (List.mem_of_getElem? (i := 17) rfl)
theorem wd_13_18 : Cond.code yX9_receive cX9_receive 5 (some .int) ∈ wsL_law := mr_13 _ (List.mem_of_getElem? (i := 18) rfl)
theorem wd_13_19 : Cond.methodLink RX9 73 yX9_isMessage ∈ wsL_law := mr_13 _ (List.mem_of_getElem? (i := 19) rfl)
theorem wd_13_20 : Cond.instanceMethod yX9_isMessage ∈ wsL_law := mr_13 _ (List.mem_of_getElem? (i := 20) rfl)
theorem wd_13_21 : Cond.selects RX9 yX9_isMessage yX9_isMessage ∈ wsL_law := mr_13 _ (List.mem_of_getElem? (i := 21) rfl)
theorem wd_13_22 : Cond.code yX9_isMessage cX9_isMessage 2 (some .boolean) ∈ wsL_law := mr_13 _ (List.mem_of_getElem? (i := 22) rfl)
theorem wd_13_23 : Cond.methodLink RX9 65 yX9_of ∈ wsL_law := mr_13 _ (List.mem_of_getElem? (i := 23) rfl)
theorem wd_14_0 : Cond.instanceMethod yX9_of ∈ wsL_law := mr_14 _ (List.mem_of_getElem? (i := 0) rfl)
theorem wd_14_1 : Cond.selects RX9 yX9_of yX9_of ∈ wsL_law := mr_14 _ (List.mem_of_getElem? (i := 1) rfl)
theorem wd_14_2 : Cond.code yX9_of cX9_of 3 (some .int) ∈ wsL_law := mr_14 _ (List.mem_of_getElem? (i := 2) rfl)
theorem wd_14_3 : Cond.methodLink RX9 76 yX9_isForced ∈ wsL_law := mr_14 _ (List.mem_of_getElem? (i := 3) rfl)
theorem wd_14_4 : Cond.instanceMethod yX9_isForced ∈ wsL_law := mr_14 _ (List.mem_of_getElem? (i := 4) rfl)
theorem wd_14_5 : Cond.selects RX9 yX9_isForced yX9_isForced ∈ wsL_law := mr_14 _ (List.mem_of_getElem? (i := 5) rfl)
theorem wd_14_6 : Cond.code yX9_isForced cX9_isForced 5 (some .boolean) ∈ wsL_law := mr_14 _ (List.mem_of_getElem? (i := 6) rfl)
theorem wd_14_7 : Cond.methodLink RX9 69 yX9_sentNow ∈ wsL_law := mr_14 _ (List.mem_of_getElem? (i := 7) rfl)
theorem wd_14_8 : Cond.instanceMethod yX9_sentNow ∈ wsL_law := mr_14 _ (List.mem_of_getElem? (i := 8) rfl)
theorem wd_14_9 : Cond.selects RX9 yX9_sentNow yX9_sentNow ∈ wsL_law := mr_14 _ (List.mem_of_getElem? (i := 9) rfl)
theorem wd_14_10 : Cond.code yX9_sentNow cX9_sentNow 4 (some .int) ∈ wsL_law := mr_14 _ (List.mem_of_getElem? (i := 10) rfl)
theorem wd_14_11 : Cond.methodLink RX9 58 yX9_saves ∈ wsL_law := mr_14 _ (List.mem_of_getElem? (i := 11) rfl)
theorem wd_14_12 : Cond.instanceMethod yX9_saves ∈ wsL_law := mr_14 _ (List.mem_of_getElem? (i := 12) rfl)
theorem wd_14_13 : Cond.selects RX9 yX9_saves yX9_saves ∈ wsL_law := mr_14 _ (List.mem_of_getElem? (i := 13) rfl)
theorem wd_14_14 : Cond.code yX9_saves cX9_saves 5 none ∈ wsL_law := mr_14 _ (List.mem_of_getElem? (i := 14) rfl)
theorem wd_14_15 : Cond.methodLink RX9 79 yX9_leavesWay ∈ wsL_law := mr_14 _ (List.mem_of_getElem? (i := 15) rfl)
theorem wd_14_16 : Cond.instanceMethod yX9_leavesWay ∈ wsL_law := mr_14 _ (List.mem_of_getElem? (i := 16) rfl)
theorem wd_14_17 : Cond.selects RX9 yX9_leavesWay yX9_leavesWay ∈ wsL_law := mr_14 _ (List.mem_of_getElem? (i := 17) rfl)
theorem wd_14_18 : Cond.code yX9_leavesWay cX9_leavesWay 4 none ∈ wsL_law := mr_14 _ (List.mem_of_getElem? (i := 18) rfl)
theorem wd_14_19 : Cond.methodLink RX9 98 yX9_save ∈ wsL_law := mr_14 _ (List.mem_of_getElem? (i := 19) rfl)
theorem wd_14_20 : Cond.instanceMethod yX9_save ∈ wsL_law := mr_14 _ (List.mem_of_getElem? (i := 20) rfl)
theorem wd_14_21 : Cond.selects RX9 yX9_save yX9_save ∈ wsL_law := mr_14 _ (List.mem_of_getElem? (i := 21) rfl)
theorem wd_14_22 : Cond.code yX9_save cX9_save 2 (some .int) ∈ wsL_law := mr_14 _ (List.mem_of_getElem? (i := 22) rfl)
theorem wd_14_23 : Cond.methodLink RX9 42 yX9_unpick ∈ wsL_law := mr_14 _ (List.mem_of_getElem? (i := 23) rfl)
theorem wd_15_0 : Cond.instanceMethod yX9_unpick ∈ wsL_law := mr_15 _ (List.mem_of_getElem? (i := 0) rfl)
theorem wd_15_1 : Cond.selects RX9 yX9_unpick yX9_unpick ∈ wsL_law := mr_15 _ (List.mem_of_getElem? (i := 1) rfl)
theorem wd_15_2 : Cond.code yX9_unpick cX9_unpick 3 (some .int) ∈ wsL_law := mr_15 _ (List.mem_of_getElem? (i := 2) rfl)
theorem wd_15_3 : Cond.methodLink RX9 158 yX9_pickedMany ∈ wsL_law := mr_15 _ (List.mem_of_getElem? (i := 3) rfl)
theorem wd_15_4 : Cond.instanceMethod yX9_pickedMany ∈ wsL_law := mr_15 _ (List.mem_of_getElem? (i := 4) rfl)
theorem wd_15_5 : Cond.selects RX9 yX9_pickedMany yX9_pickedMany ∈ wsL_law := mr_15 _ (List.mem_of_getElem? (i := 5) rfl)
theorem wd_15_6 : Cond.code yX9_pickedMany cX9_pickedMany 3 (some .int) ∈ wsL_law := mr_15 _ (List.mem_of_getElem? (i := 6) rfl)
theorem wd_15_8 : Cond.instanceMethod yX8_write ∈ wsL_law := mr_15 _ (List.mem_of_getElem? (i := 8) rfl)
theorem wd_15_9 : Cond.selects RX8 yX8_write yX8_write ∈ wsL_law := mr_15 _ (List.mem_of_getElem? (i := 9) rfl)
theorem wd_15_10 : Cond.code yX8_write cX8_write 2 (some .int) ∈ wsL_law := mr_15 _ (List.mem_of_getElem? (i := 10) rfl)
theorem wd_15_11 : Cond.fieldLink RX8 72 "ZigzagLines$Letters" "length" "I" ∈ wsL_law := mr_15 _ (List.mem_of_getElem? (i := 11) rfl)
theorem wd_15_13 : Cond.instanceMethod yX9_write ∈ wsL_law := mr_15 _ (List.mem_of_getElem? (i := 13) rfl)
theorem wd_15_14 : Cond.selects RX9 yX9_write yX9_write ∈ wsL_law := mr_15 _ (List.mem_of_getElem? (i := 14) rfl)
theorem wd_15_15 : Cond.code yX9_write cX9_write 2 (some .int) ∈ wsL_law := mr_15 _ (List.mem_of_getElem? (i := 15) rfl)
theorem wd_15_16 : Cond.fieldLink RX9 82 "ZigzagLinesModel" "length" "I" ∈ wsL_law := mr_15 _ (List.mem_of_getElem? (i := 16) rfl)
theorem wd_15_18 : Cond.instanceMethod yX8_wipe ∈ wsL_law := mr_15 _ (List.mem_of_getElem? (i := 18) rfl)
theorem wd_15_19 : Cond.selects RX8 yX8_wipe yX8_wipe ∈ wsL_law := mr_15 _ (List.mem_of_getElem? (i := 19) rfl)
theorem wd_15_20 : Cond.code yX8_wipe cX8_wipe 1 (some .int) ∈ wsL_law := mr_15 _ (List.mem_of_getElem? (i := 20) rfl)
theorem wd_15_22 : Cond.instanceMethod yX9_wipe ∈ wsL_law := mr_15 _ (List.mem_of_getElem? (i := 22) rfl)
theorem wd_15_23 : Cond.selects RX9 yX9_wipe yX9_wipe ∈ wsL_law := mr_15 _ (List.mem_of_getElem? (i := 23) rfl)
theorem wd_16_0 : Cond.code yX9_wipe cX9_wipe 2 (some .int) ∈ wsL_law := mr_16 _ (List.mem_of_getElem? (i := 0) rfl)
theorem wd_16_2 : Cond.instanceMethod yX8_fault ∈ wsL_law := mr_16 _ (List.mem_of_getElem? (i := 2) rfl)
theorem wd_16_3 : Cond.selects RX8 yX8_fault yX8_fault ∈ wsL_law := mr_16 _ (List.mem_of_getElem? (i := 3) rfl)
theorem wd_16_4 : Cond.code yX8_fault cX8_fault 1 (some .int) ∈ wsL_law := mr_16 _ (List.mem_of_getElem? (i := 4) rfl)
theorem wd_16_6 : Cond.instanceMethod yX9_fault ∈ wsL_law := mr_16 _ (List.mem_of_getElem? (i := 6) rfl)
theorem wd_16_7 : Cond.selects RX9 yX9_fault yX9_fault ∈ wsL_law := mr_16 _ (List.mem_of_getElem? (i := 7) rfl)
theorem wd_16_8 : Cond.code yX9_fault cX9_fault 2 (some .int) ∈ wsL_law := mr_16 _ (List.mem_of_getElem? (i := 8) rfl)
theorem wd_16_9 : Cond.methodLink RX9 104 yX9_copies ∈ wsL_law := mr_16 _ (List.mem_of_getElem? (i := 9) rfl)
theorem wd_16_10 : Cond.instanceMethod yX9_copies ∈ wsL_law := mr_16 _ (List.mem_of_getElem? (i := 10) rfl)
theorem wd_16_11 : Cond.selects RX9 yX9_copies yX9_copies ∈ wsL_law := mr_16 _ (List.mem_of_getElem? (i := 11) rfl)
theorem wd_16_12 : Cond.code yX9_copies cX9_copies 4 none ∈ wsL_law := mr_16 _ (List.mem_of_getElem? (i := 12) rfl)
theorem wd_16_13 : Cond.methodLink RX9 108 yX9_does ∈ wsL_law := mr_16 _ (List.mem_of_getElem? (i := 13) rfl)
theorem wd_16_14 : Cond.instanceMethod yX9_does ∈ wsL_law := mr_16 _ (List.mem_of_getElem? (i := 14) rfl)
theorem wd_16_15 : Cond.selects RX9 yX9_does yX9_does ∈ wsL_law := mr_16 _ (List.mem_of_getElem? (i := 15) rfl)
theorem wd_16_16 : Cond.code yX9_does cX9_does 6 (some .int) ∈ wsL_law := mr_16 _ (List.mem_of_getElem? (i := 16) rfl)
theorem wd_16_17 : Cond.methodLink RX9 101 yX9_figure ∈ wsL_law := mr_16 _ (List.mem_of_getElem? (i := 17) rfl)
theorem wd_16_18 : Cond.instanceMethod yX9_figure ∈ wsL_law := mr_16 _ (List.mem_of_getElem? (i := 18) rfl)
theorem wd_16_19 : Cond.selects RX9 yX9_figure yX9_figure ∈ wsL_law := mr_16 _ (List.mem_of_getElem? (i := 19) rfl)
theorem wd_16_20 : Cond.code yX9_figure cX9_figure 3 (some .int) ∈ wsL_law := mr_16 _ (List.mem_of_getElem? (i := 20) rfl)
theorem wd_16_21 : Cond.methodLink RX9 86 yX9_letterAt ∈ wsL_law := mr_16 _ (List.mem_of_getElem? (i := 21) rfl)
theorem wd_16_22 : Cond.instanceMethod yX9_letterAt ∈ wsL_law := mr_16 _ (List.mem_of_getElem? (i := 22) rfl)
theorem wd_16_23 : Cond.selects RX9 yX9_letterAt yX9_letterAt ∈ wsL_law := mr_16 _ (List.mem_of_getElem? (i := 23) rfl)
theorem wd_17_0 : Cond.code yX9_letterAt cX9_letterAt 2 (some .int) ∈ wsL_law := mr_17 _ (List.mem_of_getElem? (i := 0) rfl)
theorem wd_17_2 : Cond.instanceMethod yX8_lay ∈ wsL_law := mr_17 _ (List.mem_of_getElem? (i := 2) rfl)
theorem wd_17_3 : Cond.selects RX8 yX8_lay yX8_lay ∈ wsL_law := mr_17 _ (List.mem_of_getElem? (i := 3) rfl)
theorem wd_17_4 : Cond.code yX8_lay cX8_lay 2 (some .int) ∈ wsL_law := mr_17 _ (List.mem_of_getElem? (i := 4) rfl)
theorem wd_17_5 : Cond.fieldLink RX8 76 "ZigzagLines$World" "processes" "I" ∈ wsL_law := mr_17 _ (List.mem_of_getElem? (i := 5) rfl)
theorem wd_17_6 : Cond.methodLink RX8 75 yX4_clear ∈ wsL_law := mr_17 _ (List.mem_of_getElem? (i := 6) rfl)
theorem wd_17_7 : Cond.instanceMethod yX4_clear ∈ wsL_law := mr_17 _ (List.mem_of_getElem? (i := 7) rfl)
theorem wd_17_8 : Cond.selects RX4 yX4_clear yX4_clear ∈ wsL_law := mr_17 _ (List.mem_of_getElem? (i := 8) rfl)
theorem wd_17_9 : Cond.code yX4_clear cX4_clear 3 (some .int) ∈ wsL_law := mr_17 _ (List.mem_of_getElem? (i := 9) rfl)
theorem wd_17_10 : Cond.methodLink RX4 19 yX4_size ∈ wsL_law := mr_17 _ (List.mem_of_getElem? (i := 10) rfl)
theorem wd_17_11 : Cond.instanceMethod yX4_size ∈ wsL_law := mr_17 _ (List.mem_of_getElem? (i := 11) rfl)
theorem wd_17_12 : Cond.selects RX4 yX4_size yX4_size ∈ wsL_law := mr_17 _ (List.mem_of_getElem? (i := 12) rfl)
theorem wd_17_13 : Cond.code yX4_size cX4_size 3 (some .int) ∈ wsL_law := mr_17 _ (List.mem_of_getElem? (i := 13) rfl)
theorem wd_17_14 : Cond.methodLink RX4 15 yX4_has ∈ wsL_law := mr_17 _ (List.mem_of_getElem? (i := 14) rfl)
theorem wd_17_15 : Cond.instanceMethod yX4_has ∈ wsL_law := mr_17 _ (List.mem_of_getElem? (i := 15) rfl)
theorem wd_17_16 : Cond.selects RX4 yX4_has yX4_has ∈ wsL_law := mr_17 _ (List.mem_of_getElem? (i := 16) rfl)
theorem wd_17_17 : Cond.code yX4_has cX4_has 2 (some .boolean) ∈ wsL_law := mr_17 _ (List.mem_of_getElem? (i := 17) rfl)
theorem wd_17_19 : Cond.instanceMethod yX9_lay ∈ wsL_law := mr_17 _ (List.mem_of_getElem? (i := 19) rfl)
theorem wd_17_20 : Cond.selects RX9 yX9_lay yX9_lay ∈ wsL_law := mr_17 _ (List.mem_of_getElem? (i := 20) rfl)
theorem wd_17_21 : Cond.code yX9_lay cX9_lay 1 (some .int) ∈ wsL_law := mr_17 _ (List.mem_of_getElem? (i := 21) rfl)
theorem wd_17_22 : Cond.methodLink RX9 111 yX9_fault ∈ wsL_law := mr_17 _ (List.mem_of_getElem? (i := 22) rfl)
theorem wd_18_0 : Cond.instanceMethod yX8_mode ∈ wsL_law := mr_18 _ (List.mem_of_getElem? (i := 0) rfl)
theorem wd_18_1 : Cond.selects RX8 yX8_mode yX8_mode ∈ wsL_law := mr_18 _ (List.mem_of_getElem? (i := 1) rfl)
theorem wd_18_2 : Cond.code yX8_mode cX8_mode 3 (some .int) ∈ wsL_law := mr_18 _ (List.mem_of_getElem? (i := 2) rfl)
theorem wd_18_3 : Cond.fieldLink RX8 79 "ZigzagLines$World" "forcing" "I" ∈ wsL_law := mr_18 _ (List.mem_of_getElem? (i := 3) rfl)
theorem wd_18_6 : Cond.instanceMethod yX8_save ∈ wsL_law := mr_18 _ (List.mem_of_getElem? (i := 6) rfl)
theorem wd_18_7 : Cond.selects RX8 yX8_save yX8_save ∈ wsL_law := mr_18 _ (List.mem_of_getElem? (i := 7) rfl)
theorem wd_18_8 : Cond.code yX8_save cX8_save 2 (some .int) ∈ wsL_law := mr_18 _ (List.mem_of_getElem? (i := 8) rfl)
theorem wd_18_9 : Cond.methodLink RX8 82 yX7_keepState ∈ wsL_law := mr_18 _ (List.mem_of_getElem? (i := 9) rfl)
theorem wd_18_12 : Cond.instanceMethod yX8_send ∈ wsL_law := mr_18 _ (List.mem_of_getElem? (i := 12) rfl)
theorem wd_18_13 : Cond.selects RX8 yX8_send yX8_send ∈ wsL_law := mr_18 _ (List.mem_of_getElem? (i := 13) rfl)
theorem wd_18_14 : Cond.code yX8_send cX8_send 3 (some .int) ∈ wsL_law := mr_18 _ (List.mem_of_getElem? (i := 14) rfl)
theorem wd_18_15 : Cond.methodLink RX8 86 yX7_post ∈ wsL_law := mr_18 _ (List.mem_of_getElem? (i := 15) rfl)
theorem wd_18_18 : Cond.instanceMethod yX8_receive ∈ wsL_law := mr_18 _ (List.mem_of_getElem? (i := 18) rfl)
theorem wd_18_19 : Cond.selects RX8 yX8_receive yX8_receive ∈ wsL_law := mr_18 _ (List.mem_of_getElem? (i := 19) rfl)
theorem wd_18_20 : Cond.code yX8_receive cX8_receive 2 (some .int) ∈ wsL_law := mr_18 _ (List.mem_of_getElem? (i := 20) rfl)
theorem wd_18_21 : Cond.methodLink RX8 90 yX7_take ∈ wsL_law := mr_18 _ (List.mem_of_getElem? (i := 21) rfl)
theorem wd_19_0 : Cond.instanceMethod yX8_fail ∈ wsL_law := mr_19 _ (List.mem_of_getElem? (i := 0) rfl)
theorem wd_19_1 : Cond.selects RX8 yX8_fail yX8_fail ∈ wsL_law := mr_19 _ (List.mem_of_getElem? (i := 1) rfl)
theorem wd_19_2 : Cond.code yX8_fail cX8_fail 2 (some .int) ∈ wsL_law := mr_19 _ (List.mem_of_getElem? (i := 2) rfl)
theorem wd_19_3 : Cond.fieldLink RX8 101 "ZigzagLines$Lines" "states" "[I" ∈ wsL_law := mr_19 _ (List.mem_of_getElem? (i := 3) rfl)
theorem wd_19_4 : Cond.methodLink RX8 93 yX7_isSet ∈ wsL_law := mr_19 _ (List.mem_of_getElem? (i := 4) rfl)
theorem wd_19_5 : Cond.instanceMethod yX7_isSet ∈ wsL_law := mr_19 _ (List.mem_of_getElem? (i := 5) rfl)
theorem wd_19_6 : Cond.selects RX7 yX7_isSet yX7_isSet ∈ wsL_law := mr_19 _ (List.mem_of_getElem? (i := 6) rfl)
theorem wd_19_7 : Cond.code yX7_isSet cX7_isSet 2 (some .boolean) ∈ wsL_law := mr_19 _ (List.mem_of_getElem? (i := 7) rfl)
theorem wd_19_8 : Cond.methodLink RX7 56 yX7_allProcesses ∈ wsL_law := mr_19 _ (List.mem_of_getElem? (i := 8) rfl)
theorem wd_19_9 : Cond.instanceMethod yX7_allProcesses ∈ wsL_law := mr_19 _ (List.mem_of_getElem? (i := 9) rfl)
theorem wd_19_10 : Cond.selects RX7 yX7_allProcesses yX7_allProcesses ∈ wsL_law := mr_19 _ (List.mem_of_getElem? (i := 10) rfl)
theorem wd_19_11 : Cond.code yX7_allProcesses cX7_allProcesses 1 (some .int) ∈ wsL_law := mr_19 _ (List.mem_of_getElem? (i := 11) rfl)
theorem wd_19_12 : Cond.methodLink RX8 97 yX2_findFailing ∈ wsL_law := mr_19 _ (List.mem_of_getElem? (i := 12) rfl)
theorem wd_19_13 : Cond.instanceMethod yX2_findFailing ∈ wsL_law := mr_19 _ (List.mem_of_getElem? (i := 13) rfl)
theorem wd_19_14 : Cond.selects RX2 yX2_findFailing yX2_findFailing ∈ wsL_law := mr_19 _ (List.mem_of_getElem? (i := 14) rfl)
theorem wd_19_15 : Cond.code yX2_findFailing cX2_findFailing 5 none ∈ wsL_law := mr_19 _ (List.mem_of_getElem? (i := 15) rfl)
theorem wd_19_16 : Cond.fieldLink RX2 21 "ZigzagLines$World" "processes" "I" ∈ wsL_law := mr_19 _ (List.mem_of_getElem? (i := 16) rfl)
theorem wd_19_17 : Cond.fieldLink RX2 27 "ZigzagLines$World" "actors" "[LZigzagLines$Actor;" ∈ wsL_law := mr_19 _ (List.mem_of_getElem? (i := 17) rfl)
theorem wd_19_18 : Cond.fieldLink RX2 31 "ZigzagLines$Actor" "kept" "I" ∈ wsL_law := mr_19 _ (List.mem_of_getElem? (i := 18) rfl)
theorem wd_19_19 : Cond.methodLink RX2 36 yX2_settleBack ∈ wsL_law := mr_19 _ (List.mem_of_getElem? (i := 19) rfl)
theorem wd_19_20 : Cond.instanceMethod yX2_settleBack ∈ wsL_law := mr_19 _ (List.mem_of_getElem? (i := 20) rfl)
theorem wd_19_21 : Cond.selects RX2 yX2_settleBack yX2_settleBack ∈ wsL_law := mr_19 _ (List.mem_of_getElem? (i := 21) rfl)
theorem wd_19_22 : Cond.code yX2_settleBack cX2_settleBack 3 none ∈ wsL_law := mr_19 _ (List.mem_of_getElem? (i := 22) rfl)
theorem wd_19_23 : Cond.fieldLink RX2 40 "ZigzagLines$Lines" "rounds" "I" ∈ wsL_law := mr_19 _ (List.mem_of_getElem? (i := 23) rfl)
theorem wd_20_0 : Cond.methodLink RX2 43 yX2_goRound ∈ wsL_law := mr_20 _ (List.mem_of_getElem? (i := 0) rfl)
theorem wd_20_1 : Cond.instanceMethod yX2_goRound ∈ wsL_law := mr_20 _ (List.mem_of_getElem? (i := 1) rfl)
theorem wd_20_2 : Cond.selects RX2 yX2_goRound yX2_goRound ∈ wsL_law := mr_20 _ (List.mem_of_getElem? (i := 2) rfl)
theorem wd_20_3 : Cond.code yX2_goRound cX2_goRound 5 (some .boolean) ∈ wsL_law := mr_20 _ (List.mem_of_getElem? (i := 3) rfl)
theorem wd_20_4 : Cond.methodLink RX2 47 arraycopyName ∈ wsL_law := mr_20 _ (List.mem_of_getElem? (i := 4) rfl)
theorem wd_20_5 : Cond.fieldLink RX2 53 "ZigzagLines$World" "messages" "I" ∈ wsL_law := mr_20 _ (List.mem_of_getElem? (i := 5) rfl)
theorem wd_20_6 : Cond.fieldLink RX2 56 "ZigzagLines$World" "mail" "[LZigzagLines$Message;" ∈ wsL_law := mr_20 _ (List.mem_of_getElem? (i := 6) rfl)
theorem wd_20_7 : Cond.fieldLink RX2 66 "ZigzagLines$Message" "receiver" "I" ∈ wsL_law := mr_20 _ (List.mem_of_getElem? (i := 7) rfl)
theorem wd_20_8 : Cond.fieldLink RX2 69 "ZigzagLines$Message" "receivedIn" "I" ∈ wsL_law := mr_20 _ (List.mem_of_getElem? (i := 8) rfl)
theorem wd_20_9 : Cond.methodLink RX2 72 Lib.Math.min.name ∈ wsL_law := mr_20 _ (List.mem_of_getElem? (i := 9) rfl)
theorem wd_20_10 : Cond.static Lib.Math.min.name ∈ wsL_law := mr_20 _ (List.mem_of_getElem? (i := 10) rfl)
theorem wd_20_11 : Cond.code Lib.Math.min.name Lib.Math.min.code 2 (some .int) ∈ wsL_law := mr_20 _ (List.mem_of_getElem? (i := 11) rfl)
theorem wd_20_12 : Cond.methodLink RX2 60 yX3_crosses ∈ wsL_law := mr_20 _ (List.mem_of_getElem? (i := 12) rfl)
theorem wd_20_13 : Cond.instanceMethod yX3_crosses ∈ wsL_law := mr_20 _ (List.mem_of_getElem? (i := 13) rfl)
theorem wd_20_14 : Cond.selects RX3 yX3_crosses yX3_crosses ∈ wsL_law := mr_20 _ (List.mem_of_getElem? (i := 14) rfl)
theorem wd_20_15 : Cond.code yX3_crosses cX3_crosses 2 (some .boolean) ∈ wsL_law := mr_20 _ (List.mem_of_getElem? (i := 15) rfl)
theorem wd_20_16 : Cond.fieldLink RX3 15 "ZigzagLines$Message" "stage" "I" ∈ wsL_law := mr_20 _ (List.mem_of_getElem? (i := 16) rfl)
theorem wd_20_17 : Cond.fieldLink RX3 19 "ZigzagLines$Message" "receivedIn" "I" ∈ wsL_law := mr_20 _ (List.mem_of_getElem? (i := 17) rfl)
theorem wd_20_18 : Cond.fieldLink RX3 22 "ZigzagLines$Message" "receiver" "I" ∈ wsL_law := mr_20 _ (List.mem_of_getElem? (i := 18) rfl)
theorem wd_20_19 : Cond.fieldLink RX3 25 "ZigzagLines$Message" "sentIn" "I" ∈ wsL_law := mr_20 _ (List.mem_of_getElem? (i := 19) rfl)
theorem wd_20_20 : Cond.fieldLink RX3 28 "ZigzagLines$Message" "sender" "I" ∈ wsL_law := mr_20 _ (List.mem_of_getElem? (i := 20) rfl)
theorem wd_20_21 : Cond.methodLink RX8 105 yX7_goBack ∈ wsL_law := mr_20 _ (List.mem_of_getElem? (i := 21) rfl)
theorem wd_20_22 : Cond.instanceMethod yX7_goBack ∈ wsL_law := mr_20 _ (List.mem_of_getElem? (i := 22) rfl)
theorem wd_20_23 : Cond.selects RX7 yX7_goBack yX7_goBack ∈ wsL_law := mr_20 _ (List.mem_of_getElem? (i := 23) rfl)
theorem wd_21_0 : Cond.code yX7_goBack cX7_goBack 4 (some .int) ∈ wsL_law := mr_21 _ (List.mem_of_getElem? (i := 0) rfl)
theorem wd_21_1 : Cond.methodLink RX7 135 yX3_isLostBehind ∈ wsL_law := mr_21 _ (List.mem_of_getElem? (i := 1) rfl)
theorem wd_21_2 : Cond.instanceMethod yX3_isLostBehind ∈ wsL_law := mr_21 _ (List.mem_of_getElem? (i := 2) rfl)
theorem wd_21_3 : Cond.selects RX3 yX3_isLostBehind yX3_isLostBehind ∈ wsL_law := mr_21 _ (List.mem_of_getElem? (i := 3) rfl)
theorem wd_21_4 : Cond.code yX3_isLostBehind cX3_isLostBehind 2 (some .boolean) ∈ wsL_law := mr_21 _ (List.mem_of_getElem? (i := 4) rfl)
theorem wd_21_5 : Cond.methodLink RX7 139 yX3_isAgainBehind ∈ wsL_law := mr_21 _ (List.mem_of_getElem? (i := 5) rfl)
theorem wd_21_6 : Cond.instanceMethod yX3_isAgainBehind ∈ wsL_law := mr_21 _ (List.mem_of_getElem? (i := 6) rfl)
theorem wd_21_7 : Cond.selects RX3 yX3_isAgainBehind yX3_isAgainBehind ∈ wsL_law := mr_21 _ (List.mem_of_getElem? (i := 7) rfl)
theorem wd_21_8 : Cond.code yX3_isAgainBehind cX3_isAgainBehind 2 (some .boolean) ∈ wsL_law := mr_21 _ (List.mem_of_getElem? (i := 8) rfl)
theorem wd_21_9 : Cond.methodLink RX7 142 yX0_goBack ∈ wsL_law := mr_21 _ (List.mem_of_getElem? (i := 9) rfl)
theorem wd_21_10 : Cond.instanceMethod yX0_goBack ∈ wsL_law := mr_21 _ (List.mem_of_getElem? (i := 10) rfl)
theorem wd_21_11 : Cond.selects RX0 yX0_goBack yX0_goBack ∈ wsL_law := mr_21 _ (List.mem_of_getElem? (i := 11) rfl)
theorem wd_21_12 : Cond.code yX0_goBack cX0_goBack 2 (some .boolean) ∈ wsL_law := mr_21 _ (List.mem_of_getElem? (i := 12) rfl)
theorem wd_21_14 : Cond.instanceMethod yX9_fail ∈ wsL_law := mr_21 _ (List.mem_of_getElem? (i := 14) rfl)
theorem wd_21_15 : Cond.selects RX9 yX9_fail yX9_fail ∈ wsL_law := mr_21 _ (List.mem_of_getElem? (i := 15) rfl)
theorem wd_21_16 : Cond.code yX9_fail cX9_fail 6 (some .int) ∈ wsL_law := mr_21 _ (List.mem_of_getElem? (i := 16) rfl)
theorem wd_21_17 : Cond.methodLink RX9 126 yX9_isSet ∈ wsL_law := mr_21 _ (List.mem_of_getElem? (i := 17) rfl)
theorem wd_21_18 : Cond.instanceMethod yX9_isSet ∈ wsL_law := mr_21 _ (List.mem_of_getElem? (i := 18) rfl)
theorem wd_21_19 : Cond.selects RX9 yX9_isSet yX9_isSet ∈ wsL_law := mr_21 _ (List.mem_of_getElem? (i := 19) rfl)
theorem wd_21_20 : Cond.code yX9_isSet cX9_isSet 3 (some .boolean) ∈ wsL_law := mr_21 _ (List.mem_of_getElem? (i := 20) rfl)
theorem wd_21_21 : Cond.methodLink RX9 130 yX9_fails ∈ wsL_law := mr_21 _ (List.mem_of_getElem? (i := 21) rfl)
theorem wd_21_22 : Cond.instanceMethod yX9_fails ∈ wsL_law := mr_21 _ (List.mem_of_getElem? (i := 22) rfl)
theorem wd_21_23 : Cond.selects RX9 yX9_fails yX9_fails ∈ wsL_law := mr_21 _ (List.mem_of_getElem? (i := 23) rfl)
theorem wd_22_0 : Cond.code yX9_fails cX9_fails 3 none ∈ wsL_law := mr_22 _ (List.mem_of_getElem? (i := 0) rfl)
theorem wd_22_1 : Cond.methodLink RX9 117 yX9_finds ∈ wsL_law := mr_22 _ (List.mem_of_getElem? (i := 1) rfl)
theorem wd_22_2 : Cond.instanceMethod yX9_finds ∈ wsL_law := mr_22 _ (List.mem_of_getElem? (i := 2) rfl)
theorem wd_22_3 : Cond.selects RX9 yX9_finds yX9_finds ∈ wsL_law := mr_22 _ (List.mem_of_getElem? (i := 3) rfl)
theorem wd_22_4 : Cond.code yX9_finds cX9_finds 4 none ∈ wsL_law := mr_22 _ (List.mem_of_getElem? (i := 4) rfl)
theorem wd_22_5 : Cond.fieldLink RX9 114 "ZigzagLinesModel" "rounds" "I" ∈ wsL_law := mr_22 _ (List.mem_of_getElem? (i := 5) rfl)
theorem wd_22_6 : Cond.methodLink RX9 133 yX9_isAgain ∈ wsL_law := mr_22 _ (List.mem_of_getElem? (i := 6) rfl)
theorem wd_22_7 : Cond.instanceMethod yX9_isAgain ∈ wsL_law := mr_22 _ (List.mem_of_getElem? (i := 7) rfl)
theorem wd_22_8 : Cond.selects RX9 yX9_isAgain yX9_isAgain ∈ wsL_law := mr_22 _ (List.mem_of_getElem? (i := 8) rfl)
theorem wd_22_9 : Cond.code yX9_isAgain cX9_isAgain 2 (some .boolean) ∈ wsL_law := mr_22 _ (List.mem_of_getElem? (i := 9) rfl)
theorem wd_22_10 : Cond.methodLink RX9 123 yX9_isGoneBy ∈ wsL_law := mr_22 _ (List.mem_of_getElem? (i := 10) rfl)
theorem wd_22_11 : Cond.instanceMethod yX9_isGoneBy ∈ wsL_law := mr_22 _ (List.mem_of_getElem? (i := 11) rfl)
theorem wd_22_12 : Cond.selects RX9 yX9_isGoneBy yX9_isGoneBy ∈ wsL_law := mr_22 _ (List.mem_of_getElem? (i := 12) rfl)
theorem wd_22_13 : Cond.code yX9_isGoneBy cX9_isGoneBy 2 (some .boolean) ∈ wsL_law := mr_22 _ (List.mem_of_getElem? (i := 13) rfl)
theorem wd_22_14 : Cond.methodLink RX9 120 yX9_goesBack ∈ wsL_law := mr_22 _ (List.mem_of_getElem? (i := 14) rfl)
theorem wd_22_15 : Cond.instanceMethod yX9_goesBack ∈ wsL_law := mr_22 _ (List.mem_of_getElem? (i := 15) rfl)
theorem wd_22_16 : Cond.selects RX9 yX9_goesBack yX9_goesBack ∈ wsL_law := mr_22 _ (List.mem_of_getElem? (i := 16) rfl)
theorem wd_22_17 : Cond.code yX9_goesBack cX9_goesBack 2 (some .boolean) ∈ wsL_law := mr_22 _ (List.mem_of_getElem? (i := 17) rfl)
theorem wd_22_19 : Cond.instanceMethod yX8_gather ∈ wsL_law := mr_22 _ (List.mem_of_getElem? (i := 19) rfl)
theorem wd_22_20 : Cond.selects RX8 yX8_gather yX8_gather ∈ wsL_law := mr_22 _ (List.mem_of_getElem? (i := 20) rfl)
theorem wd_22_21 : Cond.code yX8_gather cX8_gather 3 (some .int) ∈ wsL_law := mr_22 _ (List.mem_of_getElem? (i := 21) rfl)
theorem wd_22_22 : Cond.fieldLink RX8 112 "ZigzagLines$World" "actors" "[LZigzagLines$Actor;" ∈ wsL_law := mr_22 _ (List.mem_of_getElem? (i := 22) rfl)
theorem wd_22_23 : Cond.methodLink RX8 109 yX7_allProcesses ∈ wsL_law := mr_22 _ (List.mem_of_getElem? (i := 23) rfl)
theorem wd_23_0 : Cond.methodLink RX8 116 yX0_free ∈ wsL_law := mr_23 _ (List.mem_of_getElem? (i := 0) rfl)
theorem wd_23_1 : Cond.instanceMethod yX0_free ∈ wsL_law := mr_23 _ (List.mem_of_getElem? (i := 1) rfl)
theorem wd_23_2 : Cond.selects RX0 yX0_free yX0_free ∈ wsL_law := mr_23 _ (List.mem_of_getElem? (i := 2) rfl)
theorem wd_23_3 : Cond.code yX0_free cX0_free 4 (some .int) ∈ wsL_law := mr_23 _ (List.mem_of_getElem? (i := 3) rfl)
theorem wd_23_5 : Cond.instanceMethod yX9_gather ∈ wsL_law := mr_23 _ (List.mem_of_getElem? (i := 5) rfl)
theorem wd_23_6 : Cond.selects RX9 yX9_gather yX9_gather ∈ wsL_law := mr_23 _ (List.mem_of_getElem? (i := 6) rfl)
theorem wd_23_7 : Cond.code yX9_gather cX9_gather 4 (some .int) ∈ wsL_law := mr_23 _ (List.mem_of_getElem? (i := 7) rfl)
theorem wd_23_9 : Cond.instanceMethod yX8_drive ∈ wsL_law := mr_23 _ (List.mem_of_getElem? (i := 9) rfl)
theorem wd_23_10 : Cond.selects RX8 yX8_drive yX8_drive ∈ wsL_law := mr_23 _ (List.mem_of_getElem? (i := 10) rfl)
theorem wd_23_11 : Cond.code yX8_drive cX8_drive 7 (some .int) ∈ wsL_law := mr_23 _ (List.mem_of_getElem? (i := 11) rfl)
theorem wd_23_12 : Cond.constantLong RX8 121 (7919) ∈ wsL_law := mr_23 _ (List.mem_of_getElem? (i := 12) rfl)
theorem wd_23_13 : Cond.constantLong RX8 123 (6151) ∈ wsL_law := mr_23 _ (List.mem_of_getElem? (i := 13) rfl)
theorem wd_23_14 : Cond.constantLong RX8 125 (65521) ∈ wsL_law := mr_23 _ (List.mem_of_getElem? (i := 14) rfl)
theorem wd_23_15 : Cond.methodLink RX8 127 yX7_doDrawn ∈ wsL_law := mr_23 _ (List.mem_of_getElem? (i := 15) rfl)
theorem wd_23_16 : Cond.instanceMethod yX7_doDrawn ∈ wsL_law := mr_23 _ (List.mem_of_getElem? (i := 16) rfl)
theorem wd_23_17 : Cond.selects RX7 yX7_doDrawn yX7_doDrawn ∈ wsL_law := mr_23 _ (List.mem_of_getElem? (i := 17) rfl)
theorem wd_23_18 : Cond.code yX7_doDrawn cX7_doDrawn 5 (some .boolean) ∈ wsL_law := mr_23 _ (List.mem_of_getElem? (i := 18) rfl)
theorem wd_23_19 : Cond.methodLink RX7 145 yX7_keepState ∈ wsL_law := mr_23 _ (List.mem_of_getElem? (i := 19) rfl)
theorem wd_23_20 : Cond.methodLink RX7 147 yX7_take ∈ wsL_law := mr_23 _ (List.mem_of_getElem? (i := 20) rfl)
theorem wd_23_21 : Cond.methodLink RX7 150 yX7_post ∈ wsL_law := mr_23 _ (List.mem_of_getElem? (i := 21) rfl)
theorem wd_23_23 : Cond.instanceMethod yX9_drive ∈ wsL_law := mr_23 _ (List.mem_of_getElem? (i := 23) rfl)
theorem wd_24_0 : Cond.selects RX9 yX9_drive yX9_drive ∈ wsL_law := mr_24 _ (List.mem_of_getElem? (i := 0) rfl)
theorem wd_24_1 : Cond.code yX9_drive cX9_drive 10 (some .int) ∈ wsL_law := mr_24 _ (List.mem_of_getElem? (i := 1) rfl)
theorem wd_24_2 : Cond.constantLong RX9 136 (7919) ∈ wsL_law := mr_24 _ (List.mem_of_getElem? (i := 2) rfl)
theorem wd_24_3 : Cond.constantLong RX9 138 (6151) ∈ wsL_law := mr_24 _ (List.mem_of_getElem? (i := 3) rfl)
theorem wd_24_4 : Cond.constantLong RX9 140 (65521) ∈ wsL_law := mr_24 _ (List.mem_of_getElem? (i := 4) rfl)
theorem wd_24_6 : Cond.instanceMethod yX8_process ∈ wsL_law := mr_24 _ (List.mem_of_getElem? (i := 6) rfl)
theorem wd_24_7 : Cond.selects RX8 yX8_process yX8_process ∈ wsL_law := mr_24 _ (List.mem_of_getElem? (i := 7) rfl)
theorem wd_24_8 : Cond.code yX8_process cX8_process 4 (some .int) ∈ wsL_law := mr_24 _ (List.mem_of_getElem? (i := 8) rfl)
theorem wd_24_9 : Cond.fieldLink RX8 133 "ZigzagLines$Actor" "kept" "I" ∈ wsL_law := mr_24 _ (List.mem_of_getElem? (i := 9) rfl)
theorem wd_24_10 : Cond.fieldLink RX8 136 "ZigzagLines$Actor" "mark" "I" ∈ wsL_law := mr_24 _ (List.mem_of_getElem? (i := 10) rfl)
theorem wd_24_11 : Cond.methodLink RX8 130 yX7_isProcess ∈ wsL_law := mr_24 _ (List.mem_of_getElem? (i := 11) rfl)
theorem wd_24_12 : Cond.methodLink RX8 139 yX0_countForced ∈ wsL_law := mr_24 _ (List.mem_of_getElem? (i := 12) rfl)
theorem wd_24_13 : Cond.instanceMethod yX0_countForced ∈ wsL_law := mr_24 _ (List.mem_of_getElem? (i := 13) rfl)
theorem wd_24_14 : Cond.selects RX0 yX0_countForced yX0_countForced ∈ wsL_law := mr_24 _ (List.mem_of_getElem? (i := 14) rfl)
theorem wd_24_15 : Cond.code yX0_countForced cX0_countForced 1 (some .int) ∈ wsL_law := mr_24 _ (List.mem_of_getElem? (i := 15) rfl)
theorem wd_24_16 : Cond.methodLink RX0 54 yX0_countTrue ∈ wsL_law := mr_24 _ (List.mem_of_getElem? (i := 16) rfl)
theorem wd_24_17 : Cond.instanceMethod yX0_countTrue ∈ wsL_law := mr_24 _ (List.mem_of_getElem? (i := 17) rfl)
theorem wd_24_18 : Cond.selects RX0 yX0_countTrue yX0_countTrue ∈ wsL_law := mr_24 _ (List.mem_of_getElem? (i := 18) rfl)
theorem wd_24_19 : Cond.code yX0_countTrue cX0_countTrue 4 (some .int) ∈ wsL_law := mr_24 _ (List.mem_of_getElem? (i := 19) rfl)
theorem wd_24_20 : Cond.methodLink RX8 142 yX0_countFreed ∈ wsL_law := mr_24 _ (List.mem_of_getElem? (i := 20) rfl)
theorem wd_24_21 : Cond.instanceMethod yX0_countFreed ∈ wsL_law := mr_24 _ (List.mem_of_getElem? (i := 21) rfl)
theorem wd_24_22 : Cond.selects RX0 yX0_countFreed yX0_countFreed ∈ wsL_law := mr_24 _ (List.mem_of_getElem? (i := 22) rfl)
theorem wd_24_23 : Cond.code yX0_countFreed cX0_countFreed 1 (some .int) ∈ wsL_law := mr_24 _ (List.mem_of_getElem? (i := 23) rfl)
theorem wd_25_0 : Cond.methodLink RX8 145 yX8_countIdle ∈ wsL_law := mr_25 _ (List.mem_of_getElem? (i := 0) rfl)
theorem wd_25_1 : Cond.instanceMethod yX8_countIdle ∈ wsL_law := mr_25 _ (List.mem_of_getElem? (i := 1) rfl)
theorem wd_25_2 : Cond.selects RX8 yX8_countIdle yX8_countIdle ∈ wsL_law := mr_25 _ (List.mem_of_getElem? (i := 2) rfl)
theorem wd_25_3 : Cond.code yX8_countIdle cX8_countIdle 4 (some .int) ∈ wsL_law := mr_25 _ (List.mem_of_getElem? (i := 3) rfl)
theorem wd_25_4 : Cond.methodLink RX8 176 yX8_isIdle ∈ wsL_law := mr_25 _ (List.mem_of_getElem? (i := 4) rfl)
theorem wd_25_5 : Cond.instanceMethod yX8_isIdle ∈ wsL_law := mr_25 _ (List.mem_of_getElem? (i := 5) rfl)
theorem wd_25_6 : Cond.selects RX8 yX8_isIdle yX8_isIdle ∈ wsL_law := mr_25 _ (List.mem_of_getElem? (i := 6) rfl)
theorem wd_25_7 : Cond.code yX8_isIdle cX8_isIdle 3 (some .boolean) ∈ wsL_law := mr_25 _ (List.mem_of_getElem? (i := 7) rfl)
theorem wd_25_8 : Cond.methodLink RX8 214 yX6_fewest ∈ wsL_law := mr_25 _ (List.mem_of_getElem? (i := 8) rfl)
theorem wd_25_9 : Cond.instanceMethod yX6_fewest ∈ wsL_law := mr_25 _ (List.mem_of_getElem? (i := 9) rfl)
theorem wd_25_10 : Cond.selects RX6 yX6_fewest yX6_fewest ∈ wsL_law := mr_25 _ (List.mem_of_getElem? (i := 10) rfl)
theorem wd_25_11 : Cond.code yX6_fewest cX6_fewest 11 (some .int) ∈ wsL_law := mr_25 _ (List.mem_of_getElem? (i := 11) rfl)
theorem wd_25_12 : Cond.fieldLink RX6 18 "ZigzagLines$World" "actors" "[LZigzagLines$Actor;" ∈ wsL_law := mr_25 _ (List.mem_of_getElem? (i := 12) rfl)
theorem wd_25_13 : Cond.fieldLink RX6 24 "ZigzagLines$Actor" "kept" "I" ∈ wsL_law := mr_25 _ (List.mem_of_getElem? (i := 13) rfl)
theorem wd_25_14 : Cond.constant RX6 30 (2147483647) ∈ wsL_law := mr_25 _ (List.mem_of_getElem? (i := 14) rfl)
theorem wd_25_15 : Cond.fieldLink RX6 31 "ZigzagLines$Actor" "keptAt" "[I" ∈ wsL_law := mr_25 _ (List.mem_of_getElem? (i := 15) rfl)
theorem wd_25_16 : Cond.methodLink RX6 34 arraycopyName ∈ wsL_law := mr_25 _ (List.mem_of_getElem? (i := 16) rfl)
theorem wd_25_17 : Cond.fieldLink RX6 40 "ZigzagLines$World" "messages" "I" ∈ wsL_law := mr_25 _ (List.mem_of_getElem? (i := 17) rfl)
theorem wd_25_18 : Cond.fieldLink RX6 43 "ZigzagLines$World" "mail" "[LZigzagLines$Message;" ∈ wsL_law := mr_25 _ (List.mem_of_getElem? (i := 18) rfl)
theorem wd_25_19 : Cond.fieldLink RX6 47 "ZigzagLines$Message" "stage" "I" ∈ wsL_law := mr_25 _ (List.mem_of_getElem? (i := 19) rfl)
theorem wd_25_20 : Cond.fieldLink RX6 56 "ZigzagLines$Message" "receiver" "I" ∈ wsL_law := mr_25 _ (List.mem_of_getElem? (i := 20) rfl)
theorem wd_25_21 : Cond.fieldLink RX6 59 "ZigzagLines$Message" "receivedIn" "I" ∈ wsL_law := mr_25 _ (List.mem_of_getElem? (i := 21) rfl)
theorem wd_25_22 : Cond.methodLink RX6 52 yX6_isReached ∈ wsL_law := mr_25 _ (List.mem_of_getElem? (i := 22) rfl)
theorem wd_25_23 : Cond.instanceMethod yX6_isReached ∈ wsL_law := mr_25 _ (List.mem_of_getElem? (i := 23) rfl)
theorem wd_26_0 : Cond.selects RX6 yX6_isReached yX6_isReached ∈ wsL_law := mr_26 _ (List.mem_of_getElem? (i := 0) rfl)
theorem wd_26_1 : Cond.code yX6_isReached cX6_isReached 3 (some .boolean) ∈ wsL_law := mr_26 _ (List.mem_of_getElem? (i := 1) rfl)
theorem wd_26_2 : Cond.fieldLink RX6 65 "ZigzagLines$Message" "sentAt" "I" ∈ wsL_law := mr_26 _ (List.mem_of_getElem? (i := 2) rfl)
theorem wd_26_3 : Cond.fieldLink RX6 68 "ZigzagLines$Message" "sentIn" "I" ∈ wsL_law := mr_26 _ (List.mem_of_getElem? (i := 3) rfl)
theorem wd_26_4 : Cond.fieldLink RX6 71 "ZigzagLines$Message" "sender" "I" ∈ wsL_law := mr_26 _ (List.mem_of_getElem? (i := 4) rfl)
theorem wd_26_5 : Cond.methodLink RX6 62 yX6_reach ∈ wsL_law := mr_26 _ (List.mem_of_getElem? (i := 5) rfl)
theorem wd_26_6 : Cond.instanceMethod yX6_reach ∈ wsL_law := mr_26 _ (List.mem_of_getElem? (i := 6) rfl)
theorem wd_26_7 : Cond.selects RX6 yX6_reach yX6_reach ∈ wsL_law := mr_26 _ (List.mem_of_getElem? (i := 7) rfl)
theorem wd_26_8 : Cond.code yX6_reach cX6_reach 4 (some .boolean) ∈ wsL_law := mr_26 _ (List.mem_of_getElem? (i := 8) rfl)
theorem wd_26_9 : Cond.fieldLink RX6 74 "ZigzagLines$Message" "receivedAt" "I" ∈ wsL_law := mr_26 _ (List.mem_of_getElem? (i := 9) rfl)
theorem wd_26_10 : Cond.methodLink RX8 148 yX2_countNeeded ∈ wsL_law := mr_26 _ (List.mem_of_getElem? (i := 10) rfl)
theorem wd_26_11 : Cond.instanceMethod yX2_countNeeded ∈ wsL_law := mr_26 _ (List.mem_of_getElem? (i := 11) rfl)
theorem wd_26_12 : Cond.selects RX2 yX2_countNeeded yX2_countNeeded ∈ wsL_law := mr_26 _ (List.mem_of_getElem? (i := 12) rfl)
theorem wd_26_13 : Cond.code yX2_countNeeded cX2_countNeeded 6 (some .int) ∈ wsL_law := mr_26 _ (List.mem_of_getElem? (i := 13) rfl)
theorem wd_26_14 : Cond.methodLink RX2 99 yX2_findNeeded ∈ wsL_law := mr_26 _ (List.mem_of_getElem? (i := 14) rfl)
theorem wd_26_15 : Cond.instanceMethod yX2_findNeeded ∈ wsL_law := mr_26 _ (List.mem_of_getElem? (i := 15) rfl)
theorem wd_26_16 : Cond.selects RX2 yX2_findNeeded yX2_findNeeded ∈ wsL_law := mr_26 _ (List.mem_of_getElem? (i := 16) rfl)
theorem wd_26_17 : Cond.code yX2_findNeeded cX2_findNeeded 4 none ∈ wsL_law := mr_26 _ (List.mem_of_getElem? (i := 17) rfl)
theorem wd_26_18 : Cond.methodLink RX2 108 yX7_allProcesses ∈ wsL_law := mr_26 _ (List.mem_of_getElem? (i := 18) rfl)
theorem wd_26_19 : Cond.methodLink RX2 112 yX2_findFailing ∈ wsL_law := mr_26 _ (List.mem_of_getElem? (i := 19) rfl)
theorem wd_26_20 : Cond.methodLink RX2 102 yJ6_bitCount_0f7a4 ∈ wsL_law := mr_26 _ (List.mem_of_getElem? (i := 20) rfl)
theorem wd_26_21 : Cond.static yJ6_bitCount_0f7a4 ∈ wsL_law := mr_26 _ (List.mem_of_getElem? (i := 21) rfl)
theorem wd_26_22 : Cond.initialized RJ6 ∈ wsL_law := mr_26 _ (List.mem_of_getElem? (i := 22) rfl)
theorem wd_26_23 : Cond.code yJ6_bitCount_0f7a4 cJ6_bitCount_0f7a4 1 (some .int) ∈ wsL_law := mr_26 _ (List.mem_of_getElem? (i := 23) rfl)
theorem wd_27_0 : Cond.constant RJ6 265 (1431655765) ∈ wsL_law := mr_27 _ (List.mem_of_getElem? (i := 0) rfl)
theorem wd_27_1 : Cond.constant RJ6 266 (858993459) ∈ wsL_law := mr_27 _ (List.mem_of_getElem? (i := 1) rfl)
theorem wd_27_2 : Cond.constant RJ6 267 (252645135) ∈ wsL_law := mr_27 _ (List.mem_of_getElem? (i := 2) rfl)
theorem wd_27_3 : Cond.methodLink RX8 152 yX7_countSentNow ∈ wsL_law := mr_27 _ (List.mem_of_getElem? (i := 3) rfl)
theorem wd_27_5 : Cond.instanceMethod yX9_process ∈ wsL_law := mr_27 _ (List.mem_of_getElem? (i := 5) rfl)
theorem wd_27_6 : Cond.selects RX9 yX9_process yX9_process ∈ wsL_law := mr_27 _ (List.mem_of_getElem? (i := 6) rfl)
theorem wd_27_7 : Cond.code yX9_process cX9_process 3 (some .int) ∈ wsL_law := mr_27 _ (List.mem_of_getElem? (i := 7) rfl)
theorem wd_27_8 : Cond.methodLink RX9 155 yX9_savedThat ∈ wsL_law := mr_27 _ (List.mem_of_getElem? (i := 8) rfl)
theorem wd_27_9 : Cond.instanceMethod yX9_savedThat ∈ wsL_law := mr_27 _ (List.mem_of_getElem? (i := 9) rfl)
theorem wd_27_10 : Cond.selects RX9 yX9_savedThat yX9_savedThat ∈ wsL_law := mr_27 _ (List.mem_of_getElem? (i := 10) rfl)
theorem wd_27_11 : Cond.code yX9_savedThat cX9_savedThat 5 (some .int) ∈ wsL_law := mr_27 _ (List.mem_of_getElem? (i := 11) rfl)
theorem wd_27_12 : Cond.methodLink RX9 149 yX9_idle ∈ wsL_law := mr_27 _ (List.mem_of_getElem? (i := 12) rfl)
theorem wd_27_13 : Cond.instanceMethod yX9_idle ∈ wsL_law := mr_27 _ (List.mem_of_getElem? (i := 13) rfl)
theorem wd_27_14 : Cond.selects RX9 yX9_idle yX9_idle ∈ wsL_law := mr_27 _ (List.mem_of_getElem? (i := 14) rfl)
theorem wd_27_15 : Cond.code yX9_idle cX9_idle 3 (some .int) ∈ wsL_law := mr_27 _ (List.mem_of_getElem? (i := 15) rfl)
theorem wd_27_16 : Cond.methodLink RX9 145 yX9_fewest ∈ wsL_law := mr_27 _ (List.mem_of_getElem? (i := 16) rfl)
theorem wd_27_17 : Cond.instanceMethod yX9_fewest ∈ wsL_law := mr_27 _ (List.mem_of_getElem? (i := 17) rfl)
theorem wd_27_18 : Cond.selects RX9 yX9_fewest yX9_fewest ∈ wsL_law := mr_27 _ (List.mem_of_getElem? (i := 18) rfl)
theorem wd_27_19 : Cond.code yX9_fewest cX9_fewest 10 (some .int) ∈ wsL_law := mr_27 _ (List.mem_of_getElem? (i := 19) rfl)
theorem wd_27_20 : Cond.methodLink RX9 152 yX9_needed ∈ wsL_law := mr_27 _ (List.mem_of_getElem? (i := 20) rfl)
theorem wd_27_21 : Cond.instanceMethod yX9_needed ∈ wsL_law := mr_27 _ (List.mem_of_getElem? (i := 21) rfl)
theorem wd_27_22 : Cond.selects RX9 yX9_needed yX9_needed ∈ wsL_law := mr_27 _ (List.mem_of_getElem? (i := 22) rfl)
theorem wd_27_23 : Cond.code yX9_needed cX9_needed 4 (some .int) ∈ wsL_law := mr_27 _ (List.mem_of_getElem? (i := 23) rfl)
theorem wd_28_1 : Cond.instanceMethod yX8_knows ∈ wsL_law := mr_28 _ (List.mem_of_getElem? (i := 1) rfl)
theorem wd_28_2 : Cond.selects RX8 yX8_knows yX8_knows ∈ wsL_law := mr_28 _ (List.mem_of_getElem? (i := 2) rfl)
theorem wd_28_3 : Cond.code yX8_knows cX8_knows 5 (some .int) ∈ wsL_law := mr_28 _ (List.mem_of_getElem? (i := 3) rfl)
theorem wd_28_4 : Cond.methodLink RX8 155 yX7_isState ∈ wsL_law := mr_28 _ (List.mem_of_getElem? (i := 4) rfl)
theorem wd_28_5 : Cond.instanceMethod yX7_isState ∈ wsL_law := mr_28 _ (List.mem_of_getElem? (i := 5) rfl)
theorem wd_28_6 : Cond.selects RX7 yX7_isState yX7_isState ∈ wsL_law := mr_28 _ (List.mem_of_getElem? (i := 6) rfl)
theorem wd_28_7 : Cond.code yX7_isState cX7_isState 3 (some .boolean) ∈ wsL_law := mr_28 _ (List.mem_of_getElem? (i := 7) rfl)
theorem wd_28_8 : Cond.methodLink RX8 159 yX0_knownAt ∈ wsL_law := mr_28 _ (List.mem_of_getElem? (i := 8) rfl)
theorem wd_28_9 : Cond.instanceMethod yX0_knownAt ∈ wsL_law := mr_28 _ (List.mem_of_getElem? (i := 9) rfl)
theorem wd_28_10 : Cond.selects RX0 yX0_knownAt yX0_knownAt ∈ wsL_law := mr_28 _ (List.mem_of_getElem? (i := 10) rfl)
theorem wd_28_11 : Cond.code yX0_knownAt cX0_knownAt 3 (some .int) ∈ wsL_law := mr_28 _ (List.mem_of_getElem? (i := 11) rfl)
theorem wd_28_13 : Cond.instanceMethod yX9_knows ∈ wsL_law := mr_28 _ (List.mem_of_getElem? (i := 13) rfl)
theorem wd_28_14 : Cond.selects RX9 yX9_knows yX9_knows ∈ wsL_law := mr_28 _ (List.mem_of_getElem? (i := 14) rfl)
theorem wd_28_15 : Cond.code yX9_knows cX9_knows 4 (some .int) ∈ wsL_law := mr_28 _ (List.mem_of_getElem? (i := 15) rfl)
theorem wd_28_16 : Cond.methodLink RX9 142 yX9_isState ∈ wsL_law := mr_28 _ (List.mem_of_getElem? (i := 16) rfl)
theorem wd_28_17 : Cond.instanceMethod yX9_isState ∈ wsL_law := mr_28 _ (List.mem_of_getElem? (i := 17) rfl)
theorem wd_28_18 : Cond.selects RX9 yX9_isState yX9_isState ∈ wsL_law := mr_28 _ (List.mem_of_getElem? (i := 18) rfl)
theorem wd_28_19 : Cond.code yX9_isState cX9_isState 3 (some .boolean) ∈ wsL_law := mr_28 _ (List.mem_of_getElem? (i := 19) rfl)
theorem wd_28_21 : Cond.instanceMethod yX8_saved ∈ wsL_law := mr_28 _ (List.mem_of_getElem? (i := 21) rfl)
theorem wd_28_22 : Cond.selects RX8 yX8_saved yX8_saved ∈ wsL_law := mr_28 _ (List.mem_of_getElem? (i := 22) rfl)
theorem wd_28_23 : Cond.code yX8_saved cX8_saved 5 (some .int) ∈ wsL_law := mr_28 _ (List.mem_of_getElem? (i := 23) rfl)
theorem wd_29_0 : Cond.fieldLink RX8 162 "ZigzagLines$Actor" "keptMark" "[I" ∈ wsL_law := mr_29 _ (List.mem_of_getElem? (i := 0) rfl)
theorem wd_29_1 : Cond.fieldLink RX8 165 "ZigzagLines$Actor" "forced" "[Z" ∈ wsL_law := mr_29 _ (List.mem_of_getElem? (i := 1) rfl)
theorem wd_29_2 : Cond.fieldLink RX8 173 "ZigzagLines$Actor" "freed" "[Z" ∈ wsL_law := mr_29 _ (List.mem_of_getElem? (i := 2) rfl)
theorem wd_29_3 : Cond.methodLink RX8 169 yX8_oneIf ∈ wsL_law := mr_29 _ (List.mem_of_getElem? (i := 3) rfl)
theorem wd_29_4 : Cond.methodLink RX8 179 yX2_isNeeded ∈ wsL_law := mr_29 _ (List.mem_of_getElem? (i := 4) rfl)
theorem wd_29_5 : Cond.instanceMethod yX2_isNeeded ∈ wsL_law := mr_29 _ (List.mem_of_getElem? (i := 5) rfl)
theorem wd_29_6 : Cond.selects RX2 yX2_isNeeded yX2_isNeeded ∈ wsL_law := mr_29 _ (List.mem_of_getElem? (i := 6) rfl)
theorem wd_29_7 : Cond.code yX2_isNeeded cX2_isNeeded 4 (some .boolean) ∈ wsL_law := mr_29 _ (List.mem_of_getElem? (i := 7) rfl)
theorem wd_29_9 : Cond.instanceMethod yX9_saved ∈ wsL_law := mr_29 _ (List.mem_of_getElem? (i := 9) rfl)
theorem wd_29_10 : Cond.selects RX9 yX9_saved yX9_saved ∈ wsL_law := mr_29 _ (List.mem_of_getElem? (i := 10) rfl)
theorem wd_29_11 : Cond.code yX9_saved cX9_saved 4 (some .int) ∈ wsL_law := mr_29 _ (List.mem_of_getElem? (i := 11) rfl)
theorem wd_29_13 : Cond.instanceMethod yX8_message ∈ wsL_law := mr_29 _ (List.mem_of_getElem? (i := 13) rfl)
theorem wd_29_14 : Cond.selects RX8 yX8_message yX8_message ∈ wsL_law := mr_29 _ (List.mem_of_getElem? (i := 14) rfl)
theorem wd_29_15 : Cond.code yX8_message cX8_message 4 (some .int) ∈ wsL_law := mr_29 _ (List.mem_of_getElem? (i := 15) rfl)
theorem wd_29_16 : Cond.fieldLink RX8 186 "ZigzagLines$World" "mail" "[LZigzagLines$Message;" ∈ wsL_law := mr_29 _ (List.mem_of_getElem? (i := 16) rfl)
theorem wd_29_17 : Cond.fieldLink RX8 190 "ZigzagLines$Message" "sender" "I" ∈ wsL_law := mr_29 _ (List.mem_of_getElem? (i := 17) rfl)
theorem wd_29_18 : Cond.fieldLink RX8 195 "ZigzagLines$Message" "receiver" "I" ∈ wsL_law := mr_29 _ (List.mem_of_getElem? (i := 18) rfl)
theorem wd_29_19 : Cond.fieldLink RX8 198 "ZigzagLines$Message" "sentIn" "I" ∈ wsL_law := mr_29 _ (List.mem_of_getElem? (i := 19) rfl)
theorem wd_29_20 : Cond.fieldLink RX8 201 "ZigzagLines$Message" "stage" "I" ∈ wsL_law := mr_29 _ (List.mem_of_getElem? (i := 20) rfl)
theorem wd_29_21 : Cond.fieldLink RX8 204 "ZigzagLines$Message" "receivedIn" "I" ∈ wsL_law := mr_29 _ (List.mem_of_getElem? (i := 21) rfl)
theorem wd_29_22 : Cond.fieldLink RX8 207 "ZigzagLines$Message" "mark" "I" ∈ wsL_law := mr_29 _ (List.mem_of_getElem? (i := 22) rfl)
theorem wd_29_23 : Cond.methodLink RX8 183 yX7_isMessage ∈ wsL_law := mr_29 _ (List.mem_of_getElem? (i := 23) rfl)
theorem wd_30_1 : Cond.instanceMethod yX9_message ∈ wsL_law := mr_30 _ (List.mem_of_getElem? (i := 1) rfl)
theorem wd_30_2 : Cond.selects RX9 yX9_message yX9_message ∈ wsL_law := mr_30 _ (List.mem_of_getElem? (i := 2) rfl)
theorem wd_30_3 : Cond.code yX9_message cX9_message 3 (some .int) ∈ wsL_law := mr_30 _ (List.mem_of_getElem? (i := 3) rfl)
theorem wd_30_5 : Cond.instanceMethod yX8_underway ∈ wsL_law := mr_30 _ (List.mem_of_getElem? (i := 5) rfl)
theorem wd_30_6 : Cond.selects RX8 yX8_underway yX8_underway ∈ wsL_law := mr_30 _ (List.mem_of_getElem? (i := 6) rfl)
theorem wd_30_7 : Cond.code yX8_underway cX8_underway 2 (some .int) ∈ wsL_law := mr_30 _ (List.mem_of_getElem? (i := 7) rfl)
theorem wd_30_8 : Cond.fieldLink RX8 208 "ZigzagLines$World" "waiting" "I" ∈ wsL_law := mr_30 _ (List.mem_of_getElem? (i := 8) rfl)
theorem wd_30_9 : Cond.fieldLink RX8 211 "ZigzagLines$World" "queue" "[I" ∈ wsL_law := mr_30 _ (List.mem_of_getElem? (i := 9) rfl)
theorem wd_30_11 : Cond.instanceMethod yX9_underway ∈ wsL_law := mr_30 _ (List.mem_of_getElem? (i := 11) rfl)
theorem wd_30_12 : Cond.selects RX9 yX9_underway yX9_underway ∈ wsL_law := mr_30 _ (List.mem_of_getElem? (i := 12) rfl)
theorem wd_30_13 : Cond.code yX9_underway cX9_underway 2 (some .int) ∈ wsL_law := mr_30 _ (List.mem_of_getElem? (i := 13) rfl)
theorem wd_30_15 : Cond.instanceMethod yX8_way ∈ wsL_law := mr_30 _ (List.mem_of_getElem? (i := 15) rfl)
theorem wd_30_16 : Cond.selects RX8 yX8_way yX8_way ∈ wsL_law := mr_30 _ (List.mem_of_getElem? (i := 16) rfl)
theorem wd_30_17 : Cond.code yX8_way cX8_way 5 (some .int) ∈ wsL_law := mr_30 _ (List.mem_of_getElem? (i := 17) rfl)
theorem wd_30_19 : Cond.instanceMethod yX9_way ∈ wsL_law := mr_30 _ (List.mem_of_getElem? (i := 19) rfl)
theorem wd_30_20 : Cond.selects RX9 yX9_way yX9_way ∈ wsL_law := mr_30 _ (List.mem_of_getElem? (i := 20) rfl)
theorem wd_30_21 : Cond.code yX9_way cX9_way 5 (some .int) ∈ wsL_law := mr_30 _ (List.mem_of_getElem? (i := 21) rfl)
theorem wd_30_23 : Cond.instanceMethod yX8_cause ∈ wsL_law := mr_30 _ (List.mem_of_getElem? (i := 23) rfl)
theorem wd_31_0 : Cond.selects RX8 yX8_cause yX8_cause ∈ wsL_law := mr_31 _ (List.mem_of_getElem? (i := 0) rfl)
theorem wd_31_1 : Cond.code yX8_cause cX8_cause 5 (some .int) ∈ wsL_law := mr_31 _ (List.mem_of_getElem? (i := 1) rfl)
theorem wd_31_3 : Cond.instanceMethod yX9_cause ∈ wsL_law := mr_31 _ (List.mem_of_getElem? (i := 3) rfl)
theorem wd_31_4 : Cond.selects RX9 yX9_cause yX9_cause ∈ wsL_law := mr_31 _ (List.mem_of_getElem? (i := 4) rfl)
theorem wd_31_5 : Cond.code yX9_cause cX9_cause 5 (some .int) ∈ wsL_law := mr_31 _ (List.mem_of_getElem? (i := 5) rfl)
theorem wd_31_7 : Cond.instanceMethod yX8_line ∈ wsL_law := mr_31 _ (List.mem_of_getElem? (i := 7) rfl)
theorem wd_31_8 : Cond.selects RX8 yX8_line yX8_line ∈ wsL_law := mr_31 _ (List.mem_of_getElem? (i := 8) rfl)
theorem wd_31_9 : Cond.code yX8_line cX8_line 3 (some .int) ∈ wsL_law := mr_31 _ (List.mem_of_getElem? (i := 9) rfl)
theorem wd_31_11 : Cond.instanceMethod yX9_line ∈ wsL_law := mr_31 _ (List.mem_of_getElem? (i := 11) rfl)
theorem wd_31_12 : Cond.selects RX9 yX9_line yX9_line ∈ wsL_law := mr_31 _ (List.mem_of_getElem? (i := 12) rfl)
theorem wd_31_13 : Cond.code yX9_line cX9_line 3 (some .int) ∈ wsL_law := mr_31 _ (List.mem_of_getElem? (i := 13) rfl)
theorem wd_31_15 : Cond.instanceMethod yX8_back ∈ wsL_law := mr_31 _ (List.mem_of_getElem? (i := 15) rfl)
theorem wd_31_16 : Cond.selects RX8 yX8_back yX8_back ∈ wsL_law := mr_31 _ (List.mem_of_getElem? (i := 16) rfl)
theorem wd_31_17 : Cond.code yX8_back cX8_back 3 (some .int) ∈ wsL_law := mr_31 _ (List.mem_of_getElem? (i := 17) rfl)
theorem wd_31_18 : Cond.fieldLink RX8 218 "ZigzagLines$Lines" "rounds" "I" ∈ wsL_law := mr_31 _ (List.mem_of_getElem? (i := 18) rfl)
theorem wd_31_19 : Cond.methodLink RX8 221 yX7_countBehind ∈ wsL_law := mr_31 _ (List.mem_of_getElem? (i := 19) rfl)
theorem wd_31_20 : Cond.instanceMethod yX7_countBehind ∈ wsL_law := mr_31 _ (List.mem_of_getElem? (i := 20) rfl)
theorem wd_31_21 : Cond.selects RX7 yX7_countBehind yX7_countBehind ∈ wsL_law := mr_31 _ (List.mem_of_getElem? (i := 21) rfl)
theorem wd_31_22 : Cond.code yX7_countBehind cX7_countBehind 4 (some .int) ∈ wsL_law := mr_31 _ (List.mem_of_getElem? (i := 22) rfl)
theorem wd_31_23 : Cond.methodLink RX7 160 Lib.Math.max.name ∈ wsL_law := mr_31 _ (List.mem_of_getElem? (i := 23) rfl)
theorem wd_32_0 : Cond.methodLink RX8 224 yX7_countLost ∈ wsL_law := mr_32 _ (List.mem_of_getElem? (i := 0) rfl)
theorem wd_32_1 : Cond.instanceMethod yX7_countLost ∈ wsL_law := mr_32 _ (List.mem_of_getElem? (i := 1) rfl)
theorem wd_32_2 : Cond.selects RX7 yX7_countLost yX7_countLost ∈ wsL_law := mr_32 _ (List.mem_of_getElem? (i := 2) rfl)
theorem wd_32_3 : Cond.code yX7_countLost cX7_countLost 4 (some .int) ∈ wsL_law := mr_32 _ (List.mem_of_getElem? (i := 3) rfl)
theorem wd_32_4 : Cond.methodLink RX8 227 yX7_countAgain ∈ wsL_law := mr_32 _ (List.mem_of_getElem? (i := 4) rfl)
theorem wd_32_5 : Cond.instanceMethod yX7_countAgain ∈ wsL_law := mr_32 _ (List.mem_of_getElem? (i := 5) rfl)
theorem wd_32_6 : Cond.selects RX7 yX7_countAgain yX7_countAgain ∈ wsL_law := mr_32 _ (List.mem_of_getElem? (i := 6) rfl)
theorem wd_32_7 : Cond.code yX7_countAgain cX7_countAgain 4 (some .int) ∈ wsL_law := mr_32 _ (List.mem_of_getElem? (i := 7) rfl)
theorem wd_32_8 : Cond.methodLink RX8 230 yX7_someBeginAnew ∈ wsL_law := mr_32 _ (List.mem_of_getElem? (i := 8) rfl)
theorem wd_32_9 : Cond.instanceMethod yX7_someBeginAnew ∈ wsL_law := mr_32 _ (List.mem_of_getElem? (i := 9) rfl)
theorem wd_32_10 : Cond.selects RX7 yX7_someBeginAnew yX7_someBeginAnew ∈ wsL_law := mr_32 _ (List.mem_of_getElem? (i := 10) rfl)
theorem wd_32_11 : Cond.code yX7_someBeginAnew cX7_someBeginAnew 3 (some .boolean) ∈ wsL_law := mr_32 _ (List.mem_of_getElem? (i := 11) rfl)
theorem wd_32_13 : Cond.instanceMethod yX9_back ∈ wsL_law := mr_32 _ (List.mem_of_getElem? (i := 13) rfl)
theorem wd_32_14 : Cond.selects RX9 yX9_back yX9_back ∈ wsL_law := mr_32 _ (List.mem_of_getElem? (i := 14) rfl)
theorem wd_32_15 : Cond.code yX9_back cX9_back 8 (some .int) ∈ wsL_law := mr_32 _ (List.mem_of_getElem? (i := 15) rfl)
theorem wd_32_17 : Cond.instanceMethod yX8_pick ∈ wsL_law := mr_32 _ (List.mem_of_getElem? (i := 17) rfl)
theorem wd_32_18 : Cond.selects RX8 yX8_pick yX8_pick ∈ wsL_law := mr_32 _ (List.mem_of_getElem? (i := 18) rfl)
theorem wd_32_19 : Cond.code yX8_pick cX8_pick 3 (some .int) ∈ wsL_law := mr_32 _ (List.mem_of_getElem? (i := 19) rfl)
theorem wd_32_20 : Cond.fieldLink RX8 234 "ZigzagLines$Picks" "picked" "[I" ∈ wsL_law := mr_32 _ (List.mem_of_getElem? (i := 20) rfl)
theorem wd_32_21 : Cond.methodLink RX8 237 yX4_size ∈ wsL_law := mr_32 _ (List.mem_of_getElem? (i := 21) rfl)
theorem wd_32_23 : Cond.instanceMethod yX9_pick ∈ wsL_law := mr_32 _ (List.mem_of_getElem? (i := 23) rfl)
theorem wd_33_0 : Cond.selects RX9 yX9_pick yX9_pick ∈ wsL_law := mr_33 _ (List.mem_of_getElem? (i := 0) rfl)
theorem wd_33_1 : Cond.code yX9_pick cX9_pick 3 (some .int) ∈ wsL_law := mr_33 _ (List.mem_of_getElem? (i := 1) rfl)
theorem wd_33_3 : Cond.instanceMethod yX8_unpick ∈ wsL_law := mr_33 _ (List.mem_of_getElem? (i := 3) rfl)
theorem wd_33_4 : Cond.selects RX8 yX8_unpick yX8_unpick ∈ wsL_law := mr_33 _ (List.mem_of_getElem? (i := 4) rfl)
theorem wd_33_5 : Cond.code yX8_unpick cX8_unpick 1 (some .int) ∈ wsL_law := mr_33 _ (List.mem_of_getElem? (i := 5) rfl)
theorem wd_33_8 : Cond.instanceMethod yX8_through ∈ wsL_law := mr_33 _ (List.mem_of_getElem? (i := 8) rfl)
theorem wd_33_9 : Cond.selects RX8 yX8_through yX8_through ∈ wsL_law := mr_33 _ (List.mem_of_getElem? (i := 9) rfl)
theorem wd_33_10 : Cond.code yX8_through cX8_through 4 (some .int) ∈ wsL_law := mr_33 _ (List.mem_of_getElem? (i := 10) rfl)
theorem wd_33_11 : Cond.methodLink RX8 240 yX4_someAbove ∈ wsL_law := mr_33 _ (List.mem_of_getElem? (i := 11) rfl)
theorem wd_33_12 : Cond.instanceMethod yX4_someAbove ∈ wsL_law := mr_33 _ (List.mem_of_getElem? (i := 12) rfl)
theorem wd_33_13 : Cond.selects RX4 yX4_someAbove yX4_someAbove ∈ wsL_law := mr_33 _ (List.mem_of_getElem? (i := 13) rfl)
theorem wd_33_14 : Cond.code yX4_someAbove cX4_someAbove 3 (some .boolean) ∈ wsL_law := mr_33 _ (List.mem_of_getElem? (i := 14) rfl)
theorem wd_33_15 : Cond.fieldLink RX4 23 "ZigzagLines$World" "processes" "I" ∈ wsL_law := mr_33 _ (List.mem_of_getElem? (i := 15) rfl)
theorem wd_33_16 : Cond.fieldLink RX4 29 "ZigzagLines$World" "actors" "[LZigzagLines$Actor;" ∈ wsL_law := mr_33 _ (List.mem_of_getElem? (i := 16) rfl)
theorem wd_33_17 : Cond.fieldLink RX4 33 "ZigzagLines$Actor" "kept" "I" ∈ wsL_law := mr_33 _ (List.mem_of_getElem? (i := 17) rfl)
theorem wd_33_18 : Cond.methodLink RX8 244 yX2_findLeast ∈ wsL_law := mr_33 _ (List.mem_of_getElem? (i := 18) rfl)
theorem wd_33_19 : Cond.instanceMethod yX2_findLeast ∈ wsL_law := mr_33 _ (List.mem_of_getElem? (i := 19) rfl)
theorem wd_33_20 : Cond.selects RX2 yX2_findLeast yX2_findLeast ∈ wsL_law := mr_33 _ (List.mem_of_getElem? (i := 20) rfl)
theorem wd_33_21 : Cond.code yX2_findLeast cX2_findLeast 4 (some .boolean) ∈ wsL_law := mr_33 _ (List.mem_of_getElem? (i := 21) rfl)
theorem wd_33_22 : Cond.fieldLink RX2 84 "ZigzagLines$Picks" "picked" "[I" ∈ wsL_law := mr_33 _ (List.mem_of_getElem? (i := 22) rfl)
theorem wd_33_23 : Cond.methodLink RX2 78 yX4_has ∈ wsL_law := mr_33 _ (List.mem_of_getElem? (i := 23) rfl)
theorem wd_34_0 : Cond.methodLink RX2 90 yX2_settleOn ∈ wsL_law := mr_34 _ (List.mem_of_getElem? (i := 0) rfl)
theorem wd_34_1 : Cond.instanceMethod yX2_settleOn ∈ wsL_law := mr_34 _ (List.mem_of_getElem? (i := 1) rfl)
theorem wd_34_2 : Cond.selects RX2 yX2_settleOn yX2_settleOn ∈ wsL_law := mr_34 _ (List.mem_of_getElem? (i := 2) rfl)
theorem wd_34_3 : Cond.code yX2_settleOn cX2_settleOn 6 none ∈ wsL_law := mr_34 _ (List.mem_of_getElem? (i := 3) rfl)
theorem wd_34_4 : Cond.fieldLink RX2 93 "ZigzagLines$Message" "sender" "I" ∈ wsL_law := mr_34 _ (List.mem_of_getElem? (i := 4) rfl)
theorem wd_34_5 : Cond.fieldLink RX2 96 "ZigzagLines$Message" "sentIn" "I" ∈ wsL_law := mr_34 _ (List.mem_of_getElem? (i := 5) rfl)
theorem wd_34_6 : Cond.methodLink RX2 87 yX4_areOn ∈ wsL_law := mr_34 _ (List.mem_of_getElem? (i := 6) rfl)
theorem wd_34_7 : Cond.instanceMethod yX4_areOn ∈ wsL_law := mr_34 _ (List.mem_of_getElem? (i := 7) rfl)
theorem wd_34_8 : Cond.selects RX4 yX4_areOn yX4_areOn ∈ wsL_law := mr_34 _ (List.mem_of_getElem? (i := 8) rfl)
theorem wd_34_9 : Cond.code yX4_areOn cX4_areOn 3 (some .boolean) ∈ wsL_law := mr_34 _ (List.mem_of_getElem? (i := 9) rfl)
theorem wd_34_10 : Cond.methodLink RX8 248 yX2_findGreatest ∈ wsL_law := mr_34 _ (List.mem_of_getElem? (i := 10) rfl)
theorem wd_34_11 : Cond.instanceMethod yX2_findGreatest ∈ wsL_law := mr_34 _ (List.mem_of_getElem? (i := 11) rfl)
theorem wd_34_12 : Cond.selects RX2 yX2_findGreatest yX2_findGreatest ∈ wsL_law := mr_34 _ (List.mem_of_getElem? (i := 12) rfl)
theorem wd_34_13 : Cond.code yX2_findGreatest cX2_findGreatest 4 (some .boolean) ∈ wsL_law := mr_34 _ (List.mem_of_getElem? (i := 13) rfl)
theorem wd_34_15 : Cond.instanceMethod yX9_through ∈ wsL_law := mr_34 _ (List.mem_of_getElem? (i := 15) rfl)
theorem wd_34_16 : Cond.selects RX9 yX9_through yX9_through ∈ wsL_law := mr_34 _ (List.mem_of_getElem? (i := 16) rfl)
theorem wd_34_17 : Cond.code yX9_through cX9_through 4 (some .int) ∈ wsL_law := mr_34 _ (List.mem_of_getElem? (i := 17) rfl)
theorem wd_34_18 : Cond.methodLink RX9 161 yX9_rises ∈ wsL_law := mr_34 _ (List.mem_of_getElem? (i := 18) rfl)
theorem wd_34_19 : Cond.instanceMethod yX9_rises ∈ wsL_law := mr_34 _ (List.mem_of_getElem? (i := 19) rfl)
theorem wd_34_20 : Cond.selects RX9 yX9_rises yX9_rises ∈ wsL_law := mr_34 _ (List.mem_of_getElem? (i := 20) rfl)
theorem wd_34_21 : Cond.code yX9_rises cX9_rises 3 none ∈ wsL_law := mr_34 _ (List.mem_of_getElem? (i := 21) rfl)
theorem wd_34_23 : Cond.instanceMethod yX8_count ∈ wsL_law := mr_34 _ (List.mem_of_getElem? (i := 23) rfl)
theorem wd_35_0 : Cond.selects RX8 yX8_count yX8_count ∈ wsL_law := mr_35 _ (List.mem_of_getElem? (i := 0) rfl)
theorem wd_35_1 : Cond.code yX8_count cX8_count 2 (some .int) ∈ wsL_law := mr_35 _ (List.mem_of_getElem? (i := 1) rfl)
theorem wd_35_2 : Cond.fieldLink RX8 251 "ZigzagLines$World" "messages" "I" ∈ wsL_law := mr_35 _ (List.mem_of_getElem? (i := 2) rfl)
theorem wd_35_3 : Cond.methodLink RX8 254 yX7_countStage ∈ wsL_law := mr_35 _ (List.mem_of_getElem? (i := 3) rfl)
theorem wd_35_4 : Cond.instanceMethod yX7_countStage ∈ wsL_law := mr_35 _ (List.mem_of_getElem? (i := 4) rfl)
theorem wd_35_5 : Cond.selects RX7 yX7_countStage yX7_countStage ∈ wsL_law := mr_35 _ (List.mem_of_getElem? (i := 5) rfl)
theorem wd_35_6 : Cond.code yX7_countStage cX7_countStage 4 (some .int) ∈ wsL_law := mr_35 _ (List.mem_of_getElem? (i := 6) rfl)
theorem wd_35_7 : Cond.methodLink RX8 257 yX7_countKept ∈ wsL_law := mr_35 _ (List.mem_of_getElem? (i := 7) rfl)
theorem wd_35_8 : Cond.instanceMethod yX7_countKept ∈ wsL_law := mr_35 _ (List.mem_of_getElem? (i := 8) rfl)
theorem wd_35_9 : Cond.selects RX7 yX7_countKept yX7_countKept ∈ wsL_law := mr_35 _ (List.mem_of_getElem? (i := 9) rfl)
theorem wd_35_10 : Cond.code yX7_countKept cX7_countKept 3 (some .int) ∈ wsL_law := mr_35 _ (List.mem_of_getElem? (i := 10) rfl)
theorem wd_35_11 : Cond.methodLink RX8 260 yX7_countForced ∈ wsL_law := mr_35 _ (List.mem_of_getElem? (i := 11) rfl)
theorem wd_35_12 : Cond.instanceMethod yX7_countForced ∈ wsL_law := mr_35 _ (List.mem_of_getElem? (i := 12) rfl)
theorem wd_35_13 : Cond.selects RX7 yX7_countForced yX7_countForced ∈ wsL_law := mr_35 _ (List.mem_of_getElem? (i := 13) rfl)
theorem wd_35_14 : Cond.code yX7_countForced cX7_countForced 3 (some .int) ∈ wsL_law := mr_35 _ (List.mem_of_getElem? (i := 14) rfl)
theorem wd_35_15 : Cond.methodLink RX7 154 yX0_countForced ∈ wsL_law := mr_35 _ (List.mem_of_getElem? (i := 15) rfl)
theorem wd_35_16 : Cond.methodLink RX8 261 yX8_countAllIdle ∈ wsL_law := mr_35 _ (List.mem_of_getElem? (i := 16) rfl)
theorem wd_35_17 : Cond.instanceMethod yX8_countAllIdle ∈ wsL_law := mr_35 _ (List.mem_of_getElem? (i := 17) rfl)
theorem wd_35_18 : Cond.selects RX8 yX8_countAllIdle yX8_countAllIdle ∈ wsL_law := mr_35 _ (List.mem_of_getElem? (i := 18) rfl)
theorem wd_35_19 : Cond.code yX8_countAllIdle cX8_countAllIdle 3 (some .int) ∈ wsL_law := mr_35 _ (List.mem_of_getElem? (i := 19) rfl)
theorem wd_35_20 : Cond.methodLink RX8 264 yX7_countFreed ∈ wsL_law := mr_35 _ (List.mem_of_getElem? (i := 20) rfl)
theorem wd_35_21 : Cond.instanceMethod yX7_countFreed ∈ wsL_law := mr_35 _ (List.mem_of_getElem? (i := 21) rfl)
theorem wd_35_22 : Cond.selects RX7 yX7_countFreed yX7_countFreed ∈ wsL_law := mr_35 _ (List.mem_of_getElem? (i := 22) rfl)
theorem wd_35_23 : Cond.code yX7_countFreed cX7_countFreed 3 (some .int) ∈ wsL_law := mr_35 _ (List.mem_of_getElem? (i := 23) rfl)
theorem wd_36_0 : Cond.methodLink RX7 157 yX0_countFreed ∈ wsL_law := mr_36 _ (List.mem_of_getElem? (i := 0) rfl)
theorem wd_36_2 : Cond.instanceMethod yX9_count ∈ wsL_law := mr_36 _ (List.mem_of_getElem? (i := 2) rfl)
theorem wd_36_3 : Cond.selects RX9 yX9_count yX9_count ∈ wsL_law := mr_36 _ (List.mem_of_getElem? (i := 3) rfl)
theorem wd_36_4 : Cond.code yX9_count cX9_count 5 (some .int) ∈ wsL_law := mr_36 _ (List.mem_of_getElem? (i := 4) rfl)
theorem wd_36_5 : Cond.methodLink RX9 164 yX9_messagesThat ∈ wsL_law := mr_36 _ (List.mem_of_getElem? (i := 5) rfl)
theorem wd_36_6 : Cond.instanceMethod yX9_messagesThat ∈ wsL_law := mr_36 _ (List.mem_of_getElem? (i := 6) rfl)
theorem wd_36_7 : Cond.selects RX9 yX9_messagesThat yX9_messagesThat ∈ wsL_law := mr_36 _ (List.mem_of_getElem? (i := 7) rfl)
theorem wd_36_8 : Cond.code yX9_messagesThat cX9_messagesThat 4 (some .int) ∈ wsL_law := mr_36 _ (List.mem_of_getElem? (i := 8) rfl)
theorem wm_X1_letterAt : Cond.instanceMethod yX1_letterAt ∈ wsL_law ∧ Cond.selects RX1 yX1_letterAt yX1_letterAt ∈ wsL_law ∧ Cond.initialized RX1 ∈ wsL_law ∧ Cond.code yX1_letterAt cX1_letterAt 2 (some .char) ∈ wsL_law := ⟨wd_7_10, wd_7_11, wd_1_14, wd_7_12⟩
theorem my_X1_letterAt : yX1_letterAt.cls = RX1 ∧ yX1_letterAt.cls ≠ "java/lang/invoke/MethodHandle" ∧ yX1_letterAt.cls ≠ "java/lang/invoke/VarHandle" ∧ (parseMethodDescriptor yX1_letterAt.desc).map (fun d => d.parameters.length) = some 1 := by decide +kernel
theorem wm_X1_figureAt : Cond.instanceMethod yX1_figureAt ∈ wsL_law ∧ Cond.selects RX1 yX1_figureAt yX1_figureAt ∈ wsL_law ∧ Cond.initialized RX1 ∈ wsL_law ∧ Cond.code yX1_figureAt cX1_figureAt 3 (some .int) ∈ wsL_law := ⟨wd_7_6, wd_7_7, wd_1_14, wd_7_8⟩
theorem my_X1_figureAt : yX1_figureAt.cls = RX1 ∧ yX1_figureAt.cls ≠ "java/lang/invoke/MethodHandle" ∧ yX1_figureAt.cls ≠ "java/lang/invoke/VarHandle" ∧ (parseMethodDescriptor yX1_figureAt.desc).map (fun d => d.parameters.length) = some 1 := by decide +kernel
theorem wm_X1_add : Cond.instanceMethod yX1_add ∈ wsL_law ∧ Cond.selects RX1 yX1_add yX1_add ∈ wsL_law ∧ Cond.initialized RX1 ∈ wsL_law ∧ Cond.code yX1_add cX1_add 2 (some .boolean) ∈ wsL_law := ⟨wd_6_17, wd_6_18, wd_1_14, wd_6_19⟩
theorem my_X1_add : yX1_add.cls = RX1 ∧ yX1_add.cls ≠ "java/lang/invoke/MethodHandle" ∧ yX1_add.cls ≠ "java/lang/invoke/VarHandle" ∧ (parseMethodDescriptor yX1_add.desc).map (fun d => d.parameters.length) = some 1 := by decide +kernel
theorem wm_X1_clear : Cond.instanceMethod yX1_clear ∈ wsL_law ∧ Cond.selects RX1 yX1_clear yX1_clear ∈ wsL_law ∧ Cond.initialized RX1 ∈ wsL_law ∧ Cond.code yX1_clear cX1_clear 2 (some .int) ∈ wsL_law := ⟨wd_11_17, wd_11_18, wd_1_14, wd_11_19⟩
theorem my_X1_clear : yX1_clear.cls = RX1 ∧ yX1_clear.cls ≠ "java/lang/invoke/MethodHandle" ∧ yX1_clear.cls ≠ "java/lang/invoke/VarHandle" ∧ (parseMethodDescriptor yX1_clear.desc).map (fun d => d.parameters.length) = some 0 := by decide +kernel
theorem wm_X0_isFull : Cond.instanceMethod yX0_isFull ∈ wsL_law ∧ Cond.selects RX0 yX0_isFull yX0_isFull ∈ wsL_law ∧ Cond.initialized RX0 ∈ wsL_law ∧ Cond.code yX0_isFull cX0_isFull 1 (some .boolean) ∈ wsL_law := ⟨wd_9_7, wd_9_8, wd_3_20, wd_9_9⟩
theorem my_X0_isFull : yX0_isFull.cls = RX0 ∧ yX0_isFull.cls ≠ "java/lang/invoke/MethodHandle" ∧ yX0_isFull.cls ≠ "java/lang/invoke/VarHandle" ∧ (parseMethodDescriptor yX0_isFull.desc).map (fun d => d.parameters.length) = some 0 := by decide +kernel
theorem wm_X0_keepState : Cond.instanceMethod yX0_keepState ∈ wsL_law ∧ Cond.selects RX0 yX0_keepState yX0_keepState ∈ wsL_law ∧ Cond.initialized RX0 ∈ wsL_law ∧ Cond.code yX0_keepState cX0_keepState 5 none ∈ wsL_law := ⟨wd_8_12, wd_8_13, wd_3_20, wd_8_14⟩
theorem my_X0_keepState : yX0_keepState.cls = RX0 ∧ yX0_keepState.cls ≠ "java/lang/invoke/MethodHandle" ∧ yX0_keepState.cls ≠ "java/lang/invoke/VarHandle" ∧ (parseMethodDescriptor yX0_keepState.desc).map (fun d => d.parameters.length) = some 4 := by decide +kernel
theorem wm_X0_begin : Cond.instanceMethod yX0_begin ∈ wsL_law ∧ Cond.selects RX0 yX0_begin yX0_begin ∈ wsL_law ∧ Cond.initialized RX0 ∈ wsL_law ∧ Cond.code yX0_begin cX0_begin 4 none ∈ wsL_law := ⟨wd_8_7, wd_8_8, wd_3_20, wd_8_9⟩
theorem my_X0_begin : yX0_begin.cls = RX0 ∧ yX0_begin.cls ≠ "java/lang/invoke/MethodHandle" ∧ yX0_begin.cls ≠ "java/lang/invoke/VarHandle" ∧ (parseMethodDescriptor yX0_begin.desc).map (fun d => d.parameters.length) = some 2 := by decide +kernel
theorem wm_X0_learn : Cond.instanceMethod yX0_learn ∈ wsL_law ∧ Cond.selects RX0 yX0_learn yX0_learn ∈ wsL_law ∧ Cond.initialized RX0 ∈ wsL_law ∧ Cond.code yX0_learn cX0_learn 4 none ∈ wsL_law := ⟨wd_11_3, wd_11_4, wd_3_20, wd_11_5⟩
theorem my_X0_learn : yX0_learn.cls = RX0 ∧ yX0_learn.cls ≠ "java/lang/invoke/MethodHandle" ∧ yX0_learn.cls ≠ "java/lang/invoke/VarHandle" ∧ (parseMethodDescriptor yX0_learn.desc).map (fun d => d.parameters.length) = some 2 := by decide +kernel
theorem wm_X0_wouldLearn : Cond.instanceMethod yX0_wouldLearn ∈ wsL_law ∧ Cond.selects RX0 yX0_wouldLearn yX0_wouldLearn ∈ wsL_law ∧ Cond.initialized RX0 ∈ wsL_law ∧ Cond.code yX0_wouldLearn cX0_wouldLearn 4 (some .boolean) ∈ wsL_law := ⟨wd_10_23, wd_11_0, wd_3_20, wd_11_1⟩
theorem my_X0_wouldLearn : yX0_wouldLearn.cls = RX0 ∧ yX0_wouldLearn.cls ≠ "java/lang/invoke/MethodHandle" ∧ yX0_wouldLearn.cls ≠ "java/lang/invoke/VarHandle" ∧ (parseMethodDescriptor yX0_wouldLearn.desc).map (fun d => d.parameters.length) = some 2 := by decide +kernel
theorem wm_X0_knownAt : Cond.instanceMethod yX0_knownAt ∈ wsL_law ∧ Cond.selects RX0 yX0_knownAt yX0_knownAt ∈ wsL_law ∧ Cond.initialized RX0 ∈ wsL_law ∧ Cond.code yX0_knownAt cX0_knownAt 3 (some .int) ∈ wsL_law := ⟨wd_28_9, wd_28_10, wd_3_20, wd_28_11⟩
theorem my_X0_knownAt : yX0_knownAt.cls = RX0 ∧ yX0_knownAt.cls ≠ "java/lang/invoke/MethodHandle" ∧ yX0_knownAt.cls ≠ "java/lang/invoke/VarHandle" ∧ (parseMethodDescriptor yX0_knownAt.desc).map (fun d => d.parameters.length) = some 2 := by decide +kernel
theorem wm_X0_goBack : Cond.instanceMethod yX0_goBack ∈ wsL_law ∧ Cond.selects RX0 yX0_goBack yX0_goBack ∈ wsL_law ∧ Cond.initialized RX0 ∈ wsL_law ∧ Cond.code yX0_goBack cX0_goBack 2 (some .boolean) ∈ wsL_law := ⟨wd_21_10, wd_21_11, wd_3_20, wd_21_12⟩
theorem my_X0_goBack : yX0_goBack.cls = RX0 ∧ yX0_goBack.cls ≠ "java/lang/invoke/MethodHandle" ∧ yX0_goBack.cls ≠ "java/lang/invoke/VarHandle" ∧ (parseMethodDescriptor yX0_goBack.desc).map (fun d => d.parameters.length) = some 1 := by decide +kernel
theorem wm_X0_free : Cond.instanceMethod yX0_free ∈ wsL_law ∧ Cond.selects RX0 yX0_free yX0_free ∈ wsL_law ∧ Cond.initialized RX0 ∈ wsL_law ∧ Cond.code yX0_free cX0_free 4 (some .int) ∈ wsL_law := ⟨wd_23_1, wd_23_2, wd_3_20, wd_23_3⟩
theorem my_X0_free : yX0_free.cls = RX0 ∧ yX0_free.cls ≠ "java/lang/invoke/MethodHandle" ∧ yX0_free.cls ≠ "java/lang/invoke/VarHandle" ∧ (parseMethodDescriptor yX0_free.desc).map (fun d => d.parameters.length) = some 1 := by decide +kernel
theorem wm_X0_countTrue : Cond.instanceMethod yX0_countTrue ∈ wsL_law ∧ Cond.selects RX0 yX0_countTrue yX0_countTrue ∈ wsL_law ∧ Cond.initialized RX0 ∈ wsL_law ∧ Cond.code yX0_countTrue cX0_countTrue 4 (some .int) ∈ wsL_law := ⟨wd_24_17, wd_24_18, wd_3_20, wd_24_19⟩
theorem my_X0_countTrue : yX0_countTrue.cls = RX0 ∧ yX0_countTrue.cls ≠ "java/lang/invoke/MethodHandle" ∧ yX0_countTrue.cls ≠ "java/lang/invoke/VarHandle" ∧ (parseMethodDescriptor yX0_countTrue.desc).map (fun d => d.parameters.length) = some 1 := by decide +kernel
theorem wm_X0_countForced : Cond.instanceMethod yX0_countForced ∈ wsL_law ∧ Cond.selects RX0 yX0_countForced yX0_countForced ∈ wsL_law ∧ Cond.initialized RX0 ∈ wsL_law ∧ Cond.code yX0_countForced cX0_countForced 1 (some .int) ∈ wsL_law := ⟨wd_24_13, wd_24_14, wd_3_20, wd_24_15⟩
theorem my_X0_countForced : yX0_countForced.cls = RX0 ∧ yX0_countForced.cls ≠ "java/lang/invoke/MethodHandle" ∧ yX0_countForced.cls ≠ "java/lang/invoke/VarHandle" ∧ (parseMethodDescriptor yX0_countForced.desc).map (fun d => d.parameters.length) = some 0 := by decide +kernel
theorem wm_X0_countFreed : Cond.instanceMethod yX0_countFreed ∈ wsL_law ∧ Cond.selects RX0 yX0_countFreed yX0_countFreed ∈ wsL_law ∧ Cond.initialized RX0 ∈ wsL_law ∧ Cond.code yX0_countFreed cX0_countFreed 1 (some .int) ∈ wsL_law := ⟨wd_24_21, wd_24_22, wd_3_20, wd_24_23⟩
theorem my_X0_countFreed : yX0_countFreed.cls = RX0 ∧ yX0_countFreed.cls ≠ "java/lang/invoke/MethodHandle" ∧ yX0_countFreed.cls ≠ "java/lang/invoke/VarHandle" ∧ (parseMethodDescriptor yX0_countFreed.desc).map (fun d => d.parameters.length) = some 0 := by decide +kernel
theorem wm_X3_crosses : Cond.instanceMethod yX3_crosses ∈ wsL_law ∧ Cond.selects RX3 yX3_crosses yX3_crosses ∈ wsL_law ∧ Cond.initialized RX3 ∈ wsL_law ∧ Cond.code yX3_crosses cX3_crosses 2 (some .boolean) ∈ wsL_law := ⟨wd_20_13, wd_20_14, wd_3_22, wd_20_15⟩
theorem my_X3_crosses : yX3_crosses.cls = RX3 ∧ yX3_crosses.cls ≠ "java/lang/invoke/MethodHandle" ∧ yX3_crosses.cls ≠ "java/lang/invoke/VarHandle" ∧ (parseMethodDescriptor yX3_crosses.desc).map (fun d => d.parameters.length) = some 1 := by decide +kernel
theorem wm_X3_isLostBehind : Cond.instanceMethod yX3_isLostBehind ∈ wsL_law ∧ Cond.selects RX3 yX3_isLostBehind yX3_isLostBehind ∈ wsL_law ∧ Cond.initialized RX3 ∈ wsL_law ∧ Cond.code yX3_isLostBehind cX3_isLostBehind 2 (some .boolean) ∈ wsL_law := ⟨wd_21_2, wd_21_3, wd_3_22, wd_21_4⟩
theorem my_X3_isLostBehind : yX3_isLostBehind.cls = RX3 ∧ yX3_isLostBehind.cls ≠ "java/lang/invoke/MethodHandle" ∧ yX3_isLostBehind.cls ≠ "java/lang/invoke/VarHandle" ∧ (parseMethodDescriptor yX3_isLostBehind.desc).map (fun d => d.parameters.length) = some 1 := by decide +kernel
theorem wm_X3_isAgainBehind : Cond.instanceMethod yX3_isAgainBehind ∈ wsL_law ∧ Cond.selects RX3 yX3_isAgainBehind yX3_isAgainBehind ∈ wsL_law ∧ Cond.initialized RX3 ∈ wsL_law ∧ Cond.code yX3_isAgainBehind cX3_isAgainBehind 2 (some .boolean) ∈ wsL_law := ⟨wd_21_6, wd_21_7, wd_3_22, wd_21_8⟩
theorem my_X3_isAgainBehind : yX3_isAgainBehind.cls = RX3 ∧ yX3_isAgainBehind.cls ≠ "java/lang/invoke/MethodHandle" ∧ yX3_isAgainBehind.cls ≠ "java/lang/invoke/VarHandle" ∧ (parseMethodDescriptor yX3_isAgainBehind.desc).map (fun d => d.parameters.length) = some 1 := by decide +kernel
theorem wm_X4_has : Cond.instanceMethod yX4_has ∈ wsL_law ∧ Cond.selects RX4 yX4_has yX4_has ∈ wsL_law ∧ Cond.initialized RX4 ∈ wsL_law ∧ Cond.code yX4_has cX4_has 2 (some .boolean) ∈ wsL_law := ⟨wd_17_15, wd_17_16, wd_1_18, wd_17_17⟩
theorem my_X4_has : yX4_has.cls = RX4 ∧ yX4_has.cls ≠ "java/lang/invoke/MethodHandle" ∧ yX4_has.cls ≠ "java/lang/invoke/VarHandle" ∧ (parseMethodDescriptor yX4_has.desc).map (fun d => d.parameters.length) = some 1 := by decide +kernel
theorem wm_X4_size : Cond.instanceMethod yX4_size ∈ wsL_law ∧ Cond.selects RX4 yX4_size yX4_size ∈ wsL_law ∧ Cond.initialized RX4 ∈ wsL_law ∧ Cond.code yX4_size cX4_size 3 (some .int) ∈ wsL_law := ⟨wd_17_11, wd_17_12, wd_1_18, wd_17_13⟩
theorem my_X4_size : yX4_size.cls = RX4 ∧ yX4_size.cls ≠ "java/lang/invoke/MethodHandle" ∧ yX4_size.cls ≠ "java/lang/invoke/VarHandle" ∧ (parseMethodDescriptor yX4_size.desc).map (fun d => d.parameters.length) = some 0 := by decide +kernel
theorem wm_X4_clear : Cond.instanceMethod yX4_clear ∈ wsL_law ∧ Cond.selects RX4 yX4_clear yX4_clear ∈ wsL_law ∧ Cond.initialized RX4 ∈ wsL_law ∧ Cond.code yX4_clear cX4_clear 3 (some .int) ∈ wsL_law := ⟨wd_17_7, wd_17_8, wd_1_18, wd_17_9⟩
theorem my_X4_clear : yX4_clear.cls = RX4 ∧ yX4_clear.cls ≠ "java/lang/invoke/MethodHandle" ∧ yX4_clear.cls ≠ "java/lang/invoke/VarHandle" ∧ (parseMethodDescriptor yX4_clear.desc).map (fun d => d.parameters.length) = some 0 := by decide +kernel
theorem wm_X4_someAbove : Cond.instanceMethod yX4_someAbove ∈ wsL_law ∧ Cond.selects RX4 yX4_someAbove yX4_someAbove ∈ wsL_law ∧ Cond.initialized RX4 ∈ wsL_law ∧ Cond.code yX4_someAbove cX4_someAbove 3 (some .boolean) ∈ wsL_law := ⟨wd_33_12, wd_33_13, wd_1_18, wd_33_14⟩
theorem my_X4_someAbove : yX4_someAbove.cls = RX4 ∧ yX4_someAbove.cls ≠ "java/lang/invoke/MethodHandle" ∧ yX4_someAbove.cls ≠ "java/lang/invoke/VarHandle" ∧ (parseMethodDescriptor yX4_someAbove.desc).map (fun d => d.parameters.length) = some 1 := by decide +kernel
theorem wm_X4_areOn : Cond.instanceMethod yX4_areOn ∈ wsL_law ∧ Cond.selects RX4 yX4_areOn yX4_areOn ∈ wsL_law ∧ Cond.initialized RX4 ∈ wsL_law ∧ Cond.code yX4_areOn cX4_areOn 3 (some .boolean) ∈ wsL_law := ⟨wd_34_7, wd_34_8, wd_1_18, wd_34_9⟩
theorem my_X4_areOn : yX4_areOn.cls = RX4 ∧ yX4_areOn.cls ≠ "java/lang/invoke/MethodHandle" ∧ yX4_areOn.cls ≠ "java/lang/invoke/VarHandle" ∧ (parseMethodDescriptor yX4_areOn.desc).map (fun d => d.parameters.length) = some 1 := by decide +kernel
theorem wm_X8_oneIf : Cond.static yX8_oneIf ∈ wsL_law ∧ Cond.initialized RX8 ∈ wsL_law ∧ Cond.code yX8_oneIf cX8_oneIf 1 (some .int) ∈ wsL_law := ⟨wd_11_14, wd_1_2, wd_11_15⟩
theorem my_X8_oneIf : yX8_oneIf.cls ≠ "java/lang/invoke/MethodHandle" ∧ yX8_oneIf.cls ≠ "java/lang/invoke/VarHandle" ∧ (parseMethodDescriptor yX8_oneIf.desc).map (fun d => d.parameters.length) = some 1 := by decide +kernel
theorem wm_X7_isProcess : Cond.instanceMethod yX7_isProcess ∈ wsL_law ∧ Cond.selects RX7 yX7_isProcess yX7_isProcess ∈ wsL_law ∧ Cond.initialized RX7 ∈ wsL_law ∧ Cond.code yX7_isProcess cX7_isProcess 2 (some .boolean) ∈ wsL_law := ⟨wd_9_3, wd_9_4, wd_2_6, wd_9_5⟩
theorem my_X7_isProcess : yX7_isProcess.cls = RX7 ∧ yX7_isProcess.cls ≠ "java/lang/invoke/MethodHandle" ∧ yX7_isProcess.cls ≠ "java/lang/invoke/VarHandle" ∧ (parseMethodDescriptor yX7_isProcess.desc).map (fun d => d.parameters.length) = some 1 := by decide +kernel
theorem wm_X7_isState : Cond.instanceMethod yX7_isState ∈ wsL_law ∧ Cond.selects RX7 yX7_isState yX7_isState ∈ wsL_law ∧ Cond.initialized RX7 ∈ wsL_law ∧ Cond.code yX7_isState cX7_isState 3 (some .boolean) ∈ wsL_law := ⟨wd_28_5, wd_28_6, wd_2_6, wd_28_7⟩
theorem my_X7_isState : yX7_isState.cls = RX7 ∧ yX7_isState.cls ≠ "java/lang/invoke/MethodHandle" ∧ yX7_isState.cls ≠ "java/lang/invoke/VarHandle" ∧ (parseMethodDescriptor yX7_isState.desc).map (fun d => d.parameters.length) = some 2 := by decide +kernel
theorem wm_X7_isMessage : Cond.instanceMethod yX7_isMessage ∈ wsL_law ∧ Cond.selects RX7 yX7_isMessage yX7_isMessage ∈ wsL_law ∧ Cond.initialized RX7 ∈ wsL_law ∧ Cond.code yX7_isMessage cX7_isMessage 2 (some .boolean) ∈ wsL_law := ⟨wd_10_11, wd_10_12, wd_2_6, wd_10_13⟩
theorem my_X7_isMessage : yX7_isMessage.cls = RX7 ∧ yX7_isMessage.cls ≠ "java/lang/invoke/MethodHandle" ∧ yX7_isMessage.cls ≠ "java/lang/invoke/VarHandle" ∧ (parseMethodDescriptor yX7_isMessage.desc).map (fun d => d.parameters.length) = some 1 := by decide +kernel
theorem wm_X7_allProcesses : Cond.instanceMethod yX7_allProcesses ∈ wsL_law ∧ Cond.selects RX7 yX7_allProcesses yX7_allProcesses ∈ wsL_law ∧ Cond.initialized RX7 ∈ wsL_law ∧ Cond.code yX7_allProcesses cX7_allProcesses 1 (some .int) ∈ wsL_law := ⟨wd_19_9, wd_19_10, wd_2_6, wd_19_11⟩
theorem my_X7_allProcesses : yX7_allProcesses.cls = RX7 ∧ yX7_allProcesses.cls ≠ "java/lang/invoke/MethodHandle" ∧ yX7_allProcesses.cls ≠ "java/lang/invoke/VarHandle" ∧ (parseMethodDescriptor yX7_allProcesses.desc).map (fun d => d.parameters.length) = some 0 := by decide +kernel
theorem wm_X7_isSet : Cond.instanceMethod yX7_isSet ∈ wsL_law ∧ Cond.selects RX7 yX7_isSet yX7_isSet ∈ wsL_law ∧ Cond.initialized RX7 ∈ wsL_law ∧ Cond.code yX7_isSet cX7_isSet 2 (some .boolean) ∈ wsL_law := ⟨wd_19_5, wd_19_6, wd_2_6, wd_19_7⟩
theorem my_X7_isSet : yX7_isSet.cls = RX7 ∧ yX7_isSet.cls ≠ "java/lang/invoke/MethodHandle" ∧ yX7_isSet.cls ≠ "java/lang/invoke/VarHandle" ∧ (parseMethodDescriptor yX7_isSet.desc).map (fun d => d.parameters.length) = some 1 := by decide +kernel
theorem wm_X7_begin : Cond.instanceMethod yX7_begin ∈ wsL_law ∧ Cond.selects RX7 yX7_begin yX7_begin ∈ wsL_law ∧ Cond.initialized RX7 ∈ wsL_law ∧ Cond.code yX7_begin cX7_begin 3 (some .boolean) ∈ wsL_law := ⟨wd_7_22, wd_7_23, wd_2_6, wd_8_0⟩
theorem my_X7_begin : yX7_begin.cls = RX7 ∧ yX7_begin.cls ≠ "java/lang/invoke/MethodHandle" ∧ yX7_begin.cls ≠ "java/lang/invoke/VarHandle" ∧ (parseMethodDescriptor yX7_begin.desc).map (fun d => d.parameters.length) = some 1 := by decide +kernel
theorem wm_X7_keepState : Cond.instanceMethod yX7_keepState ∈ wsL_law ∧ Cond.selects RX7 yX7_keepState yX7_keepState ∈ wsL_law ∧ Cond.initialized RX7 ∈ wsL_law ∧ Cond.code yX7_keepState cX7_keepState 2 (some .int) ∈ wsL_law := ⟨wd_8_21, wd_8_22, wd_2_6, wd_8_23⟩
theorem my_X7_keepState : yX7_keepState.cls = RX7 ∧ yX7_keepState.cls ≠ "java/lang/invoke/MethodHandle" ∧ yX7_keepState.cls ≠ "java/lang/invoke/VarHandle" ∧ (parseMethodDescriptor yX7_keepState.desc).map (fun d => d.parameters.length) = some 1 := by decide +kernel
theorem wm_X7_putUnderWay : Cond.instanceMethod yX7_putUnderWay ∈ wsL_law ∧ Cond.selects RX7 yX7_putUnderWay yX7_putUnderWay ∈ wsL_law ∧ Cond.initialized RX7 ∈ wsL_law ∧ Cond.code yX7_putUnderWay cX7_putUnderWay 2 none ∈ wsL_law := ⟨wd_10_0, wd_10_1, wd_2_6, wd_10_2⟩
theorem my_X7_putUnderWay : yX7_putUnderWay.cls = RX7 ∧ yX7_putUnderWay.cls ≠ "java/lang/invoke/MethodHandle" ∧ yX7_putUnderWay.cls ≠ "java/lang/invoke/VarHandle" ∧ (parseMethodDescriptor yX7_putUnderWay.desc).map (fun d => d.parameters.length) = some 1 := by decide +kernel
theorem wm_X7_post : Cond.instanceMethod yX7_post ∈ wsL_law ∧ Cond.selects RX7 yX7_post yX7_post ∈ wsL_law ∧ Cond.initialized RX7 ∈ wsL_law ∧ Cond.code yX7_post cX7_post 4 (some .int) ∈ wsL_law := ⟨wd_9_12, wd_9_13, wd_2_6, wd_9_14⟩
theorem my_X7_post : yX7_post.cls = RX7 ∧ yX7_post.cls ≠ "java/lang/invoke/MethodHandle" ∧ yX7_post.cls ≠ "java/lang/invoke/VarHandle" ∧ (parseMethodDescriptor yX7_post.desc).map (fun d => d.parameters.length) = some 2 := by decide +kernel
theorem wm_X7_countSentNow : Cond.instanceMethod yX7_countSentNow ∈ wsL_law ∧ Cond.selects RX7 yX7_countSentNow yX7_countSentNow ∈ wsL_law ∧ Cond.initialized RX7 ∈ wsL_law ∧ Cond.code yX7_countSentNow cX7_countSentNow 5 (some .int) ∈ wsL_law := ⟨wd_10_19, wd_10_20, wd_2_6, wd_10_21⟩
theorem my_X7_countSentNow : yX7_countSentNow.cls = RX7 ∧ yX7_countSentNow.cls ≠ "java/lang/invoke/MethodHandle" ∧ yX7_countSentNow.cls ≠ "java/lang/invoke/VarHandle" ∧ (parseMethodDescriptor yX7_countSentNow.desc).map (fun d => d.parameters.length) = some 1 := by decide +kernel
theorem wm_X7_dropFromQueue : Cond.instanceMethod yX7_dropFromQueue ∈ wsL_law ∧ Cond.selects RX7 yX7_dropFromQueue yX7_dropFromQueue ∈ wsL_law ∧ Cond.initialized RX7 ∈ wsL_law ∧ Cond.code yX7_dropFromQueue cX7_dropFromQueue 3 none ∈ wsL_law := ⟨wd_11_11, wd_11_12, wd_2_6, wd_11_13⟩
theorem my_X7_dropFromQueue : yX7_dropFromQueue.cls = RX7 ∧ yX7_dropFromQueue.cls ≠ "java/lang/invoke/MethodHandle" ∧ yX7_dropFromQueue.cls ≠ "java/lang/invoke/VarHandle" ∧ (parseMethodDescriptor yX7_dropFromQueue.desc).map (fun d => d.parameters.length) = some 0 := by decide +kernel
theorem wm_X7_forces : Cond.instanceMethod yX7_forces ∈ wsL_law ∧ Cond.selects RX7 yX7_forces yX7_forces ∈ wsL_law ∧ Cond.initialized RX7 ∈ wsL_law ∧ Cond.code yX7_forces cX7_forces 3 (some .boolean) ∈ wsL_law := ⟨wd_10_15, wd_10_16, wd_2_6, wd_10_17⟩
theorem my_X7_forces : yX7_forces.cls = RX7 ∧ yX7_forces.cls ≠ "java/lang/invoke/MethodHandle" ∧ yX7_forces.cls ≠ "java/lang/invoke/VarHandle" ∧ (parseMethodDescriptor yX7_forces.desc).map (fun d => d.parameters.length) = some 1 := by decide +kernel
theorem wm_X7_take : Cond.instanceMethod yX7_take ∈ wsL_law ∧ Cond.selects RX7 yX7_take yX7_take ∈ wsL_law ∧ Cond.initialized RX7 ∈ wsL_law ∧ Cond.code yX7_take cX7_take 6 (some .int) ∈ wsL_law := ⟨wd_10_5, wd_10_6, wd_2_6, wd_10_7⟩
theorem my_X7_take : yX7_take.cls = RX7 ∧ yX7_take.cls ≠ "java/lang/invoke/MethodHandle" ∧ yX7_take.cls ≠ "java/lang/invoke/VarHandle" ∧ (parseMethodDescriptor yX7_take.desc).map (fun d => d.parameters.length) = some 1 := by decide +kernel
theorem wm_X7_goBack : Cond.instanceMethod yX7_goBack ∈ wsL_law ∧ Cond.selects RX7 yX7_goBack yX7_goBack ∈ wsL_law ∧ Cond.initialized RX7 ∈ wsL_law ∧ Cond.code yX7_goBack cX7_goBack 4 (some .int) ∈ wsL_law := ⟨wd_20_22, wd_20_23, wd_2_6, wd_21_0⟩
theorem my_X7_goBack : yX7_goBack.cls = RX7 ∧ yX7_goBack.cls ≠ "java/lang/invoke/MethodHandle" ∧ yX7_goBack.cls ≠ "java/lang/invoke/VarHandle" ∧ (parseMethodDescriptor yX7_goBack.desc).map (fun d => d.parameters.length) = some 1 := by decide +kernel
theorem wm_X7_doDrawn : Cond.instanceMethod yX7_doDrawn ∈ wsL_law ∧ Cond.selects RX7 yX7_doDrawn yX7_doDrawn ∈ wsL_law ∧ Cond.initialized RX7 ∈ wsL_law ∧ Cond.code yX7_doDrawn cX7_doDrawn 5 (some .boolean) ∈ wsL_law := ⟨wd_23_16, wd_23_17, wd_2_6, wd_23_18⟩
theorem my_X7_doDrawn : yX7_doDrawn.cls = RX7 ∧ yX7_doDrawn.cls ≠ "java/lang/invoke/MethodHandle" ∧ yX7_doDrawn.cls ≠ "java/lang/invoke/VarHandle" ∧ (parseMethodDescriptor yX7_doDrawn.desc).map (fun d => d.parameters.length) = some 1 := by decide +kernel
theorem wm_X7_countKept : Cond.instanceMethod yX7_countKept ∈ wsL_law ∧ Cond.selects RX7 yX7_countKept yX7_countKept ∈ wsL_law ∧ Cond.initialized RX7 ∈ wsL_law ∧ Cond.code yX7_countKept cX7_countKept 3 (some .int) ∈ wsL_law := ⟨wd_35_8, wd_35_9, wd_2_6, wd_35_10⟩
theorem my_X7_countKept : yX7_countKept.cls = RX7 ∧ yX7_countKept.cls ≠ "java/lang/invoke/MethodHandle" ∧ yX7_countKept.cls ≠ "java/lang/invoke/VarHandle" ∧ (parseMethodDescriptor yX7_countKept.desc).map (fun d => d.parameters.length) = some 0 := by decide +kernel
theorem wm_X7_countForced : Cond.instanceMethod yX7_countForced ∈ wsL_law ∧ Cond.selects RX7 yX7_countForced yX7_countForced ∈ wsL_law ∧ Cond.initialized RX7 ∈ wsL_law ∧ Cond.code yX7_countForced cX7_countForced 3 (some .int) ∈ wsL_law := ⟨wd_35_12, wd_35_13, wd_2_6, wd_35_14⟩
theorem my_X7_countForced : yX7_countForced.cls = RX7 ∧ yX7_countForced.cls ≠ "java/lang/invoke/MethodHandle" ∧ yX7_countForced.cls ≠ "java/lang/invoke/VarHandle" ∧ (parseMethodDescriptor yX7_countForced.desc).map (fun d => d.parameters.length) = some 0 := by decide +kernel
theorem wm_X7_countFreed : Cond.instanceMethod yX7_countFreed ∈ wsL_law ∧ Cond.selects RX7 yX7_countFreed yX7_countFreed ∈ wsL_law ∧ Cond.initialized RX7 ∈ wsL_law ∧ Cond.code yX7_countFreed cX7_countFreed 3 (some .int) ∈ wsL_law := ⟨wd_35_21, wd_35_22, wd_2_6, wd_35_23⟩
theorem my_X7_countFreed : yX7_countFreed.cls = RX7 ∧ yX7_countFreed.cls ≠ "java/lang/invoke/MethodHandle" ∧ yX7_countFreed.cls ≠ "java/lang/invoke/VarHandle" ∧ (parseMethodDescriptor yX7_countFreed.desc).map (fun d => d.parameters.length) = some 0 := by decide +kernel
theorem wm_X7_countStage : Cond.instanceMethod yX7_countStage ∈ wsL_law ∧ Cond.selects RX7 yX7_countStage yX7_countStage ∈ wsL_law ∧ Cond.initialized RX7 ∈ wsL_law ∧ Cond.code yX7_countStage cX7_countStage 4 (some .int) ∈ wsL_law := ⟨wd_35_4, wd_35_5, wd_2_6, wd_35_6⟩
theorem my_X7_countStage : yX7_countStage.cls = RX7 ∧ yX7_countStage.cls ≠ "java/lang/invoke/MethodHandle" ∧ yX7_countStage.cls ≠ "java/lang/invoke/VarHandle" ∧ (parseMethodDescriptor yX7_countStage.desc).map (fun d => d.parameters.length) = some 1 := by decide +kernel
theorem wm_X7_countBehind : Cond.instanceMethod yX7_countBehind ∈ wsL_law ∧ Cond.selects RX7 yX7_countBehind yX7_countBehind ∈ wsL_law ∧ Cond.initialized RX7 ∈ wsL_law ∧ Cond.code yX7_countBehind cX7_countBehind 4 (some .int) ∈ wsL_law := ⟨wd_31_20, wd_31_21, wd_2_6, wd_31_22⟩
theorem my_X7_countBehind : yX7_countBehind.cls = RX7 ∧ yX7_countBehind.cls ≠ "java/lang/invoke/MethodHandle" ∧ yX7_countBehind.cls ≠ "java/lang/invoke/VarHandle" ∧ (parseMethodDescriptor yX7_countBehind.desc).map (fun d => d.parameters.length) = some 1 := by decide +kernel
theorem wm_X7_countLost : Cond.instanceMethod yX7_countLost ∈ wsL_law ∧ Cond.selects RX7 yX7_countLost yX7_countLost ∈ wsL_law ∧ Cond.initialized RX7 ∈ wsL_law ∧ Cond.code yX7_countLost cX7_countLost 4 (some .int) ∈ wsL_law := ⟨wd_32_1, wd_32_2, wd_2_6, wd_32_3⟩
theorem my_X7_countLost : yX7_countLost.cls = RX7 ∧ yX7_countLost.cls ≠ "java/lang/invoke/MethodHandle" ∧ yX7_countLost.cls ≠ "java/lang/invoke/VarHandle" ∧ (parseMethodDescriptor yX7_countLost.desc).map (fun d => d.parameters.length) = some 1 := by decide +kernel
theorem wm_X7_countAgain : Cond.instanceMethod yX7_countAgain ∈ wsL_law ∧ Cond.selects RX7 yX7_countAgain yX7_countAgain ∈ wsL_law ∧ Cond.initialized RX7 ∈ wsL_law ∧ Cond.code yX7_countAgain cX7_countAgain 4 (some .int) ∈ wsL_law := ⟨wd_32_5, wd_32_6, wd_2_6, wd_32_7⟩
theorem my_X7_countAgain : yX7_countAgain.cls = RX7 ∧ yX7_countAgain.cls ≠ "java/lang/invoke/MethodHandle" ∧ yX7_countAgain.cls ≠ "java/lang/invoke/VarHandle" ∧ (parseMethodDescriptor yX7_countAgain.desc).map (fun d => d.parameters.length) = some 1 := by decide +kernel
theorem wm_X7_someBeginAnew : Cond.instanceMethod yX7_someBeginAnew ∈ wsL_law ∧ Cond.selects RX7 yX7_someBeginAnew yX7_someBeginAnew ∈ wsL_law ∧ Cond.initialized RX7 ∈ wsL_law ∧ Cond.code yX7_someBeginAnew cX7_someBeginAnew 3 (some .boolean) ∈ wsL_law := ⟨wd_32_9, wd_32_10, wd_2_6, wd_32_11⟩
theorem my_X7_someBeginAnew : yX7_someBeginAnew.cls = RX7 ∧ yX7_someBeginAnew.cls ≠ "java/lang/invoke/MethodHandle" ∧ yX7_someBeginAnew.cls ≠ "java/lang/invoke/VarHandle" ∧ (parseMethodDescriptor yX7_someBeginAnew.desc).map (fun d => d.parameters.length) = some 1 := by decide +kernel
theorem wm_J6_bitCount_0f7a4 : Cond.static yJ6_bitCount_0f7a4 ∈ wsL_law ∧ Cond.initialized RJ6 ∈ wsL_law ∧ Cond.code yJ6_bitCount_0f7a4 cJ6_bitCount_0f7a4 1 (some .int) ∈ wsL_law := ⟨wd_26_21, wd_26_22, wd_26_23⟩
theorem my_J6_bitCount_0f7a4 : yJ6_bitCount_0f7a4.cls ≠ "java/lang/invoke/MethodHandle" ∧ yJ6_bitCount_0f7a4.cls ≠ "java/lang/invoke/VarHandle" ∧ (parseMethodDescriptor yJ6_bitCount_0f7a4.desc).map (fun d => d.parameters.length) = some 1 := by decide +kernel
theorem wm_X2_goRound : Cond.instanceMethod yX2_goRound ∈ wsL_law ∧ Cond.selects RX2 yX2_goRound yX2_goRound ∈ wsL_law ∧ Cond.initialized RX2 ∈ wsL_law ∧ Cond.code yX2_goRound cX2_goRound 5 (some .boolean) ∈ wsL_law := ⟨wd_20_1, wd_20_2, wd_1_22, wd_20_3⟩
theorem my_X2_goRound : yX2_goRound.cls = RX2 ∧ yX2_goRound.cls ≠ "java/lang/invoke/MethodHandle" ∧ yX2_goRound.cls ≠ "java/lang/invoke/VarHandle" ∧ (parseMethodDescriptor yX2_goRound.desc).map (fun d => d.parameters.length) = some 1 := by decide +kernel
theorem wm_X2_settleBack : Cond.instanceMethod yX2_settleBack ∈ wsL_law ∧ Cond.selects RX2 yX2_settleBack yX2_settleBack ∈ wsL_law ∧ Cond.initialized RX2 ∈ wsL_law ∧ Cond.code yX2_settleBack cX2_settleBack 3 none ∈ wsL_law := ⟨wd_19_20, wd_19_21, wd_1_22, wd_19_22⟩
theorem my_X2_settleBack : yX2_settleBack.cls = RX2 ∧ yX2_settleBack.cls ≠ "java/lang/invoke/MethodHandle" ∧ yX2_settleBack.cls ≠ "java/lang/invoke/VarHandle" ∧ (parseMethodDescriptor yX2_settleBack.desc).map (fun d => d.parameters.length) = some 1 := by decide +kernel
theorem wm_X2_findFailing : Cond.instanceMethod yX2_findFailing ∈ wsL_law ∧ Cond.selects RX2 yX2_findFailing yX2_findFailing ∈ wsL_law ∧ Cond.initialized RX2 ∈ wsL_law ∧ Cond.code yX2_findFailing cX2_findFailing 5 none ∈ wsL_law := ⟨wd_19_13, wd_19_14, wd_1_22, wd_19_15⟩
theorem my_X2_findFailing : yX2_findFailing.cls = RX2 ∧ yX2_findFailing.cls ≠ "java/lang/invoke/MethodHandle" ∧ yX2_findFailing.cls ≠ "java/lang/invoke/VarHandle" ∧ (parseMethodDescriptor yX2_findFailing.desc).map (fun d => d.parameters.length) = some 2 := by decide +kernel
theorem wm_X2_findGreatest : Cond.instanceMethod yX2_findGreatest ∈ wsL_law ∧ Cond.selects RX2 yX2_findGreatest yX2_findGreatest ∈ wsL_law ∧ Cond.initialized RX2 ∈ wsL_law ∧ Cond.code yX2_findGreatest cX2_findGreatest 4 (some .boolean) ∈ wsL_law := ⟨wd_34_11, wd_34_12, wd_1_22, wd_34_13⟩
theorem my_X2_findGreatest : yX2_findGreatest.cls = RX2 ∧ yX2_findGreatest.cls ≠ "java/lang/invoke/MethodHandle" ∧ yX2_findGreatest.cls ≠ "java/lang/invoke/VarHandle" ∧ (parseMethodDescriptor yX2_findGreatest.desc).map (fun d => d.parameters.length) = some 2 := by decide +kernel
theorem wm_X2_settleOn : Cond.instanceMethod yX2_settleOn ∈ wsL_law ∧ Cond.selects RX2 yX2_settleOn yX2_settleOn ∈ wsL_law ∧ Cond.initialized RX2 ∈ wsL_law ∧ Cond.code yX2_settleOn cX2_settleOn 6 none ∈ wsL_law := ⟨wd_34_1, wd_34_2, wd_1_22, wd_34_3⟩
theorem my_X2_settleOn : yX2_settleOn.cls = RX2 ∧ yX2_settleOn.cls ≠ "java/lang/invoke/MethodHandle" ∧ yX2_settleOn.cls ≠ "java/lang/invoke/VarHandle" ∧ (parseMethodDescriptor yX2_settleOn.desc).map (fun d => d.parameters.length) = some 1 := by decide +kernel
theorem wm_X2_findLeast : Cond.instanceMethod yX2_findLeast ∈ wsL_law ∧ Cond.selects RX2 yX2_findLeast yX2_findLeast ∈ wsL_law ∧ Cond.initialized RX2 ∈ wsL_law ∧ Cond.code yX2_findLeast cX2_findLeast 4 (some .boolean) ∈ wsL_law := ⟨wd_33_19, wd_33_20, wd_1_22, wd_33_21⟩
theorem my_X2_findLeast : yX2_findLeast.cls = RX2 ∧ yX2_findLeast.cls ≠ "java/lang/invoke/MethodHandle" ∧ yX2_findLeast.cls ≠ "java/lang/invoke/VarHandle" ∧ (parseMethodDescriptor yX2_findLeast.desc).map (fun d => d.parameters.length) = some 2 := by decide +kernel
theorem wm_X2_findNeeded : Cond.instanceMethod yX2_findNeeded ∈ wsL_law ∧ Cond.selects RX2 yX2_findNeeded yX2_findNeeded ∈ wsL_law ∧ Cond.initialized RX2 ∈ wsL_law ∧ Cond.code yX2_findNeeded cX2_findNeeded 4 none ∈ wsL_law := ⟨wd_26_15, wd_26_16, wd_1_22, wd_26_17⟩
theorem my_X2_findNeeded : yX2_findNeeded.cls = RX2 ∧ yX2_findNeeded.cls ≠ "java/lang/invoke/MethodHandle" ∧ yX2_findNeeded.cls ≠ "java/lang/invoke/VarHandle" ∧ (parseMethodDescriptor yX2_findNeeded.desc).map (fun d => d.parameters.length) = some 1 := by decide +kernel
theorem wm_X2_countNeeded : Cond.instanceMethod yX2_countNeeded ∈ wsL_law ∧ Cond.selects RX2 yX2_countNeeded yX2_countNeeded ∈ wsL_law ∧ Cond.initialized RX2 ∈ wsL_law ∧ Cond.code yX2_countNeeded cX2_countNeeded 6 (some .int) ∈ wsL_law := ⟨wd_26_11, wd_26_12, wd_1_22, wd_26_13⟩
theorem my_X2_countNeeded : yX2_countNeeded.cls = RX2 ∧ yX2_countNeeded.cls ≠ "java/lang/invoke/MethodHandle" ∧ yX2_countNeeded.cls ≠ "java/lang/invoke/VarHandle" ∧ (parseMethodDescriptor yX2_countNeeded.desc).map (fun d => d.parameters.length) = some 3 := by decide +kernel
theorem wm_X2_isNeeded : Cond.instanceMethod yX2_isNeeded ∈ wsL_law ∧ Cond.selects RX2 yX2_isNeeded yX2_isNeeded ∈ wsL_law ∧ Cond.initialized RX2 ∈ wsL_law ∧ Cond.code yX2_isNeeded cX2_isNeeded 4 (some .boolean) ∈ wsL_law := ⟨wd_29_5, wd_29_6, wd_1_22, wd_29_7⟩
theorem my_X2_isNeeded : yX2_isNeeded.cls = RX2 ∧ yX2_isNeeded.cls ≠ "java/lang/invoke/MethodHandle" ∧ yX2_isNeeded.cls ≠ "java/lang/invoke/VarHandle" ∧ (parseMethodDescriptor yX2_isNeeded.desc).map (fun d => d.parameters.length) = some 3 := by decide +kernel
theorem wm_X6_isReached : Cond.instanceMethod yX6_isReached ∈ wsL_law ∧ Cond.selects RX6 yX6_isReached yX6_isReached ∈ wsL_law ∧ Cond.initialized RX6 ∈ wsL_law ∧ Cond.code yX6_isReached cX6_isReached 3 (some .boolean) ∈ wsL_law := ⟨wd_25_23, wd_26_0, wd_2_2, wd_26_1⟩
theorem my_X6_isReached : yX6_isReached.cls = RX6 ∧ yX6_isReached.cls ≠ "java/lang/invoke/MethodHandle" ∧ yX6_isReached.cls ≠ "java/lang/invoke/VarHandle" ∧ (parseMethodDescriptor yX6_isReached.desc).map (fun d => d.parameters.length) = some 2 := by decide +kernel
theorem wm_X6_reach : Cond.instanceMethod yX6_reach ∈ wsL_law ∧ Cond.selects RX6 yX6_reach yX6_reach ∈ wsL_law ∧ Cond.initialized RX6 ∈ wsL_law ∧ Cond.code yX6_reach cX6_reach 4 (some .boolean) ∈ wsL_law := ⟨wd_26_6, wd_26_7, wd_2_2, wd_26_8⟩
theorem my_X6_reach : yX6_reach.cls = RX6 ∧ yX6_reach.cls ≠ "java/lang/invoke/MethodHandle" ∧ yX6_reach.cls ≠ "java/lang/invoke/VarHandle" ∧ (parseMethodDescriptor yX6_reach.desc).map (fun d => d.parameters.length) = some 2 := by decide +kernel
theorem wm_X6_fewest : Cond.instanceMethod yX6_fewest ∈ wsL_law ∧ Cond.selects RX6 yX6_fewest yX6_fewest ∈ wsL_law ∧ Cond.initialized RX6 ∈ wsL_law ∧ Cond.code yX6_fewest cX6_fewest 11 (some .int) ∈ wsL_law := ⟨wd_25_9, wd_25_10, wd_2_2, wd_25_11⟩
theorem my_X6_fewest : yX6_fewest.cls = RX6 ∧ yX6_fewest.cls ≠ "java/lang/invoke/MethodHandle" ∧ yX6_fewest.cls ≠ "java/lang/invoke/VarHandle" ∧ (parseMethodDescriptor yX6_fewest.desc).map (fun d => d.parameters.length) = some 6 := by decide +kernel
theorem wm_X5_figuresBehind : Cond.static yX5_figuresBehind ∈ wsL_law ∧ Cond.initialized RX5 ∈ wsL_law ∧ Cond.code yX5_figuresBehind cX5_figuresBehind 2 (some .int) ∈ wsL_law := ⟨wd_7_3, wd_6_23, wd_7_4⟩
theorem my_X5_figuresBehind : yX5_figuresBehind.cls ≠ "java/lang/invoke/MethodHandle" ∧ yX5_figuresBehind.cls ≠ "java/lang/invoke/VarHandle" ∧ (parseMethodDescriptor yX5_figuresBehind.desc).map (fun d => d.parameters.length) = some 2 := by decide +kernel
theorem wm_X5_doShortItem : Cond.static yX5_doShortItem ∈ wsL_law ∧ Cond.initialized RX5 ∈ wsL_law ∧ Cond.code yX5_doShortItem cX5_doShortItem 3 (some .boolean) ∈ wsL_law := ⟨wd_7_18, wd_6_23, wd_7_19⟩
theorem my_X5_doShortItem : yX5_doShortItem.cls ≠ "java/lang/invoke/MethodHandle" ∧ yX5_doShortItem.cls ≠ "java/lang/invoke/VarHandle" ∧ (parseMethodDescriptor yX5_doShortItem.desc).map (fun d => d.parameters.length) = some 3 := by decide +kernel
theorem wm_X5_doItem : Cond.static yX5_doItem ∈ wsL_law ∧ Cond.initialized RX5 ∈ wsL_law ∧ Cond.code yX5_doItem cX5_doItem 7 (some .boolean) ∈ wsL_law := ⟨wd_7_15, wd_6_23, wd_7_16⟩
theorem my_X5_doItem : yX5_doItem.cls ≠ "java/lang/invoke/MethodHandle" ∧ yX5_doItem.cls ≠ "java/lang/invoke/VarHandle" ∧ (parseMethodDescriptor yX5_doItem.desc).map (fun d => d.parameters.length) = some 4 := by decide +kernel
theorem wm_X5_tell : Cond.static yX5_tell ∈ wsL_law ∧ Cond.initialized RX5 ∈ wsL_law ∧ Cond.code yX5_tell cX5_tell 5 (some .int) ∈ wsL_law := ⟨wd_6_22, wd_6_23, wd_7_0⟩
theorem my_X5_tell : yX5_tell.cls ≠ "java/lang/invoke/MethodHandle" ∧ yX5_tell.cls ≠ "java/lang/invoke/VarHandle" ∧ (parseMethodDescriptor yX5_tell.desc).map (fun d => d.parameters.length) = some 2 := by decide +kernel
theorem wm_X8_write : Cond.instanceMethod yX8_write ∈ wsL_law ∧ Cond.selects RX8 yX8_write yX8_write ∈ wsL_law ∧ Cond.initialized RX8 ∈ wsL_law ∧ Cond.code yX8_write cX8_write 2 (some .int) ∈ wsL_law := ⟨wd_15_8, wd_15_9, wd_1_2, wd_15_10⟩
theorem my_X8_write : yX8_write.cls = RX8 ∧ yX8_write.cls ≠ "java/lang/invoke/MethodHandle" ∧ yX8_write.cls ≠ "java/lang/invoke/VarHandle" ∧ (parseMethodDescriptor yX8_write.desc).map (fun d => d.parameters.length) = some 1 := by decide +kernel
theorem wm_X8_wipe : Cond.instanceMethod yX8_wipe ∈ wsL_law ∧ Cond.selects RX8 yX8_wipe yX8_wipe ∈ wsL_law ∧ Cond.initialized RX8 ∈ wsL_law ∧ Cond.code yX8_wipe cX8_wipe 1 (some .int) ∈ wsL_law := ⟨wd_15_18, wd_15_19, wd_1_2, wd_15_20⟩
theorem my_X8_wipe : yX8_wipe.cls = RX8 ∧ yX8_wipe.cls ≠ "java/lang/invoke/MethodHandle" ∧ yX8_wipe.cls ≠ "java/lang/invoke/VarHandle" ∧ (parseMethodDescriptor yX8_wipe.desc).map (fun d => d.parameters.length) = some 0 := by decide +kernel
theorem wm_X8_fault : Cond.instanceMethod yX8_fault ∈ wsL_law ∧ Cond.selects RX8 yX8_fault yX8_fault ∈ wsL_law ∧ Cond.initialized RX8 ∈ wsL_law ∧ Cond.code yX8_fault cX8_fault 1 (some .int) ∈ wsL_law := ⟨wd_16_2, wd_16_3, wd_1_2, wd_16_4⟩
theorem my_X8_fault : yX8_fault.cls = RX8 ∧ yX8_fault.cls ≠ "java/lang/invoke/MethodHandle" ∧ yX8_fault.cls ≠ "java/lang/invoke/VarHandle" ∧ (parseMethodDescriptor yX8_fault.desc).map (fun d => d.parameters.length) = some 0 := by decide +kernel
theorem wm_X8_lay : Cond.instanceMethod yX8_lay ∈ wsL_law ∧ Cond.selects RX8 yX8_lay yX8_lay ∈ wsL_law ∧ Cond.initialized RX8 ∈ wsL_law ∧ Cond.code yX8_lay cX8_lay 2 (some .int) ∈ wsL_law := ⟨wd_17_2, wd_17_3, wd_1_2, wd_17_4⟩
theorem my_X8_lay : yX8_lay.cls = RX8 ∧ yX8_lay.cls ≠ "java/lang/invoke/MethodHandle" ∧ yX8_lay.cls ≠ "java/lang/invoke/VarHandle" ∧ (parseMethodDescriptor yX8_lay.desc).map (fun d => d.parameters.length) = some 0 := by decide +kernel
theorem wm_X8_mode : Cond.instanceMethod yX8_mode ∈ wsL_law ∧ Cond.selects RX8 yX8_mode yX8_mode ∈ wsL_law ∧ Cond.initialized RX8 ∈ wsL_law ∧ Cond.code yX8_mode cX8_mode 3 (some .int) ∈ wsL_law := ⟨wd_18_0, wd_18_1, wd_1_2, wd_18_2⟩
theorem my_X8_mode : yX8_mode.cls = RX8 ∧ yX8_mode.cls ≠ "java/lang/invoke/MethodHandle" ∧ yX8_mode.cls ≠ "java/lang/invoke/VarHandle" ∧ (parseMethodDescriptor yX8_mode.desc).map (fun d => d.parameters.length) = some 1 := by decide +kernel
theorem wm_X8_save : Cond.instanceMethod yX8_save ∈ wsL_law ∧ Cond.selects RX8 yX8_save yX8_save ∈ wsL_law ∧ Cond.initialized RX8 ∈ wsL_law ∧ Cond.code yX8_save cX8_save 2 (some .int) ∈ wsL_law := ⟨wd_18_6, wd_18_7, wd_1_2, wd_18_8⟩
theorem my_X8_save : yX8_save.cls = RX8 ∧ yX8_save.cls ≠ "java/lang/invoke/MethodHandle" ∧ yX8_save.cls ≠ "java/lang/invoke/VarHandle" ∧ (parseMethodDescriptor yX8_save.desc).map (fun d => d.parameters.length) = some 1 := by decide +kernel
theorem wm_X8_send : Cond.instanceMethod yX8_send ∈ wsL_law ∧ Cond.selects RX8 yX8_send yX8_send ∈ wsL_law ∧ Cond.initialized RX8 ∈ wsL_law ∧ Cond.code yX8_send cX8_send 3 (some .int) ∈ wsL_law := ⟨wd_18_12, wd_18_13, wd_1_2, wd_18_14⟩
theorem my_X8_send : yX8_send.cls = RX8 ∧ yX8_send.cls ≠ "java/lang/invoke/MethodHandle" ∧ yX8_send.cls ≠ "java/lang/invoke/VarHandle" ∧ (parseMethodDescriptor yX8_send.desc).map (fun d => d.parameters.length) = some 2 := by decide +kernel
theorem wm_X8_receive : Cond.instanceMethod yX8_receive ∈ wsL_law ∧ Cond.selects RX8 yX8_receive yX8_receive ∈ wsL_law ∧ Cond.initialized RX8 ∈ wsL_law ∧ Cond.code yX8_receive cX8_receive 2 (some .int) ∈ wsL_law := ⟨wd_18_18, wd_18_19, wd_1_2, wd_18_20⟩
theorem my_X8_receive : yX8_receive.cls = RX8 ∧ yX8_receive.cls ≠ "java/lang/invoke/MethodHandle" ∧ yX8_receive.cls ≠ "java/lang/invoke/VarHandle" ∧ (parseMethodDescriptor yX8_receive.desc).map (fun d => d.parameters.length) = some 1 := by decide +kernel
theorem wm_X8_fail : Cond.instanceMethod yX8_fail ∈ wsL_law ∧ Cond.selects RX8 yX8_fail yX8_fail ∈ wsL_law ∧ Cond.initialized RX8 ∈ wsL_law ∧ Cond.code yX8_fail cX8_fail 2 (some .int) ∈ wsL_law := ⟨wd_19_0, wd_19_1, wd_1_2, wd_19_2⟩
theorem my_X8_fail : yX8_fail.cls = RX8 ∧ yX8_fail.cls ≠ "java/lang/invoke/MethodHandle" ∧ yX8_fail.cls ≠ "java/lang/invoke/VarHandle" ∧ (parseMethodDescriptor yX8_fail.desc).map (fun d => d.parameters.length) = some 1 := by decide +kernel
theorem wm_X8_gather : Cond.instanceMethod yX8_gather ∈ wsL_law ∧ Cond.selects RX8 yX8_gather yX8_gather ∈ wsL_law ∧ Cond.initialized RX8 ∈ wsL_law ∧ Cond.code yX8_gather cX8_gather 3 (some .int) ∈ wsL_law := ⟨wd_22_19, wd_22_20, wd_1_2, wd_22_21⟩
theorem my_X8_gather : yX8_gather.cls = RX8 ∧ yX8_gather.cls ≠ "java/lang/invoke/MethodHandle" ∧ yX8_gather.cls ≠ "java/lang/invoke/VarHandle" ∧ (parseMethodDescriptor yX8_gather.desc).map (fun d => d.parameters.length) = some 0 := by decide +kernel
theorem wm_X8_drive : Cond.instanceMethod yX8_drive ∈ wsL_law ∧ Cond.selects RX8 yX8_drive yX8_drive ∈ wsL_law ∧ Cond.initialized RX8 ∈ wsL_law ∧ Cond.code yX8_drive cX8_drive 7 (some .int) ∈ wsL_law := ⟨wd_23_9, wd_23_10, wd_1_2, wd_23_11⟩
theorem my_X8_drive : yX8_drive.cls = RX8 ∧ yX8_drive.cls ≠ "java/lang/invoke/MethodHandle" ∧ yX8_drive.cls ≠ "java/lang/invoke/VarHandle" ∧ (parseMethodDescriptor yX8_drive.desc).map (fun d => d.parameters.length) = some 2 := by decide +kernel
theorem wm_X8_isIdle : Cond.instanceMethod yX8_isIdle ∈ wsL_law ∧ Cond.selects RX8 yX8_isIdle yX8_isIdle ∈ wsL_law ∧ Cond.initialized RX8 ∈ wsL_law ∧ Cond.code yX8_isIdle cX8_isIdle 3 (some .boolean) ∈ wsL_law := ⟨wd_25_5, wd_25_6, wd_1_2, wd_25_7⟩
theorem my_X8_isIdle : yX8_isIdle.cls = RX8 ∧ yX8_isIdle.cls ≠ "java/lang/invoke/MethodHandle" ∧ yX8_isIdle.cls ≠ "java/lang/invoke/VarHandle" ∧ (parseMethodDescriptor yX8_isIdle.desc).map (fun d => d.parameters.length) = some 2 := by decide +kernel
theorem wm_X8_countIdle : Cond.instanceMethod yX8_countIdle ∈ wsL_law ∧ Cond.selects RX8 yX8_countIdle yX8_countIdle ∈ wsL_law ∧ Cond.initialized RX8 ∈ wsL_law ∧ Cond.code yX8_countIdle cX8_countIdle 4 (some .int) ∈ wsL_law := ⟨wd_25_1, wd_25_2, wd_1_2, wd_25_3⟩
theorem my_X8_countIdle : yX8_countIdle.cls = RX8 ∧ yX8_countIdle.cls ≠ "java/lang/invoke/MethodHandle" ∧ yX8_countIdle.cls ≠ "java/lang/invoke/VarHandle" ∧ (parseMethodDescriptor yX8_countIdle.desc).map (fun d => d.parameters.length) = some 1 := by decide +kernel
theorem wm_X8_process : Cond.instanceMethod yX8_process ∈ wsL_law ∧ Cond.selects RX8 yX8_process yX8_process ∈ wsL_law ∧ Cond.initialized RX8 ∈ wsL_law ∧ Cond.code yX8_process cX8_process 4 (some .int) ∈ wsL_law := ⟨wd_24_6, wd_24_7, wd_1_2, wd_24_8⟩
theorem my_X8_process : yX8_process.cls = RX8 ∧ yX8_process.cls ≠ "java/lang/invoke/MethodHandle" ∧ yX8_process.cls ≠ "java/lang/invoke/VarHandle" ∧ (parseMethodDescriptor yX8_process.desc).map (fun d => d.parameters.length) = some 2 := by decide +kernel
theorem wm_X8_knows : Cond.instanceMethod yX8_knows ∈ wsL_law ∧ Cond.selects RX8 yX8_knows yX8_knows ∈ wsL_law ∧ Cond.initialized RX8 ∈ wsL_law ∧ Cond.code yX8_knows cX8_knows 5 (some .int) ∈ wsL_law := ⟨wd_28_1, wd_28_2, wd_1_2, wd_28_3⟩
theorem my_X8_knows : yX8_knows.cls = RX8 ∧ yX8_knows.cls ≠ "java/lang/invoke/MethodHandle" ∧ yX8_knows.cls ≠ "java/lang/invoke/VarHandle" ∧ (parseMethodDescriptor yX8_knows.desc).map (fun d => d.parameters.length) = some 3 := by decide +kernel
theorem wm_X8_saved : Cond.instanceMethod yX8_saved ∈ wsL_law ∧ Cond.selects RX8 yX8_saved yX8_saved ∈ wsL_law ∧ Cond.initialized RX8 ∈ wsL_law ∧ Cond.code yX8_saved cX8_saved 5 (some .int) ∈ wsL_law := ⟨wd_28_21, wd_28_22, wd_1_2, wd_28_23⟩
theorem my_X8_saved : yX8_saved.cls = RX8 ∧ yX8_saved.cls ≠ "java/lang/invoke/MethodHandle" ∧ yX8_saved.cls ≠ "java/lang/invoke/VarHandle" ∧ (parseMethodDescriptor yX8_saved.desc).map (fun d => d.parameters.length) = some 3 := by decide +kernel
theorem wm_X8_message : Cond.instanceMethod yX8_message ∈ wsL_law ∧ Cond.selects RX8 yX8_message yX8_message ∈ wsL_law ∧ Cond.initialized RX8 ∈ wsL_law ∧ Cond.code yX8_message cX8_message 4 (some .int) ∈ wsL_law := ⟨wd_29_13, wd_29_14, wd_1_2, wd_29_15⟩
theorem my_X8_message : yX8_message.cls = RX8 ∧ yX8_message.cls ≠ "java/lang/invoke/MethodHandle" ∧ yX8_message.cls ≠ "java/lang/invoke/VarHandle" ∧ (parseMethodDescriptor yX8_message.desc).map (fun d => d.parameters.length) = some 2 := by decide +kernel
theorem wm_X8_underway : Cond.instanceMethod yX8_underway ∈ wsL_law ∧ Cond.selects RX8 yX8_underway yX8_underway ∈ wsL_law ∧ Cond.initialized RX8 ∈ wsL_law ∧ Cond.code yX8_underway cX8_underway 2 (some .int) ∈ wsL_law := ⟨wd_30_5, wd_30_6, wd_1_2, wd_30_7⟩
theorem my_X8_underway : yX8_underway.cls = RX8 ∧ yX8_underway.cls ≠ "java/lang/invoke/MethodHandle" ∧ yX8_underway.cls ≠ "java/lang/invoke/VarHandle" ∧ (parseMethodDescriptor yX8_underway.desc).map (fun d => d.parameters.length) = some 1 := by decide +kernel
theorem wm_X8_way : Cond.instanceMethod yX8_way ∈ wsL_law ∧ Cond.selects RX8 yX8_way yX8_way ∈ wsL_law ∧ Cond.initialized RX8 ∈ wsL_law ∧ Cond.code yX8_way cX8_way 5 (some .int) ∈ wsL_law := ⟨wd_30_15, wd_30_16, wd_1_2, wd_30_17⟩
theorem my_X8_way : yX8_way.cls = RX8 ∧ yX8_way.cls ≠ "java/lang/invoke/MethodHandle" ∧ yX8_way.cls ≠ "java/lang/invoke/VarHandle" ∧ (parseMethodDescriptor yX8_way.desc).map (fun d => d.parameters.length) = some 4 := by decide +kernel
theorem wm_X8_cause : Cond.instanceMethod yX8_cause ∈ wsL_law ∧ Cond.selects RX8 yX8_cause yX8_cause ∈ wsL_law ∧ Cond.initialized RX8 ∈ wsL_law ∧ Cond.code yX8_cause cX8_cause 5 (some .int) ∈ wsL_law := ⟨wd_30_23, wd_31_0, wd_1_2, wd_31_1⟩
theorem my_X8_cause : yX8_cause.cls = RX8 ∧ yX8_cause.cls ≠ "java/lang/invoke/MethodHandle" ∧ yX8_cause.cls ≠ "java/lang/invoke/VarHandle" ∧ (parseMethodDescriptor yX8_cause.desc).map (fun d => d.parameters.length) = some 4 := by decide +kernel
theorem wm_X8_line : Cond.instanceMethod yX8_line ∈ wsL_law ∧ Cond.selects RX8 yX8_line yX8_line ∈ wsL_law ∧ Cond.initialized RX8 ∈ wsL_law ∧ Cond.code yX8_line cX8_line 3 (some .int) ∈ wsL_law := ⟨wd_31_7, wd_31_8, wd_1_2, wd_31_9⟩
theorem my_X8_line : yX8_line.cls = RX8 ∧ yX8_line.cls ≠ "java/lang/invoke/MethodHandle" ∧ yX8_line.cls ≠ "java/lang/invoke/VarHandle" ∧ (parseMethodDescriptor yX8_line.desc).map (fun d => d.parameters.length) = some 2 := by decide +kernel
theorem wm_X8_back : Cond.instanceMethod yX8_back ∈ wsL_law ∧ Cond.selects RX8 yX8_back yX8_back ∈ wsL_law ∧ Cond.initialized RX8 ∈ wsL_law ∧ Cond.code yX8_back cX8_back 3 (some .int) ∈ wsL_law := ⟨wd_31_15, wd_31_16, wd_1_2, wd_31_17⟩
theorem my_X8_back : yX8_back.cls = RX8 ∧ yX8_back.cls ≠ "java/lang/invoke/MethodHandle" ∧ yX8_back.cls ≠ "java/lang/invoke/VarHandle" ∧ (parseMethodDescriptor yX8_back.desc).map (fun d => d.parameters.length) = some 2 := by decide +kernel
theorem wm_X8_pick : Cond.instanceMethod yX8_pick ∈ wsL_law ∧ Cond.selects RX8 yX8_pick yX8_pick ∈ wsL_law ∧ Cond.initialized RX8 ∈ wsL_law ∧ Cond.code yX8_pick cX8_pick 3 (some .int) ∈ wsL_law := ⟨wd_32_17, wd_32_18, wd_1_2, wd_32_19⟩
theorem my_X8_pick : yX8_pick.cls = RX8 ∧ yX8_pick.cls ≠ "java/lang/invoke/MethodHandle" ∧ yX8_pick.cls ≠ "java/lang/invoke/VarHandle" ∧ (parseMethodDescriptor yX8_pick.desc).map (fun d => d.parameters.length) = some 2 := by decide +kernel
theorem wm_X8_unpick : Cond.instanceMethod yX8_unpick ∈ wsL_law ∧ Cond.selects RX8 yX8_unpick yX8_unpick ∈ wsL_law ∧ Cond.initialized RX8 ∈ wsL_law ∧ Cond.code yX8_unpick cX8_unpick 1 (some .int) ∈ wsL_law := ⟨wd_33_3, wd_33_4, wd_1_2, wd_33_5⟩
theorem my_X8_unpick : yX8_unpick.cls = RX8 ∧ yX8_unpick.cls ≠ "java/lang/invoke/MethodHandle" ∧ yX8_unpick.cls ≠ "java/lang/invoke/VarHandle" ∧ (parseMethodDescriptor yX8_unpick.desc).map (fun d => d.parameters.length) = some 0 := by decide +kernel
theorem wm_X8_through : Cond.instanceMethod yX8_through ∈ wsL_law ∧ Cond.selects RX8 yX8_through yX8_through ∈ wsL_law ∧ Cond.initialized RX8 ∈ wsL_law ∧ Cond.code yX8_through cX8_through 4 (some .int) ∈ wsL_law := ⟨wd_33_8, wd_33_9, wd_1_2, wd_33_10⟩
theorem my_X8_through : yX8_through.cls = RX8 ∧ yX8_through.cls ≠ "java/lang/invoke/MethodHandle" ∧ yX8_through.cls ≠ "java/lang/invoke/VarHandle" ∧ (parseMethodDescriptor yX8_through.desc).map (fun d => d.parameters.length) = some 2 := by decide +kernel
theorem wm_X8_countAllIdle : Cond.instanceMethod yX8_countAllIdle ∈ wsL_law ∧ Cond.selects RX8 yX8_countAllIdle yX8_countAllIdle ∈ wsL_law ∧ Cond.initialized RX8 ∈ wsL_law ∧ Cond.code yX8_countAllIdle cX8_countAllIdle 3 (some .int) ∈ wsL_law := ⟨wd_35_17, wd_35_18, wd_1_2, wd_35_19⟩
theorem my_X8_countAllIdle : yX8_countAllIdle.cls = RX8 ∧ yX8_countAllIdle.cls ≠ "java/lang/invoke/MethodHandle" ∧ yX8_countAllIdle.cls ≠ "java/lang/invoke/VarHandle" ∧ (parseMethodDescriptor yX8_countAllIdle.desc).map (fun d => d.parameters.length) = some 0 := by decide +kernel
theorem wm_X8_count : Cond.instanceMethod yX8_count ∈ wsL_law ∧ Cond.selects RX8 yX8_count yX8_count ∈ wsL_law ∧ Cond.initialized RX8 ∈ wsL_law ∧ Cond.code yX8_count cX8_count 2 (some .int) ∈ wsL_law := ⟨wd_34_23, wd_35_0, wd_1_2, wd_35_1⟩
theorem my_X8_count : yX8_count.cls = RX8 ∧ yX8_count.cls ≠ "java/lang/invoke/MethodHandle" ∧ yX8_count.cls ≠ "java/lang/invoke/VarHandle" ∧ (parseMethodDescriptor yX8_count.desc).map (fun d => d.parameters.length) = some 1 := by decide +kernel
theorem wm_X9_isIn : Cond.static yX9_isIn ∈ wsL_law ∧ Cond.initialized RX9 ∈ wsL_law ∧ Cond.code yX9_isIn cX9_isIn 3 (some .boolean) ∈ wsL_law := ⟨wd_13_1, wd_1_5, wd_13_2⟩
theorem my_X9_isIn : yX9_isIn.cls ≠ "java/lang/invoke/MethodHandle" ∧ yX9_isIn.cls ≠ "java/lang/invoke/VarHandle" ∧ (parseMethodDescriptor yX9_isIn.desc).map (fun d => d.parameters.length) = some 3 := by decide +kernel
theorem wm_X9_isProcess : Cond.instanceMethod yX9_isProcess ∈ wsL_law ∧ Cond.selects RX9 yX9_isProcess yX9_isProcess ∈ wsL_law ∧ Cond.initialized RX9 ∈ wsL_law ∧ Cond.code yX9_isProcess cX9_isProcess 2 (some .boolean) ∈ wsL_law := ⟨wd_13_8, wd_13_9, wd_1_5, wd_13_10⟩
theorem my_X9_isProcess : yX9_isProcess.cls = RX9 ∧ yX9_isProcess.cls ≠ "java/lang/invoke/MethodHandle" ∧ yX9_isProcess.cls ≠ "java/lang/invoke/VarHandle" ∧ (parseMethodDescriptor yX9_isProcess.desc).map (fun d => d.parameters.length) = some 1 := by decide +kernel
theorem wm_X9_isMessage : Cond.instanceMethod yX9_isMessage ∈ wsL_law ∧ Cond.selects RX9 yX9_isMessage yX9_isMessage ∈ wsL_law ∧ Cond.initialized RX9 ∈ wsL_law ∧ Cond.code yX9_isMessage cX9_isMessage 2 (some .boolean) ∈ wsL_law := ⟨wd_13_20, wd_13_21, wd_1_5, wd_13_22⟩
theorem my_X9_isMessage : yX9_isMessage.cls = RX9 ∧ yX9_isMessage.cls ≠ "java/lang/invoke/MethodHandle" ∧ yX9_isMessage.cls ≠ "java/lang/invoke/VarHandle" ∧ (parseMethodDescriptor yX9_isMessage.desc).map (fun d => d.parameters.length) = some 1 := by decide +kernel
theorem wm_X9_of : Cond.instanceMethod yX9_of ∈ wsL_law ∧ Cond.selects RX9 yX9_of yX9_of ∈ wsL_law ∧ Cond.initialized RX9 ∈ wsL_law ∧ Cond.code yX9_of cX9_of 3 (some .int) ∈ wsL_law := ⟨wd_14_0, wd_14_1, wd_1_5, wd_14_2⟩
theorem my_X9_of : yX9_of.cls = RX9 ∧ yX9_of.cls ≠ "java/lang/invoke/MethodHandle" ∧ yX9_of.cls ≠ "java/lang/invoke/VarHandle" ∧ (parseMethodDescriptor yX9_of.desc).map (fun d => d.parameters.length) = some 2 := by decide +kernel
theorem wm_X9_puts : Cond.instanceMethod yX9_puts ∈ wsL_law ∧ Cond.selects RX9 yX9_puts yX9_puts ∈ wsL_law ∧ Cond.initialized RX9 ∈ wsL_law ∧ Cond.code yX9_puts cX9_puts 4 none ∈ wsL_law := ⟨wd_13_12, wd_13_13, wd_1_5, wd_13_14⟩
theorem my_X9_puts : yX9_puts.cls = RX9 ∧ yX9_puts.cls ≠ "java/lang/invoke/MethodHandle" ∧ yX9_puts.cls ≠ "java/lang/invoke/VarHandle" ∧ (parseMethodDescriptor yX9_puts.desc).map (fun d => d.parameters.length) = some 3 := by decide +kernel
theorem wm_X9_keeps : Cond.instanceMethod yX9_keeps ∈ wsL_law ∧ Cond.selects RX9 yX9_keeps yX9_keeps ∈ wsL_law ∧ Cond.initialized RX9 ∈ wsL_law ∧ Cond.code yX9_keeps cX9_keeps 4 none ∈ wsL_law := ⟨wd_12_13, wd_12_14, wd_1_5, wd_12_15⟩
theorem my_X9_keeps : yX9_keeps.cls = RX9 ∧ yX9_keeps.cls ≠ "java/lang/invoke/MethodHandle" ∧ yX9_keeps.cls ≠ "java/lang/invoke/VarHandle" ∧ (parseMethodDescriptor yX9_keeps.desc).map (fun d => d.parameters.length) = some 2 := by decide +kernel
theorem wm_X9_begins : Cond.instanceMethod yX9_begins ∈ wsL_law ∧ Cond.selects RX9 yX9_begins yX9_begins ∈ wsL_law ∧ Cond.initialized RX9 ∈ wsL_law ∧ Cond.code yX9_begins cX9_begins 4 none ∈ wsL_law := ⟨wd_12_9, wd_12_10, wd_1_5, wd_12_11⟩
theorem my_X9_begins : yX9_begins.cls = RX9 ∧ yX9_begins.cls ≠ "java/lang/invoke/MethodHandle" ∧ yX9_begins.cls ≠ "java/lang/invoke/VarHandle" ∧ (parseMethodDescriptor yX9_begins.desc).map (fun d => d.parameters.length) = some 1 := by decide +kernel
theorem wm_X9_mode : Cond.instanceMethod yX9_mode ∈ wsL_law ∧ Cond.selects RX9 yX9_mode yX9_mode ∈ wsL_law ∧ Cond.initialized RX9 ∈ wsL_law ∧ Cond.code yX9_mode cX9_mode 3 (some .int) ∈ wsL_law := ⟨wd_12_21, wd_12_22, wd_1_5, wd_12_23⟩
theorem my_X9_mode : yX9_mode.cls = RX9 ∧ yX9_mode.cls ≠ "java/lang/invoke/MethodHandle" ∧ yX9_mode.cls ≠ "java/lang/invoke/VarHandle" ∧ (parseMethodDescriptor yX9_mode.desc).map (fun d => d.parameters.length) = some 1 := by decide +kernel
theorem wm_X9_saves : Cond.instanceMethod yX9_saves ∈ wsL_law ∧ Cond.selects RX9 yX9_saves yX9_saves ∈ wsL_law ∧ Cond.initialized RX9 ∈ wsL_law ∧ Cond.code yX9_saves cX9_saves 5 none ∈ wsL_law := ⟨wd_14_12, wd_14_13, wd_1_5, wd_14_14⟩
theorem my_X9_saves : yX9_saves.cls = RX9 ∧ yX9_saves.cls ≠ "java/lang/invoke/MethodHandle" ∧ yX9_saves.cls ≠ "java/lang/invoke/VarHandle" ∧ (parseMethodDescriptor yX9_saves.desc).map (fun d => d.parameters.length) = some 3 := by decide +kernel
theorem wm_X9_save : Cond.instanceMethod yX9_save ∈ wsL_law ∧ Cond.selects RX9 yX9_save yX9_save ∈ wsL_law ∧ Cond.initialized RX9 ∈ wsL_law ∧ Cond.code yX9_save cX9_save 2 (some .int) ∈ wsL_law := ⟨wd_14_20, wd_14_21, wd_1_5, wd_14_22⟩
theorem my_X9_save : yX9_save.cls = RX9 ∧ yX9_save.cls ≠ "java/lang/invoke/MethodHandle" ∧ yX9_save.cls ≠ "java/lang/invoke/VarHandle" ∧ (parseMethodDescriptor yX9_save.desc).map (fun d => d.parameters.length) = some 1 := by decide +kernel
theorem wm_X9_send : Cond.instanceMethod yX9_send ∈ wsL_law ∧ Cond.selects RX9 yX9_send yX9_send ∈ wsL_law ∧ Cond.initialized RX9 ∈ wsL_law ∧ Cond.code yX9_send cX9_send 5 (some .int) ∈ wsL_law := ⟨wd_13_4, wd_13_5, wd_1_5, wd_13_6⟩
theorem my_X9_send : yX9_send.cls = RX9 ∧ yX9_send.cls ≠ "java/lang/invoke/MethodHandle" ∧ yX9_send.cls ≠ "java/lang/invoke/VarHandle" ∧ (parseMethodDescriptor yX9_send.desc).map (fun d => d.parameters.length) = some 2 := by decide +kernel
theorem wm_X9_sentNow : Cond.instanceMethod yX9_sentNow ∈ wsL_law ∧ Cond.selects RX9 yX9_sentNow yX9_sentNow ∈ wsL_law ∧ Cond.initialized RX9 ∈ wsL_law ∧ Cond.code yX9_sentNow cX9_sentNow 4 (some .int) ∈ wsL_law := ⟨wd_14_8, wd_14_9, wd_1_5, wd_14_10⟩
theorem my_X9_sentNow : yX9_sentNow.cls = RX9 ∧ yX9_sentNow.cls ≠ "java/lang/invoke/MethodHandle" ∧ yX9_sentNow.cls ≠ "java/lang/invoke/VarHandle" ∧ (parseMethodDescriptor yX9_sentNow.desc).map (fun d => d.parameters.length) = some 1 := by decide +kernel
theorem wm_X9_isForced : Cond.instanceMethod yX9_isForced ∈ wsL_law ∧ Cond.selects RX9 yX9_isForced yX9_isForced ∈ wsL_law ∧ Cond.initialized RX9 ∈ wsL_law ∧ Cond.code yX9_isForced cX9_isForced 5 (some .boolean) ∈ wsL_law := ⟨wd_14_4, wd_14_5, wd_1_5, wd_14_6⟩
theorem my_X9_isForced : yX9_isForced.cls = RX9 ∧ yX9_isForced.cls ≠ "java/lang/invoke/MethodHandle" ∧ yX9_isForced.cls ≠ "java/lang/invoke/VarHandle" ∧ (parseMethodDescriptor yX9_isForced.desc).map (fun d => d.parameters.length) = some 1 := by decide +kernel
theorem wm_X9_leavesWay : Cond.instanceMethod yX9_leavesWay ∈ wsL_law ∧ Cond.selects RX9 yX9_leavesWay yX9_leavesWay ∈ wsL_law ∧ Cond.initialized RX9 ∈ wsL_law ∧ Cond.code yX9_leavesWay cX9_leavesWay 4 none ∈ wsL_law := ⟨wd_14_16, wd_14_17, wd_1_5, wd_14_18⟩
theorem my_X9_leavesWay : yX9_leavesWay.cls = RX9 ∧ yX9_leavesWay.cls ≠ "java/lang/invoke/MethodHandle" ∧ yX9_leavesWay.cls ≠ "java/lang/invoke/VarHandle" ∧ (parseMethodDescriptor yX9_leavesWay.desc).map (fun d => d.parameters.length) = some 1 := by decide +kernel
theorem wm_X9_receive : Cond.instanceMethod yX9_receive ∈ wsL_law ∧ Cond.selects RX9 yX9_receive yX9_receive ∈ wsL_law ∧ Cond.initialized RX9 ∈ wsL_law ∧ Cond.code yX9_receive cX9_receive 5 (some .int) ∈ wsL_law := ⟨wd_13_16, wd_13_17, wd_1_5, wd_13_18⟩
theorem my_X9_receive : yX9_receive.cls = RX9 ∧ yX9_receive.cls ≠ "java/lang/invoke/MethodHandle" ∧ yX9_receive.cls ≠ "java/lang/invoke/VarHandle" ∧ (parseMethodDescriptor yX9_receive.desc).map (fun d => d.parameters.length) = some 1 := by decide +kernel
theorem wm_X9_letterAt : Cond.instanceMethod yX9_letterAt ∈ wsL_law ∧ Cond.selects RX9 yX9_letterAt yX9_letterAt ∈ wsL_law ∧ Cond.initialized RX9 ∈ wsL_law ∧ Cond.code yX9_letterAt cX9_letterAt 2 (some .int) ∈ wsL_law := ⟨wd_16_22, wd_16_23, wd_1_5, wd_17_0⟩
theorem my_X9_letterAt : yX9_letterAt.cls = RX9 ∧ yX9_letterAt.cls ≠ "java/lang/invoke/MethodHandle" ∧ yX9_letterAt.cls ≠ "java/lang/invoke/VarHandle" ∧ (parseMethodDescriptor yX9_letterAt.desc).map (fun d => d.parameters.length) = some 1 := by decide +kernel
theorem wm_X9_figure : Cond.instanceMethod yX9_figure ∈ wsL_law ∧ Cond.selects RX9 yX9_figure yX9_figure ∈ wsL_law ∧ Cond.initialized RX9 ∈ wsL_law ∧ Cond.code yX9_figure cX9_figure 3 (some .int) ∈ wsL_law := ⟨wd_16_18, wd_16_19, wd_1_5, wd_16_20⟩
theorem my_X9_figure : yX9_figure.cls = RX9 ∧ yX9_figure.cls ≠ "java/lang/invoke/MethodHandle" ∧ yX9_figure.cls ≠ "java/lang/invoke/VarHandle" ∧ (parseMethodDescriptor yX9_figure.desc).map (fun d => d.parameters.length) = some 1 := by decide +kernel
theorem wm_X9_acts : Cond.instanceMethod yX9_acts ∈ wsL_law ∧ Cond.selects RX9 yX9_acts yX9_acts ∈ wsL_law ∧ Cond.initialized RX9 ∈ wsL_law ∧ Cond.code yX9_acts cX9_acts 5 (some .int) ∈ wsL_law := ⟨wd_12_17, wd_12_18, wd_1_5, wd_12_19⟩
theorem my_X9_acts : yX9_acts.cls = RX9 ∧ yX9_acts.cls ≠ "java/lang/invoke/MethodHandle" ∧ yX9_acts.cls ≠ "java/lang/invoke/VarHandle" ∧ (parseMethodDescriptor yX9_acts.desc).map (fun d => d.parameters.length) = some 3 := by decide +kernel
theorem wm_X9_does : Cond.instanceMethod yX9_does ∈ wsL_law ∧ Cond.selects RX9 yX9_does yX9_does ∈ wsL_law ∧ Cond.initialized RX9 ∈ wsL_law ∧ Cond.code yX9_does cX9_does 6 (some .int) ∈ wsL_law := ⟨wd_16_14, wd_16_15, wd_1_5, wd_16_16⟩
theorem my_X9_does : yX9_does.cls = RX9 ∧ yX9_does.cls ≠ "java/lang/invoke/MethodHandle" ∧ yX9_does.cls ≠ "java/lang/invoke/VarHandle" ∧ (parseMethodDescriptor yX9_does.desc).map (fun d => d.parameters.length) = some 0 := by decide +kernel
theorem wm_X9_write : Cond.instanceMethod yX9_write ∈ wsL_law ∧ Cond.selects RX9 yX9_write yX9_write ∈ wsL_law ∧ Cond.initialized RX9 ∈ wsL_law ∧ Cond.code yX9_write cX9_write 2 (some .int) ∈ wsL_law := ⟨wd_15_13, wd_15_14, wd_1_5, wd_15_15⟩
theorem my_X9_write : yX9_write.cls = RX9 ∧ yX9_write.cls ≠ "java/lang/invoke/MethodHandle" ∧ yX9_write.cls ≠ "java/lang/invoke/VarHandle" ∧ (parseMethodDescriptor yX9_write.desc).map (fun d => d.parameters.length) = some 1 := by decide +kernel
theorem wm_X9_wipe : Cond.instanceMethod yX9_wipe ∈ wsL_law ∧ Cond.selects RX9 yX9_wipe yX9_wipe ∈ wsL_law ∧ Cond.initialized RX9 ∈ wsL_law ∧ Cond.code yX9_wipe cX9_wipe 2 (some .int) ∈ wsL_law := ⟨wd_15_22, wd_15_23, wd_1_5, wd_16_0⟩
theorem my_X9_wipe : yX9_wipe.cls = RX9 ∧ yX9_wipe.cls ≠ "java/lang/invoke/MethodHandle" ∧ yX9_wipe.cls ≠ "java/lang/invoke/VarHandle" ∧ (parseMethodDescriptor yX9_wipe.desc).map (fun d => d.parameters.length) = some 0 := by decide +kernel
theorem wm_X9_copies : Cond.instanceMethod yX9_copies ∈ wsL_law ∧ Cond.selects RX9 yX9_copies yX9_copies ∈ wsL_law ∧ Cond.initialized RX9 ∈ wsL_law ∧ Cond.code yX9_copies cX9_copies 4 none ∈ wsL_law := ⟨wd_16_10, wd_16_11, wd_1_5, wd_16_12⟩
theorem my_X9_copies : yX9_copies.cls = RX9 ∧ yX9_copies.cls ≠ "java/lang/invoke/MethodHandle" ∧ yX9_copies.cls ≠ "java/lang/invoke/VarHandle" ∧ (parseMethodDescriptor yX9_copies.desc).map (fun d => d.parameters.length) = some 2 := by decide +kernel
theorem wm_X9_fault : Cond.instanceMethod yX9_fault ∈ wsL_law ∧ Cond.selects RX9 yX9_fault yX9_fault ∈ wsL_law ∧ Cond.initialized RX9 ∈ wsL_law ∧ Cond.code yX9_fault cX9_fault 2 (some .int) ∈ wsL_law := ⟨wd_16_6, wd_16_7, wd_1_5, wd_16_8⟩
theorem my_X9_fault : yX9_fault.cls = RX9 ∧ yX9_fault.cls ≠ "java/lang/invoke/MethodHandle" ∧ yX9_fault.cls ≠ "java/lang/invoke/VarHandle" ∧ (parseMethodDescriptor yX9_fault.desc).map (fun d => d.parameters.length) = some 0 := by decide +kernel
theorem wm_X9_pickedMany : Cond.instanceMethod yX9_pickedMany ∈ wsL_law ∧ Cond.selects RX9 yX9_pickedMany yX9_pickedMany ∈ wsL_law ∧ Cond.initialized RX9 ∈ wsL_law ∧ Cond.code yX9_pickedMany cX9_pickedMany 3 (some .int) ∈ wsL_law := ⟨wd_15_4, wd_15_5, wd_1_5, wd_15_6⟩
theorem my_X9_pickedMany : yX9_pickedMany.cls = RX9 ∧ yX9_pickedMany.cls ≠ "java/lang/invoke/MethodHandle" ∧ yX9_pickedMany.cls ≠ "java/lang/invoke/VarHandle" ∧ (parseMethodDescriptor yX9_pickedMany.desc).map (fun d => d.parameters.length) = some 0 := by decide +kernel
theorem wm_X9_unpick : Cond.instanceMethod yX9_unpick ∈ wsL_law ∧ Cond.selects RX9 yX9_unpick yX9_unpick ∈ wsL_law ∧ Cond.initialized RX9 ∈ wsL_law ∧ Cond.code yX9_unpick cX9_unpick 3 (some .int) ∈ wsL_law := ⟨wd_15_0, wd_15_1, wd_1_5, wd_15_2⟩
theorem my_X9_unpick : yX9_unpick.cls = RX9 ∧ yX9_unpick.cls ≠ "java/lang/invoke/MethodHandle" ∧ yX9_unpick.cls ≠ "java/lang/invoke/VarHandle" ∧ (parseMethodDescriptor yX9_unpick.desc).map (fun d => d.parameters.length) = some 0 := by decide +kernel
theorem wm_X9_lay : Cond.instanceMethod yX9_lay ∈ wsL_law ∧ Cond.selects RX9 yX9_lay yX9_lay ∈ wsL_law ∧ Cond.initialized RX9 ∈ wsL_law ∧ Cond.code yX9_lay cX9_lay 1 (some .int) ∈ wsL_law := ⟨wd_17_19, wd_17_20, wd_1_5, wd_17_21⟩
theorem my_X9_lay : yX9_lay.cls = RX9 ∧ yX9_lay.cls ≠ "java/lang/invoke/MethodHandle" ∧ yX9_lay.cls ≠ "java/lang/invoke/VarHandle" ∧ (parseMethodDescriptor yX9_lay.desc).map (fun d => d.parameters.length) = some 0 := by decide +kernel
theorem wm_X9_finds : Cond.instanceMethod yX9_finds ∈ wsL_law ∧ Cond.selects RX9 yX9_finds yX9_finds ∈ wsL_law ∧ Cond.initialized RX9 ∈ wsL_law ∧ Cond.code yX9_finds cX9_finds 4 none ∈ wsL_law := ⟨wd_22_2, wd_22_3, wd_1_5, wd_22_4⟩
theorem my_X9_finds : yX9_finds.cls = RX9 ∧ yX9_finds.cls ≠ "java/lang/invoke/MethodHandle" ∧ yX9_finds.cls ≠ "java/lang/invoke/VarHandle" ∧ (parseMethodDescriptor yX9_finds.desc).map (fun d => d.parameters.length) = some 0 := by decide +kernel
theorem wm_X9_fails : Cond.instanceMethod yX9_fails ∈ wsL_law ∧ Cond.selects RX9 yX9_fails yX9_fails ∈ wsL_law ∧ Cond.initialized RX9 ∈ wsL_law ∧ Cond.code yX9_fails cX9_fails 3 none ∈ wsL_law := ⟨wd_21_22, wd_21_23, wd_1_5, wd_22_0⟩
theorem my_X9_fails : yX9_fails.cls = RX9 ∧ yX9_fails.cls ≠ "java/lang/invoke/MethodHandle" ∧ yX9_fails.cls ≠ "java/lang/invoke/VarHandle" ∧ (parseMethodDescriptor yX9_fails.desc).map (fun d => d.parameters.length) = some 1 := by decide +kernel
theorem wm_X9_isSet : Cond.instanceMethod yX9_isSet ∈ wsL_law ∧ Cond.selects RX9 yX9_isSet yX9_isSet ∈ wsL_law ∧ Cond.initialized RX9 ∈ wsL_law ∧ Cond.code yX9_isSet cX9_isSet 3 (some .boolean) ∈ wsL_law := ⟨wd_21_18, wd_21_19, wd_1_5, wd_21_20⟩
theorem my_X9_isSet : yX9_isSet.cls = RX9 ∧ yX9_isSet.cls ≠ "java/lang/invoke/MethodHandle" ∧ yX9_isSet.cls ≠ "java/lang/invoke/VarHandle" ∧ (parseMethodDescriptor yX9_isSet.desc).map (fun d => d.parameters.length) = some 2 := by decide +kernel
theorem wm_X9_goesBack : Cond.instanceMethod yX9_goesBack ∈ wsL_law ∧ Cond.selects RX9 yX9_goesBack yX9_goesBack ∈ wsL_law ∧ Cond.initialized RX9 ∈ wsL_law ∧ Cond.code yX9_goesBack cX9_goesBack 2 (some .boolean) ∈ wsL_law := ⟨wd_22_15, wd_22_16, wd_1_5, wd_22_17⟩
theorem my_X9_goesBack : yX9_goesBack.cls = RX9 ∧ yX9_goesBack.cls ≠ "java/lang/invoke/MethodHandle" ∧ yX9_goesBack.cls ≠ "java/lang/invoke/VarHandle" ∧ (parseMethodDescriptor yX9_goesBack.desc).map (fun d => d.parameters.length) = some 1 := by decide +kernel
theorem wm_X9_isGoneBy : Cond.instanceMethod yX9_isGoneBy ∈ wsL_law ∧ Cond.selects RX9 yX9_isGoneBy yX9_isGoneBy ∈ wsL_law ∧ Cond.initialized RX9 ∈ wsL_law ∧ Cond.code yX9_isGoneBy cX9_isGoneBy 2 (some .boolean) ∈ wsL_law := ⟨wd_22_11, wd_22_12, wd_1_5, wd_22_13⟩
theorem my_X9_isGoneBy : yX9_isGoneBy.cls = RX9 ∧ yX9_isGoneBy.cls ≠ "java/lang/invoke/MethodHandle" ∧ yX9_isGoneBy.cls ≠ "java/lang/invoke/VarHandle" ∧ (parseMethodDescriptor yX9_isGoneBy.desc).map (fun d => d.parameters.length) = some 1 := by decide +kernel
theorem wm_X9_isAgain : Cond.instanceMethod yX9_isAgain ∈ wsL_law ∧ Cond.selects RX9 yX9_isAgain yX9_isAgain ∈ wsL_law ∧ Cond.initialized RX9 ∈ wsL_law ∧ Cond.code yX9_isAgain cX9_isAgain 2 (some .boolean) ∈ wsL_law := ⟨wd_22_7, wd_22_8, wd_1_5, wd_22_9⟩
theorem my_X9_isAgain : yX9_isAgain.cls = RX9 ∧ yX9_isAgain.cls ≠ "java/lang/invoke/MethodHandle" ∧ yX9_isAgain.cls ≠ "java/lang/invoke/VarHandle" ∧ (parseMethodDescriptor yX9_isAgain.desc).map (fun d => d.parameters.length) = some 1 := by decide +kernel
theorem wm_X9_line : Cond.instanceMethod yX9_line ∈ wsL_law ∧ Cond.selects RX9 yX9_line yX9_line ∈ wsL_law ∧ Cond.initialized RX9 ∈ wsL_law ∧ Cond.code yX9_line cX9_line 3 (some .int) ∈ wsL_law := ⟨wd_31_11, wd_31_12, wd_1_5, wd_31_13⟩
theorem my_X9_line : yX9_line.cls = RX9 ∧ yX9_line.cls ≠ "java/lang/invoke/MethodHandle" ∧ yX9_line.cls ≠ "java/lang/invoke/VarHandle" ∧ (parseMethodDescriptor yX9_line.desc).map (fun d => d.parameters.length) = some 2 := by decide +kernel
theorem wm_X9_back : Cond.instanceMethod yX9_back ∈ wsL_law ∧ Cond.selects RX9 yX9_back yX9_back ∈ wsL_law ∧ Cond.initialized RX9 ∈ wsL_law ∧ Cond.code yX9_back cX9_back 8 (some .int) ∈ wsL_law := ⟨wd_32_13, wd_32_14, wd_1_5, wd_32_15⟩
theorem my_X9_back : yX9_back.cls = RX9 ∧ yX9_back.cls ≠ "java/lang/invoke/MethodHandle" ∧ yX9_back.cls ≠ "java/lang/invoke/VarHandle" ∧ (parseMethodDescriptor yX9_back.desc).map (fun d => d.parameters.length) = some 2 := by decide +kernel
theorem wm_X9_fail : Cond.instanceMethod yX9_fail ∈ wsL_law ∧ Cond.selects RX9 yX9_fail yX9_fail ∈ wsL_law ∧ Cond.initialized RX9 ∈ wsL_law ∧ Cond.code yX9_fail cX9_fail 6 (some .int) ∈ wsL_law := ⟨wd_21_14, wd_21_15, wd_1_5, wd_21_16⟩
theorem my_X9_fail : yX9_fail.cls = RX9 ∧ yX9_fail.cls ≠ "java/lang/invoke/MethodHandle" ∧ yX9_fail.cls ≠ "java/lang/invoke/VarHandle" ∧ (parseMethodDescriptor yX9_fail.desc).map (fun d => d.parameters.length) = some 1 := by decide +kernel
theorem wm_X9_gather : Cond.instanceMethod yX9_gather ∈ wsL_law ∧ Cond.selects RX9 yX9_gather yX9_gather ∈ wsL_law ∧ Cond.initialized RX9 ∈ wsL_law ∧ Cond.code yX9_gather cX9_gather 4 (some .int) ∈ wsL_law := ⟨wd_23_5, wd_23_6, wd_1_5, wd_23_7⟩
theorem my_X9_gather : yX9_gather.cls = RX9 ∧ yX9_gather.cls ≠ "java/lang/invoke/MethodHandle" ∧ yX9_gather.cls ≠ "java/lang/invoke/VarHandle" ∧ (parseMethodDescriptor yX9_gather.desc).map (fun d => d.parameters.length) = some 0 := by decide +kernel
theorem wm_X9_drive : Cond.instanceMethod yX9_drive ∈ wsL_law ∧ Cond.selects RX9 yX9_drive yX9_drive ∈ wsL_law ∧ Cond.initialized RX9 ∈ wsL_law ∧ Cond.code yX9_drive cX9_drive 10 (some .int) ∈ wsL_law := ⟨wd_23_23, wd_24_0, wd_1_5, wd_24_1⟩
theorem my_X9_drive : yX9_drive.cls = RX9 ∧ yX9_drive.cls ≠ "java/lang/invoke/MethodHandle" ∧ yX9_drive.cls ≠ "java/lang/invoke/VarHandle" ∧ (parseMethodDescriptor yX9_drive.desc).map (fun d => d.parameters.length) = some 2 := by decide +kernel
theorem wm_X9_fewest : Cond.instanceMethod yX9_fewest ∈ wsL_law ∧ Cond.selects RX9 yX9_fewest yX9_fewest ∈ wsL_law ∧ Cond.initialized RX9 ∈ wsL_law ∧ Cond.code yX9_fewest cX9_fewest 10 (some .int) ∈ wsL_law := ⟨wd_27_17, wd_27_18, wd_1_5, wd_27_19⟩
theorem my_X9_fewest : yX9_fewest.cls = RX9 ∧ yX9_fewest.cls ≠ "java/lang/invoke/MethodHandle" ∧ yX9_fewest.cls ≠ "java/lang/invoke/VarHandle" ∧ (parseMethodDescriptor yX9_fewest.desc).map (fun d => d.parameters.length) = some 5 := by decide +kernel
theorem wm_X9_isState : Cond.instanceMethod yX9_isState ∈ wsL_law ∧ Cond.selects RX9 yX9_isState yX9_isState ∈ wsL_law ∧ Cond.initialized RX9 ∈ wsL_law ∧ Cond.code yX9_isState cX9_isState 3 (some .boolean) ∈ wsL_law := ⟨wd_28_17, wd_28_18, wd_1_5, wd_28_19⟩
theorem my_X9_isState : yX9_isState.cls = RX9 ∧ yX9_isState.cls ≠ "java/lang/invoke/MethodHandle" ∧ yX9_isState.cls ≠ "java/lang/invoke/VarHandle" ∧ (parseMethodDescriptor yX9_isState.desc).map (fun d => d.parameters.length) = some 2 := by decide +kernel
theorem wm_X9_way : Cond.instanceMethod yX9_way ∈ wsL_law ∧ Cond.selects RX9 yX9_way yX9_way ∈ wsL_law ∧ Cond.initialized RX9 ∈ wsL_law ∧ Cond.code yX9_way cX9_way 5 (some .int) ∈ wsL_law := ⟨wd_30_19, wd_30_20, wd_1_5, wd_30_21⟩
theorem my_X9_way : yX9_way.cls = RX9 ∧ yX9_way.cls ≠ "java/lang/invoke/MethodHandle" ∧ yX9_way.cls ≠ "java/lang/invoke/VarHandle" ∧ (parseMethodDescriptor yX9_way.desc).map (fun d => d.parameters.length) = some 4 := by decide +kernel
theorem wm_X9_cause : Cond.instanceMethod yX9_cause ∈ wsL_law ∧ Cond.selects RX9 yX9_cause yX9_cause ∈ wsL_law ∧ Cond.initialized RX9 ∈ wsL_law ∧ Cond.code yX9_cause cX9_cause 5 (some .int) ∈ wsL_law := ⟨wd_31_3, wd_31_4, wd_1_5, wd_31_5⟩
theorem my_X9_cause : yX9_cause.cls = RX9 ∧ yX9_cause.cls ≠ "java/lang/invoke/MethodHandle" ∧ yX9_cause.cls ≠ "java/lang/invoke/VarHandle" ∧ (parseMethodDescriptor yX9_cause.desc).map (fun d => d.parameters.length) = some 4 := by decide +kernel
theorem wm_X9_idle : Cond.instanceMethod yX9_idle ∈ wsL_law ∧ Cond.selects RX9 yX9_idle yX9_idle ∈ wsL_law ∧ Cond.initialized RX9 ∈ wsL_law ∧ Cond.code yX9_idle cX9_idle 3 (some .int) ∈ wsL_law := ⟨wd_27_13, wd_27_14, wd_1_5, wd_27_15⟩
theorem my_X9_idle : yX9_idle.cls = RX9 ∧ yX9_idle.cls ≠ "java/lang/invoke/MethodHandle" ∧ yX9_idle.cls ≠ "java/lang/invoke/VarHandle" ∧ (parseMethodDescriptor yX9_idle.desc).map (fun d => d.parameters.length) = some 2 := by decide +kernel
theorem wm_X9_needed : Cond.instanceMethod yX9_needed ∈ wsL_law ∧ Cond.selects RX9 yX9_needed yX9_needed ∈ wsL_law ∧ Cond.initialized RX9 ∈ wsL_law ∧ Cond.code yX9_needed cX9_needed 4 (some .int) ∈ wsL_law := ⟨wd_27_21, wd_27_22, wd_1_5, wd_27_23⟩
theorem my_X9_needed : yX9_needed.cls = RX9 ∧ yX9_needed.cls ≠ "java/lang/invoke/MethodHandle" ∧ yX9_needed.cls ≠ "java/lang/invoke/VarHandle" ∧ (parseMethodDescriptor yX9_needed.desc).map (fun d => d.parameters.length) = some 2 := by decide +kernel
theorem wm_X9_savedThat : Cond.instanceMethod yX9_savedThat ∈ wsL_law ∧ Cond.selects RX9 yX9_savedThat yX9_savedThat ∈ wsL_law ∧ Cond.initialized RX9 ∈ wsL_law ∧ Cond.code yX9_savedThat cX9_savedThat 5 (some .int) ∈ wsL_law := ⟨wd_27_9, wd_27_10, wd_1_5, wd_27_11⟩
theorem my_X9_savedThat : yX9_savedThat.cls = RX9 ∧ yX9_savedThat.cls ≠ "java/lang/invoke/MethodHandle" ∧ yX9_savedThat.cls ≠ "java/lang/invoke/VarHandle" ∧ (parseMethodDescriptor yX9_savedThat.desc).map (fun d => d.parameters.length) = some 2 := by decide +kernel
theorem wm_X9_process : Cond.instanceMethod yX9_process ∈ wsL_law ∧ Cond.selects RX9 yX9_process yX9_process ∈ wsL_law ∧ Cond.initialized RX9 ∈ wsL_law ∧ Cond.code yX9_process cX9_process 3 (some .int) ∈ wsL_law := ⟨wd_27_5, wd_27_6, wd_1_5, wd_27_7⟩
theorem my_X9_process : yX9_process.cls = RX9 ∧ yX9_process.cls ≠ "java/lang/invoke/MethodHandle" ∧ yX9_process.cls ≠ "java/lang/invoke/VarHandle" ∧ (parseMethodDescriptor yX9_process.desc).map (fun d => d.parameters.length) = some 2 := by decide +kernel
theorem wm_X9_knows : Cond.instanceMethod yX9_knows ∈ wsL_law ∧ Cond.selects RX9 yX9_knows yX9_knows ∈ wsL_law ∧ Cond.initialized RX9 ∈ wsL_law ∧ Cond.code yX9_knows cX9_knows 4 (some .int) ∈ wsL_law := ⟨wd_28_13, wd_28_14, wd_1_5, wd_28_15⟩
theorem my_X9_knows : yX9_knows.cls = RX9 ∧ yX9_knows.cls ≠ "java/lang/invoke/MethodHandle" ∧ yX9_knows.cls ≠ "java/lang/invoke/VarHandle" ∧ (parseMethodDescriptor yX9_knows.desc).map (fun d => d.parameters.length) = some 3 := by decide +kernel
theorem wm_X9_saved : Cond.instanceMethod yX9_saved ∈ wsL_law ∧ Cond.selects RX9 yX9_saved yX9_saved ∈ wsL_law ∧ Cond.initialized RX9 ∈ wsL_law ∧ Cond.code yX9_saved cX9_saved 4 (some .int) ∈ wsL_law := ⟨wd_29_9, wd_29_10, wd_1_5, wd_29_11⟩
theorem my_X9_saved : yX9_saved.cls = RX9 ∧ yX9_saved.cls ≠ "java/lang/invoke/MethodHandle" ∧ yX9_saved.cls ≠ "java/lang/invoke/VarHandle" ∧ (parseMethodDescriptor yX9_saved.desc).map (fun d => d.parameters.length) = some 3 := by decide +kernel
theorem wm_X9_message : Cond.instanceMethod yX9_message ∈ wsL_law ∧ Cond.selects RX9 yX9_message yX9_message ∈ wsL_law ∧ Cond.initialized RX9 ∈ wsL_law ∧ Cond.code yX9_message cX9_message 3 (some .int) ∈ wsL_law := ⟨wd_30_1, wd_30_2, wd_1_5, wd_30_3⟩
theorem my_X9_message : yX9_message.cls = RX9 ∧ yX9_message.cls ≠ "java/lang/invoke/MethodHandle" ∧ yX9_message.cls ≠ "java/lang/invoke/VarHandle" ∧ (parseMethodDescriptor yX9_message.desc).map (fun d => d.parameters.length) = some 2 := by decide +kernel
theorem wm_X9_underway : Cond.instanceMethod yX9_underway ∈ wsL_law ∧ Cond.selects RX9 yX9_underway yX9_underway ∈ wsL_law ∧ Cond.initialized RX9 ∈ wsL_law ∧ Cond.code yX9_underway cX9_underway 2 (some .int) ∈ wsL_law := ⟨wd_30_11, wd_30_12, wd_1_5, wd_30_13⟩
theorem my_X9_underway : yX9_underway.cls = RX9 ∧ yX9_underway.cls ≠ "java/lang/invoke/MethodHandle" ∧ yX9_underway.cls ≠ "java/lang/invoke/VarHandle" ∧ (parseMethodDescriptor yX9_underway.desc).map (fun d => d.parameters.length) = some 1 := by decide +kernel
theorem wm_X9_pick : Cond.instanceMethod yX9_pick ∈ wsL_law ∧ Cond.selects RX9 yX9_pick yX9_pick ∈ wsL_law ∧ Cond.initialized RX9 ∈ wsL_law ∧ Cond.code yX9_pick cX9_pick 3 (some .int) ∈ wsL_law := ⟨wd_32_23, wd_33_0, wd_1_5, wd_33_1⟩
theorem my_X9_pick : yX9_pick.cls = RX9 ∧ yX9_pick.cls ≠ "java/lang/invoke/MethodHandle" ∧ yX9_pick.cls ≠ "java/lang/invoke/VarHandle" ∧ (parseMethodDescriptor yX9_pick.desc).map (fun d => d.parameters.length) = some 2 := by decide +kernel
theorem wm_X9_rises : Cond.instanceMethod yX9_rises ∈ wsL_law ∧ Cond.selects RX9 yX9_rises yX9_rises ∈ wsL_law ∧ Cond.initialized RX9 ∈ wsL_law ∧ Cond.code yX9_rises cX9_rises 3 none ∈ wsL_law := ⟨wd_34_19, wd_34_20, wd_1_5, wd_34_21⟩
theorem my_X9_rises : yX9_rises.cls = RX9 ∧ yX9_rises.cls ≠ "java/lang/invoke/MethodHandle" ∧ yX9_rises.cls ≠ "java/lang/invoke/VarHandle" ∧ (parseMethodDescriptor yX9_rises.desc).map (fun d => d.parameters.length) = some 0 := by decide +kernel
theorem wm_X9_through : Cond.instanceMethod yX9_through ∈ wsL_law ∧ Cond.selects RX9 yX9_through yX9_through ∈ wsL_law ∧ Cond.initialized RX9 ∈ wsL_law ∧ Cond.code yX9_through cX9_through 4 (some .int) ∈ wsL_law := ⟨wd_34_15, wd_34_16, wd_1_5, wd_34_17⟩
theorem my_X9_through : yX9_through.cls = RX9 ∧ yX9_through.cls ≠ "java/lang/invoke/MethodHandle" ∧ yX9_through.cls ≠ "java/lang/invoke/VarHandle" ∧ (parseMethodDescriptor yX9_through.desc).map (fun d => d.parameters.length) = some 2 := by decide +kernel
theorem wm_X9_messagesThat : Cond.instanceMethod yX9_messagesThat ∈ wsL_law ∧ Cond.selects RX9 yX9_messagesThat yX9_messagesThat ∈ wsL_law ∧ Cond.initialized RX9 ∈ wsL_law ∧ Cond.code yX9_messagesThat cX9_messagesThat 4 (some .int) ∈ wsL_law := ⟨wd_36_6, wd_36_7, wd_1_5, wd_36_8⟩
theorem my_X9_messagesThat : yX9_messagesThat.cls = RX9 ∧ yX9_messagesThat.cls ≠ "java/lang/invoke/MethodHandle" ∧ yX9_messagesThat.cls ≠ "java/lang/invoke/VarHandle" ∧ (parseMethodDescriptor yX9_messagesThat.desc).map (fun d => d.parameters.length) = some 1 := by decide +kernel
theorem wm_X9_count : Cond.instanceMethod yX9_count ∈ wsL_law ∧ Cond.selects RX9 yX9_count yX9_count ∈ wsL_law ∧ Cond.initialized RX9 ∈ wsL_law ∧ Cond.code yX9_count cX9_count 5 (some .int) ∈ wsL_law := ⟨wd_36_2, wd_36_3, wd_1_5, wd_36_4⟩
theorem my_X9_count : yX9_count.cls = RX9 ∧ yX9_count.cls ≠ "java/lang/invoke/MethodHandle" ∧ yX9_count.cls ≠ "java/lang/invoke/VarHandle" ∧ (parseMethodDescriptor yX9_count.desc).map (fun d => d.parameters.length) = some 1 := by decide +kernel
theorem wm_copy : Cond.native arraycopyName ∈ wsL_law ∧ Cond.static arraycopyName ∈ wsL_law ∧ Cond.initialized "java/lang/System" ∈ wsL_law := ⟨wd_8_17, wd_8_18, wd_8_19⟩
theorem wm_max : Cond.static Lib.Math.max.name ∈ wsL_law ∧ Cond.initialized "java/lang/Math" ∈ wsL_law ∧ Cond.code Lib.Math.max.name Lib.Math.max.code 2 (some .int) ∈ wsL_law := ⟨wd_11_7, wd_11_8, wd_11_9⟩
theorem wm_min : Cond.static Lib.Math.min.name ∈ wsL_law ∧ Cond.initialized "java/lang/Math" ∈ wsL_law ∧ Cond.code Lib.Math.min.name Lib.Math.min.code 2 (some .int) ∈ wsL_law := ⟨wd_20_10, wd_11_8, wd_20_11⟩
