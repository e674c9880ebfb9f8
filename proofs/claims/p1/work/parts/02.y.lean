theorem inLr1 : ∀ w ∈ wsL_law0_r1, w ∈ wsL_law := fun w h => List.mem_append_left _ (List.mem_append_left _ (List.mem_append_left _ (List.mem_append_left _ (List.mem_append_left _ (List.mem_append_left _ (List.mem_append_left _ (List.mem_append_left _ (List.mem_append_left _ (List.mem_append_left _ (List.mem_append_left _ (List.mem_append_left _ h)))))))))))
theorem inLr2 : ∀ w ∈ wsL_law0_r2, w ∈ wsL_law := fun w h => List.mem_append_left _ (List.mem_append_left _ (List.mem_append_left _ (List.mem_append_left _ (List.mem_append_left _ (List.mem_append_left _ (List.mem_append_left _ (List.mem_append_left _ (List.mem_append_left _ (List.mem_append_left _ (List.mem_append_left _ (List.mem_append_right _ (List.mem_append_left _ h))))))))))))
theorem inLr3 : ∀ w ∈ wsL_law0_r3, w ∈ wsL_law := fun w h => List.mem_append_left _ (List.mem_append_left _ (List.mem_append_left _ (List.mem_append_left _ (List.mem_append_left _ (List.mem_append_left _ (List.mem_append_left _ (List.mem_append_left _ (List.mem_append_left _ (List.mem_append_left _ (List.mem_append_left _ (List.mem_append_right _ (List.mem_append_right _ (List.mem_append_left _ h)))))))))))))
theorem inLr4 : ∀ w ∈ wsL_law0_r4, w ∈ wsL_law := fun w h => List.mem_append_left _ (List.mem_append_left _ (List.mem_append_left _ (List.mem_append_left _ (List.mem_append_left _ (List.mem_append_left _ (List.mem_append_left _ (List.mem_append_left _ (List.mem_append_left _ (List.mem_append_left _ (List.mem_append_left _ (List.mem_append_right _ (List.mem_append_right _ (List.mem_append_right _ (List.mem_append_left _ h))))))))))))))
theorem inLr5 : ∀ w ∈ wsL_law0_r5, w ∈ wsL_law := fun w h => List.mem_append_left _ (List.mem_append_left _ (List.mem_append_left _ (List.mem_append_left _ (List.mem_append_left _ (List.mem_append_left _ (List.mem_append_left _ (List.mem_append_left _ (List.mem_append_left _ (List.mem_append_left _ (List.mem_append_left _ (List.mem_append_right _ (List.mem_append_right _ (List.mem_append_right _ (List.mem_append_right _ (List.mem_append_left _ h)))))))))))))))
theorem inLr6 : ∀ w ∈ wsL_law0_r6, w ∈ wsL_law := fun w h => List.mem_append_left _ (List.mem_append_left _ (List.mem_append_left _ (List.mem_append_left _ (List.mem_append_left _ (List.mem_append_left _ (List.mem_append_left _ (List.mem_append_left _ (List.mem_append_left _ (List.mem_append_left _ (List.mem_append_left _ (List.mem_append_right _ (List.mem_append_right _ (List.mem_append_right _ (List.mem_append_right _ (List.mem_append_right _ (List.mem_append_left _ h))))))))))))))))
theorem inLr7 : ∀ w ∈ wsL_law0_r7, w ∈ wsL_law := fun w h => List.mem_append_left _ (List.mem_append_left _ (List.mem_append_left _ (List.mem_append_left _ (List.mem_append_left _ (List.mem_append_left _ (List.mem_append_left _ (List.mem_append_left _ (List.mem_append_left _ (List.mem_append_left _ (List.mem_append_left _ (List.mem_append_right _ (List.mem_append_right _ (List.mem_append_right _ (List.mem_append_right _ (List.mem_append_right _ (List.mem_append_right _ (List.mem_append_left _ h)))))))))))))))))
theorem inLr8 : ∀ w ∈ wsL_law0_r8, w ∈ wsL_law := fun w h => List.mem_append_left _ (List.mem_append_left _ (List.mem_append_left _ (List.mem_append_left _ (List.mem_append_left _ (List.mem_append_left _ (List.mem_append_left _ (List.mem_append_left _ (List.mem_append_left _ (List.mem_append_left _ (List.mem_append_left _ (List.mem_append_right _ (List.mem_append_right _ (List.mem_append_right _ (List.mem_append_right _ (List.mem_append_right _ (List.mem_append_right _ (List.mem_append_right _ (List.mem_append_left _ h))))))))))))))))))
theorem inLr9 : ∀ w ∈ wsL_law0_r9, w ∈ wsL_law := fun w h => List.mem_append_left _ (List.mem_append_left _ (List.mem_append_left _ (List.mem_append_left _ (List.mem_append_left _ (List.mem_append_left _ (List.mem_append_left _ (List.mem_append_left _ (List.mem_append_left _ (List.mem_append_left _ (List.mem_append_left _ (List.mem_append_right _ (List.mem_append_right _ (List.mem_append_right _ (List.mem_append_right _ (List.mem_append_right _ (List.mem_append_right _ (List.mem_append_right _ (List.mem_append_right _ (List.mem_append_left _ h)))))))))))))))))))
theorem inLr10 : ∀ w ∈ wsL_law0_r10, w ∈ wsL_law := fun w h => List.mem_append_left _ (List.mem_append_left _ (List.mem_append_left _ (List.mem_append_left _ (List.mem_append_left _ (List.mem_append_left _ (List.mem_append_left _ (List.mem_append_left _ (List.mem_append_left _ (List.mem_append_left _ (List.mem_append_left _ (List.mem_append_right _ (List.mem_append_right _ (List.mem_append_right _ (List.mem_append_right _ (List.mem_append_right _ (List.mem_append_right _ (List.mem_append_right _ (List.mem_append_right _ (List.mem_append_right _ (List.mem_append_left _ h))))))))))))))))))))
theorem inLr11 : ∀ w ∈ wsL_law0_r11, w ∈ wsL_law := fun w h => List.mem_append_left _ (List.mem_append_left _ (List.mem_append_left _ (List.mem_append_left _ (List.mem_append_left _ (List.mem_append_left _ (List.mem_append_left _ (List.mem_append_left _ (List.mem_append_left _ (List.mem_append_left _ (List.mem_append_left _ (List.mem_append_right _ (List.mem_append_right _ (List.mem_append_right _ (List.mem_append_right _ (List.mem_append_right _ (List.mem_append_right _ (List.mem_append_right _ (List.mem_append_right _ (List.mem_append_right _ (List.mem_append_right _ (List.mem_append_left _ h)))))))))))))))))))))
theorem inLr12 : ∀ w ∈ wsL_law0_r12, w ∈ wsL_law := fun w h => List.mem_append_left _ (List.mem_append_left _ (List.mem_append_left _ (List.mem_append_left _ (List.mem_append_left _ (List.mem_append_left _ (List.mem_append_left _ (List.mem_append_left _ (List.mem_append_left _ (List.mem_append_left _ (List.mem_append_left _ (List.mem_append_right _ (List.mem_append_right _ (List.mem_append_right _ (List.mem_append_right _ (List.mem_append_right _ (List.mem_append_right _ (List.mem_append_right _ (List.mem_append_right _ (List.mem_append_right _ (List.mem_append_right _ (List.mem_append_right _ (List.mem_append_left _ h))))))))))))))))))))))
theorem inLr13 : ∀ w ∈ wsL_law0_r13, w ∈ wsL_law := fun w h => List.mem_append_left _ (List.mem_append_left _ (List.mem_append_left _ (List.mem_append_left _ (List.mem_append_left _ (List.mem_append_left _ (List.mem_append_left _ (List.mem_append_left _ (List.mem_append_left _ (List.mem_append_left _ (List.mem_append_left _ (List.mem_append_right _ (List.mem_append_right _ (List.mem_append_right _ (List.mem_append_right _ (List.mem_append_right _ (List.mem_append_right _ (List.mem_append_right _ (List.mem_append_right _ (List.mem_append_right _ (List.mem_append_right _ (List.mem_append_right _ (List.mem_append_right _ (List.mem_append_left _ h)))))))))))))))))))))))
theorem inLr14 : ∀ w ∈ wsL_law0_r14, w ∈ wsL_law := fun w h => List.mem_append_left _ (List.mem_append_left _ (List.mem_append_left _ (List.mem_append_left _ (List.mem_append_left _ (List.mem_append_left _ (List.mem_append_left _ (List.mem_append_left _ (List.mem_append_left _ (List.mem_append_left _ (List.mem_append_left _ (List.mem_append_right _ (List.mem_append_right _ (List.mem_append_right _ (List.mem_append_right _ (List.mem_append_right _ (List.mem_append_right _ (List.mem_append_right _ (List.mem_append_right _ (List.mem_append_right _ (List.mem_append_right _ (List.mem_append_right _ (List.mem_append_right _ (List.mem_append_right _ (List.mem_append_left _ h))))))))))))))))))))))))
theorem inLr15 : ∀ w ∈ wsL_law0_r15, w ∈ wsL_law := fun w h => List.mem_append_left _ (List.mem_append_left _ (List.mem_append_left _ (List.mem_append_left _ (List.mem_append_left _ (List.mem_append_left _ (List.mem_append_left _ (List.mem_append_left _ (List.mem_append_left _ (List.mem_append_left _ (List.mem_append_left _ (List.mem_append_right _ (List.mem_append_right _ (List.mem_append_right _ (List.mem_append_right _ (List.mem_append_right _ (List.mem_append_right _ (List.mem_append_right _ (List.mem_append_right _ (List.mem_append_right _ (List.mem_append_right _ (List.mem_append_right _ (List.mem_append_right _ (List.mem_append_right _ (List.mem_append_right _ (List.mem_append_left _ h)))))))))))))))))))))))))
theorem inLr16 : ∀ w ∈ wsL_law0_r16, w ∈ wsL_law := fun w h => List.mem_append_left _ (List.mem_append_left _ (List.mem_append_left _ (List.mem_append_left _ (List.mem_append_left _ (List.mem_append_left _ (List.mem_append_left _ (List.mem_append_left _ (List.mem_append_left _ (List.mem_append_left _ (List.mem_append_left _ (List.mem_append_right _ (List.mem_append_right _ (List.mem_append_right _ (List.mem_append_right _ (List.mem_append_right _ (List.mem_append_right _ (List.mem_append_right _ (List.mem_append_right _ (List.mem_append_right _ (List.mem_append_right _ (List.mem_append_right _ (List.mem_append_right _ (List.mem_append_right _ (List.mem_append_right _ (List.mem_append_right _ (List.mem_append_left _ h))))))))))))))))))))))))))
theorem inLr17 : ∀ w ∈ wsL_law0_r17, w ∈ wsL_law := fun w h => List.mem_append_left _ (List.mem_append_left _ (List.mem_append_left _ (List.mem_append_left _ (List.mem_append_left _ (List.mem_append_left _ (List.mem_append_left _ (List.mem_append_left _ (List.mem_append_left _ (List.mem_append_left _ (List.mem_append_left _ (List.mem_append_right _ (List.mem_append_right _ (List.mem_append_right _ (List.mem_append_right _ (List.mem_append_right _ (List.mem_append_right _ (List.mem_append_right _ (List.mem_append_right _ (List.mem_append_right _ (List.mem_append_right _ (List.mem_append_right _ (List.mem_append_right _ (List.mem_append_right _ (List.mem_append_right _ (List.mem_append_right _ (List.mem_append_right _ (List.mem_append_left _ h)))))))))))))))))))))))))))
theorem inLr18 : ∀ w ∈ wsL_law0_r18, w ∈ wsL_law := fun w h => List.mem_append_left _ (List.mem_append_left _ (List.mem_append_left _ (List.mem_append_left _ (List.mem_append_left _ (List.mem_append_left _ (List.mem_append_left _ (List.mem_append_left _ (List.mem_append_left _ (List.mem_append_left _ (List.mem_append_left _ (List.mem_append_right _ (List.mem_append_right _ (List.mem_append_right _ (List.mem_append_right _ (List.mem_append_right _ (List.mem_append_right _ (List.mem_append_right _ (List.mem_append_right _ (List.mem_append_right _ (List.mem_append_right _ (List.mem_append_right _ (List.mem_append_right _ (List.mem_append_right _ (List.mem_append_right _ (List.mem_append_right _ (List.mem_append_right _ (List.mem_append_right _ (List.mem_append_left _ h))))))))))))))))))))))))))))
theorem inLr19 : ∀ w ∈ wsL_law0_r19, w ∈ wsL_law := fun w h => List.mem_append_left _ (List.mem_append_left _ (List.mem_append_left _ (List.mem_append_left _ (List.mem_append_left _ (List.mem_append_left _ (List.mem_append_left _ (List.mem_append_left _ (List.mem_append_left _ (List.mem_append_left _ (List.mem_append_left _ (List.mem_append_right _ (List.mem_append_right _ (List.mem_append_right _ (List.mem_append_right _ (List.mem_append_right _ (List.mem_append_right _ (List.mem_append_right _ (List.mem_append_right _ (List.mem_append_right _ (List.mem_append_right _ (List.mem_append_right _ (List.mem_append_right _ (List.mem_append_right _ (List.mem_append_right _ (List.mem_append_right _ (List.mem_append_right _ (List.mem_append_right _ (List.mem_append_right _ (List.mem_append_left _ h)))))))))))))))))))))))))))))
theorem inLr20 : ∀ w ∈ wsL_law0_r20, w ∈ wsL_law := fun w h => List.mem_append_left _ (List.mem_append_left _ (List.mem_append_left _ (List.mem_append_left _ (List.mem_append_left _ (List.mem_append_left _ (List.mem_append_left _ (List.mem_append_left _ (List.mem_append_left _ (List.mem_append_left _ (List.mem_append_left _ (List.mem_append_right _ (List.mem_append_right _ (List.mem_append_right _ (List.mem_append_right _ (List.mem_append_right _ (List.mem_append_right _ (List.mem_append_right _ (List.mem_append_right _ (List.mem_append_right _ (List.mem_append_right _ (List.mem_append_right _ (List.mem_append_right _ (List.mem_append_right _ (List.mem_append_right _ (List.mem_append_right _ (List.mem_append_right _ (List.mem_append_right _ (List.mem_append_right _ (List.mem_append_right _ (List.mem_append_left _ h))))))))))))))))))))))))))))))
theorem inLr21 : ∀ w ∈ wsL_law0_r21, w ∈ wsL_law := fun w h => List.mem_append_left _ (List.mem_append_left _ (List.mem_append_left _ (List.mem_append_left _ (List.mem_append_left _ (List.mem_append_left _ (List.mem_append_left _ (List.mem_append_left _ (List.mem_append_left _ (List.mem_append_left _ (List.mem_append_left _ (List.mem_append_right _ (List.mem_append_right _ (List.mem_append_right _ (List.mem_append_right _ (List.mem_append_right _ (List.mem_append_right _ (List.mem_append_right _ (List.mem_append_right _ (List.mem_append_right _ (List.mem_append_right _ (List.mem_append_right _ (List.mem_append_right _ (List.mem_append_right _ (List.mem_append_right _ (List.mem_append_right _ (List.mem_append_right _ (List.mem_append_right _ (List.mem_append_right _ (List.mem_append_right _ (List.mem_append_right _ (List.mem_append_left _ h)))))))))))))))))))))))))))))))
theorem inLr22 : ∀ w ∈ wsL_law0_r22, w ∈ wsL_law := fun w h => List.mem_append_left _ (List.mem_append_left _ (List.mem_append_left _ (List.mem_append_left _ (List.mem_append_left _ (List.mem_append_left _ (List.mem_append_left _ (List.mem_append_left _ (List.mem_append_left _ (List.mem_append_left _ (List.mem_append_left _ (List.mem_append_right _ (List.mem_append_right _ (List.mem_append_right _ (List.mem_append_right _ (List.mem_append_right _ (List.mem_append_right _ (List.mem_append_right _ (List.mem_append_right _ (List.mem_append_right _ (List.mem_append_right _ (List.mem_append_right _ (List.mem_append_right _ (List.mem_append_right _ (List.mem_append_right _ (List.mem_append_right _ (List.mem_append_right _ (List.mem_append_right _ (List.mem_append_right _ (List.mem_append_right _ (List.mem_append_right _ (List.mem_append_right _ (List.mem_append_left _ h))))))))))))))))))))))))))))))))
theorem inLr23 : ∀ w ∈ wsL_law0_r23, w ∈ wsL_law := fun w h => List.mem_append_left _ (List.mem_append_left _ (List.mem_append_left _ (List.mem_append_left _ (List.mem_append_left _ (List.mem_append_left _ (List.mem_append_left _ (List.mem_append_left _ (List.mem_append_left _ (List.mem_append_left _ (List.mem_append_left _ (List.mem_append_right _ (List.mem_append_right _ (List.mem_append_right _ (List.mem_append_right _ (List.mem_append_right _ (List.mem_append_right _ (List.mem_append_right _ (List.mem_append_right _ (List.mem_append_right _ (List.mem_append_right _ (List.mem_append_right _ (List.mem_append_right _ (List.mem_append_right _ (List.mem_append_right _ (List.mem_append_right _ (List.mem_append_right _ (List.mem_append_right _ (List.mem_append_right _ (List.mem_append_right _ (List.mem_append_right _ (List.mem_append_right _ (List.mem_append_right _ (List.mem_append_left _ h)))))))))))))))))))))))))))))))))
theorem inLr24 : ∀ w ∈ wsL_law0_r24, w ∈ wsL_law := fun w h => List.mem_append_left _ (List.mem_append_left _ (List.mem_append_left _ (List.mem_append_left _ (List.mem_append_left _ (List.mem_append_left _ (List.mem_append_left _ (List.mem_append_left _ (List.mem_append_left _ (List.mem_append_left _ (List.mem_append_left _ (List.mem_append_right _ (List.mem_append_right _ (List.mem_append_right _ (List.mem_append_right _ (List.mem_append_right _ (List.mem_append_right _ (List.mem_append_right _ (List.mem_append_right _ (List.mem_append_right _ (List.mem_append_right _ (List.mem_append_right _ (List.mem_append_right _ (List.mem_append_right _ (List.mem_append_right _ (List.mem_append_right _ (List.mem_append_right _ (List.mem_append_right _ (List.mem_append_right _ (List.mem_append_right _ (List.mem_append_right _ (List.mem_append_right _ (List.mem_append_right _ (List.mem_append_right _ (List.mem_append_left _ h))))))))))))))))))))))))))))))))))
theorem inLr25 : ∀ w ∈ wsL_law0_r25, w ∈ wsL_law := fun w h => List.mem_append_left _ (List.mem_append_left _ (List.mem_append_left _ (List.mem_append_left _ (List.mem_append_left _ (List.mem_append_left _ (List.mem_append_left _ (List.mem_append_left _ (List.mem_append_left _ (List.mem_append_left _ (List.mem_append_left _ (List.mem_append_right _ (List.mem_append_right _ (List.mem_append_right _ (List.mem_append_right _ (List.mem_append_right _ (List.mem_append_right _ (List.mem_append_right _ (List.mem_append_right _ (List.mem_append_right _ (List.mem_append_right _ (List.mem_append_right _ (List.mem_append_right _ (List.mem_append_right _ (List.mem_append_right _ (List.mem_append_right _ (List.mem_append_right _ (List.mem_append_right _ (List.mem_append_right _ (List.mem_append_right _ (List.mem_append_right _ (List.mem_append_right _ (List.mem_append_right _ (List.mem_append_right _ (List.mem_append_right _ (List.mem_append_left _ h)))))))))))))))))))))))))))))))))))
theorem inLr26 : ∀ w ∈ wsL_law0_r26, w ∈ wsL_law := fun w h => List.mem_append_left _ (List.mem_append_left _ (List.mem_append_left _ (List.mem_append_left _ (List.mem_append_left _ (List.mem_append_left _ (List.mem_append_left _ (List.mem_append_left _ (List.mem_append_left _ (List.mem_append_left _ (List.mem_append_left _ (List.mem_append_right _ (List.mem_append_right _ (List.mem_append_right _ (List.mem_append_right _ (List.mem_append_right _ (List.mem_append_right _ (List.mem_append_right _ (List.mem_append_right _ (List.mem_append_right _ (List.mem_append_right _ (List.mem_append_right _ (List.mem_append_right _ (List.mem_append_right _ (List.mem_append_right _ (List.mem_append_right _ (List.mem_append_right _ (List.mem_append_right _ (List.mem_append_right _ (List.mem_append_right _ (List.mem_append_right _ (List.mem_append_right _ (List.mem_append_right _ (List.mem_append_right _ (List.mem_append_right _ (List.mem_append_right _ (List.mem_append_left _ h))))))))))))))))))))))))))))))))))))
theorem inLr27 : ∀ w ∈ wsL_law0_r27, w ∈ wsL_law := fun w h => List.mem_append_left _ (List.mem_append_left _ (List.mem_append_left _ (List.mem_append_left _ (List.mem_append_left _ (List.mem_append_left _ (List.mem_append_left _ (List.mem_append_left _ (List.mem_append_left _ (List.mem_append_left _ (List.mem_append_left _ (List.mem_append_right _ (List.mem_append_right _ (List.mem_append_right _ (List.mem_append_right _ (List.mem_append_right _ (List.mem_append_right _ (List.mem_append_right _ (List.mem_append_right _ (List.mem_append_right _ (List.mem_append_right _ (List.mem_append_right _ (List.mem_append_right _ (List.mem_append_right _ (List.mem_append_right _ (List.mem_append_right _ (List.mem_append_right _ (List.mem_append_right _ (List.mem_append_right _ (List.mem_append_right _ (List.mem_append_right _ (List.mem_append_right _ (List.mem_append_right _ (List.mem_append_right _ (List.mem_append_right _ (List.mem_append_right _ (List.mem_append_right _ (List.mem_append_left _ h)))))))))))))))))))))))))))))))))))))
theorem inLr28 : ∀ w ∈ wsL_law0_r28, w ∈ wsL_law := fun w h => List.mem_append_left _ (List.mem_append_left _ (List.mem_append_left _ (List.mem_append_left _ (List.mem_append_left _ (List.mem_append_left _ (List.mem_append_left _ (List.mem_append_left _ (List.mem_append_left _ (List.mem_append_left _ (List.mem_append_left _ (List.mem_append_right _ (List.mem_append_right _ (List.mem_append_right _ (List.mem_append_right _ (List.mem_append_right _ (List.mem_append_right _ (List.mem_append_right _ (List.mem_append_right _ (List.mem_append_right _ (List.mem_append_right _ (List.mem_append_right _ (List.mem_append_right _ (List.mem_append_right _ (List.mem_append_right _ (List.mem_append_right _ (List.mem_append_right _ (List.mem_append_right _ (List.mem_append_right _ (List.mem_append_right _ (List.mem_append_right _ (List.mem_append_right _ (List.mem_append_right _ (List.mem_append_right _ (List.mem_append_right _ (List.mem_append_right _ (List.mem_append_right _ (List.mem_append_right _ (List.mem_append_left _ h))))))))))))))))))))))))))))))))))))))
theorem inLr29 : ∀ w ∈ wsL_law0_r29, w ∈ wsL_law := fun w h => List.mem_append_left _ (List.mem_append_left _ (List.mem_append_left _ (List.mem_append_left _ (List.mem_append_left _ (List.mem_append_left _ (List.mem_append_left _ (List.mem_append_left _ (List.mem_append_left _ (List.mem_append_left _ (List.mem_append_left _ (List.mem_append_right _ (List.mem_append_right _ (List.mem_append_right _ (List.mem_append_right _ (List.mem_append_right _ (List.mem_append_right _ (List.mem_append_right _ (List.mem_append_right _ (List.mem_append_right _ (List.mem_append_right _ (List.mem_append_right _ (List.mem_append_right _ (List.mem_append_right _ (List.mem_append_right _ (List.mem_append_right _ (List.mem_append_right _ (List.mem_append_right _ (List.mem_append_right _ (List.mem_append_right _ (List.mem_append_right _ (List.mem_append_right _ (List.mem_append_right _ (List.mem_append_right _ (List.mem_append_right _ (List.mem_append_right _ (List.mem_append_right _ (List.mem_append_right _ (List.mem_append_right _ (h)))))))))))))))))))))))))))))))))))))))
/-! the Y layer: one goal G (cells made, slots made, world, pc, locals, operands); every fact that a row needs stands in Cx -/
section YL
theorem all_good : ∀ w ∈ wsL_law, goodWord w = true := by
  have h0 : wsL_law0.all goodWord = true := by decide +kernel
  intro w hw
  unfold wsL_law at hw
  rcases List.mem_append.mp hw with hw | hw
  · rcases List.mem_append.mp hw with hw | hw
    · rcases List.mem_append.mp hw with hw | hw
      · exact List.all_eq_true.mp h0 w hw
      · exact (List.mem_filter.mp hw).2
    · exact (List.mem_filter.mp hw).2
  · exact (List.mem_filter.mp hw).2
theorem all_in {ws : List Cond} (h : ∀ w ∈ ws, w ∈ wsL_law) : GoodIn wsL_law ws := goodIn_sub h (List.all_eq_true.mpr fun w hw => all_good w (h w hw))
def inW (ws : va_W) : Nat → Prop := fun q => ∃ (k : Nat) (e : va_E), ws[k]? = some (q, e)
def nestL : List (String × Nat × MethodName) := [(RX0, 30, yX5_isNoKind), (RX5, 9, yX0_init), (RX5, 18, yX3_init), (RX5, 45, yX1_init)]
def gN (U : State) : Prop := ∀ q ∈ nestL, va_Nw (.methodLinkNest q.1 q.2.1 q.2.2 "KnotLetters") U
def strL : List (String × Nat × String) := [(RX5, 220, "what is 0 to 6"), (RX5, 79, "letter is 0 to 11, what is 0 to 2"), (RX5, 167, "there is no such cord, or what is not 0 to 6"), (RX5, 59, "letter is 0 to 11"), (RX5, 69, "row is 0 or has 1 to 4 digits from 1 to 4"), (RX5, 95, "a and b are 0 to 11"), (RX5, 105, "slip and skip are 0 to 99"), (RX5, 117, "a and b are two kinds, cost is 0 to 9"), (RX5, 126, "missed and ghost are 1 to 9"), (RX5, 139, "the tape has at most 80 bytes"), (RX5, 146, "n is 0 to the number of bytes of the tape"), (RX5, 155, "there are at most 10 cords of 40 knots and gaps"), (RX5, 197, "there is no such cord or place"), (RX5, 202, "kind is 1 to 4"), (RX5, 204, "a gap is there"), (RX5, 206, "there is no such cord"), (RX5, 218, "there is no such place on the paper")]
def gStr (U : State) : Prop := ∀ q ∈ strL, ∃ sa : Nat, vk_R q.1 q.2.1 q.2.2 sa U
def gT (A : Nat → Prop) (U : State) (H : Heap) : Prop := vx_Zq Bundle.tN "UNASSIGNED_STACK" Bundle.steD A U H ∧ vx_Zq Bundle.tN "SUPPRESSED_SENTINEL" Bundle.listD A U H
def ncL : List (String × String) := [("java/lang/IllegalArgumentException", "java/lang/IllegalStateException"), ("java/lang/IllegalArgumentException", "java/lang/IndexOutOfBoundsException"), ("java/lang/IllegalStateException", "java/lang/IllegalArgumentException"), ("java/lang/IllegalStateException", "java/lang/IndexOutOfBoundsException"), ("java/lang/IndexOutOfBoundsException", "java/lang/IllegalArgumentException"), ("java/lang/IndexOutOfBoundsException", "java/lang/IllegalStateException")]
def gNc (U : State) : Prop := ∀ q ∈ ncL, va_Nc q.1 q.2 U
def exL : List String := ["java/lang/IndexOutOfBoundsException", "java/lang/IllegalArgumentException", "java/lang/IllegalStateException"]
def exW : List Cond := [.castable "java/lang/IndexOutOfBoundsException" "java/lang/IndexOutOfBoundsException", .castable "java/lang/IllegalArgumentException" "java/lang/IllegalArgumentException", .castable "java/lang/IllegalStateException" "java/lang/IllegalStateException", .declares (Bundle.initS "java/lang/RuntimeException"), .declares (Bundle.initS "java/lang/Exception"), .declares (Bundle.initS "java/lang/Throwable")]
def gCa (U : State) : Prop := ∀ w ∈ exW, va_Nw w U
theorem gCa.warm {s U : State} (hW : s.WarmedH U.vm) (h : gCa s) : gCa U := by
  intro w hw
  have h1 := h w hw
  simp only [exW, List.mem_cons, List.not_mem_nil, or_false] at hw
  rcases hw with rfl | rfl | rfl | rfl | rfl | rfl
  · exact va_Nw.warmC hW h1
  · exact va_Nw.warmC hW h1
  · exact va_Nw.warmC hW h1
  · exact va_Nw.warmD hW h1
  · exact va_Nw.warmD hW h1
  · exact va_Nw.warmD hW h1
theorem exW_tab : ∀ w ∈ exW, w.onTables = true := by
  intro w hw
  simp only [exW, List.mem_cons, List.not_mem_nil, or_false] at hw
  rcases hw with rfl | rfl | rfl | rfl | rfl | rfl <;> rfl
theorem exL_cast {X : String} (h : X ∈ exL) : Cond.castable X X ∈ exW := by
  simp only [exL, List.mem_cons, List.not_mem_nil, or_false] at h
  rcases h with rfl | rfl | rfl <;> simp [exW]
def gK (D : va_G) (tys : List (ClassId × FieldType)) (U : State) : Prop := va_K D vwCl tys U ∧ gN U ∧ gStr U ∧ gNc U ∧ gCa U ∧ va_AO RX1 U
theorem gK.warm {D : va_G} {tys : List (ClassId × FieldType)} {s U : State} (hW : s.WarmedH U.vm) (h : gK D tys s) : gK D tys U :=
  ⟨va_K.moved hW.alike h.1, fun q hq => va_Nw.warmM hW (h.2.1 q hq), fun q hq => by obtain ⟨sa, h9⟩ := h.2.2.1 q hq; exact ⟨sa, vk_R.warm hW h9⟩, fun q hq => va_Nc.moved hW.alike (h.2.2.2.1 q hq), h.2.2.2.2.1.warm hW, va_AO.moved hW.alike h.2.2.2.2.2⟩
theorem gK.same {D : va_G} {tys : List (ClassId × FieldType)} {s U : State} (hv : U.vm = s.vm) (h : gK D tys s) : gK D tys U :=
  ⟨va_K.moved (by rw [hv]; exact Vm.Alike.refl s.vm) h.1, fun q hq => va_Nw.same rfl hv.symm (h.2.1 q hq), fun q hq => by obtain ⟨sa, h9⟩ := h.2.2.1 q hq; exact ⟨sa, vk_R.same hv h9⟩, fun q hq => va_Nc.moved (by rw [hv]; exact Vm.Alike.refl s.vm) (h.2.2.2.1 q hq), fun w hw => va_Nw.same (exW_tab w hw) hv.symm (h.2.2.2.2.1 w hw), va_AO.moved (by rw [hv]; exact Vm.Alike.refl s.vm) h.2.2.2.2.2⟩
theorem zq_re {C n d : String} {A B : Nat → Prop} {U : State} {H : Heap} (hAB : ∀ q, q < H.size → B q → A q) (h : vx_Zq C n d A U H) : vx_Zq C n d B U H := by
  refine ⟨?_, ?_⟩
  · rcases h.1 with h | ⟨t, h⟩
    · obtain ⟨cf, kf, fi, f, a, cell, h1, h2, h3, h4, h5, h6, h7, h8⟩ := h
      exact Or.inl ⟨cf, kf, fi, f, a, cell, h1, h2, h3, h4, h5, h6, h7, fun z => h8 (hAB a (Array.getElem?_eq_some_iff.mp h5).1 z)⟩
    · obtain ⟨cf, kf, fi, f, a, cell, h1, h2, h3, h4, h5, h6, h7, h8⟩ := h
      exact Or.inr ⟨t, cf, kf, fi, f, a, cell, h1, h2, h3, h4, h5, h6, h7, fun z => h8 (hAB a (Array.getElem?_eq_some_iff.mp h5).1 z)⟩
  · obtain ⟨c, k, i, f, a, cell, h1, h2, h3, h4, h5, h6, h7, h8, h9, h10⟩ := h.2
    exact ⟨c, k, i, f, a, cell, h1, h2, h3, h4, h5, h6, h7, h8, h9, fun z => h10 (hAB a (Array.getElem?_eq_some_iff.mp h5).1 z)⟩
theorem gT.re {A B : Nat → Prop} {U : State} {H : Heap} (hAB : ∀ q, q < H.size → B q → A q) (h : gT A U H) : gT B U H := ⟨zq_re hAB h.1, zq_re hAB h.2⟩
theorem gT.moved {A : Nat → Prop} {u U : State} {H : Heap} (hvm : u.vm.Alike U.vm) (h : gT A u H) : gT A U H := ⟨vx_Zq.moved hvm h.1, vx_Zq.moved hvm h.2⟩
theorem gT.kept {A : Nat → Prop} {U : State} {H H1 : Heap} (h : gT A U H) (hq : ∀ a : Nat, a < H.size → ¬ A a → H1[a]? = H[a]?) : gT A U H1 := ⟨vx_Zq.kept h.1 hq, vx_Zq.kept h.2 hq⟩
def gP (D : va_G) (tys : List (ClassId × FieldType)) (ws : va_W) (U : State) : Prop := va_P D vwCl ws U.heap ∧ va_D (fun _ => True) ws ∧ gK D tys U ∧ gT (inW ws) U U.heap
def gPc (av : List Value) (sz : Nat) (D : va_G) (tys : List (ClassId × FieldType)) (ws : va_W) : Array Value → State → Prop := va_Pc av (fun U => U.heap.size = sz ∧ gP D tys ws U)
def gB {S : Type} (D : va_G) (A : Nat → Prop) (wf : S → va_W) : S → State → Prop := fun u t => va_P D vwCl (wf u) t.heap ∧ va_D A (wf u)
theorem gPc_blind {av : List Value} {sz : Nat} {D : va_G} {tys : List (ClassId × FieldType)} {ws : va_W} : FrameBlind (gPc av sz D tys ws) := by
  intro a U g mk q
  obtain ⟨q0, q1, q2, q3, q4, q5⟩ := q
  exact ⟨q0, q1, q2, q3, gK.same (s := U) (U := U.calling g mk a) rfl q4, gT.moved (u := U) (U := U.calling g mk a) (Vm.Alike.refl U.vm) q5⟩
/-- contracts: an int or boolean answer, none, a long, a double -/
def MI (l : Launch) (D : va_G) (tys : List (ClassId × FieldType)) (y : MethodName) (cc : ByteArray) (maxL : Nat) (ty : FieldType) (rm : Room) (av : List Value) (ws : va_W) {S : Type} (post : Int32 → S → Prop) (wf : S → va_W) : Prop :=
  ∀ sz : Nat, Met l y (Cond.code y cc maxL (some ty) :: wsL_law) rm (gPc av sz D tys ws) (va_Qi post (gB D (va_A ws sz) wf) (va_A ws sz)) rm.cells rm.slots (va_A ws sz)
def MV (l : Launch) (D : va_G) (tys : List (ClassId × FieldType)) (y : MethodName) (cc : ByteArray) (maxL : Nat) (rm : Room) (av : List Value) (ws : va_W) {S : Type} (post : S → Prop) (wf : S → va_W) : Prop :=
  ∀ sz : Nat, Met l y (Cond.code y cc maxL none :: wsL_law) rm (gPc av sz D tys ws) (va_Qv post (gB D (va_A ws sz) wf) (va_A ws sz)) rm.cells rm.slots (va_A ws sz)
def ML (l : Launch) (D : va_G) (tys : List (ClassId × FieldType)) (y : MethodName) (cc : ByteArray) (maxL : Nat) (rm : Room) (av : List Value) (ws : va_W) {S : Type} (post : Int64 → S → Prop) (wf : S → va_W) : Prop :=
  ∀ sz : Nat, Met l y (Cond.code y cc maxL (some .long) :: wsL_law) rm (gPc av sz D tys ws) (va_Ql post (gB D (va_A ws sz) wf) (va_A ws sz)) rm.cells rm.slots (va_A ws sz)
def MF (l : Launch) (D : va_G) (tys : List (ClassId × FieldType)) (y : MethodName) (cc : ByteArray) (maxL : Nat) (rm : Room) (av : List Value) (ws : va_W) {S : Type} (post : UInt64 → S → Prop) (wf : S → va_W) : Prop :=
  ∀ sz : Nat, Met l y (Cond.code y cc maxL (some .double) :: wsL_law) rm (gPc av sz D tys ws) (va_Qd post (gB D (va_A ws sz) wf) (va_A ws sz)) rm.cells rm.slots (va_A ws sz)
/-- the same, or it throws the exception named E, where px E holds, the world as it was -/
def gX (D : va_G) (ws : va_W) (sz : Nat) (px : String → Prop) : String → State → State → Prop := vx_X (fun _ : Unit => True) (fun E _ t => px E ∧ va_P D vwCl ws t.heap ∧ va_D (va_A ws sz) ws) (va_A ws sz)
def XI (l : Launch) (D : va_G) (tys : List (ClassId × FieldType)) (y : MethodName) (cc : ByteArray) (maxL : Nat) (ty : FieldType) (rm : Room) (av : List Value) (ws : va_W) {S : Type} (post : Int32 → S → Prop) (wf : S → va_W) (px : String → Prop) : Prop :=
  ∀ sz : Nat, vx_Met l y (Cond.code y cc maxL (some ty) :: wsL_law) rm (gPc av sz D tys ws) (va_Qi post (gB D (va_A ws sz) wf) (va_A ws sz)) (gX D ws sz px) rm.cells rm.slots (va_A ws sz)
def Y (p : Program) (l : Launch) (e : Env) (R : Room) (s : State) (m : MethodId) (args : Array Value) (below : List Frame) (meth : Method) (c : Code) (A : Nat → Prop) (D : va_G) (nL : Nat) (Q : State → Prop) (ce sl : Nat) (ws : va_W) (pc : Nat) (lv : List (Nat × Value)) (st : List Value) : Prop :=
  ∀ (H : Heap) (locs : List Loc) (ls : Array Slot), va_P D vwCl ws H → va_D A ws → va_S A s.heap H locs → lv_has ls nL lv → W p l e R s m args below meth c H locs ce sl Q (F0 m pc ls st)
abbrev GT : Type := Nat → Nat → va_W → Nat → List (Nat × Value) → List Value → Prop
def Cx (l : Launch) (G : GT) (cc : ByteArray) (own : String) (nL : Nat) (R : Room) (D : va_G) (tys : List (ClassId × FieldType)) (nm : String) : Prop :=
  ∃ (p : Program) (e : Env) (s : State) (m : MethodId) (args : Array Value) (below : List Frame) (meth : Method) (c : Code) (A : Nat → Prop) (Q : State → Prop),
    CallFix p m c cc nL s args wsL_law own ∧ gK D tys s ∧ gT A s s.heap ∧ (∀ q, s.heap.size ≤ q → A q) ∧ meth.name = nm ∧ meth.locks = false ∧ G = Y p l e R s m args below meth c A D nL Q
variable {l : Launch} {G : GT} {cc : ByteArray} {own : String} {nL : Nat} {R : Room} {D : va_G} {tys : List (ClassId × FieldType)} {nm : String}
variable {ce sl : Nat} {ws : va_W} {pc : Nat} {lv : List (Nat × Value)} {st : List Value}

theorem y_sub (hC : Cx l G cc own nL R D tys nm) (ks : List Nat) {lv' : List (Nat × Value)} (hl9 : lv_pick lv ks = lv') (kk : G ce sl ws pc lv' st) : G ce sl ws pc lv st := by
  obtain ⟨p, e, s, m, args, below, meth, c, A, Q, ⟨hx, hb, hml, hown, hts⟩, hK, hT, hA, hnm, hlk, rfl⟩ := hC
  intro H locs ls hP hD hS hl
  exact kk H locs ls hP hD hS (lv_sub hl ks hl9)
theorem y_wide (hC : Cx l G cc own nL R D tys nm) {k n : Nat} (h1 : ce ≤ k) (h2 : sl ≤ n) (kk : G k n ws pc lv st) : G ce sl ws pc lv st := by
  obtain ⟨p, e, s, m, args, below, meth, c, A, Q, ⟨hx, hb, hml, hown, hts⟩, hK, hT, hA, hnm, hlk, rfl⟩ := hC
  intro H locs ls hP hD hS hl
  exact W.widen h1 h2 (kk H locs ls hP hD hS hl)
theorem y_world (hC : Cx l G cc own nL R D tys nm) (ks : List Nat) {ws' : va_W} (hn : va_nd ks = true) (hw : ks.map (fun i => ws[i]?) = ws'.map some) (kk : G ce sl ws' pc lv st) : G ce sl ws pc lv st := by
  obtain ⟨p, e, s, m, args, below, meth, c, A, Q, ⟨hx, hb, hml, hown, hts⟩, hK, hT, hA, hnm, hlk, rfl⟩ := hC
  intro H locs ls hP hD hS hl
  refine kk H locs ls (hP.sub ks ?_) (hD.sub ks hn hw) hS hl
  have h9 := congrArg (fun z : List (Option (Nat × va_E)) => z.filterMap id) hw
  simpa [List.filterMap_map, Function.comp_def] using h9
theorem y_iconst (hC : Cx l G cc own nL R D tys nm) {n : Int} {v : Int32} (hdg : decode cc pc = .ok (.iconst n, 1)) (hv : Int32.ofInt n = v) (kk : G ce sl ws (pc + 1) lv (.int v :: st)) : G ce sl ws (pc) lv (st) := by
  obtain ⟨p, e, s, m, args, below, meth, c, A, Q, ⟨hx, hb, hml, hown, hts⟩, hK, hT, hA, hnm, hlk, rfl⟩ := hC
  intro H locs ls hP hD hS hl
  exact lv_iconst hx hb hdg hv (kk H locs ls hP hD hS hl)
theorem y_bipush (hC : Cx l G cc own nL R D tys nm) {n : Int} {v : Int32} (hdg : decode cc pc = .ok (.bipush n, 2)) (hv : (Int8.ofInt n).toInt32 = v) (kk : G ce sl ws (pc + 2) lv (.int v :: st)) : G ce sl ws (pc) lv (st) := by
  obtain ⟨p, e, s, m, args, below, meth, c, A, Q, ⟨hx, hb, hml, hown, hts⟩, hK, hT, hA, hnm, hlk, rfl⟩ := hC
  intro H locs ls hP hD hS hl
  exact lv_bipush hx hb hdg hv (kk H locs ls hP hD hS hl)
theorem y_sipush (hC : Cx l G cc own nL R D tys nm) {n : Int} {v : Int32} (hdg : decode cc pc = .ok (.sipush n, 3)) (hv : (Int16.ofInt n).toInt32 = v) (kk : G ce sl ws (pc + 3) lv (.int v :: st)) : G ce sl ws (pc) lv (st) := by
  obtain ⟨p, e, s, m, args, below, meth, c, A, Q, ⟨hx, hb, hml, hown, hts⟩, hK, hT, hA, hnm, hlk, rfl⟩ := hC
  intro H locs ls hP hD hS hl
  exact lv_sipush hx hb hdg hv (kk H locs ls hP hD hS hl)
theorem y_lconst (hC : Cx l G cc own nL R D tys nm) {n : Fin 2} {v : Int64} (hdg : decode cc pc = .ok (.lconst n, 1)) (hv : Int64.ofNat (n : Nat) = v) (kk : G ce sl ws (pc + 1) lv (.long v :: st)) : G ce sl ws (pc) lv (st) := by
  obtain ⟨p, e, s, m, args, below, meth, c, A, Q, ⟨hx, hb, hml, hown, hts⟩, hK, hT, hA, hnm, hlk, rfl⟩ := hC
  intro H locs ls hP hD hS hl
  exact lv_lconst hx hb hdg hv (kk H locs ls hP hD hS hl)
theorem y_ldc (hC : Cx l G cc own nL R D tys nm) {index : Nat} {v : Int32} (hdg : decode cc pc = .ok (.ldc index, 2)) (hw : Cond.constant own index v ∈ wsL_law) (kk : G ce sl ws (pc + 2) lv (.int v :: st)) : G ce sl ws (pc) lv (st) := by
  obtain ⟨p, e, s, m, args, below, meth, c, A, Q, ⟨hx, hb, hml, hown, hts⟩, hK, hT, hA, hnm, hlk, rfl⟩ := hC
  intro H locs ls hP hD hS hl
  exact lv_ldc hx hb hown (hts _ hw) hdg (kk H locs ls hP hD hS hl)
theorem y_ldc2 (hC : Cx l G cc own nL R D tys nm) {index : Nat} {v : Int64} (hdg : decode cc pc = .ok (.ldc2_w index, 3)) (hw : Cond.constantLong own index v ∈ wsL_law) (kk : G ce sl ws (pc + 3) lv (.long v :: st)) : G ce sl ws (pc) lv (st) := by
  obtain ⟨p, e, s, m, args, below, meth, c, A, Q, ⟨hx, hb, hml, hown, hts⟩, hK, hT, hA, hnm, hlk, rfl⟩ := hC
  intro H locs ls hP hD hS hl
  exact lv_ldc2 hx hb hown (hts _ hw) hdg (kk H locs ls hP hD hS hl)
theorem y_dconst0 (hC : Cx l G cc own nL R D tys nm)  (hdg : decode cc pc = .ok (.dconst 0, 1)) (kk : G ce sl ws (pc + 1) lv (.double 0 :: st)) : G ce sl ws (pc) lv (st) := by
  obtain ⟨p, e, s, m, args, below, meth, c, A, Q, ⟨hx, hb, hml, hown, hts⟩, hK, hT, hA, hnm, hlk, rfl⟩ := hC
  intro H locs ls hP hD hS hl
  exact lv_dconst0 hx hb hdg (kk H locs ls hP hD hS hl)
theorem y_iload_n (hC : Cx l G cc own nL R D tys nm) {k : Fin 4} {i : Nat} {x : Int32} (hdg : decode cc pc = .ok (.iload_n k, 1)) (j : Nat) (hi : (k : Nat) = i) (hj : lv[j]? = some (i, .int x)) (kk : G ce sl ws (pc + 1) lv (.int x :: st)) : G ce sl ws (pc) lv (st) := by
  obtain ⟨p, e, s, m, args, below, meth, c, A, Q, ⟨hx, hb, hml, hown, hts⟩, hK, hT, hA, hnm, hlk, rfl⟩ := hC
  intro H locs ls hP hD hS hl
  exact lv_iload_n hx hb hdg hi (lv_at hl j hj) (kk H locs ls hP hD hS hl)
theorem y_iload (hC : Cx l G cc own nL R D tys nm) {i : Nat} {x : Int32} (hdg : decode cc pc = .ok (.iload i, 2)) (j : Nat) (hj : lv[j]? = some (i, .int x)) (kk : G ce sl ws (pc + 2) lv (.int x :: st)) : G ce sl ws (pc) lv (st) := by
  obtain ⟨p, e, s, m, args, below, meth, c, A, Q, ⟨hx, hb, hml, hown, hts⟩, hK, hT, hA, hnm, hlk, rfl⟩ := hC
  intro H locs ls hP hD hS hl
  exact lv_iload hx hb hdg (lv_at hl j hj) (kk H locs ls hP hD hS hl)
theorem y_lload_n (hC : Cx l G cc own nL R D tys nm) {k : Fin 4} {i : Nat} {x : Int64} (hdg : decode cc pc = .ok (.lload_n k, 1)) (j : Nat) (hi : (k : Nat) = i) (hj : lv[j]? = some (i, .long x)) (kk : G ce sl ws (pc + 1) lv (.long x :: st)) : G ce sl ws (pc) lv (st) := by
  obtain ⟨p, e, s, m, args, below, meth, c, A, Q, ⟨hx, hb, hml, hown, hts⟩, hK, hT, hA, hnm, hlk, rfl⟩ := hC
  intro H locs ls hP hD hS hl
  exact lv_lload_n hx hb hdg hi (lv_at hl j hj) (kk H locs ls hP hD hS hl)
theorem y_lload (hC : Cx l G cc own nL R D tys nm) {i : Nat} {x : Int64} (hdg : decode cc pc = .ok (.lload i, 2)) (j : Nat) (hj : lv[j]? = some (i, .long x)) (kk : G ce sl ws (pc + 2) lv (.long x :: st)) : G ce sl ws (pc) lv (st) := by
  obtain ⟨p, e, s, m, args, below, meth, c, A, Q, ⟨hx, hb, hml, hown, hts⟩, hK, hT, hA, hnm, hlk, rfl⟩ := hC
  intro H locs ls hP hD hS hl
  exact lv_lload hx hb hdg (lv_at hl j hj) (kk H locs ls hP hD hS hl)
theorem y_aload_n (hC : Cx l G cc own nL R D tys nm) {k : Fin 4} {i : Nat} {x : Nat} (hdg : decode cc pc = .ok (.aload_n k, 1)) (j : Nat) (hi : (k : Nat) = i) (hj : lv[j]? = some (i, .ref x)) (kk : G ce sl ws (pc + 1) lv (.ref x :: st)) : G ce sl ws (pc) lv (st) := by
  obtain ⟨p, e, s, m, args, below, meth, c, A, Q, ⟨hx, hb, hml, hown, hts⟩, hK, hT, hA, hnm, hlk, rfl⟩ := hC
  intro H locs ls hP hD hS hl
  exact lv_aload_n hx hb hdg hi (lv_at hl j hj) (kk H locs ls hP hD hS hl)
theorem y_aload (hC : Cx l G cc own nL R D tys nm) {i : Nat} {x : Nat} (hdg : decode cc pc = .ok (.aload i, 2)) (j : Nat) (hj : lv[j]? = some (i, .ref x)) (kk : G ce sl ws (pc + 2) lv (.ref x :: st)) : G ce sl ws (pc) lv (st) := by
  obtain ⟨p, e, s, m, args, below, meth, c, A, Q, ⟨hx, hb, hml, hown, hts⟩, hK, hT, hA, hnm, hlk, rfl⟩ := hC
  intro H locs ls hP hD hS hl
  exact lv_aload hx hb hdg (lv_at hl j hj) (kk H locs ls hP hD hS hl)
theorem y_dload_n (hC : Cx l G cc own nL R D tys nm) {k : Fin 4} {i : Nat} {x : UInt64} (hdg : decode cc pc = .ok (.dload_n k, 1)) (j : Nat) (hi : (k : Nat) = i) (hj : lv[j]? = some (i, .double x)) (kk : G ce sl ws (pc + 1) lv (.double x :: st)) : G ce sl ws (pc) lv (st) := by
  obtain ⟨p, e, s, m, args, below, meth, c, A, Q, ⟨hx, hb, hml, hown, hts⟩, hK, hT, hA, hnm, hlk, rfl⟩ := hC
  intro H locs ls hP hD hS hl
  exact lv_dload_n hx hb hdg hi (lv_at hl j hj) (kk H locs ls hP hD hS hl)
theorem y_dload (hC : Cx l G cc own nL R D tys nm) {i : Nat} {x : UInt64} (hdg : decode cc pc = .ok (.dload i, 2)) (j : Nat) (hj : lv[j]? = some (i, .double x)) (kk : G ce sl ws (pc + 2) lv (.double x :: st)) : G ce sl ws (pc) lv (st) := by
  obtain ⟨p, e, s, m, args, below, meth, c, A, Q, ⟨hx, hb, hml, hown, hts⟩, hK, hT, hA, hnm, hlk, rfl⟩ := hC
  intro H locs ls hP hD hS hl
  exact lv_dload hx hb hdg (lv_at hl j hj) (kk H locs ls hP hD hS hl)
theorem y_istore_n (hC : Cx l G cc own nL R D tys nm) {k : Fin 4} {i : Nat} {x : Int32} (lv' : List (Nat × Value)) (hdg : decode cc pc = .ok (.istore_n k, 1)) (hi : (k : Nat) = i) (hn : i < nL) (hl9 : (i, Value.int x) :: lv.filter (fun q => !(q.1 == i) && !(q.1 + 1 == i && q.2.category == 2)) = lv') (kk : G ce sl ws (pc + 1) lv' (st)) : G ce sl ws (pc) lv (.int x :: st) := by
  obtain ⟨p, e, s, m, args, below, meth, c, A, Q, ⟨hx, hb, hml, hown, hts⟩, hK, hT, hA, hnm, hlk, rfl⟩ := hC
  intro H locs ls hP hD hS hl
  exact lv_istore_n hx hb hdg hi hl hn hl9 (fun ls hl => kk H locs ls hP hD hS hl)
theorem y_istore (hC : Cx l G cc own nL R D tys nm) {i : Nat} {x : Int32} (lv' : List (Nat × Value)) (hdg : decode cc pc = .ok (.istore i, 2)) (hn : i < nL) (hl9 : (i, Value.int x) :: lv.filter (fun q => !(q.1 == i) && !(q.1 + 1 == i && q.2.category == 2)) = lv') (kk : G ce sl ws (pc + 2) lv' (st)) : G ce sl ws (pc) lv (.int x :: st) := by
  obtain ⟨p, e, s, m, args, below, meth, c, A, Q, ⟨hx, hb, hml, hown, hts⟩, hK, hT, hA, hnm, hlk, rfl⟩ := hC
  intro H locs ls hP hD hS hl
  exact lv_istore hx hb hdg hl hn hl9 (fun ls hl => kk H locs ls hP hD hS hl)
theorem y_astore_n (hC : Cx l G cc own nL R D tys nm) {k : Fin 4} {i : Nat} {x : Nat} (lv' : List (Nat × Value)) (hdg : decode cc pc = .ok (.astore_n k, 1)) (hi : (k : Nat) = i) (hn : i < nL) (hl9 : (i, Value.ref x) :: lv.filter (fun q => !(q.1 == i) && !(q.1 + 1 == i && q.2.category == 2)) = lv') (kk : G ce sl ws (pc + 1) lv' (st)) : G ce sl ws (pc) lv (.ref x :: st) := by
  obtain ⟨p, e, s, m, args, below, meth, c, A, Q, ⟨hx, hb, hml, hown, hts⟩, hK, hT, hA, hnm, hlk, rfl⟩ := hC
  intro H locs ls hP hD hS hl
  exact lv_astore_n hx hb hdg hi hl hn hl9 (fun ls hl => kk H locs ls hP hD hS hl)
theorem y_astore (hC : Cx l G cc own nL R D tys nm) {i : Nat} {x : Nat} (lv' : List (Nat × Value)) (hdg : decode cc pc = .ok (.astore i, 2)) (hn : i < nL) (hl9 : (i, Value.ref x) :: lv.filter (fun q => !(q.1 == i) && !(q.1 + 1 == i && q.2.category == 2)) = lv') (kk : G ce sl ws (pc + 2) lv' (st)) : G ce sl ws (pc) lv (.ref x :: st) := by
  obtain ⟨p, e, s, m, args, below, meth, c, A, Q, ⟨hx, hb, hml, hown, hts⟩, hK, hT, hA, hnm, hlk, rfl⟩ := hC
  intro H locs ls hP hD hS hl
  exact lv_astore hx hb hdg hl hn hl9 (fun ls hl => kk H locs ls hP hD hS hl)
theorem y_lstore_n (hC : Cx l G cc own nL R D tys nm) {k : Fin 4} {i : Nat} {x : Int64} (lv' : List (Nat × Value)) (hdg : decode cc pc = .ok (.lstore_n k, 1)) (hi : (k : Nat) = i) (hn : i + 1 < nL) (hl9 : (i, Value.long x) :: lv.filter (fun q => !(q.1 == i) && (!(q.1 == i + 1) && !(q.1 + 1 == i && q.2.category == 2))) = lv') (kk : G ce sl ws (pc + 1) lv' (st)) : G ce sl ws (pc) lv (.long x :: st) := by
  obtain ⟨p, e, s, m, args, below, meth, c, A, Q, ⟨hx, hb, hml, hown, hts⟩, hK, hT, hA, hnm, hlk, rfl⟩ := hC
  intro H locs ls hP hD hS hl
  exact lv_lstore_n hx hb hdg hi hl hn hl9 (fun ls hl => kk H locs ls hP hD hS hl)
theorem y_lstore (hC : Cx l G cc own nL R D tys nm) {i : Nat} {x : Int64} (lv' : List (Nat × Value)) (hdg : decode cc pc = .ok (.lstore i, 2)) (hn : i + 1 < nL) (hl9 : (i, Value.long x) :: lv.filter (fun q => !(q.1 == i) && (!(q.1 == i + 1) && !(q.1 + 1 == i && q.2.category == 2))) = lv') (kk : G ce sl ws (pc + 2) lv' (st)) : G ce sl ws (pc) lv (.long x :: st) := by
  obtain ⟨p, e, s, m, args, below, meth, c, A, Q, ⟨hx, hb, hml, hown, hts⟩, hK, hT, hA, hnm, hlk, rfl⟩ := hC
  intro H locs ls hP hD hS hl
  exact lv_lstore hx hb hdg hl hn hl9 (fun ls hl => kk H locs ls hP hD hS hl)
theorem y_dstore_n (hC : Cx l G cc own nL R D tys nm) {k : Fin 4} {i : Nat} {x : UInt64} (lv' : List (Nat × Value)) (hdg : decode cc pc = .ok (.dstore_n k, 1)) (hi : (k : Nat) = i) (hn : i + 1 < nL) (hl9 : (i, Value.double x) :: lv.filter (fun q => !(q.1 == i) && (!(q.1 == i + 1) && !(q.1 + 1 == i && q.2.category == 2))) = lv') (kk : G ce sl ws (pc + 1) lv' (st)) : G ce sl ws (pc) lv (.double x :: st) := by
  obtain ⟨p, e, s, m, args, below, meth, c, A, Q, ⟨hx, hb, hml, hown, hts⟩, hK, hT, hA, hnm, hlk, rfl⟩ := hC
  intro H locs ls hP hD hS hl
  exact lv_dstore_n hx hb hdg hi hl hn hl9 (fun ls hl => kk H locs ls hP hD hS hl)
theorem y_dstore (hC : Cx l G cc own nL R D tys nm) {i : Nat} {x : UInt64} (lv' : List (Nat × Value)) (hdg : decode cc pc = .ok (.dstore i, 2)) (hn : i + 1 < nL) (hl9 : (i, Value.double x) :: lv.filter (fun q => !(q.1 == i) && (!(q.1 == i + 1) && !(q.1 + 1 == i && q.2.category == 2))) = lv') (kk : G ce sl ws (pc + 2) lv' (st)) : G ce sl ws (pc) lv (.double x :: st) := by
  obtain ⟨p, e, s, m, args, below, meth, c, A, Q, ⟨hx, hb, hml, hown, hts⟩, hK, hT, hA, hnm, hlk, rfl⟩ := hC
  intro H locs ls hP hD hS hl
  exact lv_dstore hx hb hdg hl hn hl9 (fun ls hl => kk H locs ls hP hD hS hl)
theorem y_iinc (hC : Cx l G cc own nL R D tys nm) {i k : Nat} {n : Int} {x v : Int32} (lv' : List (Nat × Value)) (hdg : decode cc pc = .ok (.iinc i n, 3)) (hk : lv[k]? = some (i, .int x)) (hv : x + Int32.ofInt n = v) (hn : i < nL) (hl9 : (i, Value.int v) :: lv.filter (fun q => !(q.1 == i) && !(q.1 + 1 == i && q.2.category == 2)) = lv') (kk : G ce sl ws (pc + 3) lv' st) : G ce sl ws (pc) lv (st) := by
  obtain ⟨p, e, s, m, args, below, meth, c, A, Q, ⟨hx, hb, hml, hown, hts⟩, hK, hT, hA, hnm, hlk, rfl⟩ := hC
  intro H locs ls hP hD hS hl
  exact lv_iinc hx hb hdg hl hk hv hn hl9 (fun ls hl => kk H locs ls hP hD hS hl)
theorem y_iadd (hC : Cx l G cc own nL R D tys nm) {x y v : Int32} (hdg : decode cc pc = .ok (.iadd, 1)) (hv : x + y = v) (kk : G ce sl ws (pc + 1) lv (.int v :: st)) : G ce sl ws (pc) lv (.int y :: .int x :: st) := by
  obtain ⟨p, e, s, m, args, below, meth, c, A, Q, ⟨hx, hb, hml, hown, hts⟩, hK, hT, hA, hnm, hlk, rfl⟩ := hC
  intro H locs ls hP hD hS hl
  subst hv; exact lv_iadd hx hb hdg (kk H locs ls hP hD hS hl)
theorem y_isub (hC : Cx l G cc own nL R D tys nm) {x y v : Int32} (hdg : decode cc pc = .ok (.isub, 1)) (hv : x - y = v) (kk : G ce sl ws (pc + 1) lv (.int v :: st)) : G ce sl ws (pc) lv (.int y :: .int x :: st) := by
  obtain ⟨p, e, s, m, args, below, meth, c, A, Q, ⟨hx, hb, hml, hown, hts⟩, hK, hT, hA, hnm, hlk, rfl⟩ := hC
  intro H locs ls hP hD hS hl
  subst hv; exact lv_isub hx hb hdg (kk H locs ls hP hD hS hl)
theorem y_imul (hC : Cx l G cc own nL R D tys nm) {x y v : Int32} (hdg : decode cc pc = .ok (.imul, 1)) (hv : x * y = v) (kk : G ce sl ws (pc + 1) lv (.int v :: st)) : G ce sl ws (pc) lv (.int y :: .int x :: st) := by
  obtain ⟨p, e, s, m, args, below, meth, c, A, Q, ⟨hx, hb, hml, hown, hts⟩, hK, hT, hA, hnm, hlk, rfl⟩ := hC
  intro H locs ls hP hD hS hl
  subst hv; exact lv_imul hx hb hdg (kk H locs ls hP hD hS hl)
theorem y_iand (hC : Cx l G cc own nL R D tys nm) {x y v : Int32} (hdg : decode cc pc = .ok (.iand, 1)) (hv : x &&& y = v) (kk : G ce sl ws (pc + 1) lv (.int v :: st)) : G ce sl ws (pc) lv (.int y :: .int x :: st) := by
  obtain ⟨p, e, s, m, args, below, meth, c, A, Q, ⟨hx, hb, hml, hown, hts⟩, hK, hT, hA, hnm, hlk, rfl⟩ := hC
  intro H locs ls hP hD hS hl
  subst hv; exact lv_iand hx hb hdg (kk H locs ls hP hD hS hl)
theorem y_ior (hC : Cx l G cc own nL R D tys nm) {x y v : Int32} (hdg : decode cc pc = .ok (.ior, 1)) (hv : x ||| y = v) (kk : G ce sl ws (pc + 1) lv (.int v :: st)) : G ce sl ws (pc) lv (.int y :: .int x :: st) := by
  obtain ⟨p, e, s, m, args, below, meth, c, A, Q, ⟨hx, hb, hml, hown, hts⟩, hK, hT, hA, hnm, hlk, rfl⟩ := hC
  intro H locs ls hP hD hS hl
  subst hv; exact lv_ior hx hb hdg (kk H locs ls hP hD hS hl)
theorem y_ixor (hC : Cx l G cc own nL R D tys nm) {x y v : Int32} (hdg : decode cc pc = .ok (.ixor, 1)) (hv : x ^^^ y = v) (kk : G ce sl ws (pc + 1) lv (.int v :: st)) : G ce sl ws (pc) lv (.int y :: .int x :: st) := by
  obtain ⟨p, e, s, m, args, below, meth, c, A, Q, ⟨hx, hb, hml, hown, hts⟩, hK, hT, hA, hnm, hlk, rfl⟩ := hC
  intro H locs ls hP hD hS hl
  subst hv; exact lv_ixor hx hb hdg (kk H locs ls hP hD hS hl)
theorem y_idiv (hC : Cx l G cc own nL R D tys nm) {x y v : Int32} (hdg : decode cc pc = .ok (.idiv, 1)) (hne : ¬ y = 0) (hv : x / y = v) (kk : G ce sl ws (pc + 1) lv (.int v :: st)) : G ce sl ws (pc) lv (.int y :: .int x :: st) := by
  obtain ⟨p, e, s, m, args, below, meth, c, A, Q, ⟨hx, hb, hml, hown, hts⟩, hK, hT, hA, hnm, hlk, rfl⟩ := hC
  intro H locs ls hP hD hS hl
  subst hv; exact lv_idiv hx hb hdg hne (kk H locs ls hP hD hS hl)
theorem y_irem (hC : Cx l G cc own nL R D tys nm) {x y v : Int32} (hdg : decode cc pc = .ok (.irem, 1)) (hne : ¬ y = 0) (hv : x - x / y * y = v) (kk : G ce sl ws (pc + 1) lv (.int v :: st)) : G ce sl ws (pc) lv (.int y :: .int x :: st) := by
  obtain ⟨p, e, s, m, args, below, meth, c, A, Q, ⟨hx, hb, hml, hown, hts⟩, hK, hT, hA, hnm, hlk, rfl⟩ := hC
  intro H locs ls hP hD hS hl
  subst hv; exact lv_irem hx hb hdg hne (kk H locs ls hP hD hS hl)
theorem y_ladd (hC : Cx l G cc own nL R D tys nm) {x y v : Int64} (hdg : decode cc pc = .ok (.ladd, 1)) (hv : x + y = v) (kk : G ce sl ws (pc + 1) lv (.long v :: st)) : G ce sl ws (pc) lv (.long y :: .long x :: st) := by
  obtain ⟨p, e, s, m, args, below, meth, c, A, Q, ⟨hx, hb, hml, hown, hts⟩, hK, hT, hA, hnm, hlk, rfl⟩ := hC
  intro H locs ls hP hD hS hl
  subst hv; exact lv_ladd hx hb hdg (kk H locs ls hP hD hS hl)
theorem y_lsub (hC : Cx l G cc own nL R D tys nm) {x y v : Int64} (hdg : decode cc pc = .ok (.lsub, 1)) (hv : x - y = v) (kk : G ce sl ws (pc + 1) lv (.long v :: st)) : G ce sl ws (pc) lv (.long y :: .long x :: st) := by
  obtain ⟨p, e, s, m, args, below, meth, c, A, Q, ⟨hx, hb, hml, hown, hts⟩, hK, hT, hA, hnm, hlk, rfl⟩ := hC
  intro H locs ls hP hD hS hl
  subst hv; exact lv_lsub hx hb hdg (kk H locs ls hP hD hS hl)
theorem y_lmul (hC : Cx l G cc own nL R D tys nm) {x y v : Int64} (hdg : decode cc pc = .ok (.lmul, 1)) (hv : x * y = v) (kk : G ce sl ws (pc + 1) lv (.long v :: st)) : G ce sl ws (pc) lv (.long y :: .long x :: st) := by
  obtain ⟨p, e, s, m, args, below, meth, c, A, Q, ⟨hx, hb, hml, hown, hts⟩, hK, hT, hA, hnm, hlk, rfl⟩ := hC
  intro H locs ls hP hD hS hl
  subst hv; exact lv_lmul hx hb hdg (kk H locs ls hP hD hS hl)
theorem y_ishr (hC : Cx l G cc own nL R D tys nm) {x y v : Int32} (hdg : decode cc pc = .ok (.ishr, 1)) (hv : x >>> (y &&& 31) = v) (kk : G ce sl ws (pc + 1) lv (.int v :: st)) : G ce sl ws (pc) lv (.int y :: .int x :: st) := by
  obtain ⟨p, e, s, m, args, below, meth, c, A, Q, ⟨hx, hb, hml, hown, hts⟩, hK, hT, hA, hnm, hlk, rfl⟩ := hC
  intro H locs ls hP hD hS hl
  subst hv; exact lv_ishr hx hb hdg (kk H locs ls hP hD hS hl)
theorem y_iushr (hC : Cx l G cc own nL R D tys nm) {x y v : Int32} (hdg : decode cc pc = .ok (.iushr, 1)) (hv : (x.toUInt32 >>> (y.toUInt32 &&& Int32.toUInt32 31)).toInt32 = v) (kk : G ce sl ws (pc + 1) lv (.int v :: st)) : G ce sl ws (pc) lv (.int y :: .int x :: st) := by
  obtain ⟨p, e, s, m, args, below, meth, c, A, Q, ⟨hx, hb, hml, hown, hts⟩, hK, hT, hA, hnm, hlk, rfl⟩ := hC
  intro H locs ls hP hD hS hl
  exact lv_iushr hx hb hdg hv (kk H locs ls hP hD hS hl)
theorem y_i2l (hC : Cx l G cc own nL R D tys nm) {x : Int32} {v : Int64} (hdg : decode cc pc = .ok (.i2l, 1)) (hv : x.toInt64 = v) (kk : G ce sl ws (pc + 1) lv (.long v :: st)) : G ce sl ws (pc) lv (.int x :: st) := by
  obtain ⟨p, e, s, m, args, below, meth, c, A, Q, ⟨hx, hb, hml, hown, hts⟩, hK, hT, hA, hnm, hlk, rfl⟩ := hC
  intro H locs ls hP hD hS hl
  exact lv_i2l hx hb hdg hv (kk H locs ls hP hD hS hl)
theorem y_l2i (hC : Cx l G cc own nL R D tys nm) {x : Int64} {v : Int32} (hdg : decode cc pc = .ok (.l2i, 1)) (hv : x.toInt32 = v) (kk : G ce sl ws (pc + 1) lv (.int v :: st)) : G ce sl ws (pc) lv (.long x :: st) := by
  obtain ⟨p, e, s, m, args, below, meth, c, A, Q, ⟨hx, hb, hml, hown, hts⟩, hK, hT, hA, hnm, hlk, rfl⟩ := hC
  intro H locs ls hP hD hS hl
  exact lv_l2i hx hb hdg hv (kk H locs ls hP hD hS hl)
theorem y_lcmp (hC : Cx l G cc own nL R D tys nm) {x y : Int64} (hdg : decode cc pc = .ok (.lcmp, 1)) (kk : ∀ v : Int32, v = lg_cmp x y → G ce sl ws (pc + 1) lv (.int v :: st)) : G ce sl ws (pc) lv (.long y :: .long x :: st) := by
  obtain ⟨p, e, s, m, args, below, meth, c, A, Q, ⟨hx, hb, hml, hown, hts⟩, hK, hT, hA, hnm, hlk, rfl⟩ := hC
  intro H locs ls hP hD hS hl
  exact W.lcmp hx hb hdg (kk _ rfl H locs ls hP hD hS hl)
theorem y_dcmp (hC : Cx l G cc own nL R D tys nm) {x y : UInt64} {op : CmpOp} (hdg : decode cc pc = .ok (.dcmp op, 1)) (kk : ∀ v : Int32, v = Op.cmpValue (FP.dcmp x y) op → G ce sl ws (pc + 1) lv (.int v :: st)) : G ce sl ws (pc) lv (.double y :: .double x :: st) := by
  obtain ⟨p, e, s, m, args, below, meth, c, A, Q, ⟨hx, hb, hml, hown, hts⟩, hK, hT, hA, hnm, hlk, rfl⟩ := hC
  intro H locs ls hP hD hS hl
  exact lv_dcmp hx hb hdg (kk _ rfl H locs ls hP hD hS hl)
theorem y_dup (hC : Cx l G cc own nL R D tys nm) {va : Value} (hdg : decode cc pc = .ok (.dup, 1)) (hva : va.category = 1) (kk : G ce sl ws (pc + 1) lv (va :: va :: st)) : G ce sl ws (pc) lv (va :: st) := by
  obtain ⟨p, e, s, m, args, below, meth, c, A, Q, ⟨hx, hb, hml, hown, hts⟩, hK, hT, hA, hnm, hlk, rfl⟩ := hC
  intro H locs ls hP hD hS hl
  exact lv_dup hx hb hdg hva (kk H locs ls hP hD hS hl)
theorem y_pop (hC : Cx l G cc own nL R D tys nm) {va : Value} (hdg : decode cc pc = .ok (.pop, 1)) (hva : va.category = 1) (kk : G ce sl ws (pc + 1) lv (st)) : G ce sl ws (pc) lv (va :: st) := by
  obtain ⟨p, e, s, m, args, below, meth, c, A, Q, ⟨hx, hb, hml, hown, hts⟩, hK, hT, hA, hnm, hlk, rfl⟩ := hC
  intro H locs ls hP hD hS hl
  exact lv_pop hx hb hdg hva (kk H locs ls hP hD hS hl)
theorem y_dup2 (hC : Cx l G cc own nL R D tys nm) {va vb : Value} (hdg : decode cc pc = .ok (.dup2, 1)) (hva : va.category = 1) (hvb : vb.category = 1) (kk : G ce sl ws (pc + 1) lv (va :: vb :: va :: vb :: st)) : G ce sl ws (pc) lv (va :: vb :: st) := by
  obtain ⟨p, e, s, m, args, below, meth, c, A, Q, ⟨hx, hb, hml, hown, hts⟩, hK, hT, hA, hnm, hlk, rfl⟩ := hC
  intro H locs ls hP hD hS hl
  exact lv_dup2_11 hx hb hdg hva hvb (kk H locs ls hP hD hS hl)
theorem y_if_eq (hC : Cx l G cc own nL R D tys nm) {x : Int32} {off : Int} (tgt : Nat) (hdg : decode cc pc = .ok (.ifCond .eq off, 3)) (ht : (pc : Int) + off = (tgt : Int)) (kt : x = 0 → G ce sl ws (tgt) lv (st)) (kf : ¬ x = 0 → G ce sl ws (pc + 3) lv (st)) : G ce sl ws (pc) lv (.int x :: st) := by
  obtain ⟨p, e, s, m, args, below, meth, c, A, Q, ⟨hx, hb, hml, hown, hts⟩, hK, hT, hA, hnm, hlk, rfl⟩ := hC
  intro H locs ls hP hD hS hl
  exact lv_if_eq hx hb hdg ht (fun h => kt h H locs ls hP hD hS hl) (fun h => kf h H locs ls hP hD hS hl)
theorem y_icmp_eq (hC : Cx l G cc own nL R D tys nm) {x y : Int32} {off : Int} (tgt : Nat) (hdg : decode cc pc = .ok (.if_icmp .eq off, 3)) (ht : (pc : Int) + off = (tgt : Int)) (kt : x = y → G ce sl ws (tgt) lv (st)) (kf : ¬ x = y → G ce sl ws (pc + 3) lv (st)) : G ce sl ws (pc) lv (.int y :: .int x :: st) := by
  obtain ⟨p, e, s, m, args, below, meth, c, A, Q, ⟨hx, hb, hml, hown, hts⟩, hK, hT, hA, hnm, hlk, rfl⟩ := hC
  intro H locs ls hP hD hS hl
  exact lv_icmp_eq hx hb hdg ht (fun h => kt h H locs ls hP hD hS hl) (fun h => kf h H locs ls hP hD hS hl)
theorem y_if_ne (hC : Cx l G cc own nL R D tys nm) {x : Int32} {off : Int} (tgt : Nat) (hdg : decode cc pc = .ok (.ifCond .ne off, 3)) (ht : (pc : Int) + off = (tgt : Int)) (kt : ¬ x = 0 → G ce sl ws (tgt) lv (st)) (kf : x = 0 → G ce sl ws (pc + 3) lv (st)) : G ce sl ws (pc) lv (.int x :: st) := by
  obtain ⟨p, e, s, m, args, below, meth, c, A, Q, ⟨hx, hb, hml, hown, hts⟩, hK, hT, hA, hnm, hlk, rfl⟩ := hC
  intro H locs ls hP hD hS hl
  exact lv_if_ne hx hb hdg ht (fun h => kt h H locs ls hP hD hS hl) (fun h => kf h H locs ls hP hD hS hl)
theorem y_icmp_ne (hC : Cx l G cc own nL R D tys nm) {x y : Int32} {off : Int} (tgt : Nat) (hdg : decode cc pc = .ok (.if_icmp .ne off, 3)) (ht : (pc : Int) + off = (tgt : Int)) (kt : ¬ x = y → G ce sl ws (tgt) lv (st)) (kf : x = y → G ce sl ws (pc + 3) lv (st)) : G ce sl ws (pc) lv (.int y :: .int x :: st) := by
  obtain ⟨p, e, s, m, args, below, meth, c, A, Q, ⟨hx, hb, hml, hown, hts⟩, hK, hT, hA, hnm, hlk, rfl⟩ := hC
  intro H locs ls hP hD hS hl
  exact lv_icmp_ne hx hb hdg ht (fun h => kt h H locs ls hP hD hS hl) (fun h => kf h H locs ls hP hD hS hl)
theorem y_if_lt (hC : Cx l G cc own nL R D tys nm) {x : Int32} {off : Int} (tgt : Nat) (hdg : decode cc pc = .ok (.ifCond .lt off, 3)) (ht : (pc : Int) + off = (tgt : Int)) (kt : x < 0 → G ce sl ws (tgt) lv (st)) (kf : ¬ x < 0 → G ce sl ws (pc + 3) lv (st)) : G ce sl ws (pc) lv (.int x :: st) := by
  obtain ⟨p, e, s, m, args, below, meth, c, A, Q, ⟨hx, hb, hml, hown, hts⟩, hK, hT, hA, hnm, hlk, rfl⟩ := hC
  intro H locs ls hP hD hS hl
  exact lv_if_lt hx hb hdg ht (fun h => kt h H locs ls hP hD hS hl) (fun h => kf h H locs ls hP hD hS hl)
theorem y_icmp_lt (hC : Cx l G cc own nL R D tys nm) {x y : Int32} {off : Int} (tgt : Nat) (hdg : decode cc pc = .ok (.if_icmp .lt off, 3)) (ht : (pc : Int) + off = (tgt : Int)) (kt : x < y → G ce sl ws (tgt) lv (st)) (kf : ¬ x < y → G ce sl ws (pc + 3) lv (st)) : G ce sl ws (pc) lv (.int y :: .int x :: st) := by
  obtain ⟨p, e, s, m, args, below, meth, c, A, Q, ⟨hx, hb, hml, hown, hts⟩, hK, hT, hA, hnm, hlk, rfl⟩ := hC
  intro H locs ls hP hD hS hl
  exact lv_icmp_lt hx hb hdg ht (fun h => kt h H locs ls hP hD hS hl) (fun h => kf h H locs ls hP hD hS hl)
theorem y_if_ge (hC : Cx l G cc own nL R D tys nm) {x : Int32} {off : Int} (tgt : Nat) (hdg : decode cc pc = .ok (.ifCond .ge off, 3)) (ht : (pc : Int) + off = (tgt : Int)) (kt : 0 ≤ x → G ce sl ws (tgt) lv (st)) (kf : ¬ 0 ≤ x → G ce sl ws (pc + 3) lv (st)) : G ce sl ws (pc) lv (.int x :: st) := by
  obtain ⟨p, e, s, m, args, below, meth, c, A, Q, ⟨hx, hb, hml, hown, hts⟩, hK, hT, hA, hnm, hlk, rfl⟩ := hC
  intro H locs ls hP hD hS hl
  exact lv_if_ge hx hb hdg ht (fun h => kt h H locs ls hP hD hS hl) (fun h => kf h H locs ls hP hD hS hl)
theorem y_icmp_ge (hC : Cx l G cc own nL R D tys nm) {x y : Int32} {off : Int} (tgt : Nat) (hdg : decode cc pc = .ok (.if_icmp .ge off, 3)) (ht : (pc : Int) + off = (tgt : Int)) (kt : y ≤ x → G ce sl ws (tgt) lv (st)) (kf : ¬ y ≤ x → G ce sl ws (pc + 3) lv (st)) : G ce sl ws (pc) lv (.int y :: .int x :: st) := by
  obtain ⟨p, e, s, m, args, below, meth, c, A, Q, ⟨hx, hb, hml, hown, hts⟩, hK, hT, hA, hnm, hlk, rfl⟩ := hC
  intro H locs ls hP hD hS hl
  exact lv_icmp_ge hx hb hdg ht (fun h => kt h H locs ls hP hD hS hl) (fun h => kf h H locs ls hP hD hS hl)
theorem y_if_gt (hC : Cx l G cc own nL R D tys nm) {x : Int32} {off : Int} (tgt : Nat) (hdg : decode cc pc = .ok (.ifCond .gt off, 3)) (ht : (pc : Int) + off = (tgt : Int)) (kt : 0 < x → G ce sl ws (tgt) lv (st)) (kf : ¬ 0 < x → G ce sl ws (pc + 3) lv (st)) : G ce sl ws (pc) lv (.int x :: st) := by
  obtain ⟨p, e, s, m, args, below, meth, c, A, Q, ⟨hx, hb, hml, hown, hts⟩, hK, hT, hA, hnm, hlk, rfl⟩ := hC
  intro H locs ls hP hD hS hl
  exact lv_if_gt hx hb hdg ht (fun h => kt h H locs ls hP hD hS hl) (fun h => kf h H locs ls hP hD hS hl)
theorem y_icmp_gt (hC : Cx l G cc own nL R D tys nm) {x y : Int32} {off : Int} (tgt : Nat) (hdg : decode cc pc = .ok (.if_icmp .gt off, 3)) (ht : (pc : Int) + off = (tgt : Int)) (kt : y < x → G ce sl ws (tgt) lv (st)) (kf : ¬ y < x → G ce sl ws (pc + 3) lv (st)) : G ce sl ws (pc) lv (.int y :: .int x :: st) := by
  obtain ⟨p, e, s, m, args, below, meth, c, A, Q, ⟨hx, hb, hml, hown, hts⟩, hK, hT, hA, hnm, hlk, rfl⟩ := hC
  intro H locs ls hP hD hS hl
  exact lv_icmp_gt hx hb hdg ht (fun h => kt h H locs ls hP hD hS hl) (fun h => kf h H locs ls hP hD hS hl)
theorem y_if_le (hC : Cx l G cc own nL R D tys nm) {x : Int32} {off : Int} (tgt : Nat) (hdg : decode cc pc = .ok (.ifCond .le off, 3)) (ht : (pc : Int) + off = (tgt : Int)) (kt : x ≤ 0 → G ce sl ws (tgt) lv (st)) (kf : ¬ x ≤ 0 → G ce sl ws (pc + 3) lv (st)) : G ce sl ws (pc) lv (.int x :: st) := by
  obtain ⟨p, e, s, m, args, below, meth, c, A, Q, ⟨hx, hb, hml, hown, hts⟩, hK, hT, hA, hnm, hlk, rfl⟩ := hC
  intro H locs ls hP hD hS hl
  exact lv_if_le hx hb hdg ht (fun h => kt h H locs ls hP hD hS hl) (fun h => kf h H locs ls hP hD hS hl)
theorem y_icmp_le (hC : Cx l G cc own nL R D tys nm) {x y : Int32} {off : Int} (tgt : Nat) (hdg : decode cc pc = .ok (.if_icmp .le off, 3)) (ht : (pc : Int) + off = (tgt : Int)) (kt : x ≤ y → G ce sl ws (tgt) lv (st)) (kf : ¬ x ≤ y → G ce sl ws (pc + 3) lv (st)) : G ce sl ws (pc) lv (.int y :: .int x :: st) := by
  obtain ⟨p, e, s, m, args, below, meth, c, A, Q, ⟨hx, hb, hml, hown, hts⟩, hK, hT, hA, hnm, hlk, rfl⟩ := hC
  intro H locs ls hP hD hS hl
  exact lv_icmp_le hx hb hdg ht (fun h => kt h H locs ls hP hD hS hl) (fun h => kf h H locs ls hP hD hS hl)
theorem y_goto (hC : Cx l G cc own nL R D tys nm) {off : Int} (tgt : Nat) (hdg : decode cc pc = .ok (.goto off, 3)) (ht : (pc : Int) + off = (tgt : Int)) (kk : G ce sl ws (tgt) lv (st)) : G ce sl ws (pc) lv (st) := by
  obtain ⟨p, e, s, m, args, below, meth, c, A, Q, ⟨hx, hb, hml, hown, hts⟩, hK, hT, hA, hnm, hlk, rfl⟩ := hC
  intro H locs ls hP hD hS hl
  exact lv_goto hx hb hdg ht (kk H locs ls hP hD hS hl)
theorem y_tableOut (hC : Cx l G cc own nL R D tys nm) {dflt lo hi : Int} {offs : Array Int} {len : Nat} {x : Int32} (tgt : Nat) (hdg : decode cc pc = .ok (.tableswitch dflt lo hi offs, len)) (h : x.toInt < lo ∨ hi < x.toInt) (ht : (pc : Int) + dflt = (tgt : Int)) (kk : G ce sl ws (tgt) lv (st)) : G ce sl ws (pc) lv (.int x :: st) := by
  obtain ⟨p, e, s, m, args, below, meth, c, A, Q, ⟨hx, hb, hml, hown, hts⟩, hK, hT, hA, hnm, hlk, rfl⟩ := hC
  intro H locs ls hP hD hS hl
  exact lv_tableOut hx hb hdg h ht (kk H locs ls hP hD hS hl)
theorem y_tableIn (hC : Cx l G cc own nL R D tys nm) {dflt lo hi : Int} {offs : Array Int} {len : Nat} {x : Int32} {off : Int} (tgt : Nat) (hdg : decode cc pc = .ok (.tableswitch dflt lo hi offs, len)) (h1 : ¬ x.toInt < lo) (h2 : ¬ hi < x.toInt) (ho : offs[(x.toInt - lo).toNat]? = some off) (ht : (pc : Int) + off = (tgt : Int)) (kk : G ce sl ws (tgt) lv (st)) : G ce sl ws (pc) lv (.int x :: st) := by
  obtain ⟨p, e, s, m, args, below, meth, c, A, Q, ⟨hx, hb, hml, hown, hts⟩, hK, hT, hA, hnm, hlk, rfl⟩ := hC
  intro H locs ls hP hD hS hl
  exact lv_tableIn hx hb hdg h1 h2 ho ht (kk H locs ls hP hD hS hl)
theorem y_lookup (hC : Cx l G cc own nL R D tys nm) {dflt : Int} {ps : Array (Int × Int)} {len : Nat} {x : Int32} {off : Int} (tgt : Nat) (hdg : decode cc pc = .ok (.lookupswitch dflt ps, len)) (hp : (ps.toList.zip (ps.toList.drop 1)).all (fun (a, next) => a.1 < next.1) = true) (ho : Op.lookupswitch.offset ps.toList dflt x.toInt = off) (ht : (pc : Int) + off = (tgt : Int)) (kk : G ce sl ws (tgt) lv (st)) : G ce sl ws (pc) lv (.int x :: st) := by
  obtain ⟨p, e, s, m, args, below, meth, c, A, Q, ⟨hx, hb, hml, hown, hts⟩, hK, hT, hA, hnm, hlk, rfl⟩ := hC
  intro H locs ls hP hD hS hl
  exact lv_lookup hx hb hdg hp ho ht (kk H locs ls hP hD hS hl)
/-- what the tables say of a class, by its number in vwCl -/
def cC (ci : Nat) (C : String) (T : u_T) (N : Nat) (ty : Nat → FieldType) : Prop := vwCl[ci]? = some (C, T, N) ∧ (∀ w ∈ u_ws C T N, w ∈ wsL_law) ∧ (∀ k, k < N → parseFieldDescriptor (T k).2.2.1 = some (ty k)) ∧ (∀ a, a < N → ∀ b, b < N → a ≠ b → (T a).2.1 ≠ (T b).2.1)
theorem cC0 : cC 0 RX0 TX0 7 tyX0 := ⟨rfl, inlX0, tyX0_ok, nmX0⟩
theorem cC1 : cC 1 RX1 TX1 5 tyX1 := ⟨rfl, inlX1, tyX1_ok, nmX1⟩
theorem cC2 : cC 2 RX2 TX2 4 tyX2 := ⟨rfl, inlX2, tyX2_ok, nmX2⟩
theorem cC3 : cC 3 RX3 TX3 5 tyX3 := ⟨rfl, inlX3, tyX3_ok, nmX3⟩
theorem cC4 : cC 4 RX4 TX4 8 tyX4 := ⟨rfl, inlX4, tyX4_ok, nmX4⟩
theorem cC5 : cC 5 RX5 TX5 10 tyX5 := ⟨rfl, inlX5, tyX5_ok, nmX5⟩
theorem cC6 : cC 6 RX6 TX6 23 tyX6 := ⟨rfl, inlX6, tyX6_ok, nmX6⟩
theorem y_get (hC : Cx l G cc own nL R D tys nm) {ci : Nat} {C : String} {T : u_T} {N : Nat} {ty : Nat → FieldType} {index a : Nat} (hc : cC ci C T N ty) (q0 : Nat) {fs : List Value} (he : ws[q0]? = some (a, .inr (ci, fs))) (k : Nat) (hk : k < N) (hw : Cond.fieldLink own index (T k).1 (T k).2.1 (T k).2.2.1 ∈ wsL_law) {v : Value} (hv : fs[k]? = some v) (hdg : decode cc pc = .ok (.getfield index, 3)) (kk : G ce sl ws (pc + 3) lv (v :: st)) : G ce sl ws (pc) lv (.ref a :: st) := by
  obtain ⟨p, e, s, m, args, below, meth, c, A, Q, ⟨hx, hb, hml, hown, hts⟩, hK, hT, hA, hnm, hlk, rfl⟩ := hC
  intro H locs ls hP hD hS hl
  exact va_get hx hb hts hc.2.1 hown hK.1 hP q0 he hc.1 k hk (hts _ hw) (fun _ h9 => h9) hv hdg (kk H locs ls hP hD hS hl)
theorem y_put (hC : Cx l G cc own nL R D tys nm) {ci : Nat} {C : String} {T : u_T} {N : Nat} {ty : Nat → FieldType} {index a : Nat} (hc : cC ci C T N ty) (q0 : Nat) {fs : List Value} (he : ws[q0]? = some (a, .inr (ci, fs))) (k : Nat) (hk : k < N) (hw : Cond.fieldLink own index (T k).1 (T k).2.1 (T k).2.2.1 ∈ wsL_law) (hfin : (T k).2.2.2 = false) {v : Value} (hn : narrow (ty k) v = v) (hfit : fits (ty k) v = true) (hl9 : k < fs.length) (hdg : decode cc pc = .ok (.putfield index, 3)) (ws' : va_W) (hw9 : ws.set q0 (a, .inr (ci, fs.set k v)) = ws') (kk : G ce sl ws' (pc + 3) lv (st)) : G ce sl ws (pc) lv (v :: .ref a :: st) := by
  obtain ⟨p, e, s, m, args, below, meth, c, A, Q, ⟨hx, hb, hml, hown, hts⟩, hK, hT, hA, hnm, hlk, rfl⟩ := hC
  intro H locs ls hP hD hS hl
  subst hw9; exact va_put hx hb hts hc.2.1 ty hc.2.2.1 hc.2.2.2 hown hK.1 hP hD hS q0 he hc.1 k hk (hts _ hw) (fun _ h9 => h9) hfin (hc.2.2.1 k hk) hn hfit hl9 hdg (fun H locs hP hD hS => kk H locs ls hP hD hS hl)
theorem y_putF (hC : Cx l G cc own nL R D tys nm) {ci : Nat} {C : String} {T : u_T} {N : Nat} {ty : Nat → FieldType} {index a : Nat} (hc : cC ci C T N ty) (hin : nm = "<init>") (q0 : Nat) {fs : List Value} (he : ws[q0]? = some (a, .inr (ci, fs))) (k : Nat) (hk : k < N) (hw : Cond.fieldLink own index (T k).1 (T k).2.1 (T k).2.2.1 ∈ wsL_law) (hfin : (T k).2.2.2 = true) (hdecl : (T k).1 = own) {v : Value} (hn : narrow (ty k) v = v) (hfit : fits (ty k) v = true) (hl9 : k < fs.length) (hdg : decode cc pc = .ok (.putfield index, 3)) (ws' : va_W) (hw9 : ws.set q0 (a, .inr (ci, fs.set k v)) = ws') (kk : G ce sl ws' (pc + 3) lv (st)) : G ce sl ws (pc) lv (v :: .ref a :: st) := by
  obtain ⟨p, e, s, m, args, below, meth, c, A, Q, ⟨hx, hb, hml, hown, hts⟩, hK, hT, hA, hnm, hlk, rfl⟩ := hC
  intro H locs ls hP hD hS hl
  subst hw9; exact va_putF hx hb hts hc.2.1 ty hc.2.2.1 hc.2.2.2 hown hK.1 hP hD hS q0 he hc.1 k hk (hts _ hw) (fun _ h9 => h9) hfin (hnm.trans hin) hdecl (hc.2.2.1 k hk) hn hfit hl9 hdg (fun H locs hP hD hS => kk H locs ls hP hD hS hl)
theorem y_iald (hC : Cx l G cc own nL R D tys nm) {cA : ClassId} {n a : Nat} {f : Nat → Int32} {i : Int32} (q0 t0 : Nat) (ha : ws[q0]? = some (a, .inl (cA, n, .inl f))) (ht : tys[t0]? = some (cA, .int)) (k : Nat) (hi : i = nI k) (hk : k < n) (hn : n < 2 ^ 31) (hdg : decode cc pc = .ok (.iaload, 1)) (kk : G ce sl ws (pc + 1) lv (.int (f k) :: st)) : G ce sl ws (pc) lv (.int i :: .ref a :: st) := by
  obtain ⟨p, e, s, m, args, below, meth, c, A, Q, ⟨hx, hb, hml, hown, hts⟩, hK, hT, hA, hnm, hlk, rfl⟩ := hC
  intro H locs ls hP hD hS hl
  subst hi; refine va_iald hx hb hK.1 hP q0 t0 ha ht (vp_in_nI hk hn) hdg ?_; rw [nI_clamp (by omega)]; exact kk H locs ls hP hD hS hl
theorem y_zald (hC : Cx l G cc own nL R D tys nm) {cA : ClassId} {n a : Nat} {f : Nat → Int32} {i : Int32} (q0 t0 : Nat) (ha : ws[q0]? = some (a, .inl (cA, n, .inl f))) (ht : tys[t0]? = some (cA, .boolean)) (k : Nat) (hi : i = nI k) (hk : k < n) (hn : n < 2 ^ 31) (hdg : decode cc pc = .ok (.baload, 1)) (kk : G ce sl ws (pc + 1) lv (.int (f k) :: st)) : G ce sl ws (pc) lv (.int i :: .ref a :: st) := by
  obtain ⟨p, e, s, m, args, below, meth, c, A, Q, ⟨hx, hb, hml, hown, hts⟩, hK, hT, hA, hnm, hlk, rfl⟩ := hC
  intro H locs ls hP hD hS hl
  subst hi; refine va_zald hx hb hK.1 hP q0 t0 ha ht (vp_in_nI hk hn) hdg ?_; rw [nI_clamp (by omega)]; exact kk H locs ls hP hD hS hl
theorem y_lald (hC : Cx l G cc own nL R D tys nm) {cA : ClassId} {n a : Nat} {f : Nat → Int64} {i : Int32} (q0 t0 : Nat) (ha : ws[q0]? = some (a, .inl (cA, n, .inr (.inl f)))) (ht : tys[t0]? = some (cA, .long)) (k : Nat) (hi : i = nI k) (hk : k < n) (hn : n < 2 ^ 31) (hdg : decode cc pc = .ok (.laload, 1)) (kk : G ce sl ws (pc + 1) lv (.long (f k) :: st)) : G ce sl ws (pc) lv (.int i :: .ref a :: st) := by
  obtain ⟨p, e, s, m, args, below, meth, c, A, Q, ⟨hx, hb, hml, hown, hts⟩, hK, hT, hA, hnm, hlk, rfl⟩ := hC
  intro H locs ls hP hD hS hl
  subst hi; refine va_lald hx hb hK.1 hP q0 t0 ha ht (vp_in_nI hk hn) hdg ?_; rw [nI_clamp (by omega)]; exact kk H locs ls hP hD hS hl
theorem y_iast (hC : Cx l G cc own nL R D tys nm) {cA : ClassId} {n a : Nat} {f : Nat → Int32} {i : Int32} {x : Int32} (q0 t0 : Nat) (ha : ws[q0]? = some (a, .inl (cA, n, .inl f))) (ht : tys[t0]? = some (cA, .int)) (k : Nat) (hi : i = nI k) (hk : k < n) (hn : n < 2 ^ 31) (hdg : decode cc pc = .ok (.iastore, 1)) (ws' : va_W) (hw9 : ws.set q0 (a, .inl (cA, n, .inl (upd f k x))) = ws') (kk : G ce sl ws' (pc + 1) lv (st)) : G ce sl ws (pc) lv (.int x :: .int i :: .ref a :: st) := by
  obtain ⟨p, e, s, m, args, below, meth, c, A, Q, ⟨hx, hb, hml, hown, hts⟩, hK, hT, hA, hnm, hlk, rfl⟩ := hC
  intro H locs ls hP hD hS hl
  subst hi; subst hw9; exact va_iast hx hb hK.1 hP hD hS q0 t0 ha ht (vp_in_nI hk hn) hdg (by rw [nI_clamp (show k < 2 ^ 31 by omega)]; exact fun H locs hP hD hS => kk H locs ls hP hD hS hl)
theorem y_zast (hC : Cx l G cc own nL R D tys nm) {cA : ClassId} {n a : Nat} {f : Nat → Int32} {i : Int32} {x : Int32} (q0 t0 : Nat) (ha : ws[q0]? = some (a, .inl (cA, n, .inl f))) (ht : tys[t0]? = some (cA, .boolean)) (k : Nat) (hi : i = nI k) (hk : k < n) (hn : n < 2 ^ 31) {x9 : Int32} (hz : vp_nar .boolean x = x9) (hdg : decode cc pc = .ok (.bastore, 1)) (ws' : va_W) (hw9 : ws.set q0 (a, .inl (cA, n, .inl (upd f k x9))) = ws') (kk : G ce sl ws' (pc + 1) lv (st)) : G ce sl ws (pc) lv (.int x :: .int i :: .ref a :: st) := by
  obtain ⟨p, e, s, m, args, below, meth, c, A, Q, ⟨hx, hb, hml, hown, hts⟩, hK, hT, hA, hnm, hlk, rfl⟩ := hC
  intro H locs ls hP hD hS hl
  subst hi; subst hw9; subst hz; exact va_zast hx hb hK.1 hP hD hS q0 t0 ha ht (vp_in_nI hk hn) hdg (by rw [nI_clamp (show k < 2 ^ 31 by omega)]; exact fun H locs hP hD hS => kk H locs ls hP hD hS hl)
theorem y_last (hC : Cx l G cc own nL R D tys nm) {cA : ClassId} {n a : Nat} {f : Nat → Int64} {i : Int32} {x : Int64} (q0 t0 : Nat) (ha : ws[q0]? = some (a, .inl (cA, n, .inr (.inl f)))) (ht : tys[t0]? = some (cA, .long)) (k : Nat) (hi : i = nI k) (hk : k < n) (hn : n < 2 ^ 31) (hdg : decode cc pc = .ok (.lastore, 1)) (ws' : va_W) (hw9 : ws.set q0 (a, .inl (cA, n, .inr (.inl (vp_updL f k x)))) = ws') (kk : G ce sl ws' (pc + 1) lv (st)) : G ce sl ws (pc) lv (.long x :: .int i :: .ref a :: st) := by
  obtain ⟨p, e, s, m, args, below, meth, c, A, Q, ⟨hx, hb, hml, hown, hts⟩, hK, hT, hA, hnm, hlk, rfl⟩ := hC
  intro H locs ls hP hD hS hl
  subst hi; subst hw9; exact va_last hx hb hK.1 hP hD hS q0 t0 ha ht (vp_in_nI hk hn) hdg (by rw [nI_clamp (show k < 2 ^ 31 by omega)]; exact fun H locs hP hD hS => kk H locs ls hP hD hS hl)
theorem y_aldq (hC : Cx l G cc own nL R D tys nm) {cA : ClassId} {C : String} {n a b : Nat} {f : Nat → Option Nat} {i : Int32} (q0 t0 : Nat) (ha : ws[q0]? = some (a, .inl (cA, n, .inr (.inr (.inr (.inr f)))))) (ht : tys[t0]? = some (cA, .object C)) (k : Nat) (hi : i = nI k) (hk : k < n) (hn : n < 2 ^ 31) (hf : f k = some b) (hdg : decode cc pc = .ok (.aaload, 1)) (kk : G ce sl ws (pc + 1) lv (.ref b :: st)) : G ce sl ws (pc) lv (.int i :: .ref a :: st) := by
  obtain ⟨p, e, s, m, args, below, meth, c, A, Q, ⟨hx, hb, hml, hown, hts⟩, hK, hT, hA, hnm, hlk, rfl⟩ := hC
  intro H locs ls hP hD hS hl
  subst hi; refine va_aldq hx hb hK.1 hP q0 t0 ha ht (vp_in_nI hk hn) hdg ?_; rw [nI_clamp (by omega), hf]; exact kk H locs ls hP hD hS hl
theorem y_alen (hC : Cx l G cc own nL R D tys nm) {cA : ClassId} {a : Nat} {x : vp_A} {ty : FieldType} {v : Int32} (q0 t0 : Nat) (ha : ws[q0]? = some (a, .inl (cA, x))) (ht : tys[t0]? = some (cA, ty)) (hv : Int32.ofNat x.1 = v) (hdg : decode cc pc = .ok (.arraylength, 1)) (kk : G ce sl ws (pc + 1) lv (.int v :: st)) : G ce sl ws (pc) lv (.ref a :: st) := by
  obtain ⟨p, e, s, m, args, below, meth, c, A, Q, ⟨hx, hb, hml, hown, hts⟩, hK, hT, hA, hnm, hlk, rfl⟩ := hC
  intro H locs ls hP hD hS hl
  exact va_alen hx hb hK.1 hP q0 t0 ha ht hv hdg (kk H locs ls hP hD hS hl)
theorem y_newa (hC : Cx l G cc own nL R D tys nm) {atype : ArrayType} {ty : FieldType} {n : Int32} {N : Nat} {a0 : vp_A} {cA : ClassId} (hw : Cond.arrayClass (newarray.typeOf atype) ∈ wsL_law) (hty : newarray.typeOf atype = ty) (t0 : Nat) (ht : tys[t0]? = some (cA, ty)) (hp : va_RA = va_RA ∧ (∀ (U : State), va_RA U cA ty → U.vm.findClass ("[" ++ ty.toString) = some cA)) (ha : ∀ cA : ClassId, vp_cell cA a0 = arrV cA N (fun _ => defaultValue ty)) (hN : n = nI N) (hN2 : N < 2 ^ 24) (hc : ce + 1 ≤ R.cells) (hs : sl + N ≤ R.slots) (hdg : decode cc pc = .ok (.newarray atype, 2)) (kk : ∀ q : Nat, G (ce + 1) (sl + N) (ws ++ [(q, .inl (cA, a0))]) (pc + 2) lv (.ref q :: st)) : G ce sl ws (pc) lv (.int n :: st) := by
  obtain ⟨p, e, s, m, args, below, meth, c, A, Q, ⟨hx, hb, hml, hown, hts⟩, hK, hT, hA, hnm, hlk, rfl⟩ := hC
  intro H locs ls hP hD hS hl
  subst hN; subst hty
  have hcl : (nI N).toNatClampNeg = N := nI_clamp (by omega)
  refine va_newaK hx hb (hts _ hw) rfl hdg rfl (nI_pos (by omega)) hcl (by
    have h8 : componentBytes (newarray.typeOf atype) ≤ 8 := by cases atype <;> decide
    calc N * componentBytes (newarray.typeOf atype) ≤ N * 8 := Nat.mul_le_mul_left _ h8
      _ ≤ 536870912 := by omega) hc hs rfl fun H1 cA9 e1 z1 o1 hAr hNm => ?_
  have hcA : cA9 = cA := Option.some.inj (hNm.symm.trans (hp.2 s (hK.1.2 t0 _ ht).2))
  subst hcA
  have hk : ∀ (k : Nat) (x : Nat × va_E), ws[k]? = some x → H1[x.1]? = H[x.1]? := fun k x hx => o1 x.1 ((hP k x hx).lt)
  refine kk H.size H1 locs ls ((hP.kept hk).app (fun k x hx => ?_)) (hD.push hP rfl (hA _ hS.1)) ⟨Nat.le_trans hS.1 (by omega), fun x h1 h2 => (o1 x (Nat.lt_of_lt_of_le h1 hS.1)).trans (hS.2.1 x h1 h2), hS.2.2⟩ hl
  have hz : k < 1 := (List.getElem?_eq_some_iff.mp hx).1
  rw [show k = 0 by omega] at hx
  cases hx
  show H1[H.size]? = some (vp_cell _ _)
  rw [ha]
  exact e1
theorem y_new (hC : Cx l G cc own nL R D tys nm) {ci : Nat} {C : String} {T : u_T} {N : Nat} {ty : Nat → FieldType} {index : Nat} (hc : cC ci C T N ty) (hw1 : Cond.classLink own index C ∈ wsL_law) (hw2 : Cond.instantiable C N ∈ wsL_law) (hw3 : Cond.initialized C ∈ wsL_law) (fs : List Value) (hfs : ∀ j, j < N → defaultValue (ty j) = vp_V fs j) (hce : ce + 1 ≤ R.cells) (hsl : sl + N ≤ R.slots) (hdg : decode cc pc = .ok (.new index, 3)) (kk : ∀ q : Nat, G (ce + 1) (sl + N) (ws ++ [(q, .inr (ci, fs))]) (pc + 3) lv (.ref q :: st)) : G ce sl ws (pc) lv (st) := by
  obtain ⟨p, e, s, m, args, below, meth, c, A, Q, ⟨hx, hb, hml, hown, hts⟩, hK, hT, hA, hnm, hlk, rfl⟩ := hC
  intro H locs ls hP hD hS hl
  exact va_new hx hb hts hc.2.1 ty hc.2.2.1 hown (hts _ hw1) (hts _ hw2) (hts _ hw3) hK.1 hP hD hS hA hc.1 hfs hce hsl hdg (fun q H hP hD hS => kk q H locs ls hP hD hS hl)
theorem y_newq (hC : Cx l G cc own nL R D tys nm) {n : Int32} {N index : Nat} {cA : ClassId} (hw : Cond.classLink own index RX1 ∈ wsL_law) (t0 : Nat) (ht : tys[t0]? = some (cA, .object RX1)) (hN : n = nI N) (hN2 : N < 2 ^ 24) (hc : ce + 1 ≤ R.cells) (hs : sl + N ≤ R.slots) (hdg : decode cc pc = .ok (.anewarray index, 3)) (kk : ∀ q : Nat, G (ce + 1) (sl + N) (ws ++ [(q, .inl (cA, N, .inr (.inr (.inr (.inr (fun _ => none))))))]) (pc + 3) lv (.ref q :: st)) : G ce sl ws (pc) lv (.int n :: st) := by
  obtain ⟨p, e, s, m, args, below, meth, c, A, Q, ⟨hx, hb, hml, hown, hts⟩, hK, hT, hA, hnm, hlk, rfl⟩ := hC
  intro H locs ls hP hD hS hl
  subst hN
  refine va_newq hx hb hown (hts _ hw) hK.2.2.2.2.2 hK.1 hP hD hS hA (nI_pos (by omega)) (nI_clamp (by omega)) (by omega) hc hs hdg (fun q cA9 H1 hK9 hP1 hD1 hS1 => ?_)
  have h8 := (hK9.2 tys.length (cA9, .object RX1) (by rw [List.getElem?_append_right (Nat.le_refl _), Nat.sub_self]; rfl)).2
  have h9 := (hK.1.2 t0 _ ht).2
  obtain ⟨_, _, _, _, _, h10⟩ := h8
  obtain ⟨_, _, _, _, _, h11⟩ := h9
  have hcA : cA9 = cA := Option.some.inj (h10.symm.trans h11)
  subst hcA
  exact kk q H1 locs ls hP1 hD1 hS1 hl
theorem y_astq (hC : Cx l G cc own nL R D tys nm) {cA : ClassId} {r : vw_C} {n a v ci : Nat} {vs : List Value} {f : Nat → Option Nat} {i : Int32} (q0 t0 qk : Nat) (ha : ws[q0]? = some (a, .inl (cA, n, .inr (.inr (.inr (.inr f)))))) (ht : tys[t0]? = some (cA, .object r.1)) (hv : ws[qk]? = some (v, .inr (ci, vs))) (hc : vwCl[ci]? = some r) (k : Nat) (hi : i = nI k) (hk : k < n) (hn : n < 2 ^ 31) (hdg : decode cc pc = .ok (.aastore, 1)) (ws' : va_W) (hw9 : ws.set q0 (a, .inl (cA, n, .inr (.inr (.inr (.inr (va_up f k (some v))))))) = ws') (kk : G ce sl ws' (pc + 1) lv (st)) : G ce sl ws (pc) lv (.ref v :: .int i :: .ref a :: st) := by
  obtain ⟨p, e, s, m, args, below, meth, c, A, Q, ⟨hx, hb, hml, hown, hts⟩, hK, hT, hA, hnm, hlk, rfl⟩ := hC
  intro H locs ls hP hD hS hl
  subst hi; subst hw9; exact va_astq hx hb hK.1 hP hD hS q0 t0 qk ci ha ht hv hc (vp_in_nI hk hn) hdg (by rw [nI_clamp (show k < 2 ^ 31 by omega)]; exact fun H locs hP hD hS => kk H locs ls hP hD hS hl)
theorem y_objInit (hC : Cx l G cc own nL R D tys nm) {index a : Nat} (hw1 : Cond.methodLink own index objectInit ∈ wsL_law) (hw2 : Cond.instanceMethod objectInit ∈ wsL_law) (hw3 : Cond.code objectInit ⟨#[0xb1]⟩ 1 none ∈ wsL_law) (hdg : decode cc pc = .ok (.invokespecial index, 3)) (hR : 1 ≤ R.frames) (hR2 : (st.map fun v => v.category).sum + 12 ≤ R.locals) (kk : G ce sl ws (pc + 3) lv (st)) : G ce sl ws (pc) lv (.ref a :: st) := by
  obtain ⟨p, e, s, m, args, below, meth, c, A, Q, ⟨hx, hb, hml, hown, hts⟩, hK, hT, hA, hnm, hlk, rfl⟩ := hC
  intro H locs ls hP hD hS hl
  exact W.objInit hx hb hown (hts _ hw1) (hts _ hw2) (hts _ hw3) rfl (by rw [hml]; exact hl.1) rfl hdg hR (by show 2 * 0 + _ + 12 ≤ _; omega) (W.eq (g2 := F0 m (pc + 3) ls st) rfl (kk H locs ls hP hD hS hl))
theorem mem_minc : Cond.code Lib.Math.min.name Lib.Math.min.code 2 (some .int) ∈ wsL_law := (inLr8 _ (List.mem_of_getElem? (i := 8) rfl))
theorem mem_mins : Cond.static Lib.Math.min.name ∈ wsL_law := (inLr8 _ (List.mem_of_getElem? (i := 6) rfl))
theorem mem_maxc : Cond.code Lib.Math.max.name Lib.Math.max.code 2 (some .int) ∈ wsL_law := (inLr8 _ (List.mem_of_getElem? (i := 11) rfl))
theorem mem_maxs : Cond.static Lib.Math.max.name ∈ wsL_law := (inLr8 _ (List.mem_of_getElem? (i := 10) rfl))
theorem mem_mathi : Cond.initialized "java/lang/Math" ∈ wsL_law := (inLr8 _ (List.mem_of_getElem? (i := 7) rfl))
theorem y_min (hC : Cx l G cc own nL R D tys nm) {index : Nat} {x y v : Int32} (hw : Cond.methodLink own index Lib.Math.min.name ∈ wsL_law) (hdg : decode cc pc = .ok (.invokestatic index, 3)) (hR : 1 ≤ R.frames) (hR2 : (st.map fun v => v.category).sum + 13 ≤ R.locals) (hc : ce ≤ R.cells) (hs : sl ≤ R.slots) (hv : (if y < x then y else x) = v) (kk : G ce sl ws (pc + 3) lv (.int v :: st)) : G ce sl ws (pc) lv (.int y :: .int x :: st) := by
  obtain ⟨p, e, s, m, args, below, meth, c, A, Q, ⟨hx, hb, hml, hown, hts⟩, hK, hT, hA, hnm, hlk, rfl⟩ := hC
  intro H locs ls hP hD hS hl
  subst hv; exact va_mmin hx hb (by rw [hml]; exact hl.1.symm) hown (hts _ hw) (hts _ mem_mins) (hts _ mem_mathi) (hts _ mem_minc) hR hR2 hc hs hdg (kk H locs ls hP hD hS hl)
theorem y_max (hC : Cx l G cc own nL R D tys nm) {index : Nat} {x y v : Int32} (hw : Cond.methodLink own index Lib.Math.max.name ∈ wsL_law) (hdg : decode cc pc = .ok (.invokestatic index, 3)) (hR : 1 ≤ R.frames) (hR2 : (st.map fun v => v.category).sum + 13 ≤ R.locals) (hc : ce ≤ R.cells) (hs : sl ≤ R.slots) (hv : (if x < y then y else x) = v) (kk : G ce sl ws (pc + 3) lv (.int v :: st)) : G ce sl ws (pc) lv (.int y :: .int x :: st) := by
  obtain ⟨p, e, s, m, args, below, meth, c, A, Q, ⟨hx, hb, hml, hown, hts⟩, hK, hT, hA, hnm, hlk, rfl⟩ := hC
  intro H locs ls hP hD hS hl
  subst hv; exact va_mmax hx hb (by rw [hml]; exact hl.1.symm) hown (hts _ hw) (hts _ mem_maxs) (hts _ mem_mathi) (hts _ mem_maxc) hR hR2 hc hs hdg (kk H locs ls hP hD hS hl)
/-- behind a call: the callee's world beside the rest, in a wanted order -/
theorem y_aft {A0 : Nat → Prop} {D : va_G} {ws wc wr w1 w2 : va_W} {H H1 : Heap} (hP : va_P D vwCl ws H) (hD : va_D A0 ws) (isC isR isB : List Nat) (hC : isC.map (fun i => ws[i]?) = wc.map some) (hR : isR.map (fun i => ws[i]?) = wr.map some) (hn : va_nd isR = true) (hdis : ∀ i ∈ isR, i ∉ isC)
    (hk : ∀ q : Nat, q < H.size → ¬ va_A wc H.size q → H1[q]? = H[q]?) (hF : ∀ q, va_A wc H.size q → A0 q) (hP1 : va_P D vwCl w1 H1) (hD1 : va_D (va_A wc H.size) w1) (hnB : va_nd isB = true) (hB : isB.map (fun i => (wr ++ w1)[i]?) = w2.map some) : va_P D vwCl w2 H1 ∧ va_D A0 w2 := by
  obtain ⟨h1, h2⟩ := va_join hP hD isC isR hC hR hn hdis hk hF hP1 hD1
  refine ⟨h1.sub isB ?_, h2.sub isB hnB hB⟩
  have h9 := congrArg (fun z : List (Option (Nat × va_E)) => z.filterMap id) hB
  simpa [List.filterMap_map, Function.comp_def] using h9
theorem y_preU {A0 : Nat → Prop} {D : va_G} {tys : List (ClassId × FieldType)} {s : State} {ws wc : va_W} {H : Heap} {locs : List Loc} (hK : gK D tys s) (hT : gT A0 s s.heap) (hP : va_P D vwCl ws H) (hD : va_D A0 ws) (hS : va_S A0 s.heap H locs) (isC : List Nat) (hC : isC.map (fun i => ws[i]?) = wc.map some) (hn : va_nd isC = true) (av : List Value) :
    ∀ U : State, U.heap = H → s.WarmedH U.vm → gPc av H.size D tys wc av.toArray U := by
  intro U hU hW
  have hPc : va_P D vwCl wc H := hP.sub isC (by
    have h9 := congrArg (fun z : List (Option (Nat × va_E)) => z.filterMap id) hC
    simpa [List.filterMap_map, Function.comp_def] using h9)
  have hDc : va_D A0 wc := hD.sub isC hn hC
  refine ⟨rfl, by rw [hU], by rw [hU]; exact hPc, hDc.weaken (fun _ _ _ _ => trivial), gK.warm hW hK, ?_⟩
  rw [hU]
  refine gT.re (A := A0) (fun q _ hq => ?_) (gT.moved hW.alike (hT.kept hS.2.1))
  obtain ⟨k, e, hk⟩ := hq
  exact hDc.2 k (q, e) hk
/-- a method's own words -/
def yV (y : MethodName) (C : String) (bytes : ByteArray) (maxL : Nat) (ret : Option FieldType) (n : Nat) : Prop :=
  Cond.instanceMethod y ∈ wsL_law ∧ Cond.selects C y y ∈ wsL_law ∧ Cond.initialized C ∈ wsL_law ∧ Cond.code y bytes maxL ret ∈ wsL_law ∧ (y.cls = C ∧ y.cls ≠ "java/lang/invoke/MethodHandle" ∧ y.cls ≠ "java/lang/invoke/VarHandle" ∧ (parseMethodDescriptor y.desc).map (fun d => d.parameters.length) = some n)
def yS (y : MethodName) (bytes : ByteArray) (maxL : Nat) (ret : Option FieldType) (n : Nat) : Prop :=
  Cond.static y ∈ wsL_law ∧ Cond.initialized y.cls ∈ wsL_law ∧ Cond.code y bytes maxL ret ∈ wsL_law ∧ (y.cls ≠ "java/lang/invoke/MethodHandle" ∧ y.cls ≠ "java/lang/invoke/VarHandle" ∧ (parseMethodDescriptor y.desc).map (fun d => d.parameters.length) = some n)
def yI (y : MethodName) (bytes : ByteArray) (maxL : Nat) (n : Nat) : Prop :=
  Cond.instanceMethod y ∈ wsL_law ∧ Cond.initialized y.cls ∈ wsL_law ∧ Cond.code y bytes maxL none ∈ wsL_law ∧ y.name = "<init>" ∧ (y.cls ≠ "java/lang/invoke/MethodHandle" ∧ y.cls ≠ "java/lang/invoke/VarHandle" ∧ (parseMethodDescriptor y.desc).map (fun d => d.parameters.length) = some n)
theorem mem_cc {w : Cond} {ws : List Cond} (h : w ∈ wsL_law) (h2 : ∀ w ∈ ws, w ∈ wsL_law) : ∀ w' ∈ w :: ws, w' ∈ wsL_law := fun w' h' => (List.mem_cons.mp h').elim (fun e => by rw [e]; exact h) (h2 w')
section YC
variable {p : Program} {e : Env} {s : State} {m : MethodId} {args : Array Value} {below : List Frame} {meth : Method} {c : Code} {A : Nat → Prop} {Q : State → Prop}
variable {y : MethodName} {bytes : ByteArray} {maxL n index : Nat} {ret : Option FieldType} {rm : Room} {C : String}
theorem y_cwV (hts : ∀ w ∈ wsL_law, w.before args s = true) (hY : yV y C bytes maxL ret n) (hl : Cond.methodLink own index y ∈ wsL_law) (hR : rm.frames + 1 ≤ R.frames ∧ 8 + (maxL + 11) + rm.locals ≤ R.locals) : CallW R s args own C index y bytes maxL ret (Cond.code y bytes maxL ret :: wsL_law) rm rm.cells rm.slots n :=
  cwV n hts (all_in (mem_cc hl (mem_cc hY.1 (mem_cc hY.2.1 (mem_cc hY.2.2.1 (mem_cc hY.2.2.2.1 (fun w h => h))))))) rfl rfl rfl hY.2.2.2.2 hR
theorem y_cwS (hts : ∀ w ∈ wsL_law, w.before args s = true) (hY : yS y bytes maxL ret n) (hl : Cond.methodLink own index y ∈ wsL_law) (hR : rm.frames + 1 ≤ R.frames ∧ 8 + (maxL + 11) + rm.locals ≤ R.locals) : CallB R s args own index y bytes maxL ret (Cond.code y bytes maxL ret :: wsL_law) rm rm.cells rm.slots n ∧ (Cond.static y).before args s = true :=
  va_cwS n hts (all_in (mem_cc hl (mem_cc hY.1 (mem_cc hY.2.1 (mem_cc hY.2.2.1 (fun w h => h)))))) rfl rfl rfl hY.2.2.2 hR
theorem y_cwI (hts : ∀ w ∈ wsL_law, w.before args s = true) (hY : yI y bytes maxL n) (hl : Cond.methodLink own index y ∈ wsL_law) (hR : rm.frames + 1 ≤ R.frames ∧ 8 + (maxL + 11) + rm.locals ≤ R.locals) : CallB R s args own index y bytes maxL none (Cond.code y bytes maxL none :: wsL_law) rm rm.cells rm.slots n ∧ y.name = "<init>" ∧ (Cond.instanceMethod y).before args s = true :=
  cwI n hts (all_in (mem_cc hY.2.2.1 (fun w h => h))) rfl rfl rfl (hts _ hY.2.1) (hts _ hl) (hts _ hY.1) hY.2.2.2.1 hY.2.2.2.2 hR
theorem y_cnB {host : String} (hts : ∀ w ∈ wsL_law, w.before args s = true) (hini : Cond.initialized y.cls ∈ wsL_law) (hcode : Cond.code y bytes maxL ret ∈ wsL_law) (hd : y.cls ≠ "java/lang/invoke/MethodHandle" ∧ y.cls ≠ "java/lang/invoke/VarHandle" ∧ (parseMethodDescriptor y.desc).map (fun d => d.parameters.length) = some n) (hl : va_Nw (.methodLinkNest own index y host) s) (hR : rm.frames + 1 ≤ R.frames ∧ 8 + (maxL + 11) + rm.locals ≤ R.locals) : va_CN R s args own index y host bytes maxL ret (Cond.code y bytes maxL ret :: wsL_law) rm rm.cells rm.slots n :=
  va_cnB n hts (all_in (mem_cc hcode (fun w h => h))) rfl rfl rfl hl (hts _ hini) hd hR
end YC
theorem y_callV_i (hC : Cx l G cc own nL R D tys nm) {y : MethodName} {bytes : ByteArray} {maxL n index : Nat} {ty : FieldType} {rm : Room} {As rest : List Value} {S : Type} {post : Int32 → S → Prop} {wf : S → va_W} {b : Nat} {C : String} {wc : va_W} (hM : MI l D tys y bytes maxL ty rm (.ref b :: As) wc post wf) (hY : yV y C bytes maxL (some ty) n) (hlk9 : Cond.methodLink own index y ∈ wsL_law) (isC isR isB : List Nat) (w2 : S → va_W) (hC9 : isC.map (fun i => ws[i]?) = wc.map some) (hR9 : isR.map (fun i => ws[i]?) = (isR.filterMap (fun i => ws[i]?)).map some) (hnC : va_nd isC = true) (hnR : va_nd isR = true) (hdis : ∀ i ∈ isR, i ∉ isC) (hnB : va_nd isB = true) (hB : ∀ u, isB.map (fun i => (isR.filterMap (fun i => ws[i]?) ++ wf u)[i]?) = (w2 u).map some) (kb : Nat) {ci : Nat} {fs : List Value} {T : u_T} {N : Nat} (hb0 : wc[kb]? = some (b, .inr (ci, fs))) (hci : vwCl[ci]? = some (C, T, N)) (hn : As.length = n) (hst : st = As.reverse ++ .ref b :: rest) (hcat : (rest.map fun v => v.category).sum ≤ 8) (hdg : decode cc pc = .ok (.invokevirtual index, 3)) (hR : rm.frames + 1 ≤ R.frames ∧ 8 + (maxL + 11) + rm.locals ≤ R.locals) (hf : ce + rm.cells ≤ R.cells ∧ sl + rm.slots ≤ R.slots) (kk : ∀ (r : Int32) (u : S), post r u → G (ce + rm.cells) (sl + rm.slots) (w2 u) (pc + 3) lv (.int r :: rest)) : G ce sl ws pc lv st := by
  obtain ⟨p, e, s, m, args, below, meth, c, A, Q, hfix, hK, hT, hA, hnm, hlk, rfl⟩ := hC
  obtain ⟨hx, hb, hml, hown, hts⟩ := id hfix
  intro H locs ls hP hD hS hl
  subst hst
  have hPc : va_P D vwCl wc H := hP.sub isC (by
    have h9 := congrArg (fun z : List (Option (Nat × va_E)) => z.filterMap id) hC9
    simpa [List.filterMap_map, Function.comp_def] using h9)
  have hFc := va_free (wc := wc) hD hS hA isC hC9
  refine va_calli (va_runV (As := As) (rest := rest) hfix (hM H.size) (y_cwV hts hY hlk9 hR) ⟨gPc_blind, va_recv hK.1 hPc hci hb0, y_preU hK hT hP hD hS isC hC9 hnC (.ref b :: As)⟩ rfl hn hl.1 rfl (lv_room hcat) hdg hf) hS (fun q _ h => hFc q h) hFc (fun r u t H1 locs ht hvm hw hB9 hz1 hk1 hS => ?_)
  obtain ⟨hP1, hD1⟩ := hB9
  rw [ht] at hP1
  obtain ⟨hP2, hD2⟩ := y_aft hP hD isC isR isB hC9 hR9 hnR hdis hk1 hFc hP1 hD1 hnB (hB u)
  exact kk r u hw H1 locs ls hP2 hD2 hS hl
theorem y_callS_i (hC : Cx l G cc own nL R D tys nm) {y : MethodName} {bytes : ByteArray} {maxL n index : Nat} {ty : FieldType} {rm : Room} {As rest : List Value} {S : Type} {post : Int32 → S → Prop} {wf : S → va_W} {wc : va_W} (hM : MI l D tys y bytes maxL ty rm As wc post wf) (hY : yS y bytes maxL (some ty) n) (hlk9 : Cond.methodLink own index y ∈ wsL_law) (isC isR isB : List Nat) (w2 : S → va_W) (hC9 : isC.map (fun i => ws[i]?) = wc.map some) (hR9 : isR.map (fun i => ws[i]?) = (isR.filterMap (fun i => ws[i]?)).map some) (hnC : va_nd isC = true) (hnR : va_nd isR = true) (hdis : ∀ i ∈ isR, i ∉ isC) (hnB : va_nd isB = true) (hB : ∀ u, isB.map (fun i => (isR.filterMap (fun i => ws[i]?) ++ wf u)[i]?) = (w2 u).map some)  (hn : As.length = n) (hst : st = As.reverse ++ rest) (hcat : (rest.map fun v => v.category).sum ≤ 8) (hdg : decode cc pc = .ok (.invokestatic index, 3)) (hR : rm.frames + 1 ≤ R.frames ∧ 8 + (maxL + 11) + rm.locals ≤ R.locals) (hf : ce + rm.cells ≤ R.cells ∧ sl + rm.slots ≤ R.slots) (kk : ∀ (r : Int32) (u : S), post r u → G (ce + rm.cells) (sl + rm.slots) (w2 u) (pc + 3) lv (.int r :: rest)) : G ce sl ws pc lv st := by
  obtain ⟨p, e, s, m, args, below, meth, c, A, Q, hfix, hK, hT, hA, hnm, hlk, rfl⟩ := hC
  obtain ⟨hx, hb, hml, hown, hts⟩ := id hfix
  intro H locs ls hP hD hS hl
  subst hst
  have hPc : va_P D vwCl wc H := hP.sub isC (by
    have h9 := congrArg (fun z : List (Option (Nat × va_E)) => z.filterMap id) hC9
    simpa [List.filterMap_map, Function.comp_def] using h9)
  have hFc := va_free (wc := wc) hD hS hA isC hC9
  refine va_calli (va_runS (As := As) (rest := rest) hfix (hM H.size) (y_cwS hts hY hlk9 hR) ⟨gPc_blind, y_preU hK hT hP hD hS isC hC9 hnC As⟩ rfl hn hl.1 rfl (lv_room hcat) hdg hf) hS (fun q _ h => hFc q h) hFc (fun r u t H1 locs ht hvm hw hB9 hz1 hk1 hS => ?_)
  obtain ⟨hP1, hD1⟩ := hB9
  rw [ht] at hP1
  obtain ⟨hP2, hD2⟩ := y_aft hP hD isC isR isB hC9 hR9 hnR hdis hk1 hFc hP1 hD1 hnB (hB u)
  exact kk r u hw H1 locs ls hP2 hD2 hS hl
theorem y_callNS_i (hC : Cx l G cc own nL R D tys nm) {y : MethodName} {bytes : ByteArray} {maxL n index : Nat} {ty : FieldType} {rm : Room} {As rest : List Value} {S : Type} {post : Int32 → S → Prop} {wf : S → va_W} {wc : va_W} (hM : MI l D tys y bytes maxL ty rm As wc post wf) (hY : yS y bytes maxL (some ty) n) (hnl : (own, index, y) ∈ nestL) (isC isR isB : List Nat) (w2 : S → va_W) (hC9 : isC.map (fun i => ws[i]?) = wc.map some) (hR9 : isR.map (fun i => ws[i]?) = (isR.filterMap (fun i => ws[i]?)).map some) (hnC : va_nd isC = true) (hnR : va_nd isR = true) (hdis : ∀ i ∈ isR, i ∉ isC) (hnB : va_nd isB = true) (hB : ∀ u, isB.map (fun i => (isR.filterMap (fun i => ws[i]?) ++ wf u)[i]?) = (w2 u).map some)  (hn : As.length = n) (hst : st = As.reverse ++ rest) (hcat : (rest.map fun v => v.category).sum ≤ 8) (hdg : decode cc pc = .ok (.invokestatic index, 3)) (hR : rm.frames + 1 ≤ R.frames ∧ 8 + (maxL + 11) + rm.locals ≤ R.locals) (hf : ce + rm.cells ≤ R.cells ∧ sl + rm.slots ≤ R.slots) (kk : ∀ (r : Int32) (u : S), post r u → G (ce + rm.cells) (sl + rm.slots) (w2 u) (pc + 3) lv (.int r :: rest)) : G ce sl ws pc lv st := by
  obtain ⟨p, e, s, m, args, below, meth, c, A, Q, hfix, hK, hT, hA, hnm, hlk, rfl⟩ := hC
  obtain ⟨hx, hb, hml, hown, hts⟩ := id hfix
  intro H locs ls hP hD hS hl
  subst hst
  have hPc : va_P D vwCl wc H := hP.sub isC (by
    have h9 := congrArg (fun z : List (Option (Nat × va_E)) => z.filterMap id) hC9
    simpa [List.filterMap_map, Function.comp_def] using h9)
  have hFc := va_free (wc := wc) hD hS hA isC hC9
  refine va_calli (va_runSN (As := As) (rest := rest) hfix (hM H.size) ⟨y_cnB hts hY.2.1 hY.2.2.1 hY.2.2.2 (hK.2.1 _ hnl) hR, hts _ hY.1, trivial⟩ ⟨gPc_blind, y_preU hK hT hP hD hS isC hC9 hnC As⟩ rfl hn hl.1 rfl (lv_room hcat) hdg hf) hS (fun q _ h => hFc q h) hFc (fun r u t H1 locs ht hvm hw hB9 hz1 hk1 hS => ?_)
  obtain ⟨hP1, hD1⟩ := hB9
  rw [ht] at hP1
  obtain ⟨hP2, hD2⟩ := y_aft hP hD isC isR isB hC9 hR9 hnR hdis hk1 hFc hP1 hD1 hnB (hB u)
  exact kk r u hw H1 locs ls hP2 hD2 hS hl
theorem y_callV_v (hC : Cx l G cc own nL R D tys nm) {y : MethodName} {bytes : ByteArray} {maxL n index : Nat} {rm : Room} {As rest : List Value} {S : Type} {post : S → Prop} {wf : S → va_W} {b : Nat} {C : String} {wc : va_W} (hM : MV l D tys y bytes maxL rm (.ref b :: As) wc post wf) (hY : yV y C bytes maxL none n) (hlk9 : Cond.methodLink own index y ∈ wsL_law) (isC isR isB : List Nat) (w2 : S → va_W) (hC9 : isC.map (fun i => ws[i]?) = wc.map some) (hR9 : isR.map (fun i => ws[i]?) = (isR.filterMap (fun i => ws[i]?)).map some) (hnC : va_nd isC = true) (hnR : va_nd isR = true) (hdis : ∀ i ∈ isR, i ∉ isC) (hnB : va_nd isB = true) (hB : ∀ u, isB.map (fun i => (isR.filterMap (fun i => ws[i]?) ++ wf u)[i]?) = (w2 u).map some) (kb : Nat) {ci : Nat} {fs : List Value} {T : u_T} {N : Nat} (hb0 : wc[kb]? = some (b, .inr (ci, fs))) (hci : vwCl[ci]? = some (C, T, N)) (hn : As.length = n) (hst : st = As.reverse ++ .ref b :: rest) (hcat : (rest.map fun v => v.category).sum ≤ 8) (hdg : decode cc pc = .ok (.invokevirtual index, 3)) (hR : rm.frames + 1 ≤ R.frames ∧ 8 + (maxL + 11) + rm.locals ≤ R.locals) (hf : ce + rm.cells ≤ R.cells ∧ sl + rm.slots ≤ R.slots) (kk : ∀ (u : S), post u → G (ce + rm.cells) (sl + rm.slots) (w2 u) (pc + 3) lv (rest)) : G ce sl ws pc lv st := by
  obtain ⟨p, e, s, m, args, below, meth, c, A, Q, hfix, hK, hT, hA, hnm, hlk, rfl⟩ := hC
  obtain ⟨hx, hb, hml, hown, hts⟩ := id hfix
  intro H locs ls hP hD hS hl
  subst hst
  have hPc : va_P D vwCl wc H := hP.sub isC (by
    have h9 := congrArg (fun z : List (Option (Nat × va_E)) => z.filterMap id) hC9
    simpa [List.filterMap_map, Function.comp_def] using h9)
  have hFc := va_free (wc := wc) hD hS hA isC hC9
  refine va_callv (va_runV (As := As) (rest := rest) hfix (hM H.size) (y_cwV hts hY hlk9 hR) ⟨gPc_blind, va_recv hK.1 hPc hci hb0, y_preU hK hT hP hD hS isC hC9 hnC (.ref b :: As)⟩ rfl hn hl.1 rfl (lv_room hcat) hdg hf) hS (fun q _ h => hFc q h) hFc (fun u t H1 locs ht hvm hw hB9 hz1 hk1 hS => ?_)
  obtain ⟨hP1, hD1⟩ := hB9
  rw [ht] at hP1
  obtain ⟨hP2, hD2⟩ := y_aft hP hD isC isR isB hC9 hR9 hnR hdis hk1 hFc hP1 hD1 hnB (hB u)
  exact kk u hw H1 locs ls hP2 hD2 hS hl
theorem y_callS_v (hC : Cx l G cc own nL R D tys nm) {y : MethodName} {bytes : ByteArray} {maxL n index : Nat} {rm : Room} {As rest : List Value} {S : Type} {post : S → Prop} {wf : S → va_W} {wc : va_W} (hM : MV l D tys y bytes maxL rm As wc post wf) (hY : yS y bytes maxL none n) (hlk9 : Cond.methodLink own index y ∈ wsL_law) (isC isR isB : List Nat) (w2 : S → va_W) (hC9 : isC.map (fun i => ws[i]?) = wc.map some) (hR9 : isR.map (fun i => ws[i]?) = (isR.filterMap (fun i => ws[i]?)).map some) (hnC : va_nd isC = true) (hnR : va_nd isR = true) (hdis : ∀ i ∈ isR, i ∉ isC) (hnB : va_nd isB = true) (hB : ∀ u, isB.map (fun i => (isR.filterMap (fun i => ws[i]?) ++ wf u)[i]?) = (w2 u).map some)  (hn : As.length = n) (hst : st = As.reverse ++ rest) (hcat : (rest.map fun v => v.category).sum ≤ 8) (hdg : decode cc pc = .ok (.invokestatic index, 3)) (hR : rm.frames + 1 ≤ R.frames ∧ 8 + (maxL + 11) + rm.locals ≤ R.locals) (hf : ce + rm.cells ≤ R.cells ∧ sl + rm.slots ≤ R.slots) (kk : ∀ (u : S), post u → G (ce + rm.cells) (sl + rm.slots) (w2 u) (pc + 3) lv (rest)) : G ce sl ws pc lv st := by
  obtain ⟨p, e, s, m, args, below, meth, c, A, Q, hfix, hK, hT, hA, hnm, hlk, rfl⟩ := hC
  obtain ⟨hx, hb, hml, hown, hts⟩ := id hfix
  intro H locs ls hP hD hS hl
  subst hst
  have hPc : va_P D vwCl wc H := hP.sub isC (by
    have h9 := congrArg (fun z : List (Option (Nat × va_E)) => z.filterMap id) hC9
    simpa [List.filterMap_map, Function.comp_def] using h9)
  have hFc := va_free (wc := wc) hD hS hA isC hC9
  refine va_callv (va_runS (As := As) (rest := rest) hfix (hM H.size) (y_cwS hts hY hlk9 hR) ⟨gPc_blind, y_preU hK hT hP hD hS isC hC9 hnC As⟩ rfl hn hl.1 rfl (lv_room hcat) hdg hf) hS (fun q _ h => hFc q h) hFc (fun u t H1 locs ht hvm hw hB9 hz1 hk1 hS => ?_)
  obtain ⟨hP1, hD1⟩ := hB9
  rw [ht] at hP1
  obtain ⟨hP2, hD2⟩ := y_aft hP hD isC isR isB hC9 hR9 hnR hdis hk1 hFc hP1 hD1 hnB (hB u)
  exact kk u hw H1 locs ls hP2 hD2 hS hl
theorem y_callI_v (hC : Cx l G cc own nL R D tys nm) {y : MethodName} {bytes : ByteArray} {maxL n index : Nat} {rm : Room} {As rest : List Value} {S : Type} {post : S → Prop} {wf : S → va_W} {b : Nat} {wc : va_W} (hM : MV l D tys y bytes maxL rm (.ref b :: As) wc post wf) (hY : yI y bytes maxL n) (hlk9 : Cond.methodLink own index y ∈ wsL_law) (isC isR isB : List Nat) (w2 : S → va_W) (hC9 : isC.map (fun i => ws[i]?) = wc.map some) (hR9 : isR.map (fun i => ws[i]?) = (isR.filterMap (fun i => ws[i]?)).map some) (hnC : va_nd isC = true) (hnR : va_nd isR = true) (hdis : ∀ i ∈ isR, i ∉ isC) (hnB : va_nd isB = true) (hB : ∀ u, isB.map (fun i => (isR.filterMap (fun i => ws[i]?) ++ wf u)[i]?) = (w2 u).map some)  (hn : As.length = n) (hst : st = As.reverse ++ .ref b :: rest) (hcat : (rest.map fun v => v.category).sum ≤ 8) (hdg : decode cc pc = .ok (.invokespecial index, 3)) (hR : rm.frames + 1 ≤ R.frames ∧ 8 + (maxL + 11) + rm.locals ≤ R.locals) (hf : ce + rm.cells ≤ R.cells ∧ sl + rm.slots ≤ R.slots) (kk : ∀ (u : S), post u → G (ce + rm.cells) (sl + rm.slots) (w2 u) (pc + 3) lv (rest)) : G ce sl ws pc lv st := by
  obtain ⟨p, e, s, m, args, below, meth, c, A, Q, hfix, hK, hT, hA, hnm, hlk, rfl⟩ := hC
  obtain ⟨hx, hb, hml, hown, hts⟩ := id hfix
  intro H locs ls hP hD hS hl
  subst hst
  have hPc : va_P D vwCl wc H := hP.sub isC (by
    have h9 := congrArg (fun z : List (Option (Nat × va_E)) => z.filterMap id) hC9
    simpa [List.filterMap_map, Function.comp_def] using h9)
  have hFc := va_free (wc := wc) hD hS hA isC hC9
  refine va_callv (va_runI (As := As) (rest := rest) hfix (hM H.size) (y_cwI hts hY hlk9 hR) ⟨gPc_blind, y_preU hK hT hP hD hS isC hC9 hnC (.ref b :: As)⟩ rfl hn hl.1 rfl (lv_room hcat) hdg hf) hS (fun q _ h => hFc q h) hFc (fun u t H1 locs ht hvm hw hB9 hz1 hk1 hS => ?_)
  obtain ⟨hP1, hD1⟩ := hB9
  rw [ht] at hP1
  obtain ⟨hP2, hD2⟩ := y_aft hP hD isC isR isB hC9 hR9 hnR hdis hk1 hFc hP1 hD1 hnB (hB u)
  exact kk u hw H1 locs ls hP2 hD2 hS hl
theorem y_callNI_v (hC : Cx l G cc own nL R D tys nm) {y : MethodName} {bytes : ByteArray} {maxL n index : Nat} {rm : Room} {As rest : List Value} {S : Type} {post : S → Prop} {wf : S → va_W} {b : Nat} {wc : va_W} (hM : MV l D tys y bytes maxL rm (.ref b :: As) wc post wf) (hY : yI y bytes maxL n) (hnl : (own, index, y) ∈ nestL) (isC isR isB : List Nat) (w2 : S → va_W) (hC9 : isC.map (fun i => ws[i]?) = wc.map some) (hR9 : isR.map (fun i => ws[i]?) = (isR.filterMap (fun i => ws[i]?)).map some) (hnC : va_nd isC = true) (hnR : va_nd isR = true) (hdis : ∀ i ∈ isR, i ∉ isC) (hnB : va_nd isB = true) (hB : ∀ u, isB.map (fun i => (isR.filterMap (fun i => ws[i]?) ++ wf u)[i]?) = (w2 u).map some)  (hn : As.length = n) (hst : st = As.reverse ++ .ref b :: rest) (hcat : (rest.map fun v => v.category).sum ≤ 8) (hdg : decode cc pc = .ok (.invokespecial index, 3)) (hR : rm.frames + 1 ≤ R.frames ∧ 8 + (maxL + 11) + rm.locals ≤ R.locals) (hf : ce + rm.cells ≤ R.cells ∧ sl + rm.slots ≤ R.slots) (kk : ∀ (u : S), post u → G (ce + rm.cells) (sl + rm.slots) (w2 u) (pc + 3) lv (rest)) : G ce sl ws pc lv st := by
  obtain ⟨p, e, s, m, args, below, meth, c, A, Q, hfix, hK, hT, hA, hnm, hlk, rfl⟩ := hC
  obtain ⟨hx, hb, hml, hown, hts⟩ := id hfix
  intro H locs ls hP hD hS hl
  subst hst
  have hPc : va_P D vwCl wc H := hP.sub isC (by
    have h9 := congrArg (fun z : List (Option (Nat × va_E)) => z.filterMap id) hC9
    simpa [List.filterMap_map, Function.comp_def] using h9)
  have hFc := va_free (wc := wc) hD hS hA isC hC9
  refine va_callv (va_runIN (As := As) (rest := rest) hfix (hM H.size) ⟨y_cnB hts hY.2.1 hY.2.2.1 hY.2.2.2.2 (hK.2.1 _ hnl) hR, hY.2.2.2.1, hts _ hY.1⟩ ⟨gPc_blind, y_preU hK hT hP hD hS isC hC9 hnC (.ref b :: As)⟩ rfl hn hl.1 rfl (lv_room hcat) hdg hf) hS (fun q _ h => hFc q h) hFc (fun u t H1 locs ht hvm hw hB9 hz1 hk1 hS => ?_)
  obtain ⟨hP1, hD1⟩ := hB9
  rw [ht] at hP1
  obtain ⟨hP2, hD2⟩ := y_aft hP hD isC isR isB hC9 hR9 hnR hdis hk1 hFc hP1 hD1 hnB (hB u)
  exact kk u hw H1 locs ls hP2 hD2 hS hl
theorem y_callV_l (hC : Cx l G cc own nL R D tys nm) {y : MethodName} {bytes : ByteArray} {maxL n index : Nat} {rm : Room} {As rest : List Value} {S : Type} {post : Int64 → S → Prop} {wf : S → va_W} {b : Nat} {C : String} {wc : va_W} (hM : ML l D tys y bytes maxL rm (.ref b :: As) wc post wf) (hY : yV y C bytes maxL (some .long) n) (hlk9 : Cond.methodLink own index y ∈ wsL_law) (isC isR isB : List Nat) (w2 : S → va_W) (hC9 : isC.map (fun i => ws[i]?) = wc.map some) (hR9 : isR.map (fun i => ws[i]?) = (isR.filterMap (fun i => ws[i]?)).map some) (hnC : va_nd isC = true) (hnR : va_nd isR = true) (hdis : ∀ i ∈ isR, i ∉ isC) (hnB : va_nd isB = true) (hB : ∀ u, isB.map (fun i => (isR.filterMap (fun i => ws[i]?) ++ wf u)[i]?) = (w2 u).map some) (kb : Nat) {ci : Nat} {fs : List Value} {T : u_T} {N : Nat} (hb0 : wc[kb]? = some (b, .inr (ci, fs))) (hci : vwCl[ci]? = some (C, T, N)) (hn : As.length = n) (hst : st = As.reverse ++ .ref b :: rest) (hcat : (rest.map fun v => v.category).sum ≤ 8) (hdg : decode cc pc = .ok (.invokevirtual index, 3)) (hR : rm.frames + 1 ≤ R.frames ∧ 8 + (maxL + 11) + rm.locals ≤ R.locals) (hf : ce + rm.cells ≤ R.cells ∧ sl + rm.slots ≤ R.slots) (kk : ∀ (r : Int64) (u : S), post r u → G (ce + rm.cells) (sl + rm.slots) (w2 u) (pc + 3) lv (.long r :: rest)) : G ce sl ws pc lv st := by
  obtain ⟨p, e, s, m, args, below, meth, c, A, Q, hfix, hK, hT, hA, hnm, hlk, rfl⟩ := hC
  obtain ⟨hx, hb, hml, hown, hts⟩ := id hfix
  intro H locs ls hP hD hS hl
  subst hst
  have hPc : va_P D vwCl wc H := hP.sub isC (by
    have h9 := congrArg (fun z : List (Option (Nat × va_E)) => z.filterMap id) hC9
    simpa [List.filterMap_map, Function.comp_def] using h9)
  have hFc := va_free (wc := wc) hD hS hA isC hC9
  refine va_calll (va_runV (As := As) (rest := rest) hfix (hM H.size) (y_cwV hts hY hlk9 hR) ⟨gPc_blind, va_recv hK.1 hPc hci hb0, y_preU hK hT hP hD hS isC hC9 hnC (.ref b :: As)⟩ rfl hn hl.1 rfl (lv_room hcat) hdg hf) hS (fun q _ h => hFc q h) hFc (fun r u t H1 locs ht hvm hw hB9 hz1 hk1 hS => ?_)
  obtain ⟨hP1, hD1⟩ := hB9
  rw [ht] at hP1
  obtain ⟨hP2, hD2⟩ := y_aft hP hD isC isR isB hC9 hR9 hnR hdis hk1 hFc hP1 hD1 hnB (hB u)
  exact kk r u hw H1 locs ls hP2 hD2 hS hl
theorem y_callS_l (hC : Cx l G cc own nL R D tys nm) {y : MethodName} {bytes : ByteArray} {maxL n index : Nat} {rm : Room} {As rest : List Value} {S : Type} {post : Int64 → S → Prop} {wf : S → va_W} {wc : va_W} (hM : ML l D tys y bytes maxL rm As wc post wf) (hY : yS y bytes maxL (some .long) n) (hlk9 : Cond.methodLink own index y ∈ wsL_law) (isC isR isB : List Nat) (w2 : S → va_W) (hC9 : isC.map (fun i => ws[i]?) = wc.map some) (hR9 : isR.map (fun i => ws[i]?) = (isR.filterMap (fun i => ws[i]?)).map some) (hnC : va_nd isC = true) (hnR : va_nd isR = true) (hdis : ∀ i ∈ isR, i ∉ isC) (hnB : va_nd isB = true) (hB : ∀ u, isB.map (fun i => (isR.filterMap (fun i => ws[i]?) ++ wf u)[i]?) = (w2 u).map some)  (hn : As.length = n) (hst : st = As.reverse ++ rest) (hcat : (rest.map fun v => v.category).sum ≤ 8) (hdg : decode cc pc = .ok (.invokestatic index, 3)) (hR : rm.frames + 1 ≤ R.frames ∧ 8 + (maxL + 11) + rm.locals ≤ R.locals) (hf : ce + rm.cells ≤ R.cells ∧ sl + rm.slots ≤ R.slots) (kk : ∀ (r : Int64) (u : S), post r u → G (ce + rm.cells) (sl + rm.slots) (w2 u) (pc + 3) lv (.long r :: rest)) : G ce sl ws pc lv st := by
  obtain ⟨p, e, s, m, args, below, meth, c, A, Q, hfix, hK, hT, hA, hnm, hlk, rfl⟩ := hC
  obtain ⟨hx, hb, hml, hown, hts⟩ := id hfix
  intro H locs ls hP hD hS hl
  subst hst
  have hPc : va_P D vwCl wc H := hP.sub isC (by
    have h9 := congrArg (fun z : List (Option (Nat × va_E)) => z.filterMap id) hC9
    simpa [List.filterMap_map, Function.comp_def] using h9)
  have hFc := va_free (wc := wc) hD hS hA isC hC9
  refine va_calll (va_runS (As := As) (rest := rest) hfix (hM H.size) (y_cwS hts hY hlk9 hR) ⟨gPc_blind, y_preU hK hT hP hD hS isC hC9 hnC As⟩ rfl hn hl.1 rfl (lv_room hcat) hdg hf) hS (fun q _ h => hFc q h) hFc (fun r u t H1 locs ht hvm hw hB9 hz1 hk1 hS => ?_)
  obtain ⟨hP1, hD1⟩ := hB9
  rw [ht] at hP1
  obtain ⟨hP2, hD2⟩ := y_aft hP hD isC isR isB hC9 hR9 hnR hdis hk1 hFc hP1 hD1 hnB (hB u)
  exact kk r u hw H1 locs ls hP2 hD2 hS hl
theorem y_callV_d (hC : Cx l G cc own nL R D tys nm) {y : MethodName} {bytes : ByteArray} {maxL n index : Nat} {rm : Room} {As rest : List Value} {S : Type} {post : UInt64 → S → Prop} {wf : S → va_W} {b : Nat} {C : String} {wc : va_W} (hM : MF l D tys y bytes maxL rm (.ref b :: As) wc post wf) (hY : yV y C bytes maxL (some .double) n) (hlk9 : Cond.methodLink own index y ∈ wsL_law) (isC isR isB : List Nat) (w2 : S → va_W) (hC9 : isC.map (fun i => ws[i]?) = wc.map some) (hR9 : isR.map (fun i => ws[i]?) = (isR.filterMap (fun i => ws[i]?)).map some) (hnC : va_nd isC = true) (hnR : va_nd isR = true) (hdis : ∀ i ∈ isR, i ∉ isC) (hnB : va_nd isB = true) (hB : ∀ u, isB.map (fun i => (isR.filterMap (fun i => ws[i]?) ++ wf u)[i]?) = (w2 u).map some) (kb : Nat) {ci : Nat} {fs : List Value} {T : u_T} {N : Nat} (hb0 : wc[kb]? = some (b, .inr (ci, fs))) (hci : vwCl[ci]? = some (C, T, N)) (hn : As.length = n) (hst : st = As.reverse ++ .ref b :: rest) (hcat : (rest.map fun v => v.category).sum ≤ 8) (hdg : decode cc pc = .ok (.invokevirtual index, 3)) (hR : rm.frames + 1 ≤ R.frames ∧ 8 + (maxL + 11) + rm.locals ≤ R.locals) (hf : ce + rm.cells ≤ R.cells ∧ sl + rm.slots ≤ R.slots) (kk : ∀ (r : UInt64) (u : S), post r u → G (ce + rm.cells) (sl + rm.slots) (w2 u) (pc + 3) lv (.double r :: rest)) : G ce sl ws pc lv st := by
  obtain ⟨p, e, s, m, args, below, meth, c, A, Q, hfix, hK, hT, hA, hnm, hlk, rfl⟩ := hC
  obtain ⟨hx, hb, hml, hown, hts⟩ := id hfix
  intro H locs ls hP hD hS hl
  subst hst
  have hPc : va_P D vwCl wc H := hP.sub isC (by
    have h9 := congrArg (fun z : List (Option (Nat × va_E)) => z.filterMap id) hC9
    simpa [List.filterMap_map, Function.comp_def] using h9)
  have hFc := va_free (wc := wc) hD hS hA isC hC9
  refine va_calld (va_runV (As := As) (rest := rest) hfix (hM H.size) (y_cwV hts hY hlk9 hR) ⟨gPc_blind, va_recv hK.1 hPc hci hb0, y_preU hK hT hP hD hS isC hC9 hnC (.ref b :: As)⟩ rfl hn hl.1 rfl (lv_room hcat) hdg hf) hS (fun q _ h => hFc q h) hFc (fun r u t H1 locs ht hvm hw hB9 hz1 hk1 hS => ?_)
  obtain ⟨hP1, hD1⟩ := hB9
  rw [ht] at hP1
  obtain ⟨hP2, hD2⟩ := y_aft hP hD isC isR isB hC9 hR9 hnR hdis hk1 hFc hP1 hD1 hnB (hB u)
  exact kk r u hw H1 locs ls hP2 hD2 hS hl
theorem y_callS_d (hC : Cx l G cc own nL R D tys nm) {y : MethodName} {bytes : ByteArray} {maxL n index : Nat} {rm : Room} {As rest : List Value} {S : Type} {post : UInt64 → S → Prop} {wf : S → va_W} {wc : va_W} (hM : MF l D tys y bytes maxL rm As wc post wf) (hY : yS y bytes maxL (some .double) n) (hlk9 : Cond.methodLink own index y ∈ wsL_law) (isC isR isB : List Nat) (w2 : S → va_W) (hC9 : isC.map (fun i => ws[i]?) = wc.map some) (hR9 : isR.map (fun i => ws[i]?) = (isR.filterMap (fun i => ws[i]?)).map some) (hnC : va_nd isC = true) (hnR : va_nd isR = true) (hdis : ∀ i ∈ isR, i ∉ isC) (hnB : va_nd isB = true) (hB : ∀ u, isB.map (fun i => (isR.filterMap (fun i => ws[i]?) ++ wf u)[i]?) = (w2 u).map some)  (hn : As.length = n) (hst : st = As.reverse ++ rest) (hcat : (rest.map fun v => v.category).sum ≤ 8) (hdg : decode cc pc = .ok (.invokestatic index, 3)) (hR : rm.frames + 1 ≤ R.frames ∧ 8 + (maxL + 11) + rm.locals ≤ R.locals) (hf : ce + rm.cells ≤ R.cells ∧ sl + rm.slots ≤ R.slots) (kk : ∀ (r : UInt64) (u : S), post r u → G (ce + rm.cells) (sl + rm.slots) (w2 u) (pc + 3) lv (.double r :: rest)) : G ce sl ws pc lv st := by
  obtain ⟨p, e, s, m, args, below, meth, c, A, Q, hfix, hK, hT, hA, hnm, hlk, rfl⟩ := hC
  obtain ⟨hx, hb, hml, hown, hts⟩ := id hfix
  intro H locs ls hP hD hS hl
  subst hst
  have hPc : va_P D vwCl wc H := hP.sub isC (by
    have h9 := congrArg (fun z : List (Option (Nat × va_E)) => z.filterMap id) hC9
    simpa [List.filterMap_map, Function.comp_def] using h9)
  have hFc := va_free (wc := wc) hD hS hA isC hC9
  refine va_calld (va_runS (As := As) (rest := rest) hfix (hM H.size) (y_cwS hts hY hlk9 hR) ⟨gPc_blind, y_preU hK hT hP hD hS isC hC9 hnC As⟩ rfl hn hl.1 rfl (lv_room hcat) hdg hf) hS (fun q _ h => hFc q h) hFc (fun r u t H1 locs ht hvm hw hB9 hz1 hk1 hS => ?_)
  obtain ⟨hP1, hD1⟩ := hB9
  rw [ht] at hP1
  obtain ⟨hP2, hD2⟩ := y_aft hP hD isC isR isB hC9 hR9 hnR hdis hk1 hFc hP1 hD1 hnB (hB u)
  exact kk r u hw H1 locs ls hP2 hD2 hS hl
set_option maxHeartbeats 1000000 in
theorem MI.of {y : MethodName} {maxL : Nat} {ty : FieldType} {rm : Room} {av : List Value} {S : Type} {post : Int32 → S → Prop} {wf : S → va_W} (hy : plainName y.cls = true) (hav : (lg_sl av).length ≤ maxL)
    (body : ∀ G : GT, Cx l G cc y.cls maxL rm D tys y.name → (∀ (r : Int32) (u : S) (ce sl pc : Nat) (lv : List (Nat × Value)), decode cc pc = .ok (.ireturn, 1) → ce ≤ rm.cells → sl ≤ rm.slots → narrow ty (.int r) = .int r → post r u → G ce sl (wf u) pc lv [.int r]) → G 0 0 ws 0 (lv_args 0 av) []) : MI l D tys y cc maxL ty rm av ws post wf := by
  intro sz
  refine Met.ofW (cc := cc) (maxL := maxL) (ret := (some ty)) hy rfl ?_
  intro p e s m args below meth c s₁ B hml hv
  obtain ⟨rfl, hsz, hP, hD0, hK, hT⟩ := hv
  subst hsz
  have hD := hD0.self (sz := s.heap.size)
  have hA : ∀ q : Nat, s.heap.size ≤ q → va_A ws s.heap.size q := fun q h => Or.inr h
  have hT9 : gT (va_A ws s.heap.size) s s.heap := hT.re (fun q hq h => h.elim id (fun h => absurd hq (Nat.not_lt.mpr h)))
  have hts0 := atoms_spec (ws := Cond.code y cc maxL (some ty) :: wsL_law) B.pre
  have hts : ∀ w ∈ wsL_law, w.before av.toArray s = true := fun w h => hts0 w (List.mem_cons_of_mem _ h)
  have hl := lv_entry av (n := maxL) hav
  rw [lg_entry_eq]
  refine body (Y p l e rm s m av.toArray below meth c (va_A ws s.heap.size) D maxL (MQ below (va_Qi post (gB D (va_A ws s.heap.size) wf) (va_A ws s.heap.size)) av.toArray s rm.cells rm.slots (va_A ws s.heap.size))) ⟨p, e, s, m, av.toArray, below, meth, c, va_A ws s.heap.size, _, ⟨B.exec, B.bytes, hml, findClass_of_methodNamed B.named, hts⟩, hK, hT9, hA, (name_of_methodNamed B.named B.method).1, B.notSynchronized, rfl⟩ ?_ s.heap [] _ hP hD va_S.rf hl
  intro r u ce sl pc lv hdg h1 h2 hn hp H locs ls hP hD hS hl
  refine W.widen h1 h2 ?_
  exact W.zret (v := r) (ty := ty) B.exec B.bytes B.returns hn (fun t ht hW => ⟨⟨r, u, rfl, hp, by rw [ht]; exact hP, hD⟩, hS.F ht⟩) hS.2.2 hdg
set_option maxHeartbeats 1000000 in
theorem MV.of {y : MethodName} {maxL : Nat} {rm : Room} {av : List Value} {S : Type} {post : S → Prop} {wf : S → va_W} (hy : plainName y.cls = true) (hav : (lg_sl av).length ≤ maxL)
    (body : ∀ G : GT, Cx l G cc y.cls maxL rm D tys y.name → (∀ (u : S) (ce sl pc : Nat) (lv : List (Nat × Value)), decode cc pc = .ok (.return_, 1) → ce ≤ rm.cells → sl ≤ rm.slots → post u → G ce sl (wf u) pc lv []) → G 0 0 ws 0 (lv_args 0 av) []) : MV l D tys y cc maxL rm av ws post wf := by
  intro sz
  refine Met.ofW (cc := cc) (maxL := maxL) (ret := none) hy rfl ?_
  intro p e s m args below meth c s₁ B hml hv
  obtain ⟨rfl, hsz, hP, hD0, hK, hT⟩ := hv
  subst hsz
  have hD := hD0.self (sz := s.heap.size)
  have hA : ∀ q : Nat, s.heap.size ≤ q → va_A ws s.heap.size q := fun q h => Or.inr h
  have hT9 : gT (va_A ws s.heap.size) s s.heap := hT.re (fun q hq h => h.elim id (fun h => absurd hq (Nat.not_lt.mpr h)))
  have hts0 := atoms_spec (ws := Cond.code y cc maxL none :: wsL_law) B.pre
  have hts : ∀ w ∈ wsL_law, w.before av.toArray s = true := fun w h => hts0 w (List.mem_cons_of_mem _ h)
  have hl := lv_entry av (n := maxL) hav
  rw [lg_entry_eq]
  refine body (Y p l e rm s m av.toArray below meth c (va_A ws s.heap.size) D maxL (MQ below (va_Qv post (gB D (va_A ws s.heap.size) wf) (va_A ws s.heap.size)) av.toArray s rm.cells rm.slots (va_A ws s.heap.size))) ⟨p, e, s, m, av.toArray, below, meth, c, va_A ws s.heap.size, _, ⟨B.exec, B.bytes, hml, findClass_of_methodNamed B.named, hts⟩, hK, hT9, hA, (name_of_methodNamed B.named B.method).1, B.notSynchronized, rfl⟩ ?_ s.heap [] _ hP hD va_S.rf hl
  intro u ce sl pc lv hdg h1 h2 hp H locs ls hP hD hS hl
  refine W.widen h1 h2 ?_
  exact W.vret B.exec B.bytes B.returns (fun t ht hW => ⟨⟨u, rfl, hp, by rw [ht]; exact hP, hD⟩, hS.F ht⟩) hS.2.2 hdg
set_option maxHeartbeats 1000000 in
theorem ML.of {y : MethodName} {maxL : Nat} {rm : Room} {av : List Value} {S : Type} {post : Int64 → S → Prop} {wf : S → va_W} (hy : plainName y.cls = true) (hav : (lg_sl av).length ≤ maxL)
    (body : ∀ G : GT, Cx l G cc y.cls maxL rm D tys y.name → (∀ (r : Int64) (u : S) (ce sl pc : Nat) (lv : List (Nat × Value)), decode cc pc = .ok (.lreturn, 1) → ce ≤ rm.cells → sl ≤ rm.slots → post r u → G ce sl (wf u) pc lv [.long r]) → G 0 0 ws 0 (lv_args 0 av) []) : ML l D tys y cc maxL rm av ws post wf := by
  intro sz
  refine Met.ofW (cc := cc) (maxL := maxL) (ret := (some .long)) hy rfl ?_
  intro p e s m args below meth c s₁ B hml hv
  obtain ⟨rfl, hsz, hP, hD0, hK, hT⟩ := hv
  subst hsz
  have hD := hD0.self (sz := s.heap.size)
  have hA : ∀ q : Nat, s.heap.size ≤ q → va_A ws s.heap.size q := fun q h => Or.inr h
  have hT9 : gT (va_A ws s.heap.size) s s.heap := hT.re (fun q hq h => h.elim id (fun h => absurd hq (Nat.not_lt.mpr h)))
  have hts0 := atoms_spec (ws := Cond.code y cc maxL (some .long) :: wsL_law) B.pre
  have hts : ∀ w ∈ wsL_law, w.before av.toArray s = true := fun w h => hts0 w (List.mem_cons_of_mem _ h)
  have hl := lv_entry av (n := maxL) hav
  rw [lg_entry_eq]
  refine body (Y p l e rm s m av.toArray below meth c (va_A ws s.heap.size) D maxL (MQ below (va_Ql post (gB D (va_A ws s.heap.size) wf) (va_A ws s.heap.size)) av.toArray s rm.cells rm.slots (va_A ws s.heap.size))) ⟨p, e, s, m, av.toArray, below, meth, c, va_A ws s.heap.size, _, ⟨B.exec, B.bytes, hml, findClass_of_methodNamed B.named, hts⟩, hK, hT9, hA, (name_of_methodNamed B.named B.method).1, B.notSynchronized, rfl⟩ ?_ s.heap [] _ hP hD va_S.rf hl
  intro r u ce sl pc lv hdg h1 h2 hp H locs ls hP hD hS hl
  refine W.widen h1 h2 ?_
  exact W.lret (v := r) B.exec B.bytes B.returns (fun t ht hW => ⟨⟨r, u, rfl, hp, by rw [ht]; exact hP, hD⟩, hS.F ht⟩) hS.2.2 hdg
set_option maxHeartbeats 1000000 in
theorem MF.of {y : MethodName} {maxL : Nat} {rm : Room} {av : List Value} {S : Type} {post : UInt64 → S → Prop} {wf : S → va_W} (hy : plainName y.cls = true) (hav : (lg_sl av).length ≤ maxL)
    (body : ∀ G : GT, Cx l G cc y.cls maxL rm D tys y.name → (∀ (r : UInt64) (u : S) (ce sl pc : Nat) (lv : List (Nat × Value)), decode cc pc = .ok (.dreturn, 1) → ce ≤ rm.cells → sl ≤ rm.slots → post r u → G ce sl (wf u) pc lv [.double r]) → G 0 0 ws 0 (lv_args 0 av) []) : MF l D tys y cc maxL rm av ws post wf := by
  intro sz
  refine Met.ofW (cc := cc) (maxL := maxL) (ret := (some .double)) hy rfl ?_
  intro p e s m args below meth c s₁ B hml hv
  obtain ⟨rfl, hsz, hP, hD0, hK, hT⟩ := hv
  subst hsz
  have hD := hD0.self (sz := s.heap.size)
  have hA : ∀ q : Nat, s.heap.size ≤ q → va_A ws s.heap.size q := fun q h => Or.inr h
  have hT9 : gT (va_A ws s.heap.size) s s.heap := hT.re (fun q hq h => h.elim id (fun h => absurd hq (Nat.not_lt.mpr h)))
  have hts0 := atoms_spec (ws := Cond.code y cc maxL (some .double) :: wsL_law) B.pre
  have hts : ∀ w ∈ wsL_law, w.before av.toArray s = true := fun w h => hts0 w (List.mem_cons_of_mem _ h)
  have hl := lv_entry av (n := maxL) hav
  rw [lg_entry_eq]
  refine body (Y p l e rm s m av.toArray below meth c (va_A ws s.heap.size) D maxL (MQ below (va_Qd post (gB D (va_A ws s.heap.size) wf) (va_A ws s.heap.size)) av.toArray s rm.cells rm.slots (va_A ws s.heap.size))) ⟨p, e, s, m, av.toArray, below, meth, c, va_A ws s.heap.size, _, ⟨B.exec, B.bytes, hml, findClass_of_methodNamed B.named, hts⟩, hK, hT9, hA, (name_of_methodNamed B.named B.method).1, B.notSynchronized, rfl⟩ ?_ s.heap [] _ hP hD va_S.rf hl
  intro r u ce sl pc lv hdg h1 h2 hp H locs ls hP hD hS hl
  refine W.widen h1 h2 ?_
  exact W.dret (v := r) B.exec B.bytes B.returns (fun t ht hW => ⟨⟨r, u, rfl, hp, by rw [ht]; exact hP, hD⟩, hS.F ht⟩) hS.2.2 hdg (hlocks := B.notSynchronized)
end YL
section YN
variable {l : Launch} {G : GT} {cc : ByteArray} {own : String} {nL : Nat} {R : Room} {D : va_G} {tys : List (ClassId × FieldType)} {nm : String}
variable {ce sl : Nat} {ws : va_W} {pc : Nat} {lv : List (Nat × Value)} {st : List Value}
theorem ninc (a : Nat) : nI a + Int32.ofInt 1 = nI (a + 1) := nI_1 a
theorem ndec {a : Nat} (h : 1 ≤ a) : nI a + Int32.ofInt (-1) = nI (a - 1) := by
  obtain ⟨b, rfl⟩ : ∃ b, a = b + 1 := ⟨a - 1, by omega⟩
  exact pk_m1 b
theorem y_icmp_eq_n (hC : Cx l G cc own nL R D tys nm) {x y : Int32} {off : Int} (tgt : Nat) (hdg : decode cc pc = .ok (.if_icmp .eq off, 3)) (ht : (pc : Int) + off = (tgt : Int)) (a b : Nat) (hx : x = nI a) (hy : y = nI b) (ha : a < 2 ^ 31) (hb : b < 2 ^ 31) (kt : a = b → G ce sl ws tgt lv st) (kf : a ≠ b → G ce sl ws (pc + 3) lv st) : G ce sl ws pc lv (.int y :: .int x :: st) := by
  subst hx; subst hy
  exact y_icmp_eq hC tgt hdg ht (fun h => kt ((nI_eq ha hb).mp h)) (fun h => kf (fun q => h ((nI_eq ha hb).mpr q)))
theorem y_icmp_ne_n (hC : Cx l G cc own nL R D tys nm) {x y : Int32} {off : Int} (tgt : Nat) (hdg : decode cc pc = .ok (.if_icmp .ne off, 3)) (ht : (pc : Int) + off = (tgt : Int)) (a b : Nat) (hx : x = nI a) (hy : y = nI b) (ha : a < 2 ^ 31) (hb : b < 2 ^ 31) (kt : a ≠ b → G ce sl ws tgt lv st) (kf : a = b → G ce sl ws (pc + 3) lv st) : G ce sl ws pc lv (.int y :: .int x :: st) := by
  subst hx; subst hy
  exact y_icmp_ne hC tgt hdg ht (fun h => kt (fun q => h ((nI_eq ha hb).mpr q))) (fun h => kf ((nI_eq ha hb).mp h))
theorem y_icmp_lt_n (hC : Cx l G cc own nL R D tys nm) {x y : Int32} {off : Int} (tgt : Nat) (hdg : decode cc pc = .ok (.if_icmp .lt off, 3)) (ht : (pc : Int) + off = (tgt : Int)) (a b : Nat) (hx : x = nI a) (hy : y = nI b) (ha : a < 2 ^ 31) (hb : b < 2 ^ 31) (kt : a < b → G ce sl ws tgt lv st) (kf : b ≤ a → G ce sl ws (pc + 3) lv st) : G ce sl ws pc lv (.int y :: .int x :: st) := by
  subst hx; subst hy
  exact y_icmp_lt hC tgt hdg ht (fun h => kt ((nI_ltI ha hb).mp h)) (fun h => kf (Nat.not_lt.mp fun q => h ((nI_ltI ha hb).mpr q)))
theorem y_icmp_ge_n (hC : Cx l G cc own nL R D tys nm) {x y : Int32} {off : Int} (tgt : Nat) (hdg : decode cc pc = .ok (.if_icmp .ge off, 3)) (ht : (pc : Int) + off = (tgt : Int)) (a b : Nat) (hx : x = nI a) (hy : y = nI b) (ha : a < 2 ^ 31) (hb : b < 2 ^ 31) (kt : b ≤ a → G ce sl ws tgt lv st) (kf : a < b → G ce sl ws (pc + 3) lv st) : G ce sl ws pc lv (.int y :: .int x :: st) := by
  subst hx; subst hy
  exact y_icmp_ge hC tgt hdg ht (fun h => kt ((nI_leI hb ha).mp h)) (fun h => kf (Nat.not_le.mp fun q => h ((nI_leI hb ha).mpr q)))
theorem y_icmp_gt_n (hC : Cx l G cc own nL R D tys nm) {x y : Int32} {off : Int} (tgt : Nat) (hdg : decode cc pc = .ok (.if_icmp .gt off, 3)) (ht : (pc : Int) + off = (tgt : Int)) (a b : Nat) (hx : x = nI a) (hy : y = nI b) (ha : a < 2 ^ 31) (hb : b < 2 ^ 31) (kt : b < a → G ce sl ws tgt lv st) (kf : a ≤ b → G ce sl ws (pc + 3) lv st) : G ce sl ws pc lv (.int y :: .int x :: st) := by
  subst hx; subst hy
  exact y_icmp_gt hC tgt hdg ht (fun h => kt ((nI_ltI hb ha).mp h)) (fun h => kf (Nat.not_lt.mp fun q => h ((nI_ltI hb ha).mpr q)))
theorem y_icmp_le_n (hC : Cx l G cc own nL R D tys nm) {x y : Int32} {off : Int} (tgt : Nat) (hdg : decode cc pc = .ok (.if_icmp .le off, 3)) (ht : (pc : Int) + off = (tgt : Int)) (a b : Nat) (hx : x = nI a) (hy : y = nI b) (ha : a < 2 ^ 31) (hb : b < 2 ^ 31) (kt : a ≤ b → G ce sl ws tgt lv st) (kf : b < a → G ce sl ws (pc + 3) lv st) : G ce sl ws pc lv (.int y :: .int x :: st) := by
  subst hx; subst hy
  exact y_icmp_le hC tgt hdg ht (fun h => kt ((nI_leI ha hb).mp h)) (fun h => kf (Nat.not_le.mp fun q => h ((nI_leI ha hb).mpr q)))
theorem y_if_eq_n (hC : Cx l G cc own nL R D tys nm) {x : Int32} {off : Int} (tgt : Nat) (hdg : decode cc pc = .ok (.ifCond .eq off, 3)) (ht : (pc : Int) + off = (tgt : Int)) (a : Nat) (hx : x = nI a) (ha : a < 2 ^ 31) (kt : a = 0 → G ce sl ws tgt lv st) (kf : a ≠ 0 → G ce sl ws (pc + 3) lv st) : G ce sl ws pc lv (.int x :: st) := by
  subst hx
  exact y_if_eq hC tgt hdg ht (fun h => kt ((nI_eq ha (by decide)).mp (h.trans nI_0.symm))) (fun h => kf (fun q => h (by rw [q]; exact nI_0)))
theorem y_if_ne_n (hC : Cx l G cc own nL R D tys nm) {x : Int32} {off : Int} (tgt : Nat) (hdg : decode cc pc = .ok (.ifCond .ne off, 3)) (ht : (pc : Int) + off = (tgt : Int)) (a : Nat) (hx : x = nI a) (ha : a < 2 ^ 31) (kt : a ≠ 0 → G ce sl ws tgt lv st) (kf : a = 0 → G ce sl ws (pc + 3) lv st) : G ce sl ws pc lv (.int x :: st) := by
  subst hx
  exact y_if_ne hC tgt hdg ht (fun h => kt (fun q => h (by rw [q]; exact nI_0))) (fun h => kf ((nI_eq ha (by decide)).mp (h.trans nI_0.symm)))
theorem y_if_lt_n (hC : Cx l G cc own nL R D tys nm) {x : Int32} {off : Int} (tgt : Nat) (hdg : decode cc pc = .ok (.ifCond .lt off, 3)) (ht : (pc : Int) + off = (tgt : Int)) (a : Nat) (hx : x = nI a) (ha : a < 2 ^ 31) (kf : G ce sl ws (pc + 3) lv st) : G ce sl ws pc lv (.int x :: st) := by
  subst hx
  exact y_if_lt hC tgt hdg ht (fun h => absurd h (nI_pos ha)) (fun _ => kf)
theorem y_if_ge_n (hC : Cx l G cc own nL R D tys nm) {x : Int32} {off : Int} (tgt : Nat) (hdg : decode cc pc = .ok (.ifCond .ge off, 3)) (ht : (pc : Int) + off = (tgt : Int)) (a : Nat) (hx : x = nI a) (ha : a < 2 ^ 31) (kt : G ce sl ws tgt lv st) : G ce sl ws pc lv (.int x :: st) := by
  subst hx
  exact y_if_ge hC tgt hdg ht (fun _ => kt) (fun h => absurd (nI_pos' ha) h)
theorem y_if_gt_n (hC : Cx l G cc own nL R D tys nm) {x : Int32} {off : Int} (tgt : Nat) (hdg : decode cc pc = .ok (.ifCond .gt off, 3)) (ht : (pc : Int) + off = (tgt : Int)) (a : Nat) (hx : x = nI a) (ha : a < 2 ^ 31) (kt : a ≠ 0 → G ce sl ws tgt lv st) (kf : a = 0 → G ce sl ws (pc + 3) lv st) : G ce sl ws pc lv (.int x :: st) := by
  subst hx
  refine y_if_gt hC tgt hdg ht (fun h => kt (fun q => ?_)) (fun h => kf ?_)
  · rw [q, nI_0] at h; exact absurd h (by decide)
  · rcases Nat.eq_zero_or_pos a with q | q
    · exact q
    · exact absurd (by rw [← nI_0]; exact nI_lt q ha) h
theorem y_if_le_n (hC : Cx l G cc own nL R D tys nm) {x : Int32} {off : Int} (tgt : Nat) (hdg : decode cc pc = .ok (.ifCond .le off, 3)) (ht : (pc : Int) + off = (tgt : Int)) (a : Nat) (hx : x = nI a) (ha : a < 2 ^ 31) (kt : a = 0 → G ce sl ws tgt lv st) (kf : a ≠ 0 → G ce sl ws (pc + 3) lv st) : G ce sl ws pc lv (.int x :: st) := by
  subst hx
  refine y_if_le hC tgt hdg ht (fun h => kt ?_) (fun h => kf (fun q => ?_))
  · rcases Nat.eq_zero_or_pos a with q | q
    · exact q
    · exact absurd h (nI_nle q ha)
  · rw [q, nI_0] at h; exact absurd (by decide) h
theorem y_min_n (hC : Cx l G cc own nL R D tys nm) {index : Nat} {x y : Int32} (hw : Cond.methodLink own index Lib.Math.min.name ∈ wsL_law) (hdg : decode cc pc = .ok (.invokestatic index, 3)) (hR : 1 ≤ R.frames) (hR2 : (st.map fun v => v.category).sum + 13 ≤ R.locals) (hc : ce ≤ R.cells) (hs : sl ≤ R.slots) (a b : Nat) (hx : x = nI a) (hy : y = nI b) (ha : a < 2 ^ 31) (hb : b < 2 ^ 31) (kk : G ce sl ws (pc + 3) lv (.int (nI (min a b)) :: st)) : G ce sl ws pc lv (.int y :: .int x :: st) := by
  subst hx; subst hy
  refine y_min hC hw hdg hR hR2 hc hs (v := nI (min a b)) ?_ kk
  by_cases h : b < a
  · rw [if_pos ((nI_ltI hb ha).mpr h), Nat.min_eq_right (Nat.le_of_lt h)]
  · rw [if_neg (fun q => h ((nI_ltI hb ha).mp q)), Nat.min_eq_left (Nat.not_lt.mp h)]
theorem y_max_n (hC : Cx l G cc own nL R D tys nm) {index : Nat} {x y : Int32} (hw : Cond.methodLink own index Lib.Math.max.name ∈ wsL_law) (hdg : decode cc pc = .ok (.invokestatic index, 3)) (hR : 1 ≤ R.frames) (hR2 : (st.map fun v => v.category).sum + 13 ≤ R.locals) (hc : ce ≤ R.cells) (hs : sl ≤ R.slots) (a b : Nat) (hx : x = nI a) (hy : y = nI b) (ha : a < 2 ^ 31) (hb : b < 2 ^ 31) (kk : G ce sl ws (pc + 3) lv (.int (nI (max a b)) :: st)) : G ce sl ws pc lv (.int y :: .int x :: st) := by
  subst hx; subst hy
  refine y_max hC hw hdg hR hR2 hc hs (v := nI (max a b)) ?_ kk
  by_cases h : a < b
  · rw [if_pos ((nI_ltI ha hb).mpr h), Nat.max_eq_right (Nat.le_of_lt h)]
  · rw [if_neg (fun q => h ((nI_ltI ha hb).mp q)), Nat.max_eq_left (Nat.not_lt.mp h)]
end YN
