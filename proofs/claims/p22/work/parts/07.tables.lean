theorem in_A : ∀ w ∈ (wsL_law_r1 ++ (wsL_law_r2 ++ (wsL_law_r3 ++ (wsL_law_r4 ++ (wsL_law_r5 ++ (wsL_law_r6 ++ (wsL_law_r7 ++ (wsL_law_r8 ++ (wsL_law_r9 ++ (wsL_law_r10 ++ (wsL_law_r11 ++ (wsL_law_r12 ++ (wsL_law_r13 ++ (wsL_law_r14 ++ (wsL_law_r15 ++ (wsL_law_r16 ++ (wsL_law_r17 ++ (wsL_law_r18 ++ (wsL_law_r19 ++ (wsL_law_r20 ++ (wsL_law_r21 ++ (wsL_law_r22 ++ (wsL_law_r23 ++ (wsL_law_r24 ++ (wsL_law_r25 ++ (wsL_law_r26 ++ (wsL_law_r27 ++ (wsL_law_r28 ++ (wsL_law_r29 ++ (wsL_law_r30 ++ (wsL_law_r31 ++ (wsL_law_r32 ++ (wsL_law_r33 ++ (wsL_law_r34 ++ (wsL_law_r35 ++ (wsL_law_r36 ++ (wsL_law_r37 ++ (wsL_law_r38 ++ (wsL_law_r39 ++ (wsL_law_r40 ++ (wsL_law_r41 ++ (wsL_law_r42 ++ (wsL_law_r43 ++ (wsL_law_r44 ++ (wsL_law_r45 ++ (wsL_law_r46 ++ (wsL_law_r47 ++ (wsL_law_r48 ++ (wsL_law_r49 ++ (wsL_law_r50 ++ (wsL_law_r51 ++ (wsL_law_r52 ++ (wsL_law_r53 ++ (wsL_law_r54 ++ (wsL_law_r55 ++ (wsL_law_r56 ++ wsL_law_r57)))))))))))))))))))))))))))))))))))))))))))))))))))))))), w ∈ wsL_law := fun _ h => List.mem_append_left _ (List.mem_append_left _ (List.mem_append_left _ (List.mem_append_left _ (List.mem_append_left _ (List.mem_append_left _ (List.mem_append_left _ (List.mem_append_left _ (List.mem_append_left _ (List.mem_append_left _ (List.mem_append_left _ (List.mem_append_left _ (List.mem_append_left _ (h)))))))))))))
theorem in_r1 : ∀ w ∈ wsL_law_r1, w ∈ wsL_law := fun w h => in_A w (List.mem_append_left _ h)
theorem in_r2 : ∀ w ∈ wsL_law_r2, w ∈ wsL_law := fun w h => in_A w (List.mem_append_right _ (List.mem_append_left _ h))
theorem in_r3 : ∀ w ∈ wsL_law_r3, w ∈ wsL_law := fun w h => in_A w (List.mem_append_right _ (List.mem_append_right _ (List.mem_append_left _ h)))
theorem in_r4 : ∀ w ∈ wsL_law_r4, w ∈ wsL_law := fun w h => in_A w (List.mem_append_right _ (List.mem_append_right _ (List.mem_append_right _ (List.mem_append_left _ h))))
theorem in_r5 : ∀ w ∈ wsL_law_r5, w ∈ wsL_law := fun w h => in_A w (List.mem_append_right _ (List.mem_append_right _ (List.mem_append_right _ (List.mem_append_right _ (List.mem_append_left _ h)))))
theorem in_r6 : ∀ w ∈ wsL_law_r6, w ∈ wsL_law := fun w h => in_A w (List.mem_append_right _ (List.mem_append_right _ (List.mem_append_right _ (List.mem_append_right _ (List.mem_append_right _ (List.mem_append_left _ h))))))
theorem in_r7 : ∀ w ∈ wsL_law_r7, w ∈ wsL_law := fun w h => in_A w (List.mem_append_right _ (List.mem_append_right _ (List.mem_append_right _ (List.mem_append_right _ (List.mem_append_right _ (List.mem_append_right _ (List.mem_append_left _ h)))))))
theorem in_r8 : ∀ w ∈ wsL_law_r8, w ∈ wsL_law := fun w h => in_A w (List.mem_append_right _ (List.mem_append_right _ (List.mem_append_right _ (List.mem_append_right _ (List.mem_append_right _ (List.mem_append_right _ (List.mem_append_right _ (List.mem_append_left _ h))))))))
theorem in_r9 : ∀ w ∈ wsL_law_r9, w ∈ wsL_law := fun w h => in_A w (List.mem_append_right _ (List.mem_append_right _ (List.mem_append_right _ (List.mem_append_right _ (List.mem_append_right _ (List.mem_append_right _ (List.mem_append_right _ (List.mem_append_right _ (List.mem_append_left _ h)))))))))
theorem in_r10 : ∀ w ∈ wsL_law_r10, w ∈ wsL_law := fun w h => in_A w (List.mem_append_right _ (List.mem_append_right _ (List.mem_append_right _ (List.mem_append_right _ (List.mem_append_right _ (List.mem_append_right _ (List.mem_append_right _ (List.mem_append_right _ (List.mem_append_right _ (List.mem_append_left _ h))))))))))
theorem in_r11 : ∀ w ∈ wsL_law_r11, w ∈ wsL_law := fun w h => in_A w (List.mem_append_right _ (List.mem_append_right _ (List.mem_append_right _ (List.mem_append_right _ (List.mem_append_right _ (List.mem_append_right _ (List.mem_append_right _ (List.mem_append_right _ (List.mem_append_right _ (List.mem_append_right _ (List.mem_append_left _ h)))))))))))
theorem in_r12 : ∀ w ∈ wsL_law_r12, w ∈ wsL_law := fun w h => in_A w (List.mem_append_right _ (List.mem_append_right _ (List.mem_append_right _ (List.mem_append_right _ (List.mem_append_right _ (List.mem_append_right _ (List.mem_append_right _ (List.mem_append_right _ (List.mem_append_right _ (List.mem_append_right _ (List.mem_append_right _ (List.mem_append_left _ h))))))))))))
theorem in_r13 : ∀ w ∈ wsL_law_r13, w ∈ wsL_law := fun w h => in_A w (List.mem_append_right _ (List.mem_append_right _ (List.mem_append_right _ (List.mem_append_right _ (List.mem_append_right _ (List.mem_append_right _ (List.mem_append_right _ (List.mem_append_right _ (List.mem_append_right _ (List.mem_append_right _ (List.mem_append_right _ (List.mem_append_right _ (List.mem_append_left _ h)))))))))))))
theorem in_r14 : ∀ w ∈ wsL_law_r14, w ∈ wsL_law := fun w h => in_A w (List.mem_append_right _ (List.mem_append_right _ (List.mem_append_right _ (List.mem_append_right _ (List.mem_append_right _ (List.mem_append_right _ (List.mem_append_right _ (List.mem_append_right _ (List.mem_append_right _ (List.mem_append_right _ (List.mem_append_right _ (List.mem_append_right _ (List.mem_append_right _ (List.mem_append_left _ h))))))))))))))
theorem in_r15 : ∀ w ∈ wsL_law_r15, w ∈ wsL_law := fun w h => in_A w (List.mem_append_right _ (List.mem_append_right _ (List.mem_append_right _ (List.mem_append_right _ (List.mem_append_right _ (List.mem_append_right _ (List.mem_append_right _ (List.mem_append_right _ (List.mem_append_right _ (List.mem_append_right _ (List.mem_append_right _ (List.mem_append_right _ (List.mem_append_right _ (List.mem_append_right _ (List.mem_append_left _ h)))))))))))))))
theorem in_r16 : ∀ w ∈ wsL_law_r16, w ∈ wsL_law := fun w h => in_A w (List.mem_append_right _ (List.mem_append_right _ (List.mem_append_right _ (List.mem_append_right _ (List.mem_append_right _ (List.mem_append_right _ (List.mem_append_right _ (List.mem_append_right _ (List.mem_append_right _ (List.mem_append_right _ (List.mem_append_right _ (List.mem_append_right _ (List.mem_append_right _ (List.mem_append_right _ (List.mem_append_right _ (List.mem_append_left _ h))))))))))))))))
theorem in_r17 : ∀ w ∈ wsL_law_r17, w ∈ wsL_law := fun w h => in_A w (List.mem_append_right _ (List.mem_append_right _ (List.mem_append_right _ (List.mem_append_right _ (List.mem_append_right _ (List.mem_append_right _ (List.mem_append_right _ (List.mem_append_right _ (List.mem_append_right _ (List.mem_append_right _ (List.mem_append_right _ (List.mem_append_right _ (List.mem_append_right _ (List.mem_append_right _ (List.mem_append_right _ (List.mem_append_right _ (List.mem_append_left _ h)))))))))))))))))
theorem in_r18 : ∀ w ∈ wsL_law_r18, w ∈ wsL_law := fun w h => in_A w (List.mem_append_right _ (List.mem_append_right _ (List.mem_append_right _ (List.mem_append_right _ (List.mem_append_right _ (List.mem_append_right _ (List.mem_append_right _ (List.mem_append_right _ (List.mem_append_right _ (List.mem_append_right _ (List.mem_append_right _ (List.mem_append_right _ (List.mem_append_right _ (List.mem_append_right _ (List.mem_append_right _ (List.mem_append_right _ (List.mem_append_right _ (List.mem_append_left _ h))))))))))))))))))
theorem in_r19 : ∀ w ∈ wsL_law_r19, w ∈ wsL_law := fun w h => in_A w (List.mem_append_right _ (List.mem_append_right _ (List.mem_append_right _ (List.mem_append_right _ (List.mem_append_right _ (List.mem_append_right _ (List.mem_append_right _ (List.mem_append_right _ (List.mem_append_right _ (List.mem_append_right _ (List.mem_append_right _ (List.mem_append_right _ (List.mem_append_right _ (List.mem_append_right _ (List.mem_append_right _ (List.mem_append_right _ (List.mem_append_right _ (List.mem_append_right _ (List.mem_append_left _ h)))))))))))))))))))
theorem in_r20 : ∀ w ∈ wsL_law_r20, w ∈ wsL_law := fun w h => in_A w (List.mem_append_right _ (List.mem_append_right _ (List.mem_append_right _ (List.mem_append_right _ (List.mem_append_right _ (List.mem_append_right _ (List.mem_append_right _ (List.mem_append_right _ (List.mem_append_right _ (List.mem_append_right _ (List.mem_append_right _ (List.mem_append_right _ (List.mem_append_right _ (List.mem_append_right _ (List.mem_append_right _ (List.mem_append_right _ (List.mem_append_right _ (List.mem_append_right _ (List.mem_append_right _ (List.mem_append_left _ h))))))))))))))))))))
theorem in_r21 : ∀ w ∈ wsL_law_r21, w ∈ wsL_law := fun w h => in_A w (List.mem_append_right _ (List.mem_append_right _ (List.mem_append_right _ (List.mem_append_right _ (List.mem_append_right _ (List.mem_append_right _ (List.mem_append_right _ (List.mem_append_right _ (List.mem_append_right _ (List.mem_append_right _ (List.mem_append_right _ (List.mem_append_right _ (List.mem_append_right _ (List.mem_append_right _ (List.mem_append_right _ (List.mem_append_right _ (List.mem_append_right _ (List.mem_append_right _ (List.mem_append_right _ (List.mem_append_right _ (List.mem_append_left _ h)))))))))))))))))))))
theorem in_r22 : ∀ w ∈ wsL_law_r22, w ∈ wsL_law := fun w h => in_A w (List.mem_append_right _ (List.mem_append_right _ (List.mem_append_right _ (List.mem_append_right _ (List.mem_append_right _ (List.mem_append_right _ (List.mem_append_right _ (List.mem_append_right _ (List.mem_append_right _ (List.mem_append_right _ (List.mem_append_right _ (List.mem_append_right _ (List.mem_append_right _ (List.mem_append_right _ (List.mem_append_right _ (List.mem_append_right _ (List.mem_append_right _ (List.mem_append_right _ (List.mem_append_right _ (List.mem_append_right _ (List.mem_append_right _ (List.mem_append_left _ h))))))))))))))))))))))
theorem in_r23 : ∀ w ∈ wsL_law_r23, w ∈ wsL_law := fun w h => in_A w (List.mem_append_right _ (List.mem_append_right _ (List.mem_append_right _ (List.mem_append_right _ (List.mem_append_right _ (List.mem_append_right _ (List.mem_append_right _ (List.mem_append_right _ (List.mem_append_right _ (List.mem_append_right _ (List.mem_append_right _ (List.mem_append_right _ (List.mem_append_right _ (List.mem_append_right _ (List.mem_append_right _ (List.mem_append_right _ (List.mem_append_right _ (List.mem_append_right _ (List.mem_append_right _ (List.mem_append_right _ (List.mem_append_right _ (List.mem_append_right _ (List.mem_append_left _ h)))))))))))))))))))))))
theorem in_r24 : ∀ w ∈ wsL_law_r24, w ∈ wsL_law := fun w h => in_A w (List.mem_append_right _ (List.mem_append_right _ (List.mem_append_right _ (List.mem_append_right _ (List.mem_append_right _ (List.mem_append_right _ (List.mem_append_right _ (List.mem_append_right _ (List.mem_append_right _ (List.mem_append_right _ (List.mem_append_right _ (List.mem_append_right _ (List.mem_append_right _ (List.mem_append_right _ (List.mem_append_right _ (List.mem_append_right _ (List.mem_append_right _ (List.mem_append_right _ (List.mem_append_right _ (List.mem_append_right _ (List.mem_append_right _ (List.mem_append_right _ (List.mem_append_right _ (List.mem_append_left _ h))))))))))))))))))))))))
theorem in_r25 : ∀ w ∈ wsL_law_r25, w ∈ wsL_law := fun w h => in_A w (List.mem_append_right _ (List.mem_append_right _ (List.mem_append_right _ (List.mem_append_right _ (List.mem_append_right _ (List.mem_append_right _ (List.mem_append_right _ (List.mem_append_right _ (List.mem_append_right _ (List.mem_append_right _ (List.mem_append_right _ (List.mem_append_right _ (List.mem_append_right _ (List.mem_append_right _ (List.mem_append_right _ (List.mem_append_right _ (List.mem_append_right _ (List.mem_append_right _ (List.mem_append_right _ (List.mem_append_right _ (List.mem_append_right _ (List.mem_append_right _ (List.mem_append_right _ (List.mem_append_right _ (List.mem_append_left _ h)))))))))))))))))))))))))
theorem in_r26 : ∀ w ∈ wsL_law_r26, w ∈ wsL_law := fun w h => in_A w (List.mem_append_right _ (List.mem_append_right _ (List.mem_append_right _ (List.mem_append_right _ (List.mem_append_right _ (List.mem_append_right _ (List.mem_append_right _ (List.mem_append_right _ (List.mem_append_right _ (List.mem_append_right _ (List.mem_append_right _ (List.mem_append_right _ (List.mem_append_right _ (List.mem_append_right _ (List.mem_append_right _ (List.mem_append_right _ (List.mem_append_right _ (List.mem_append_right _ (List.mem_append_right _ (List.mem_append_right _ (List.mem_append_right _ (List.mem_append_right _ (List.mem_append_right _ (List.mem_append_right _ (List.mem_append_right _ (List.mem_append_left _ h))))))))))))))))))))))))))
theorem in_r27 : ∀ w ∈ wsL_law_r27, w ∈ wsL_law := fun w h => in_A w (List.mem_append_right _ (List.mem_append_right _ (List.mem_append_right _ (List.mem_append_right _ (List.mem_append_right _ (List.mem_append_right _ (List.mem_append_right _ (List.mem_append_right _ (List.mem_append_right _ (List.mem_append_right _ (List.mem_append_right _ (List.mem_append_right _ (List.mem_append_right _ (List.mem_append_right _ (List.mem_append_right _ (List.mem_append_right _ (List.mem_append_right _ (List.mem_append_right _ (List.mem_append_right _ (List.mem_append_right _ (List.mem_append_right _ (List.mem_append_right _ (List.mem_append_right _ (List.mem_append_right _ (List.mem_append_right _ (List.mem_append_right _ (List.mem_append_left _ h)))))))))))))))))))))))))))
theorem in_r28 : ∀ w ∈ wsL_law_r28, w ∈ wsL_law := fun w h => in_A w (List.mem_append_right _ (List.mem_append_right _ (List.mem_append_right _ (List.mem_append_right _ (List.mem_append_right _ (List.mem_append_right _ (List.mem_append_right _ (List.mem_append_right _ (List.mem_append_right _ (List.mem_append_right _ (List.mem_append_right _ (List.mem_append_right _ (List.mem_append_right _ (List.mem_append_right _ (List.mem_append_right _ (List.mem_append_right _ (List.mem_append_right _ (List.mem_append_right _ (List.mem_append_right _ (List.mem_append_right _ (List.mem_append_right _ (List.mem_append_right _ (List.mem_append_right _ (List.mem_append_right _ (List.mem_append_right _ (List.mem_append_right _ (List.mem_append_right _ (List.mem_append_left _ h))))))))))))))))))))))))))))
theorem in_r29 : ∀ w ∈ wsL_law_r29, w ∈ wsL_law := fun w h => in_A w (List.mem_append_right _ (List.mem_append_right _ (List.mem_append_right _ (List.mem_append_right _ (List.mem_append_right _ (List.mem_append_right _ (List.mem_append_right _ (List.mem_append_right _ (List.mem_append_right _ (List.mem_append_right _ (List.mem_append_right _ (List.mem_append_right _ (List.mem_append_right _ (List.mem_append_right _ (List.mem_append_right _ (List.mem_append_right _ (List.mem_append_right _ (List.mem_append_right _ (List.mem_append_right _ (List.mem_append_right _ (List.mem_append_right _ (List.mem_append_right _ (List.mem_append_right _ (List.mem_append_right _ (List.mem_append_right _ (List.mem_append_right _ (List.mem_append_right _ (List.mem_append_right _ (List.mem_append_left _ h)))))))))))))))))))))))))))))
theorem in_r30 : ∀ w ∈ wsL_law_r30, w ∈ wsL_law := fun w h => in_A w (List.mem_append_right _ (List.mem_append_right _ (List.mem_append_right _ (List.mem_append_right _ (List.mem_append_right _ (List.mem_append_right _ (List.mem_append_right _ (List.mem_append_right _ (List.mem_append_right _ (List.mem_append_right _ (List.mem_append_right _ (List.mem_append_right _ (List.mem_append_right _ (List.mem_append_right _ (List.mem_append_right _ (List.mem_append_right _ (List.mem_append_right _ (List.mem_append_right _ (List.mem_append_right _ (List.mem_append_right _ (List.mem_append_right _ (List.mem_append_right _ (List.mem_append_right _ (List.mem_append_right _ (List.mem_append_right _ (List.mem_append_right _ (List.mem_append_right _ (List.mem_append_right _ (List.mem_append_right _ (List.mem_append_left _ h))))))))))))))))))))))))))))))
theorem in_r31 : ∀ w ∈ wsL_law_r31, w ∈ wsL_law := fun w h => in_A w (List.mem_append_right _ (List.mem_append_right _ (List.mem_append_right _ (List.mem_append_right _ (List.mem_append_right _ (List.mem_append_right _ (List.mem_append_right _ (List.mem_append_right _ (List.mem_append_right _ (List.mem_append_right _ (List.mem_append_right _ (List.mem_append_right _ (List.mem_append_right _ (List.mem_append_right _ (List.mem_append_right _ (List.mem_append_right _ (List.mem_append_right _ (List.mem_append_right _ (List.mem_append_right _ (List.mem_append_right _ (List.mem_append_right _ (List.mem_append_right _ (List.mem_append_right _ (List.mem_append_right _ (List.mem_append_right _ (List.mem_append_right _ (List.mem_append_right _ (List.mem_append_right _ (List.mem_append_right _ (List.mem_append_right _ (List.mem_append_left _ h)))))))))))))))))))))))))))))))
theorem in_r32 : ∀ w ∈ wsL_law_r32, w ∈ wsL_law := fun w h => in_A w (List.mem_append_right _ (List.mem_append_right _ (List.mem_append_right _ (List.mem_append_right _ (List.mem_append_right _ (List.mem_append_right _ (List.mem_append_right _ (List.mem_append_right _ (List.mem_append_right _ (List.mem_append_right _ (List.mem_append_right _ (List.mem_append_right _ (List.mem_append_right _ (List.mem_append_right _ (List.mem_append_right _ (List.mem_append_right _ (List.mem_append_right _ (List.mem_append_right _ (List.mem_append_right _ (List.mem_append_right _ (List.mem_append_right _ (List.mem_append_right _ (List.mem_append_right _ (List.mem_append_right _ (List.mem_append_right _ (List.mem_append_right _ (List.mem_append_right _ (List.mem_append_right _ (List.mem_append_right _ (List.mem_append_right _ (List.mem_append_right _ (List.mem_append_left _ h))))))))))))))))))))))))))))))))
theorem in_r33 : ∀ w ∈ wsL_law_r33, w ∈ wsL_law := fun w h => in_A w (List.mem_append_right _ (List.mem_append_right _ (List.mem_append_right _ (List.mem_append_right _ (List.mem_append_right _ (List.mem_append_right _ (List.mem_append_right _ (List.mem_append_right _ (List.mem_append_right _ (List.mem_append_right _ (List.mem_append_right _ (List.mem_append_right _ (List.mem_append_right _ (List.mem_append_right _ (List.mem_append_right _ (List.mem_append_right _ (List.mem_append_right _ (List.mem_append_right _ (List.mem_append_right _ (List.mem_append_right _ (List.mem_append_right _ (List.mem_append_right _ (List.mem_append_right _ (List.mem_append_right _ (List.mem_append_right _ (List.mem_append_right _ (List.mem_append_right _ (List.mem_append_right _ (List.mem_append_right _ (List.mem_append_right _ (List.mem_append_right _ (List.mem_append_right _ (List.mem_append_left _ h)))))))))))))))))))))))))))))))))
theorem in_r34 : ∀ w ∈ wsL_law_r34, w ∈ wsL_law := fun w h => in_A w (List.mem_append_right _ (List.mem_append_right _ (List.mem_append_right _ (List.mem_append_right _ (List.mem_append_right _ (List.mem_append_right _ (List.mem_append_right _ (List.mem_append_right _ (List.mem_append_right _ (List.mem_append_right _ (List.mem_append_right _ (List.mem_append_right _ (List.mem_append_right _ (List.mem_append_right _ (List.mem_append_right _ (List.mem_append_right _ (List.mem_append_right _ (List.mem_append_right _ (List.mem_append_right _ (List.mem_append_right _ (List.mem_append_right _ (List.mem_append_right _ (List.mem_append_right _ (List.mem_append_right _ (List.mem_append_right _ (List.mem_append_right _ (List.mem_append_right _ (List.mem_append_right _ (List.mem_append_right _ (List.mem_append_right _ (List.mem_append_right _ (List.mem_append_right _ (List.mem_append_right _ (List.mem_append_left _ h))))))))))))))))))))))))))))))))))
theorem in_r35 : ∀ w ∈ wsL_law_r35, w ∈ wsL_law := fun w h => in_A w (List.mem_append_right _ (List.mem_append_right _ (List.mem_append_right _ (List.mem_append_right _ (List.mem_append_right _ (List.mem_append_right _ (List.mem_append_right _ (List.mem_append_right _ (List.mem_append_right _ (List.mem_append_right _ (List.mem_append_right _ (List.mem_append_right _ (List.mem_append_right _ (List.mem_append_right _ (List.mem_append_right _ (List.mem_append_right _ (List.mem_append_right _ (List.mem_append_right _ (List.mem_append_right _ (List.mem_append_right _ (List.mem_append_right _ (List.mem_append_right _ (List.mem_append_right _ (List.mem_append_right _ (List.mem_append_right _ (List.mem_append_right _ (List.mem_append_right _ (List.mem_append_right _ (List.mem_append_right _ (List.mem_append_right _ (List.mem_append_right _ (List.mem_append_right _ (List.mem_append_right _ (List.mem_append_right _ (List.mem_append_left _ h)))))))))))))))))))))))))))))))))))
theorem in_r36 : ∀ w ∈ wsL_law_r36, w ∈ wsL_law := fun w h => in_A w (List.mem_append_right _ (List.mem_append_right _ (List.mem_append_right _ (List.mem_append_right _ (List.mem_append_right _ (List.mem_append_right _ (List.mem_append_right _ (List.mem_append_right _ (List.mem_append_right _ (List.mem_append_right _ (List.mem_append_right _ (List.mem_append_right _ (List.mem_append_right _ (List.mem_append_right _ (List.mem_append_right _ (List.mem_append_right _ (List.mem_append_right _ (List.mem_append_right _ (List.mem_append_right _ (List.mem_append_right _ (List.mem_append_right _ (List.mem_append_right _ (List.mem_append_right _ (List.mem_append_right _ (List.mem_append_right _ (List.mem_append_right _ (List.mem_append_right _ (List.mem_append_right _ (List.mem_append_right _ (List.mem_append_right _ (List.mem_append_right _ (List.mem_append_right _ (List.mem_append_right _ (List.mem_append_right _ (List.mem_append_right _ (List.mem_append_left _ h))))))))))))))))))))))))))))))))))))
theorem in_r37 : ∀ w ∈ wsL_law_r37, w ∈ wsL_law := fun w h => in_A w (List.mem_append_right _ (List.mem_append_right _ (List.mem_append_right _ (List.mem_append_right _ (List.mem_append_right _ (List.mem_append_right _ (List.mem_append_right _ (List.mem_append_right _ (List.mem_append_right _ (List.mem_append_right _ (List.mem_append_right _ (List.mem_append_right _ (List.mem_append_right _ (List.mem_append_right _ (List.mem_append_right _ (List.mem_append_right _ (List.mem_append_right _ (List.mem_append_right _ (List.mem_append_right _ (List.mem_append_right _ (List.mem_append_right _ (List.mem_append_right _ (List.mem_append_right _ (List.mem_append_right _ (List.mem_append_right _ (List.mem_append_right _ (List.mem_append_right _ (List.mem_append_right _ (List.mem_append_right _ (List.mem_append_right _ (List.mem_append_right _ (List.mem_append_right _ (List.mem_append_right _ (List.mem_append_right _ (List.mem_append_right _ (List.mem_append_right _ (List.mem_append_left _ h)))))))))))))))))))))))))))))))))))))
theorem in_r38 : ∀ w ∈ wsL_law_r38, w ∈ wsL_law := fun w h => in_A w (List.mem_append_right _ (List.mem_append_right _ (List.mem_append_right _ (List.mem_append_right _ (List.mem_append_right _ (List.mem_append_right _ (List.mem_append_right _ (List.mem_append_right _ (List.mem_append_right _ (List.mem_append_right _ (List.mem_append_right _ (List.mem_append_right _ (List.mem_append_right _ (List.mem_append_right _ (List.mem_append_right _ (List.mem_append_right _ (List.mem_append_right _ (List.mem_append_right _ (List.mem_append_right _ (List.mem_append_right _ (List.mem_append_right _ (List.mem_append_right _ (List.mem_append_right _ (List.mem_append_right _ (List.mem_append_right _ (List.mem_append_right _ (List.mem_append_right _ (List.mem_append_right _ (List.mem_append_right _ (List.mem_append_right _ (List.mem_append_right _ (List.mem_append_right _ (List.mem_append_right _ (List.mem_append_right _ (List.mem_append_right _ (List.mem_append_right _ (List.mem_append_right _ (List.mem_append_left _ h))))))))))))))))))))))))))))))))))))))
theorem in_r39 : ∀ w ∈ wsL_law_r39, w ∈ wsL_law := fun w h => in_A w (List.mem_append_right _ (List.mem_append_right _ (List.mem_append_right _ (List.mem_append_right _ (List.mem_append_right _ (List.mem_append_right _ (List.mem_append_right _ (List.mem_append_right _ (List.mem_append_right _ (List.mem_append_right _ (List.mem_append_right _ (List.mem_append_right _ (List.mem_append_right _ (List.mem_append_right _ (List.mem_append_right _ (List.mem_append_right _ (List.mem_append_right _ (List.mem_append_right _ (List.mem_append_right _ (List.mem_append_right _ (List.mem_append_right _ (List.mem_append_right _ (List.mem_append_right _ (List.mem_append_right _ (List.mem_append_right _ (List.mem_append_right _ (List.mem_append_right _ (List.mem_append_right _ (List.mem_append_right _ (List.mem_append_right _ (List.mem_append_right _ (List.mem_append_right _ (List.mem_append_right _ (List.mem_append_right _ (List.mem_append_right _ (List.mem_append_right _ (List.mem_append_right _ (List.mem_append_right _ (List.mem_append_left _ h)))))))))))))))))))))))))))))))))))))))
theorem in_r40 : ∀ w ∈ wsL_law_r40, w ∈ wsL_law := fun w h => in_A w (List.mem_append_right _ (List.mem_append_right _ (List.mem_append_right _ (List.mem_append_right _ (List.mem_append_right _ (List.mem_append_right _ (List.mem_append_right _ (List.mem_append_right _ (List.mem_append_right _ (List.mem_append_right _ (List.mem_append_right _ (List.mem_append_right _ (List.mem_append_right _ (List.mem_append_right _ (List.mem_append_right _ (List.mem_append_right _ (List.mem_append_right _ (List.mem_append_right _ (List.mem_append_right _ (List.mem_append_right _ (List.mem_append_right _ (List.mem_append_right _ (List.mem_append_right _ (List.mem_append_right _ (List.mem_append_right _ (List.mem_append_right _ (List.mem_append_right _ (List.mem_append_right _ (List.mem_append_right _ (List.mem_append_right _ (List.mem_append_right _ (List.mem_append_right _ (List.mem_append_right _ (List.mem_append_right _ (List.mem_append_right _ (List.mem_append_right _ (List.mem_append_right _ (List.mem_append_right _ (List.mem_append_right _ (List.mem_append_left _ h))))))))))))))))))))))))))))))))))))))))
theorem in_r41 : ∀ w ∈ wsL_law_r41, w ∈ wsL_law := fun w h => in_A w (List.mem_append_right _ (List.mem_append_right _ (List.mem_append_right _ (List.mem_append_right _ (List.mem_append_right _ (List.mem_append_right _ (List.mem_append_right _ (List.mem_append_right _ (List.mem_append_right _ (List.mem_append_right _ (List.mem_append_right _ (List.mem_append_right _ (List.mem_append_right _ (List.mem_append_right _ (List.mem_append_right _ (List.mem_append_right _ (List.mem_append_right _ (List.mem_append_right _ (List.mem_append_right _ (List.mem_append_right _ (List.mem_append_right _ (List.mem_append_right _ (List.mem_append_right _ (List.mem_append_right _ (List.mem_append_right _ (List.mem_append_right _ (List.mem_append_right _ (List.mem_append_right _ (List.mem_append_right _ (List.mem_append_right _ (List.mem_append_right _ (List.mem_append_right _ (List.mem_append_right _ (List.mem_append_right _ (List.mem_append_right _ (List.mem_append_right _ (List.mem_append_right _ (List.mem_append_right _ (List.mem_append_right _ (List.mem_append_right _ (List.mem_append_left _ h)))))))))))))))))))))))))))))))))))))))))
theorem in_r42 : ∀ w ∈ wsL_law_r42, w ∈ wsL_law := fun w h => in_A w (List.mem_append_right _ (List.mem_append_right _ (List.mem_append_right _ (List.mem_append_right _ (List.mem_append_right _ (List.mem_append_right _ (List.mem_append_right _ (List.mem_append_right _ (List.mem_append_right _ (List.mem_append_right _ (List.mem_append_right _ (List.mem_append_right _ (List.mem_append_right _ (List.mem_append_right _ (List.mem_append_right _ (List.mem_append_right _ (List.mem_append_right _ (List.mem_append_right _ (List.mem_append_right _ (List.mem_append_right _ (List.mem_append_right _ (List.mem_append_right _ (List.mem_append_right _ (List.mem_append_right _ (List.mem_append_right _ (List.mem_append_right _ (List.mem_append_right _ (List.mem_append_right _ (List.mem_append_right _ (List.mem_append_right _ (List.mem_append_right _ (List.mem_append_right _ (List.mem_append_right _ (List.mem_append_right _ (List.mem_append_right _ (List.mem_append_right _ (List.mem_append_right _ (List.mem_append_right _ (List.mem_append_right _ (List.mem_append_right _ (List.mem_append_right _ (List.mem_append_left _ h))))))))))))))))))))))))))))))))))))))))))
theorem in_r43 : ∀ w ∈ wsL_law_r43, w ∈ wsL_law := fun w h => in_A w (List.mem_append_right _ (List.mem_append_right _ (List.mem_append_right _ (List.mem_append_right _ (List.mem_append_right _ (List.mem_append_right _ (List.mem_append_right _ (List.mem_append_right _ (List.mem_append_right _ (List.mem_append_right _ (List.mem_append_right _ (List.mem_append_right _ (List.mem_append_right _ (List.mem_append_right _ (List.mem_append_right _ (List.mem_append_right _ (List.mem_append_right _ (List.mem_append_right _ (List.mem_append_right _ (List.mem_append_right _ (List.mem_append_right _ (List.mem_append_right _ (List.mem_append_right _ (List.mem_append_right _ (List.mem_append_right _ (List.mem_append_right _ (List.mem_append_right _ (List.mem_append_right _ (List.mem_append_right _ (List.mem_append_right _ (List.mem_append_right _ (List.mem_append_right _ (List.mem_append_right _ (List.mem_append_right _ (List.mem_append_right _ (List.mem_append_right _ (List.mem_append_right _ (List.mem_append_right _ (List.mem_append_right _ (List.mem_append_right _ (List.mem_append_right _ (List.mem_append_right _ (List.mem_append_left _ h)))))))))))))))))))))))))))))))))))))))))))
theorem in_r44 : ∀ w ∈ wsL_law_r44, w ∈ wsL_law := fun w h => in_A w (List.mem_append_right _ (List.mem_append_right _ (List.mem_append_right _ (List.mem_append_right _ (List.mem_append_right _ (List.mem_append_right _ (List.mem_append_right _ (List.mem_append_right _ (List.mem_append_right _ (List.mem_append_right _ (List.mem_append_right _ (List.mem_append_right _ (List.mem_append_right _ (List.mem_append_right _ (List.mem_append_right _ (List.mem_append_right _ (List.mem_append_right _ (List.mem_append_right _ (List.mem_append_right _ (List.mem_append_right _ (List.mem_append_right _ (List.mem_append_right _ (List.mem_append_right _ (List.mem_append_right _ (List.mem_append_right _ (List.mem_append_right _ (List.mem_append_right _ (List.mem_append_right _ (List.mem_append_right _ (List.mem_append_right _ (List.mem_append_right _ (List.mem_append_right _ (List.mem_append_right _ (List.mem_append_right _ (List.mem_append_right _ (List.mem_append_right _ (List.mem_append_right _ (List.mem_append_right _ (List.mem_append_right _ (List.mem_append_right _ (List.mem_append_right _ (List.mem_append_right _ (List.mem_append_right _ (List.mem_append_left _ h))))))))))))))))))))))))))))))))))))))))))))
theorem in_r45 : ∀ w ∈ wsL_law_r45, w ∈ wsL_law := fun w h => in_A w (List.mem_append_right _ (List.mem_append_right _ (List.mem_append_right _ (List.mem_append_right _ (List.mem_append_right _ (List.mem_append_right _ (List.mem_append_right _ (List.mem_append_right _ (List.mem_append_right _ (List.mem_append_right _ (List.mem_append_right _ (List.mem_append_right _ (List.mem_append_right _ (List.mem_append_right _ (List.mem_append_right _ (List.mem_append_right _ (List.mem_append_right _ (List.mem_append_right _ (List.mem_append_right _ (List.mem_append_right _ (List.mem_append_right _ (List.mem_append_right _ (List.mem_append_right _ (List.mem_append_right _ (List.mem_append_right _ (List.mem_append_right _ (List.mem_append_right _ (List.mem_append_right _ (List.mem_append_right _ (List.mem_append_right _ (List.mem_append_right _ (List.mem_append_right _ (List.mem_append_right _ (List.mem_append_right _ (List.mem_append_right _ (List.mem_append_right _ (List.mem_append_right _ (List.mem_append_right _ (List.mem_append_right _ (List.mem_append_right _ (List.mem_append_right _ (List.mem_append_right _ (List.mem_append_right _ (List.mem_append_right _ (List.mem_append_left _ h)))))))))))))))))))))))))))))))))))))))))))))
theorem in_r46 : ∀ w ∈ wsL_law_r46, w ∈ wsL_law := fun w h => in_A w (List.mem_append_right _ (List.mem_append_right _ (List.mem_append_right _ (List.mem_append_right _ (List.mem_append_right _ (List.mem_append_right _ (List.mem_append_right _ (List.mem_append_right _ (List.mem_append_right _ (List.mem_append_right _ (List.mem_append_right _ (List.mem_append_right _ (List.mem_append_right _ (List.mem_append_right _ (List.mem_append_right _ (List.mem_append_right _ (List.mem_append_right _ (List.mem_append_right _ (List.mem_append_right _ (List.mem_append_right _ (List.mem_append_right _ (List.mem_append_right _ (List.mem_append_right _ (List.mem_append_right _ (List.mem_append_right _ (List.mem_append_right _ (List.mem_append_right _ (List.mem_append_right _ (List.mem_append_right _ (List.mem_append_right _ (List.mem_append_right _ (List.mem_append_right _ (List.mem_append_right _ (List.mem_append_right _ (List.mem_append_right _ (List.mem_append_right _ (List.mem_append_right _ (List.mem_append_right _ (List.mem_append_right _ (List.mem_append_right _ (List.mem_append_right _ (List.mem_append_right _ (List.mem_append_right _ (List.mem_append_right _ (List.mem_append_right _ (List.mem_append_left _ h))))))))))))))))))))))))))))))))))))))))))))))
theorem in_r47 : ∀ w ∈ wsL_law_r47, w ∈ wsL_law := fun w h => in_A w (List.mem_append_right _ (List.mem_append_right _ (List.mem_append_right _ (List.mem_append_right _ (List.mem_append_right _ (List.mem_append_right _ (List.mem_append_right _ (List.mem_append_right _ (List.mem_append_right _ (List.mem_append_right _ (List.mem_append_right _ (List.mem_append_right _ (List.mem_append_right _ (List.mem_append_right _ (List.mem_append_right _ (List.mem_append_right _ (List.mem_append_right _ (List.mem_append_right _ (List.mem_append_right _ (List.mem_append_right _ (List.mem_append_right _ (List.mem_append_right _ (List.mem_append_right _ (List.mem_append_right _ (List.mem_append_right _ (List.mem_append_right _ (List.mem_append_right _ (List.mem_append_right _ (List.mem_append_right _ (List.mem_append_right _ (List.mem_append_right _ (List.mem_append_right _ (List.mem_append_right _ (List.mem_append_right _ (List.mem_append_right _ (List.mem_append_right _ (List.mem_append_right _ (List.mem_append_right _ (List.mem_append_right _ (List.mem_append_right _ (List.mem_append_right _ (List.mem_append_right _ (List.mem_append_right _ (List.mem_append_right _ (List.mem_append_right _ (List.mem_append_right _ (List.mem_append_left _ h)))))))))))))))))))))))))))))))))))))))))))))))
theorem in_r48 : ∀ w ∈ wsL_law_r48, w ∈ wsL_law := fun w h => in_A w (List.mem_append_right _ (List.mem_append_right _ (List.mem_append_right _ (List.mem_append_right _ (List.mem_append_right _ (List.mem_append_right _ (List.mem_append_right _ (List.mem_append_right _ (List.mem_append_right _ (List.mem_append_right _ (List.mem_append_right _ (List.mem_append_right _ (List.mem_append_right _ (List.mem_append_right _ (List.mem_append_right _ (List.mem_append_right _ (List.mem_append_right _ (List.mem_append_right _ (List.mem_append_right _ (List.mem_append_right _ (List.mem_append_right _ (List.mem_append_right _ (List.mem_append_right _ (List.mem_append_right _ (List.mem_append_right _ (List.mem_append_right _ (List.mem_append_right _ (List.mem_append_right _ (List.mem_append_right _ (List.mem_append_right _ (List.mem_append_right _ (List.mem_append_right _ (List.mem_append_right _ (List.mem_append_right _ (List.mem_append_right _ (List.mem_append_right _ (List.mem_append_right _ (List.mem_append_right _ (List.mem_append_right _ (List.mem_append_right _ (List.mem_append_right _ (List.mem_append_right _ (List.mem_append_right _ (List.mem_append_right _ (List.mem_append_right _ (List.mem_append_right _ (List.mem_append_right _ (List.mem_append_left _ h))))))))))))))))))))))))))))))))))))))))))))))))
theorem in_r49 : ∀ w ∈ wsL_law_r49, w ∈ wsL_law := fun w h => in_A w (List.mem_append_right _ (List.mem_append_right _ (List.mem_append_right _ (List.mem_append_right _ (List.mem_append_right _ (List.mem_append_right _ (List.mem_append_right _ (List.mem_append_right _ (List.mem_append_right _ (List.mem_append_right _ (List.mem_append_right _ (List.mem_append_right _ (List.mem_append_right _ (List.mem_append_right _ (List.mem_append_right _ (List.mem_append_right _ (List.mem_append_right _ (List.mem_append_right _ (List.mem_append_right _ (List.mem_append_right _ (List.mem_append_right _ (List.mem_append_right _ (List.mem_append_right _ (List.mem_append_right _ (List.mem_append_right _ (List.mem_append_right _ (List.mem_append_right _ (List.mem_append_right _ (List.mem_append_right _ (List.mem_append_right _ (List.mem_append_right _ (List.mem_append_right _ (List.mem_append_right _ (List.mem_append_right _ (List.mem_append_right _ (List.mem_append_right _ (List.mem_append_right _ (List.mem_append_right _ (List.mem_append_right _ (List.mem_append_right _ (List.mem_append_right _ (List.mem_append_right _ (List.mem_append_right _ (List.mem_append_right _ (List.mem_append_right _ (List.mem_append_right _ (List.mem_append_right _ (List.mem_append_right _ (List.mem_append_left _ h)))))))))))))))))))))))))))))))))))))))))))))))))
theorem in_r50 : ∀ w ∈ wsL_law_r50, w ∈ wsL_law := fun w h => in_A w (List.mem_append_right _ (List.mem_append_right _ (List.mem_append_right _ (List.mem_append_right _ (List.mem_append_right _ (List.mem_append_right _ (List.mem_append_right _ (List.mem_append_right _ (List.mem_append_right _ (List.mem_append_right _ (List.mem_append_right _ (List.mem_append_right _ (List.mem_append_right _ (List.mem_append_right _ (List.mem_append_right _ (List.mem_append_right _ (List.mem_append_right _ (List.mem_append_right _ (List.mem_append_right _ (List.mem_append_right _ (List.mem_append_right _ (List.mem_append_right _ (List.mem_append_right _ (List.mem_append_right _ (List.mem_append_right _ (List.mem_append_right _ (List.mem_append_right _ (List.mem_append_right _ (List.mem_append_right _ (List.mem_append_right _ (List.mem_append_right _ (List.mem_append_right _ (List.mem_append_right _ (List.mem_append_right _ (List.mem_append_right _ (List.mem_append_right _ (List.mem_append_right _ (List.mem_append_right _ (List.mem_append_right _ (List.mem_append_right _ (List.mem_append_right _ (List.mem_append_right _ (List.mem_append_right _ (List.mem_append_right _ (List.mem_append_right _ (List.mem_append_right _ (List.mem_append_right _ (List.mem_append_right _ (List.mem_append_right _ (List.mem_append_left _ h))))))))))))))))))))))))))))))))))))))))))))))))))
theorem in_r51 : ∀ w ∈ wsL_law_r51, w ∈ wsL_law := fun w h => in_A w (List.mem_append_right _ (List.mem_append_right _ (List.mem_append_right _ (List.mem_append_right _ (List.mem_append_right _ (List.mem_append_right _ (List.mem_append_right _ (List.mem_append_right _ (List.mem_append_right _ (List.mem_append_right _ (List.mem_append_right _ (List.mem_append_right _ (List.mem_append_right _ (List.mem_append_right _ (List.mem_append_right _ (List.mem_append_right _ (List.mem_append_right _ (List.mem_append_right _ (List.mem_append_right _ (List.mem_append_right _ (List.mem_append_right _ (List.mem_append_right _ (List.mem_append_right _ (List.mem_append_right _ (List.mem_append_right _ (List.mem_append_right _ (List.mem_append_right _ (List.mem_append_right _ (List.mem_append_right _ (List.mem_append_right _ (List.mem_append_right _ (List.mem_append_right _ (List.mem_append_right _ (List.mem_append_right _ (List.mem_append_right _ (List.mem_append_right _ (List.mem_append_right _ (List.mem_append_right _ (List.mem_append_right _ (List.mem_append_right _ (List.mem_append_right _ (List.mem_append_right _ (List.mem_append_right _ (List.mem_append_right _ (List.mem_append_right _ (List.mem_append_right _ (List.mem_append_right _ (List.mem_append_right _ (List.mem_append_right _ (List.mem_append_right _ (List.mem_append_left _ h)))))))))))))))))))))))))))))))))))))))))))))))))))
theorem in_r52 : ∀ w ∈ wsL_law_r52, w ∈ wsL_law := fun w h => in_A w (List.mem_append_right _ (List.mem_append_right _ (List.mem_append_right _ (List.mem_append_right _ (List.mem_append_right _ (List.mem_append_right _ (List.mem_append_right _ (List.mem_append_right _ (List.mem_append_right _ (List.mem_append_right _ (List.mem_append_right _ (List.mem_append_right _ (List.mem_append_right _ (List.mem_append_right _ (List.mem_append_right _ (List.mem_append_right _ (List.mem_append_right _ (List.mem_append_right _ (List.mem_append_right _ (List.mem_append_right _ (List.mem_append_right _ (List.mem_append_right _ (List.mem_append_right _ (List.mem_append_right _ (List.mem_append_right _ (List.mem_append_right _ (List.mem_append_right _ (List.mem_append_right _ (List.mem_append_right _ (List.mem_append_right _ (List.mem_append_right _ (List.mem_append_right _ (List.mem_append_right _ (List.mem_append_right _ (List.mem_append_right _ (List.mem_append_right _ (List.mem_append_right _ (List.mem_append_right _ (List.mem_append_right _ (List.mem_append_right _ (List.mem_append_right _ (List.mem_append_right _ (List.mem_append_right _ (List.mem_append_right _ (List.mem_append_right _ (List.mem_append_right _ (List.mem_append_right _ (List.mem_append_right _ (List.mem_append_right _ (List.mem_append_right _ (List.mem_append_right _ (List.mem_append_left _ h))))))))))))))))))))))))))))))))))))))))))))))))))))
theorem in_r53 : ∀ w ∈ wsL_law_r53, w ∈ wsL_law := fun w h => in_A w (List.mem_append_right _ (List.mem_append_right _ (List.mem_append_right _ (List.mem_append_right _ (List.mem_append_right _ (List.mem_append_right _ (List.mem_append_right _ (List.mem_append_right _ (List.mem_append_right _ (List.mem_append_right _ (List.mem_append_right _ (List.mem_append_right _ (List.mem_append_right _ (List.mem_append_right _ (List.mem_append_right _ (List.mem_append_right _ (List.mem_append_right _ (List.mem_append_right _ (List.mem_append_right _ (List.mem_append_right _ (List.mem_append_right _ (List.mem_append_right _ (List.mem_append_right _ (List.mem_append_right _ (List.mem_append_right _ (List.mem_append_right _ (List.mem_append_right _ (List.mem_append_right _ (List.mem_append_right _ (List.mem_append_right _ (List.mem_append_right _ (List.mem_append_right _ (List.mem_append_right _ (List.mem_append_right _ (List.mem_append_right _ (List.mem_append_right _ (List.mem_append_right _ (List.mem_append_right _ (List.mem_append_right _ (List.mem_append_right _ (List.mem_append_right _ (List.mem_append_right _ (List.mem_append_right _ (List.mem_append_right _ (List.mem_append_right _ (List.mem_append_right _ (List.mem_append_right _ (List.mem_append_right _ (List.mem_append_right _ (List.mem_append_right _ (List.mem_append_right _ (List.mem_append_right _ (List.mem_append_left _ h)))))))))))))))))))))))))))))))))))))))))))))))))))))
theorem in_r54 : ∀ w ∈ wsL_law_r54, w ∈ wsL_law := fun w h => in_A w (List.mem_append_right _ (List.mem_append_right _ (List.mem_append_right _ (List.mem_append_right _ (List.mem_append_right _ (List.mem_append_right _ (List.mem_append_right _ (List.mem_append_right _ (List.mem_append_right _ (List.mem_append_right _ (List.mem_append_right _ (List.mem_append_right _ (List.mem_append_right _ (List.mem_append_right _ (List.mem_append_right _ (List.mem_append_right _ (List.mem_append_right _ (List.mem_append_right _ (List.mem_append_right _ (List.mem_append_right _ (List.mem_append_right _ (List.mem_append_right _ (List.mem_append_right _ (List.mem_append_right _ (List.mem_append_right _ (List.mem_append_right _ (List.mem_append_right _ (List.mem_append_right _ (List.mem_append_right _ (List.mem_append_right _ (List.mem_append_right _ (List.mem_append_right _ (List.mem_append_right _ (List.mem_append_right _ (List.mem_append_right _ (List.mem_append_right _ (List.mem_append_right _ (List.mem_append_right _ (List.mem_append_right _ (List.mem_append_right _ (List.mem_append_right _ (List.mem_append_right _ (List.mem_append_right _ (List.mem_append_right _ (List.mem_append_right _ (List.mem_append_right _ (List.mem_append_right _ (List.mem_append_right _ (List.mem_append_right _ (List.mem_append_right _ (List.mem_append_right _ (List.mem_append_right _ (List.mem_append_right _ (List.mem_append_left _ h))))))))))))))))))))))))))))))))))))))))))))))))))))))
theorem in_r55 : ∀ w ∈ wsL_law_r55, w ∈ wsL_law := fun w h => in_A w (List.mem_append_right _ (List.mem_append_right _ (List.mem_append_right _ (List.mem_append_right _ (List.mem_append_right _ (List.mem_append_right _ (List.mem_append_right _ (List.mem_append_right _ (List.mem_append_right _ (List.mem_append_right _ (List.mem_append_right _ (List.mem_append_right _ (List.mem_append_right _ (List.mem_append_right _ (List.mem_append_right _ (List.mem_append_right _ (List.mem_append_right _ (List.mem_append_right _ (List.mem_append_right _ (List.mem_append_right _ (List.mem_append_right _ (List.mem_append_right _ (List.mem_append_right _ (List.mem_append_right _ (List.mem_append_right _ (List.mem_append_right _ (List.mem_append_right _ (List.mem_append_right _ (List.mem_append_right _ (List.mem_append_right _ (List.mem_append_right _ (List.mem_append_right _ (List.mem_append_right _ (List.mem_append_right _ (List.mem_append_right _ (List.mem_append_right _ (List.mem_append_right _ (List.mem_append_right _ (List.mem_append_right _ (List.mem_append_right _ (List.mem_append_right _ (List.mem_append_right _ (List.mem_append_right _ (List.mem_append_right _ (List.mem_append_right _ (List.mem_append_right _ (List.mem_append_right _ (List.mem_append_right _ (List.mem_append_right _ (List.mem_append_right _ (List.mem_append_right _ (List.mem_append_right _ (List.mem_append_right _ (List.mem_append_right _ (List.mem_append_left _ h)))))))))))))))))))))))))))))))))))))))))))))))))))))))
theorem in_r56 : ∀ w ∈ wsL_law_r56, w ∈ wsL_law := fun w h => in_A w (List.mem_append_right _ (List.mem_append_right _ (List.mem_append_right _ (List.mem_append_right _ (List.mem_append_right _ (List.mem_append_right _ (List.mem_append_right _ (List.mem_append_right _ (List.mem_append_right _ (List.mem_append_right _ (List.mem_append_right _ (List.mem_append_right _ (List.mem_append_right _ (List.mem_append_right _ (List.mem_append_right _ (List.mem_append_right _ (List.mem_append_right _ (List.mem_append_right _ (List.mem_append_right _ (List.mem_append_right _ (List.mem_append_right _ (List.mem_append_right _ (List.mem_append_right _ (List.mem_append_right _ (List.mem_append_right _ (List.mem_append_right _ (List.mem_append_right _ (List.mem_append_right _ (List.mem_append_right _ (List.mem_append_right _ (List.mem_append_right _ (List.mem_append_right _ (List.mem_append_right _ (List.mem_append_right _ (List.mem_append_right _ (List.mem_append_right _ (List.mem_append_right _ (List.mem_append_right _ (List.mem_append_right _ (List.mem_append_right _ (List.mem_append_right _ (List.mem_append_right _ (List.mem_append_right _ (List.mem_append_right _ (List.mem_append_right _ (List.mem_append_right _ (List.mem_append_right _ (List.mem_append_right _ (List.mem_append_right _ (List.mem_append_right _ (List.mem_append_right _ (List.mem_append_right _ (List.mem_append_right _ (List.mem_append_right _ (List.mem_append_right _ (List.mem_append_left _ h))))))))))))))))))))))))))))))))))))))))))))))))))))))))
theorem in_r57 : ∀ w ∈ wsL_law_r57, w ∈ wsL_law := fun w h => in_A w (List.mem_append_right _ (List.mem_append_right _ (List.mem_append_right _ (List.mem_append_right _ (List.mem_append_right _ (List.mem_append_right _ (List.mem_append_right _ (List.mem_append_right _ (List.mem_append_right _ (List.mem_append_right _ (List.mem_append_right _ (List.mem_append_right _ (List.mem_append_right _ (List.mem_append_right _ (List.mem_append_right _ (List.mem_append_right _ (List.mem_append_right _ (List.mem_append_right _ (List.mem_append_right _ (List.mem_append_right _ (List.mem_append_right _ (List.mem_append_right _ (List.mem_append_right _ (List.mem_append_right _ (List.mem_append_right _ (List.mem_append_right _ (List.mem_append_right _ (List.mem_append_right _ (List.mem_append_right _ (List.mem_append_right _ (List.mem_append_right _ (List.mem_append_right _ (List.mem_append_right _ (List.mem_append_right _ (List.mem_append_right _ (List.mem_append_right _ (List.mem_append_right _ (List.mem_append_right _ (List.mem_append_right _ (List.mem_append_right _ (List.mem_append_right _ (List.mem_append_right _ (List.mem_append_right _ (List.mem_append_right _ (List.mem_append_right _ (List.mem_append_right _ (List.mem_append_right _ (List.mem_append_right _ (List.mem_append_right _ (List.mem_append_right _ (List.mem_append_right _ (List.mem_append_right _ (List.mem_append_right _ (List.mem_append_right _ (List.mem_append_right _ (List.mem_append_right _ h))))))))))))))))))))))))))))))))))))))))))))))))))))))))
abbrev mX0_open : MD := (yX0_open, cX0_open, 4, none, RX0, 3, 63)
abbrev mX0_pricesAsTold : MD := (yX0_pricesAsTold, cX0_pricesAsTold, 1, none, RX0, 1, 26)
abbrev mX0_lossesAsTold : MD := (yX0_lossesAsTold, cX0_lossesAsTold, 1, none, RX0, 2, 43)
abbrev mX0_lossesAt : MD := (yX0_lossesAt, cX0_lossesAt, 3, none, RX0, 2, 43)
abbrev mX0_stampAll : MD := (yX0_stampAll, cX0_stampAll, 3, none, RX0, 1, 21)
abbrev mX0_earned : MD := (yX0_earned, cX0_earned, 4, (some .int), RX0, 1, 26)
abbrev mX0_coinsBehind : MD := (yX0_coinsBehind, cX0_coinsBehind, 5, (some .int), RX0, 0, 0)
abbrev mX0_heldForWeek : MD := (yX0_heldForWeek, cX0_heldForWeek, 4, (some .int), RX0, 1, 21)
abbrev mX0_neededAhead : MD := (yX0_neededAhead, cX0_neededAhead, 4, (some .int), RX0, 0, 0)
abbrev mX0_movePrices : MD := (yX0_movePrices, cX0_movePrices, 5, (some .boolean), RX0, 0, 0)
abbrev mX1_forget : MD := (yX1_forget, cX1_forget, 1, none, RX1, 1, 23)
abbrev mX1_takeDraft : MD := (yX1_takeDraft, cX1_takeDraft, 1, none, RX1, 1, 26)
abbrev mX1_start : MD := (yX1_start, cX1_start, 7, none, RX1, 0, 0)
abbrev mX1_goOn : MD := (yX1_goOn, cX1_goOn, 14, none, RX1, 1, 26)
abbrev mX1_isAtRest : MD := (yX1_isAtRest, cX1_isAtRest, 5, (some .boolean), RX1, 2, 59)
abbrev mX2_search : MD := (yX2_search, cX2_search, 9, (some .int), RX2, 3, 90)
abbrev mX2_spread : MD := (yX2_spread, cX2_spread, 6, none, RX2, 2, 57)
abbrev mX2_withEarned : MD := (yX2_withEarned, cX2_withEarned, 7, (some .long), RX2, 0, 0)
abbrev mX2_spend : MD := (yX2_spend, cX2_spend, 12, none, RX2, 1, 26)
abbrev mX2_sleep : MD := (yX2_sleep, cX2_sleep, 8, none, RX2, 1, 24)
abbrev mX2_weighDay : MD := (yX2_weighDay, cX2_weighDay, 11, (some .int), RX2, 2, 60)
abbrev mX2_weigh : MD := (yX2_weigh, cX2_weigh, 15, none, RX2, 1, 26)
abbrev mX3_readTown : MD := (yX3_readTown, cX3_readTown, 5, (some .boolean), RX3, 8, 176)
abbrev mX3_readBook : MD := (yX3_readBook, cX3_readBook, 5, (some .int), RX3, 7, 159)
abbrev mX3_readValues : MD := (yX3_readValues, cX3_readValues, 4, (some .boolean), RX3, 7, 159)
abbrev mX3_note : MD := (yX3_note, cX3_note, 2, none, RX3, 0, 0)
abbrev mX3_clauseAtHand : MD := (yX3_clauseAtHand, cX3_clauseAtHand, 2, (some .int), RX3, 7, 155)
abbrev mX3_faultInParts : MD := (yX3_faultInParts, cX3_faultInParts, 8, (some .int), RX3, 6, 132)
abbrev mX3_faultOfName : MD := (yX3_faultOfName, cX3_faultOfName, 7, (some .int), RX3, 2, 47)
abbrev mX3_faultOfNumber : MD := (yX3_faultOfNumber, cX3_faultOfNumber, 6, (some .int), RX3, 1, 23)
abbrev mX3_lettersOf : MD := (yX3_lettersOf, cX3_lettersOf, 4, (some .long), RX3, 6, 132)
abbrev mX3_wordOf : MD := (yX3_wordOf, cX3_wordOf, 1, (some (.object "java/lang/String")), RX3, 0, 0)
abbrev mX3_shapeOf : MD := (yX3_shapeOf, cX3_shapeOf, 1, (some (.object "java/lang/String")), RX3, 0, 0)
abbrev mX3_leastOf : MD := (yX3_leastOf, cX3_leastOf, 1, (some .int), RX3, 0, 0)
abbrev mX3_mostOf : MD := (yX3_mostOf, cX3_mostOf, 1, (some .int), RX3, 0, 0)
abbrev mX4_begin : MD := (yX4_begin, cX4_begin, 3, none, RX4, 1, 23)
abbrev mX4_become : MD := (yX4_become, cX4_become, 2, none, RX4, 1, 26)
abbrev mX4_sum : MD := (yX4_sum, cX4_sum, 4, (some .int), RX4, 0, 0)
abbrev mX4_round : MD := (yX4_round, cX4_round, 1, (some .int), RX4, 1, 26)
abbrev mX5_put : MD := (yX5_put, cX5_put, 3, none, RX5, 0, 0)
abbrev mX5_rewind : MD := (yX5_rewind, cX5_rewind, 1, none, RX5, 0, 0)
abbrev mX5_next : MD := (yX5_next, cX5_next, 1, none, RX5, 2, 40)
abbrev mX5_readWord : MD := (yX5_readWord, cX5_readWord, 1, none, RX5, 1, 20)
abbrev mX5_readNumber : MD := (yX5_readNumber, cX5_readNumber, 1, none, RX5, 1, 20)
abbrev mX5_isLetter : MD := (yX5_isLetter, cX5_isLetter, 1, (some .boolean), RX5, 0, 0)
abbrev mX5_isDigit : MD := (yX5_isDigit, cX5_isDigit, 1, (some .boolean), RX5, 0, 0)
abbrev mX6_load : MD := (yX6_load, cX6_load, 8, none, RX6, 0, 0)
abbrev mX6_mostFromStore : MD := (yX6_mostFromStore, cX6_mostFromStore, 2, (some .int), RX6, 0, 0)
abbrev mX6_priceOf : MD := (yX6_priceOf, cX6_priceOf, 3, (some .int), RX6, 0, 0)
abbrev mX6_allow : MD := (yX6_allow, cX6_allow, 7, (some .boolean), RX6, 1, 22)
abbrev mX6_habit : MD := (yX6_habit, cX6_habit, 9, (some .int), RX6, 1, 26)
abbrev mX7_forget : MD := (yX7_forget, cX7_forget, 1, none, RX7, 1, 23)
abbrev mX7_sortNamed : MD := (yX7_sortNamed, cX7_sortNamed, 3, (some .int), RX7, 1, 25)
abbrev mX7_thingNamed : MD := (yX7_thingNamed, cX7_thingNamed, 3, (some .int), RX7, 1, 25)
abbrev mX7_named : MD := (yX7_named, cX7_named, 6, (some .int), RX7, 0, 0)
abbrev mX7_name : MD := (yX7_name, cX7_name, 4, none, RX7, 0, 0)
abbrev mX7_isTold : MD := (yX7_isTold, cX7_isTold, 4, (some .boolean), RX7, 0, 0)
abbrev mX7_faultAhead : MD := (yX7_faultAhead, cX7_faultAhead, 2, (some .int), RX7, 1, 23)
abbrev mX7_tell : MD := (yX7_tell, cX7_tell, 3, none, RX7, 2, 46)
abbrev mX7_tellLoss : MD := (yX7_tellLoss, cX7_tellLoss, 3, none, RX7, 1, 23)
abbrev mX7_tellSort : MD := (yX7_tellSort, cX7_tellSort, 2, none, RX7, 0, 0)
abbrev mX7_tellThing : MD := (yX7_tellThing, cX7_tellThing, 2, none, RX7, 0, 0)
abbrev mX7_tellOn : MD := (yX7_tellOn, cX7_tellOn, 4, none, RX7, 1, 23)
abbrev mX7_tellWant : MD := (yX7_tellWant, cX7_tellWant, 3, none, RX7, 1, 23)
abbrev mX7_hold : MD := (yX7_hold, cX7_hold, 4, none, RX7, 0, 0)
abbrev mX7_isLoss : MD := (yX7_isLoss, cX7_isLoss, 7, (some .boolean), RX7, 0, 0)
abbrev mX8_takenAt : MD := (yX8_takenAt, cX8_takenAt, 3, none, RX8, 0, 0)
abbrev mX8_lookBack : MD := (yX8_lookBack, cX8_lookBack, 9, none, RX8, 3, 70)
abbrev mX8_offeringNote : MD := (yX8_offeringNote, cX8_offeringNote, 3, (some .int), RX8, 2, 48)
abbrev mX8_offeringOther : MD := (yX8_offeringOther, cX8_offeringOther, 3, (some .int), RX8, 2, 48)
abbrev mX8_behind : MD := (yX8_behind, cX8_behind, 3, (some .int), RX8, 1, 26)
abbrev mX8_mean : MD := (yX8_mean, cX8_mean, 3, (some .int), RX8, 0, 0)
abbrev mX8_losesOn : MD := (yX8_losesOn, cX8_losesOn, 2, (some .int), RX8, 0, 0)
abbrev mX9_passDay : MD := (yX9_passDay, cX9_passDay, 6, none, RX9, 5, 151)
abbrev mX9_openChest : MD := (yX9_openChest, cX9_openChest, 6, none, RX9, 1, 26)
abbrev mX9_serve : MD := (yX9_serve, cX9_serve, 14, none, RX9, 4, 118)
abbrev mX9_buy : MD := (yX9_buy, cX9_buy, 6, (some .int), RX9, 1, 26)
abbrev mX9_sleep : MD := (yX9_sleep, cX9_sleep, 10, none, RX9, 1, 24)
abbrev mX10_feed : MD := (yX10_feed, cX10_feed, 6, (some .int), RX10, 1, 22)
abbrev mX10_end : MD := (yX10_end, cX10_end, 2, (some .int), RX10, 0, 0)
abbrev mX10_town : MD := (yX10_town, cX10_town, 3, (some .int), RX10, 9, 200)
abbrev mX10_fault : MD := (yX10_fault, cX10_fault, 2, (some .int), RX10, 0, 0)
abbrev mX10_told : MD := (yX10_told, cX10_told, 5, (some .int), RX10, 1, 22)
abbrev mX10_toldOfSort : MD := (yX10_toldOfSort, cX10_toldOfSort, 3, (some .int), RX10, 0, 0)
abbrev mX10_earns : MD := (yX10_earns, cX10_earns, 3, (some .int), RX10, 1, 21)
abbrev mX10_price : MD := (yX10_price, cX10_price, 3, (some .int), RX10, 1, 21)
abbrev mX10_made : MD := (yX10_made, cX10_made, 3, (some .int), RX10, 1, 21)
abbrev mX10_wants : MD := (yX10_wants, cX10_wants, 5, (some .int), RX10, 1, 21)
abbrev mX10_night : MD := (yX10_night, cX10_night, 4, (some .int), RX10, 2, 43)
abbrev mX10_may : MD := (yX10_may, cX10_may, 7, (some .int), RX10, 3, 67)
abbrev mX10_best : MD := (yX10_best, cX10_best, 6, (some .int), RX10, 4, 118)
abbrev mX10_bestAct : MD := (yX10_bestAct, cX10_bestAct, 6, (some .int), RX10, 4, 118)
abbrev mX10_wayAct : MD := (yX10_wayAct, cX10_wayAct, 7, (some .int), RX10, 4, 118)
abbrev mX10_way : MD := (yX10_way, cX10_way, 4, (some .int), RX10, 2, 42)
abbrev mX10_pass : MD := (yX10_pass, cX10_pass, 3, (some .int), RX10, 6, 176)
abbrev mX10_run : MD := (yX10_run, cX10_run, 3, (some .int), RX10, 1, 21)
abbrev mX10_all : MD := (yX10_all, cX10_all, 2, (some .int), RX10, 2, 46)
abbrev mX10_anew : MD := (yX10_anew, cX10_anew, 2, (some .int), RX10, 2, 45)
abbrev mX10_keep : MD := (yX10_keep, cX10_keep, 2, (some .int), RX10, 2, 47)
abbrev mX10_take : MD := (yX10_take, cX10_take, 2, (some .int), RX10, 2, 47)
abbrev mX10_worthAt : MD := (yX10_worthAt, cX10_worthAt, 3, (some .int), RX10, 7, 199)
abbrev mX10_rate : MD := (yX10_rate, cX10_rate, 6, (some .int), RX10, 7, 199)
abbrev mX10_rest : MD := (yX10_rest, cX10_rest, 3, (some .int), RX10, 7, 197)
abbrev mX10_restTurns : MD := (yX10_restTurns, cX10_restTurns, 1, (some .int), RX10, 0, 0)
abbrev mX10_two : MD := (yX10_two, cX10_two, 10, (some .int), RX10, 4, 98)
abbrev mX10_lend : MD := (yX10_lend, cX10_lend, 7, (some .int), RX10, 2, 44)
abbrev mX10_early : MD := (yX10_early, cX10_early, 6, (some .int), RX10, 1, 23)
abbrev mX10_values : MD := (yX10_values, cX10_values, 2, (some .int), RX10, 8, 182)
abbrev mX10_meet : MD := (yX10_meet, cX10_meet, 7, (some .int), RX10, 2, 59)
abbrev mX10_rests : MD := (yX10_rests, cX10_rests, 7, (some .int), RX10, 3, 83)
abbrev mX10_book : MD := (yX10_book, cX10_book, 2, (some .int), RX10, 8, 183)
abbrev mX10_count : MD := (yX10_count, cX10_count, 2, (some .int), RX10, 0, 0)
abbrev mX10_settle : MD := (yX10_settle, cX10_settle, 2, none, RX10, 4, 86)
abbrev mX10_worthOfAll : MD := (yX10_worthOfAll, cX10_worthOfAll, 4, (some .int), RX10, 6, 176)
abbrev mX10_turnChanges : MD := (yX10_turnChanges, cX10_turnChanges, 2, (some .boolean), RX10, 6, 176)
abbrev mX10_isSort : MD := (yX10_isSort, cX10_isSort, 2, (some .boolean), RX10, 0, 0)
abbrev mX10_isThing : MD := (yX10_isThing, cX10_isThing, 2, (some .boolean), RX10, 0, 0)
abbrev mX10_isPerson : MD := (yX10_isPerson, cX10_isPerson, 5, (some .boolean), RX10, 2, 43)
abbrev mX10_isDay : MD := (yX10_isDay, cX10_isDay, 1, (some .boolean), RX10, 0, 0)
abbrev mX10_isHeld : MD := (yX10_isHeld, cX10_isHeld, 2, (some .boolean), RX10, 1, 22)
abbrev mX10_isWay : MD := (yX10_isWay, cX10_isWay, 1, (some .boolean), RX10, 1, 22)
abbrev mX10_isWeeks : MD := (yX10_isWeeks, cX10_isWeeks, 1, (some .boolean), RX10, 1, 22)
abbrev mX10_isMeeting : MD := (yX10_isMeeting, cX10_isMeeting, 3, (some .boolean), RX10, 1, 22)
abbrev mX10_within : MD := (yX10_within, cX10_within, 3, (some .boolean), RX10, 0, 0)
abbrev mX10_affordable : MD := (yX10_affordable, cX10_affordable, 2, (some .int), RX10, 0, 0)
abbrev mX10_stampsOf : MD := (yX10_stampsOf, cX10_stampsOf, 2, (some .int), RX10, 0, 0)
abbrev mX11_in : MD := (yX11_in, cX11_in, 6, (some .boolean), RX11, 0, 0)
abbrev mX11_bad : MD := (yX11_bad, cX11_bad, 2, (some .boolean), RX11, 0, 0)
abbrev mX11_byteAt : MD := (yX11_byteAt, cX11_byteAt, 2, (some .int), RX11, 0, 0)
abbrev mX11_isSmall : MD := (yX11_isSmall, cX11_isSmall, 1, (some .boolean), RX11, 0, 0)
abbrev mX11_isDigit : MD := (yX11_isDigit, cX11_isDigit, 1, (some .boolean), RX11, 0, 0)
abbrev mX11_scan : MD := (yX11_scan, cX11_scan, 2, none, RX11, 1, 21)
abbrev mX11_is : MD := (yX11_is, cX11_is, 4, (some .boolean), RX11, 6, 132)
abbrev mX11_peek : MD := (yX11_peek, cX11_peek, 3, (some .boolean), RX11, 1, 25)
abbrev mX11_number : MD := (yX11_number, cX11_number, 3, (some .boolean), RX11, 2, 47)
abbrev mX11_name : MD := (yX11_name, cX11_name, 4, (some .long), RX11, 1, 21)
abbrev mX11_find : MD := (yX11_find, cX11_find, 4, (some .int), RX11, 2, 44)
abbrev mX11_fresh : MD := (yX11_fresh, cX11_fresh, 3, (some .boolean), RX11, 3, 67)
abbrev mX11_known : MD := (yX11_known, cX11_known, 3, (some .boolean), RX11, 3, 67)
abbrev mX11_open : MD := (yX11_open, cX11_open, 1, none, RX11, 2, 42)
abbrev mX11_close : MD := (yX11_close, cX11_close, 1, (some .boolean), RX11, 2, 42)
abbrev mX11_readRot : MD := (yX11_readRot, cX11_readRot, 2, (some .boolean), RX11, 3, 69)
abbrev mX11_readSort : MD := (yX11_readSort, cX11_readSort, 3, (some .boolean), RX11, 4, 89)
abbrev mX11_readThingOf : MD := (yX11_readThingOf, cX11_readThingOf, 3, (some .boolean), RX11, 4, 89)
abbrev mX11_readEarns : MD := (yX11_readEarns, cX11_readEarns, 3, (some .boolean), RX11, 4, 89)
abbrev mX11_readPrices : MD := (yX11_readPrices, cX11_readPrices, 3, (some .boolean), RX11, 4, 89)
abbrev mX11_readMakes : MD := (yX11_readMakes, cX11_readMakes, 3, (some .boolean), RX11, 4, 89)
abbrev mX11_readWants : MD := (yX11_readWants, cX11_readWants, 4, (some .boolean), RX11, 4, 89)
abbrev mX11_readIlls : MD := (yX11_readIlls, cX11_readIlls, 2, (some .boolean), RX11, 3, 69)
abbrev mX11_readOnce : MD := (yX11_readOnce, cX11_readOnce, 2, (some .boolean), RX11, 7, 155)
abbrev mX11_readClause : MD := (yX11_readClause, cX11_readClause, 1, (some .boolean), RX11, 8, 176)
abbrev mX11_readTown : MD := (yX11_readTown, cX11_readTown, 2, (some .boolean), RX11, 9, 196)
abbrev mX11_copy : MD := (yX11_copy, cX11_copy, 3, none, RX11, 0, 0)
abbrev mX11_feed : MD := (yX11_feed, cX11_feed, 6, (some .int), RX11, 1, 22)
abbrev mX11_putFour : MD := (yX11_putFour, cX11_putFour, 3, none, RX11, 0, 0)
abbrev mX11_end : MD := (yX11_end, cX11_end, 2, (some .int), RX11, 1, 25)
abbrev mX11_town : MD := (yX11_town, cX11_town, 2, (some .int), RX11, 10, 217)
abbrev mX11_fault : MD := (yX11_fault, cX11_fault, 2, (some .int), RX11, 0, 0)
abbrev mX11_told : MD := (yX11_told, cX11_told, 3, (some .int), RX11, 1, 25)
abbrev mX11_isSort : MD := (yX11_isSort, cX11_isSort, 2, (some .boolean), RX11, 1, 25)
abbrev mX11_isThing : MD := (yX11_isThing, cX11_isThing, 2, (some .boolean), RX11, 1, 25)
abbrev mX11_isDay : MD := (yX11_isDay, cX11_isDay, 1, (some .boolean), RX11, 1, 25)
abbrev mX11_earns : MD := (yX11_earns, cX11_earns, 3, (some .int), RX11, 2, 46)
abbrev mX11_price : MD := (yX11_price, cX11_price, 3, (some .int), RX11, 2, 46)
abbrev mX11_made : MD := (yX11_made, cX11_made, 3, (some .int), RX11, 2, 46)
abbrev mX11_wants : MD := (yX11_wants, cX11_wants, 5, (some .int), RX11, 2, 46)
abbrev mX11_stampsOf : MD := (yX11_stampsOf, cX11_stampsOf, 2, (some .int), RX11, 0, 0)
abbrev mX11_costOf : MD := (yX11_costOf, cX11_costOf, 1, (some .int), RX11, 0, 0)
abbrev mX11_areCoins : MD := (yX11_areCoins, cX11_areCoins, 1, (some .boolean), RX11, 1, 25)
abbrev mX11_isStore : MD := (yX11_isStore, cX11_isStore, 1, (some .boolean), RX11, 1, 25)
abbrev mX11_behindNight : MD := (yX11_behindNight, cX11_behindNight, 4, (some .int), RX11, 1, 26)
abbrev mX11_leftOf : MD := (yX11_leftOf, cX11_leftOf, 2, (some .int), RX11, 0, 0)
abbrev mX11_night : MD := (yX11_night, cX11_night, 4, (some .int), RX11, 2, 49)
abbrev mX11_costAt : MD := (yX11_costAt, cX11_costAt, 3, (some .int), RX11, 0, 0)
abbrev mX11_paysFor : MD := (yX11_paysFor, cX11_paysFor, 4, (some .int), RX11, 1, 22)
abbrev mX11_mayDo : MD := (yX11_mayDo, cX11_mayDo, 10, (some .boolean), RX11, 2, 45)
abbrev mX11_may : MD := (yX11_may, cX11_may, 6, (some .int), RX11, 3, 74)
abbrev mX11_loses : MD := (yX11_loses, cX11_loses, 2, (some .int), RX11, 0, 0)
abbrev mX11_bestFrom : MD := (yX11_bestFrom, cX11_bestFrom, 20, (some .int), RX11, 2, 49)
abbrev mX11_earned : MD := (yX11_earned, cX11_earned, 4, (some .int), RX11, 1, 26)
abbrev mX11_findBest : MD := (yX11_findBest, cX11_findBest, 8, none, RX11, 3, 88)
abbrev mX11_isBest : MD := (yX11_isBest, cX11_isBest, 6, (some .boolean), RX11, 2, 46)
abbrev mX11_best : MD := (yX11_best, cX11_best, 6, (some .int), RX11, 4, 115)
abbrev mX11_bestAct : MD := (yX11_bestAct, cX11_bestAct, 6, (some .int), RX11, 4, 115)
abbrev mX11_forgetWeeks : MD := (yX11_forgetWeeks, cX11_forgetWeeks, 2, none, RX11, 0, 0)
abbrev mX11_findWeek : MD := (yX11_findWeek, cX11_findWeek, 6, none, RX11, 4, 115)
abbrev mX11_canBuy : MD := (yX11_canBuy, cX11_canBuy, 3, (some .int), RX11, 1, 26)
abbrev mX11_actOf : MD := (yX11_actOf, cX11_actOf, 16, (some .int), RX11, 5, 140)
abbrev mX11_cutAct : MD := (yX11_cutAct, cX11_cutAct, 7, (some .int), RX11, 1, 26)
abbrev mX11_isWay : MD := (yX11_isWay, cX11_isWay, 1, (some .boolean), RX11, 1, 25)
abbrev mX11_wayAct : MD := (yX11_wayAct, cX11_wayAct, 6, (some .int), RX11, 6, 175)
abbrev mX11_begin : MD := (yX11_begin, cX11_begin, 3, none, RX11, 0, 0)
abbrev mX11_each : MD := (yX11_each, cX11_each, 3, (some .int), RX11, 0, 0)
abbrev mX11_takes : MD := (yX11_takes, cX11_takes, 4, none, RX11, 0, 0)
abbrev mX11_openChest : MD := (yX11_openChest, cX11_openChest, 3, none, RX11, 1, 26)
abbrev mX11_sortDay : MD := (yX11_sortDay, cX11_sortDay, 8, (some .long), RX11, 6, 175)
abbrev mX11_nightOf : MD := (yX11_nightOf, cX11_nightOf, 6, none, RX11, 2, 49)
abbrev mX11_dayOf : MD := (yX11_dayOf, cX11_dayOf, 6, (some .long), RX11, 7, 202)
abbrev mX11_way : MD := (yX11_way, cX11_way, 4, (some .int), RX11, 2, 46)
abbrev mX11_pass : MD := (yX11_pass, cX11_pass, 3, (some .int), RX11, 8, 227)
abbrev mX11_run : MD := (yX11_run, cX11_run, 3, (some .int), RX11, 2, 46)
abbrev mX11_paidByAll : MD := (yX11_paidByAll, cX11_paidByAll, 4, (some .int), RX11, 0, 0)
abbrev mX11_all : MD := (yX11_all, cX11_all, 2, (some .int), RX11, 1, 23)
abbrev mX11_anew : MD := (yX11_anew, cX11_anew, 2, (some .int), RX11, 1, 22)
abbrev mX11_isSlot : MD := (yX11_isSlot, cX11_isSlot, 1, (some .boolean), RX11, 1, 25)
abbrev mX11_keep : MD := (yX11_keep, cX11_keep, 3, (some .int), RX11, 2, 45)
abbrev mX11_take : MD := (yX11_take, cX11_take, 3, (some .int), RX11, 2, 45)
abbrev mX11_runTrial : MD := (yX11_runTrial, cX11_runTrial, 3, none, RX11, 8, 227)
abbrev mX11_worthOf : MD := (yX11_worthOf, cX11_worthOf, 5, (some .int), RX11, 9, 249)
abbrev mX11_worthAt : MD := (yX11_worthAt, cX11_worthAt, 3, (some .int), RX11, 10, 273)
abbrev mX11_rate : MD := (yX11_rate, cX11_rate, 6, (some .int), RX11, 10, 273)
abbrev mX11_turn : MD := (yX11_turn, cX11_turn, 4, (some .boolean), RX11, 9, 249)
abbrev mX11_rest : MD := (yX11_rest, cX11_rest, 3, (some .int), RX11, 10, 272)
abbrev mX11_restTurns : MD := (yX11_restTurns, cX11_restTurns, 1, (some .int), RX11, 0, 0)
abbrev mX11_follow : MD := (yX11_follow, cX11_follow, 5, (some .int), RX11, 0, 0)
abbrev mX11_offer : MD := (yX11_offer, cX11_offer, 10, (some .int), RX11, 1, 26)
abbrev mX11_two : MD := (yX11_two, cX11_two, 10, (some .int), RX11, 2, 55)
abbrev mX11_lend : MD := (yX11_lend, cX11_lend, 7, (some .int), RX11, 1, 25)
abbrev mX11_early : MD := (yX11_early, cX11_early, 7, (some .int), RX11, 2, 45)
abbrev mX11_values : MD := (yX11_values, cX11_values, 6, (some .int), RX11, 3, 69)
abbrev mX11_findMeet : MD := (yX11_findMeet, cX11_findMeet, 15, none, RX11, 1, 26)
abbrev mX11_isMeet : MD := (yX11_isMeet, cX11_isMeet, 3, (some .boolean), RX11, 1, 25)
abbrev mX11_meet : MD := (yX11_meet, cX11_meet, 7, (some .int), RX11, 2, 60)
abbrev mX11_rests : MD := (yX11_rests, cX11_rests, 8, (some .int), RX11, 2, 60)
abbrev mX11_isLost : MD := (yX11_isLost, cX11_isLost, 7, (some .boolean), RX11, 0, 0)
abbrev mX11_book : MD := (yX11_book, cX11_book, 8, (some .int), RX11, 4, 89)
abbrev mX11_count : MD := (yX11_count, cX11_count, 2, (some .int), RX11, 0, 0)
abbrev mJ9_floorMod_7cf53 : MD := (yJ9_floorMod_7cf53, cJ9_floorMod_7cf53, 3, (some .int), RJ9, 0, 0)
abbrev mJ7_fill_d0a16 : MD := (yJ7_fill_d0a16, cJ7_fill_d0a16, 5, none, RJ7, 0, 0)
abbrev mJ7_fill_53178 : MD := (yJ7_fill_53178, cJ7_fill_53178, 4, none, RJ7, 0, 0)
theorem fX0_27 : fl RX0 27 0 0 := ⟨by decide, by decide, in_r5 _ (List.mem_of_getElem? (i := 12) rfl)⟩
theorem fX0_31 : fl RX0 31 7 4 := ⟨by decide, by decide, in_r8 _ (List.mem_of_getElem? (i := 2) rfl)⟩
theorem fX0_37 : fl RX0 37 7 15 := ⟨by decide, by decide, in_r8 _ (List.mem_of_getElem? (i := 3) rfl)⟩
theorem fX0_40 : fl RX0 40 7 14 := ⟨by decide, by decide, in_r8 _ (List.mem_of_getElem? (i := 4) rfl)⟩
theorem fX0_21 : fl RX0 21 0 4 := ⟨by decide, by decide, in_r5 _ (List.mem_of_getElem? (i := 10) rfl)⟩
theorem fX0_24 : fl RX0 24 0 5 := ⟨by decide, by decide, in_r5 _ (List.mem_of_getElem? (i := 11) rfl)⟩
theorem fX0_49 : fl RX0 49 7 16 := ⟨by decide, by decide, in_r8 _ (List.mem_of_getElem? (i := 9) rfl)⟩
theorem fX0_9 : fl RX0 9 0 1 := ⟨by decide, by decide, in_r5 _ (List.mem_of_getElem? (i := 7) rfl)⟩
theorem fX0_56 : fl RX0 56 7 5 := ⟨by decide, by decide, in_r8 _ (List.mem_of_getElem? (i := 18) rfl)⟩
theorem fX0_15 : fl RX0 15 0 2 := ⟨by decide, by decide, in_r5 _ (List.mem_of_getElem? (i := 8) rfl)⟩
theorem fX0_18 : fl RX0 18 0 3 := ⟨by decide, by decide, in_r5 _ (List.mem_of_getElem? (i := 9) rfl)⟩
theorem fX0_64 : fl RX0 64 7 10 := ⟨by decide, by decide, in_r34 _ (List.mem_of_getElem? (i := 21) rfl)⟩
theorem fX0_73 : fl RX0 73 7 2 := ⟨by decide, by decide, in_r49 _ (List.mem_of_getElem? (i := 3) rfl)⟩
theorem fX0_76 : fl RX0 76 7 17 := ⟨by decide, by decide, in_r49 _ (List.mem_of_getElem? (i := 4) rfl)⟩
theorem fX1_15 : fl RX1 15 1 3 := ⟨by decide, by decide, in_r7 _ (List.mem_of_getElem? (i := 12) rfl)⟩
theorem fX1_9 : fl RX1 9 1 2 := ⟨by decide, by decide, in_r7 _ (List.mem_of_getElem? (i := 11) rfl)⟩
theorem fX1_34 : fl RX1 34 7 1 := ⟨by decide, by decide, in_r54 _ (List.mem_of_getElem? (i := 13) rfl)⟩
theorem fX1_37 : fl RX1 37 7 6 := ⟨by decide, by decide, in_r54 _ (List.mem_of_getElem? (i := 14) rfl)⟩
theorem fX1_18 : fl RX1 18 1 4 := ⟨by decide, by decide, in_r7 _ (List.mem_of_getElem? (i := 13) rfl)⟩
theorem fX1_40 : fl RX1 40 1 5 := ⟨by decide, by decide, in_r54 _ (List.mem_of_getElem? (i := 15) rfl)⟩
theorem fX1_43 : fl RX1 43 1 6 := ⟨by decide, by decide, in_r54 _ (List.mem_of_getElem? (i := 16) rfl)⟩
theorem fX1_47 : fl RX1 47 1 7 := ⟨by decide, by decide, in_r54 _ (List.mem_of_getElem? (i := 17) rfl)⟩
theorem fX1_52 : fl RX1 52 1 0 := ⟨by decide, by decide, in_r54 _ (List.mem_of_getElem? (i := 23) rfl)⟩
theorem fX1_55 : fl RX1 55 1 1 := ⟨by decide, by decide, in_r55 _ (List.mem_of_getElem? (i := 0) rfl)⟩
theorem fX2_18 : fl RX2 18 2 4 := ⟨by decide, by decide, in_r5 _ (List.mem_of_getElem? (i := 21) rfl)⟩
theorem fX2_12 : fl RX2 12 2 3 := ⟨by decide, by decide, in_r5 _ (List.mem_of_getElem? (i := 20) rfl)⟩
theorem fX2_32 : fl RX2 32 2 2 := ⟨by decide, by decide, in_r6 _ (List.mem_of_getElem? (i := 1) rfl)⟩
theorem fX2_46 : fl RX2 46 0 0 := ⟨by decide, by decide, in_r35 _ (List.mem_of_getElem? (i := 5) rfl)⟩
theorem fX2_52 : fl RX2 52 7 10 := ⟨by decide, by decide, in_r35 _ (List.mem_of_getElem? (i := 6) rfl)⟩
theorem fX2_29 : fl RX2 29 2 7 := ⟨by decide, by decide, in_r6 _ (List.mem_of_getElem? (i := 0) rfl)⟩
theorem fX2_67 : fl RX2 67 2 8 := ⟨by decide, by decide, in_r35 _ (List.mem_of_getElem? (i := 7) rfl)⟩
theorem fX2_25 : fl RX2 25 2 6 := ⟨by decide, by decide, in_r5 _ (List.mem_of_getElem? (i := 23) rfl)⟩
theorem fX2_75 : fl RX2 75 2 1 := ⟨by decide, by decide, in_r35 _ (List.mem_of_getElem? (i := 8) rfl)⟩
theorem fX2_22 : fl RX2 22 2 5 := ⟨by decide, by decide, in_r5 _ (List.mem_of_getElem? (i := 22) rfl)⟩
theorem fX2_92 : fl RX2 92 6 6 := ⟨by decide, by decide, in_r36 _ (List.mem_of_getElem? (i := 2) rfl)⟩
theorem fX2_95 : fl RX2 95 6 5 := ⟨by decide, by decide, in_r36 _ (List.mem_of_getElem? (i := 3) rfl)⟩
theorem fX2_98 : fl RX2 98 6 1 := ⟨by decide, by decide, in_r36 _ (List.mem_of_getElem? (i := 4) rfl)⟩
theorem fX2_107 : fl RX2 107 6 4 := ⟨by decide, by decide, in_r36 _ (List.mem_of_getElem? (i := 6) rfl)⟩
theorem fX2_110 : fl RX2 110 6 3 := ⟨by decide, by decide, in_r36 _ (List.mem_of_getElem? (i := 7) rfl)⟩
theorem fX2_113 : fl RX2 113 0 5 := ⟨by decide, by decide, in_r36 _ (List.mem_of_getElem? (i := 12) rfl)⟩
theorem fX2_120 : fl RX2 120 7 7 := ⟨by decide, by decide, in_r36 _ (List.mem_of_getElem? (i := 19) rfl)⟩
theorem fX2_127 : fl RX2 127 2 0 := ⟨by decide, by decide, in_r36 _ (List.mem_of_getElem? (i := 20) rfl)⟩
theorem fX2_133 : fl RX2 133 6 2 := ⟨by decide, by decide, in_r37 _ (List.mem_of_getElem? (i := 2) rfl)⟩
theorem fX3_15 : fl RX3 15 3 2 := ⟨by decide, by decide, in_r3 _ (List.mem_of_getElem? (i := 15) rfl)⟩
theorem fX3_43 : fl RX3 43 5 2 := ⟨by decide, by decide, in_r13 _ (List.mem_of_getElem? (i := 17) rfl)⟩
theorem fX3_9 : fl RX3 9 3 3 := ⟨by decide, by decide, in_r3 _ (List.mem_of_getElem? (i := 14) rfl)⟩
theorem fX3_66 : fl RX3 66 7 1 := ⟨by decide, by decide, in_r53 _ (List.mem_of_getElem? (i := 13) rfl)⟩
theorem fX3_19 : fl RX3 19 3 0 := ⟨by decide, by decide, in_r3 _ (List.mem_of_getElem? (i := 16) rfl)⟩
theorem fX3_69 : fl RX3 69 5 3 := ⟨by decide, by decide, in_r13 _ (List.mem_of_getElem? (i := 23) rfl)⟩
theorem fX3_23 : fl RX3 23 3 1 := ⟨by decide, by decide, in_r3 _ (List.mem_of_getElem? (i := 17) rfl)⟩
theorem fX3_80 : fl RX3 80 5 5 := ⟨by decide, by decide, in_r15 _ (List.mem_of_getElem? (i := 7) rfl)⟩
theorem fX3_118 : fl RX3 118 5 4 := ⟨by decide, by decide, in_r19 _ (List.mem_of_getElem? (i := 7) rfl)⟩
theorem fX4_18 : fl RX4 18 4 0 := ⟨by decide, by decide, in_r7 _ (List.mem_of_getElem? (i := 0) rfl)⟩
theorem fX4_22 : fl RX4 22 4 1 := ⟨by decide, by decide, in_r9 _ (List.mem_of_getElem? (i := 5) rfl)⟩
theorem fX4_25 : fl RX4 25 4 2 := ⟨by decide, by decide, in_r9 _ (List.mem_of_getElem? (i := 6) rfl)⟩
theorem fX4_28 : fl RX4 28 4 3 := ⟨by decide, by decide, in_r9 _ (List.mem_of_getElem? (i := 7) rfl)⟩
theorem fX4_15 : fl RX4 15 4 5 := ⟨by decide, by decide, in_r6 _ (List.mem_of_getElem? (i := 23) rfl)⟩
theorem fX4_38 : fl RX4 38 7 1 := ⟨by decide, by decide, in_r9 _ (List.mem_of_getElem? (i := 8) rfl)⟩
theorem fX4_43 : fl RX4 43 7 8 := ⟨by decide, by decide, in_r9 _ (List.mem_of_getElem? (i := 9) rfl)⟩
theorem fX4_9 : fl RX4 9 4 4 := ⟨by decide, by decide, in_r6 _ (List.mem_of_getElem? (i := 22) rfl)⟩
theorem fX5_15 : fl RX5 15 5 1 := ⟨by decide, by decide, in_r3 _ (List.mem_of_getElem? (i := 8) rfl)⟩
theorem fX5_9 : fl RX5 9 5 0 := ⟨by decide, by decide, in_r3 _ (List.mem_of_getElem? (i := 7) rfl)⟩
theorem fX5_19 : fl RX5 19 5 6 := ⟨by decide, by decide, in_r14 _ (List.mem_of_getElem? (i := 4) rfl)⟩
theorem fX5_22 : fl RX5 22 5 3 := ⟨by decide, by decide, in_r14 _ (List.mem_of_getElem? (i := 9) rfl)⟩
theorem fX5_25 : fl RX5 25 5 2 := ⟨by decide, by decide, in_r14 _ (List.mem_of_getElem? (i := 10) rfl)⟩
theorem fX5_41 : fl RX5 41 5 5 := ⟨by decide, by decide, in_r14 _ (List.mem_of_getElem? (i := 18) rfl)⟩
theorem fX5_45 : fl RX5 45 5 4 := ⟨by decide, by decide, in_r15 _ (List.mem_of_getElem? (i := 2) rfl)⟩
theorem fX6_15 : fl RX6 15 0 0 := ⟨by decide, by decide, in_r32 _ (List.mem_of_getElem? (i := 15) rfl)⟩
theorem fX6_21 : fl RX6 21 7 4 := ⟨by decide, by decide, in_r32 _ (List.mem_of_getElem? (i := 16) rfl)⟩
theorem fX6_26 : fl RX6 26 7 9 := ⟨by decide, by decide, in_r32 _ (List.mem_of_getElem? (i := 17) rfl)⟩
theorem fX6_30 : fl RX6 30 7 11 := ⟨by decide, by decide, in_r32 _ (List.mem_of_getElem? (i := 18) rfl)⟩
theorem fX6_9 : fl RX6 9 6 0 := ⟨by decide, by decide, in_r6 _ (List.mem_of_getElem? (i := 6) rfl)⟩
theorem fX6_33 : fl RX6 33 7 12 := ⟨by decide, by decide, in_r32 _ (List.mem_of_getElem? (i := 19) rfl)⟩
theorem fX6_36 : fl RX6 36 6 1 := ⟨by decide, by decide, in_r32 _ (List.mem_of_getElem? (i := 20) rfl)⟩
theorem fX6_39 : fl RX6 39 7 13 := ⟨by decide, by decide, in_r32 _ (List.mem_of_getElem? (i := 21) rfl)⟩
theorem fX6_42 : fl RX6 42 6 2 := ⟨by decide, by decide, in_r32 _ (List.mem_of_getElem? (i := 22) rfl)⟩
theorem fX6_45 : fl RX6 45 0 1 := ⟨by decide, by decide, in_r32 _ (List.mem_of_getElem? (i := 23) rfl)⟩
theorem fX6_48 : fl RX6 48 6 3 := ⟨by decide, by decide, in_r33 _ (List.mem_of_getElem? (i := 0) rfl)⟩
theorem fX6_51 : fl RX6 51 6 4 := ⟨by decide, by decide, in_r33 _ (List.mem_of_getElem? (i := 1) rfl)⟩
theorem fX6_54 : fl RX6 54 6 5 := ⟨by decide, by decide, in_r33 _ (List.mem_of_getElem? (i := 2) rfl)⟩
theorem fX6_57 : fl RX6 57 6 6 := ⟨by decide, by decide, in_r33 _ (List.mem_of_getElem? (i := 3) rfl)⟩
theorem fX6_60 : fl RX6 60 6 7 := ⟨by decide, by decide, in_r33 _ (List.mem_of_getElem? (i := 4) rfl)⟩
theorem fX6_64 : fl RX6 64 0 2 := ⟨by decide, by decide, in_r33 _ (List.mem_of_getElem? (i := 5) rfl)⟩
theorem fX6_67 : fl RX6 67 6 8 := ⟨by decide, by decide, in_r33 _ (List.mem_of_getElem? (i := 6) rfl)⟩
theorem fX7_61 : fl RX7 61 7 0 := ⟨by decide, by decide, in_r4 _ (List.mem_of_getElem? (i := 18) rfl)⟩
theorem fX7_65 : fl RX7 65 7 1 := ⟨by decide, by decide, in_r4 _ (List.mem_of_getElem? (i := 19) rfl)⟩
theorem fX7_68 : fl RX7 68 7 2 := ⟨by decide, by decide, in_r4 _ (List.mem_of_getElem? (i := 20) rfl)⟩
theorem fX7_71 : fl RX7 71 7 3 := ⟨by decide, by decide, in_r4 _ (List.mem_of_getElem? (i := 21) rfl)⟩
theorem fX7_74 : fl RX7 74 7 4 := ⟨by decide, by decide, in_r4 _ (List.mem_of_getElem? (i := 22) rfl)⟩
theorem fX7_9 : fl RX7 9 7 5 := ⟨by decide, by decide, in_r3 _ (List.mem_of_getElem? (i := 22) rfl)⟩
theorem fX7_24 : fl RX7 24 7 9 := ⟨by decide, by decide, in_r4 _ (List.mem_of_getElem? (i := 2) rfl)⟩
theorem fX7_27 : fl RX7 27 7 10 := ⟨by decide, by decide, in_r4 _ (List.mem_of_getElem? (i := 3) rfl)⟩
theorem fX7_30 : fl RX7 30 7 11 := ⟨by decide, by decide, in_r4 _ (List.mem_of_getElem? (i := 4) rfl)⟩
theorem fX7_33 : fl RX7 33 7 12 := ⟨by decide, by decide, in_r4 _ (List.mem_of_getElem? (i := 5) rfl)⟩
theorem fX7_36 : fl RX7 36 7 13 := ⟨by decide, by decide, in_r4 _ (List.mem_of_getElem? (i := 6) rfl)⟩
theorem fX7_45 : fl RX7 45 7 16 := ⟨by decide, by decide, in_r4 _ (List.mem_of_getElem? (i := 9) rfl)⟩
theorem fX7_48 : fl RX7 48 7 17 := ⟨by decide, by decide, in_r4 _ (List.mem_of_getElem? (i := 10) rfl)⟩
theorem fX7_55 : fl RX7 55 7 19 := ⟨by decide, by decide, in_r4 _ (List.mem_of_getElem? (i := 13) rfl)⟩
theorem fX7_51 : fl RX7 51 7 18 := ⟨by decide, by decide, in_r4 _ (List.mem_of_getElem? (i := 12) rfl)⟩
theorem fX7_15 : fl RX7 15 7 6 := ⟨by decide, by decide, in_r3 _ (List.mem_of_getElem? (i := 23) rfl)⟩
theorem fX7_18 : fl RX7 18 7 7 := ⟨by decide, by decide, in_r4 _ (List.mem_of_getElem? (i := 0) rfl)⟩
theorem fX7_21 : fl RX7 21 7 8 := ⟨by decide, by decide, in_r4 _ (List.mem_of_getElem? (i := 1) rfl)⟩
theorem fX7_39 : fl RX7 39 7 14 := ⟨by decide, by decide, in_r4 _ (List.mem_of_getElem? (i := 7) rfl)⟩
theorem fX7_42 : fl RX7 42 7 15 := ⟨by decide, by decide, in_r4 _ (List.mem_of_getElem? (i := 8) rfl)⟩
theorem fX8_19 : fl RX8 19 8 0 := ⟨by decide, by decide, in_r50 _ (List.mem_of_getElem? (i := 6) rfl)⟩
theorem fX8_22 : fl RX8 22 8 1 := ⟨by decide, by decide, in_r50 _ (List.mem_of_getElem? (i := 7) rfl)⟩
theorem fX8_9 : fl RX8 9 8 3 := ⟨by decide, by decide, in_r7 _ (List.mem_of_getElem? (i := 5) rfl)⟩
theorem fX8_15 : fl RX8 15 8 2 := ⟨by decide, by decide, in_r7 _ (List.mem_of_getElem? (i := 6) rfl)⟩
theorem fX9_33 : fl RX9 33 4 0 := ⟨by decide, by decide, in_r40 _ (List.mem_of_getElem? (i := 19) rfl)⟩
theorem fX9_25 : fl RX9 25 9 2 := ⟨by decide, by decide, in_r6 _ (List.mem_of_getElem? (i := 15) rfl)⟩
theorem fX9_49 : fl RX9 49 0 0 := ⟨by decide, by decide, in_r40 _ (List.mem_of_getElem? (i := 20) rfl)⟩
theorem fX9_55 : fl RX9 55 7 17 := ⟨by decide, by decide, in_r40 _ (List.mem_of_getElem? (i := 21) rfl)⟩
theorem fX9_22 : fl RX9 22 9 4 := ⟨by decide, by decide, in_r6 _ (List.mem_of_getElem? (i := 14) rfl)⟩
theorem fX9_61 : fl RX9 61 7 1 := ⟨by decide, by decide, in_r40 _ (List.mem_of_getElem? (i := 23) rfl)⟩
theorem fX9_68 : fl RX9 68 7 3 := ⟨by decide, by decide, in_r41 _ (List.mem_of_getElem? (i := 8) rfl)⟩
theorem fX9_71 : fl RX9 71 7 6 := ⟨by decide, by decide, in_r41 _ (List.mem_of_getElem? (i := 9) rfl)⟩
theorem fX9_74 : fl RX9 74 4 1 := ⟨by decide, by decide, in_r41 _ (List.mem_of_getElem? (i := 10) rfl)⟩
theorem fX9_75 : fl RX9 75 4 5 := ⟨by decide, by decide, in_r41 _ (List.mem_of_getElem? (i := 11) rfl)⟩
theorem fX9_85 : fl RX9 85 4 4 := ⟨by decide, by decide, in_r41 _ (List.mem_of_getElem? (i := 17) rfl)⟩
theorem fX9_12 : fl RX9 12 9 0 := ⟨by decide, by decide, in_r6 _ (List.mem_of_getElem? (i := 12) rfl)⟩
theorem fX9_29 : fl RX9 29 9 3 := ⟨by decide, by decide, in_r6 _ (List.mem_of_getElem? (i := 16) rfl)⟩
theorem fX9_101 : fl RX9 101 6 0 := ⟨by decide, by decide, in_r41 _ (List.mem_of_getElem? (i := 18) rfl)⟩
theorem fX9_108 : fl RX9 108 7 4 := ⟨by decide, by decide, in_r41 _ (List.mem_of_getElem? (i := 19) rfl)⟩
theorem fX9_114 : fl RX9 114 4 2 := ⟨by decide, by decide, in_r41 _ (List.mem_of_getElem? (i := 20) rfl)⟩
theorem fX9_117 : fl RX9 117 4 3 := ⟨by decide, by decide, in_r41 _ (List.mem_of_getElem? (i := 21) rfl)⟩
theorem fX9_121 : fl RX9 121 6 2 := ⟨by decide, by decide, in_r41 _ (List.mem_of_getElem? (i := 22) rfl)⟩
theorem fX9_18 : fl RX9 18 9 1 := ⟨by decide, by decide, in_r6 _ (List.mem_of_getElem? (i := 13) rfl)⟩
theorem fX9_128 : fl RX9 128 0 2 := ⟨by decide, by decide, in_r42 _ (List.mem_of_getElem? (i := 12) rfl)⟩
theorem fX9_134 : fl RX9 134 0 5 := ⟨by decide, by decide, in_r42 _ (List.mem_of_getElem? (i := 13) rfl)⟩
theorem fX10_12 : fl RX10 12 10 0 := ⟨by decide, by decide, in_r1 _ (List.mem_of_getElem? (i := 15) rfl)⟩
theorem fX10_90 : fl RX10 90 5 1 := ⟨by decide, by decide, in_r12 _ (List.mem_of_getElem? (i := 7) rfl)⟩
theorem fX10_21 : fl RX10 21 10 1 := ⟨by decide, by decide, in_r1 _ (List.mem_of_getElem? (i := 19) rfl)⟩
theorem fX10_37 : fl RX10 37 10 10 := ⟨by decide, by decide, in_r2 _ (List.mem_of_getElem? (i := 3) rfl)⟩
theorem fX10_33 : fl RX10 33 10 2 := ⟨by decide, by decide, in_r2 _ (List.mem_of_getElem? (i := 2) rfl)⟩
theorem fX10_102 : fl RX10 102 0 0 := ⟨by decide, by decide, in_r7 _ (List.mem_of_getElem? (i := 18) rfl)⟩
theorem fX10_105 : fl RX10 105 7 0 := ⟨by decide, by decide, in_r13 _ (List.mem_of_getElem? (i := 12) rfl)⟩
theorem fX10_108 : fl RX10 108 3 0 := ⟨by decide, by decide, in_r26 _ (List.mem_of_getElem? (i := 10) rfl)⟩
theorem fX10_111 : fl RX10 111 3 1 := ⟨by decide, by decide, in_r26 _ (List.mem_of_getElem? (i := 11) rfl)⟩
theorem fX10_114 : fl RX10 114 7 1 := ⟨by decide, by decide, in_r26 _ (List.mem_of_getElem? (i := 20) rfl)⟩
theorem fX10_117 : fl RX10 117 7 2 := ⟨by decide, by decide, in_r26 _ (List.mem_of_getElem? (i := 21) rfl)⟩
theorem fX10_120 : fl RX10 120 7 3 := ⟨by decide, by decide, in_r26 _ (List.mem_of_getElem? (i := 22) rfl)⟩
theorem fX10_123 : fl RX10 123 7 4 := ⟨by decide, by decide, in_r26 _ (List.mem_of_getElem? (i := 23) rfl)⟩
theorem fX10_126 : fl RX10 126 7 5 := ⟨by decide, by decide, in_r27 _ (List.mem_of_getElem? (i := 0) rfl)⟩
theorem fX10_130 : fl RX10 130 7 14 := ⟨by decide, by decide, in_r27 _ (List.mem_of_getElem? (i := 1) rfl)⟩
theorem fX10_133 : fl RX10 133 7 15 := ⟨by decide, by decide, in_r27 _ (List.mem_of_getElem? (i := 2) rfl)⟩
theorem fX10_140 : fl RX10 140 7 6 := ⟨by decide, by decide, in_r27 _ (List.mem_of_getElem? (i := 6) rfl)⟩
theorem fX10_143 : fl RX10 143 7 7 := ⟨by decide, by decide, in_r27 _ (List.mem_of_getElem? (i := 7) rfl)⟩
theorem fX10_146 : fl RX10 146 7 8 := ⟨by decide, by decide, in_r27 _ (List.mem_of_getElem? (i := 8) rfl)⟩
theorem fX10_149 : fl RX10 149 7 9 := ⟨by decide, by decide, in_r27 _ (List.mem_of_getElem? (i := 9) rfl)⟩
theorem fX10_159 : fl RX10 159 7 10 := ⟨by decide, by decide, in_r28 _ (List.mem_of_getElem? (i := 0) rfl)⟩
theorem fX10_165 : fl RX10 165 0 1 := ⟨by decide, by decide, in_r29 _ (List.mem_of_getElem? (i := 0) rfl)⟩
theorem fX10_168 : fl RX10 168 7 17 := ⟨by decide, by decide, in_r29 _ (List.mem_of_getElem? (i := 17) rfl)⟩
theorem fX10_171 : fl RX10 171 7 11 := ⟨by decide, by decide, in_r30 _ (List.mem_of_getElem? (i := 2) rfl)⟩
theorem fX10_174 : fl RX10 174 7 12 := ⟨by decide, by decide, in_r30 _ (List.mem_of_getElem? (i := 3) rfl)⟩
theorem fX10_177 : fl RX10 177 7 13 := ⟨by decide, by decide, in_r30 _ (List.mem_of_getElem? (i := 4) rfl)⟩
theorem fX10_55 : fl RX10 55 10 4 := ⟨by decide, by decide, in_r2 _ (List.mem_of_getElem? (i := 11) rfl)⟩
theorem fX10_192 : fl RX10 192 9 0 := ⟨by decide, by decide, in_r32 _ (List.mem_of_getElem? (i := 6) rfl)⟩
theorem fX10_46 : fl RX10 46 10 3 := ⟨by decide, by decide, in_r2 _ (List.mem_of_getElem? (i := 7) rfl)⟩
theorem fX10_216 : fl RX10 216 2 0 := ⟨by decide, by decide, in_r34 _ (List.mem_of_getElem? (i := 16) rfl)⟩
theorem fX10_62 : fl RX10 62 10 5 := ⟨by decide, by decide, in_r2 _ (List.mem_of_getElem? (i := 15) rfl)⟩
theorem fX10_225 : fl RX10 225 4 4 := ⟨by decide, by decide, in_r7 _ (List.mem_of_getElem? (i := 19) rfl)⟩
theorem fX10_232 : fl RX10 232 4 0 := ⟨by decide, by decide, in_r7 _ (List.mem_of_getElem? (i := 20) rfl)⟩
theorem fX10_235 : fl RX10 235 4 5 := ⟨by decide, by decide, in_r44 _ (List.mem_of_getElem? (i := 6) rfl)⟩
theorem fX10_238 : fl RX10 238 4 1 := ⟨by decide, by decide, in_r44 _ (List.mem_of_getElem? (i := 15) rfl)⟩
theorem fX10_243 : fl RX10 243 4 2 := ⟨by decide, by decide, in_r44 _ (List.mem_of_getElem? (i := 16) rfl)⟩
theorem fX10_69 : fl RX10 69 10 7 := ⟨by decide, by decide, in_r2 _ (List.mem_of_getElem? (i := 17) rfl)⟩
theorem fX10_263 : fl RX10 263 10 11 := ⟨by decide, by decide, in_r7 _ (List.mem_of_getElem? (i := 21) rfl)⟩
theorem fX10_76 : fl RX10 76 10 8 := ⟨by decide, by decide, in_r2 _ (List.mem_of_getElem? (i := 21) rfl)⟩
theorem fX10_83 : fl RX10 83 10 9 := ⟨by decide, by decide, in_r3 _ (List.mem_of_getElem? (i := 1) rfl)⟩
theorem fX10_296 : fl RX10 296 1 2 := ⟨by decide, by decide, in_r53 _ (List.mem_of_getElem? (i := 8) rfl)⟩
theorem fX10_318 : fl RX10 318 1 0 := ⟨by decide, by decide, in_r54 _ (List.mem_of_getElem? (i := 4) rfl)⟩
theorem fX10_322 : fl RX10 322 1 1 := ⟨by decide, by decide, in_r54 _ (List.mem_of_getElem? (i := 5) rfl)⟩
theorem fX10_66 : fl RX10 66 10 6 := ⟨by decide, by decide, in_r2 _ (List.mem_of_getElem? (i := 16) rfl)⟩
theorem fX10_353 : fl RX10 353 9 1 := ⟨by decide, by decide, in_r48 _ (List.mem_of_getElem? (i := 22) rfl)⟩
theorem fX11_3 : fl RX11 3 11 8 := ⟨by decide, by decide, in_r21 _ (List.mem_of_getElem? (i := 13) rfl)⟩
theorem fX11_7 : fl RX11 7 11 3 := ⟨by decide, by decide, in_r21 _ (List.mem_of_getElem? (i := 18) rfl)⟩
theorem fX11_10 : fl RX11 10 11 9 := ⟨by decide, by decide, in_r9 _ (List.mem_of_getElem? (i := 22) rfl)⟩
theorem fX11_13 : fl RX11 13 11 2 := ⟨by decide, by decide, in_r21 _ (List.mem_of_getElem? (i := 11) rfl)⟩
theorem fX11_16 : fl RX11 16 11 0 := ⟨by decide, by decide, in_r9 _ (List.mem_of_getElem? (i := 21) rfl)⟩
theorem fX11_20 : fl RX11 20 11 4 := ⟨by decide, by decide, in_r21 _ (List.mem_of_getElem? (i := 12) rfl)⟩
theorem fX11_27 : fl RX11 27 11 5 := ⟨by decide, by decide, in_r21 _ (List.mem_of_getElem? (i := 19) rfl)⟩
theorem fX11_37 : fl RX11 37 11 6 := ⟨by decide, by decide, in_r21 _ (List.mem_of_getElem? (i := 20) rfl)⟩
theorem fX11_56 : fl RX11 56 11 7 := ⟨by decide, by decide, in_r23 _ (List.mem_of_getElem? (i := 2) rfl)⟩
theorem fX11_75 : fl RX11 75 11 1 := ⟨by decide, by decide, in_r12 _ (List.mem_of_getElem? (i := 16) rfl)⟩
theorem fX11_78 : fl RX11 78 11 51 := ⟨by decide, by decide, in_r22 _ (List.mem_of_getElem? (i := 11) rfl)⟩
theorem fX11_84 : fl RX11 84 11 25 := ⟨by decide, by decide, in_r10 _ (List.mem_of_getElem? (i := 6) rfl)⟩
theorem fX11_88 : fl RX11 88 11 15 := ⟨by decide, by decide, in_r20 _ (List.mem_of_getElem? (i := 22) rfl)⟩
theorem fX11_91 : fl RX11 91 11 22 := ⟨by decide, by decide, in_r10 _ (List.mem_of_getElem? (i := 3) rfl)⟩
theorem fX11_99 : fl RX11 99 11 32 := ⟨by decide, by decide, in_r10 _ (List.mem_of_getElem? (i := 13) rfl)⟩
theorem fX11_102 : fl RX11 102 11 33 := ⟨by decide, by decide, in_r10 _ (List.mem_of_getElem? (i := 14) rfl)⟩
theorem fX11_105 : fl RX11 105 11 34 := ⟨by decide, by decide, in_r10 _ (List.mem_of_getElem? (i := 15) rfl)⟩
theorem fX11_108 : fl RX11 108 11 35 := ⟨by decide, by decide, in_r10 _ (List.mem_of_getElem? (i := 16) rfl)⟩
theorem fX11_111 : fl RX11 111 11 52 := ⟨by decide, by decide, in_r11 _ (List.mem_of_getElem? (i := 8) rfl)⟩
theorem fX11_114 : fl RX11 114 11 45 := ⟨by decide, by decide, in_r11 _ (List.mem_of_getElem? (i := 2) rfl)⟩
theorem fX11_117 : fl RX11 117 11 48 := ⟨by decide, by decide, in_r11 _ (List.mem_of_getElem? (i := 5) rfl)⟩
theorem fX11_120 : fl RX11 120 11 49 := ⟨by decide, by decide, in_r11 _ (List.mem_of_getElem? (i := 6) rfl)⟩
theorem fX11_123 : fl RX11 123 11 50 := ⟨by decide, by decide, in_r11 _ (List.mem_of_getElem? (i := 7) rfl)⟩
theorem fX11_126 : fl RX11 126 11 16 := ⟨by decide, by decide, in_r21 _ (List.mem_of_getElem? (i := 0) rfl)⟩
theorem fX11_129 : fl RX11 129 11 23 := ⟨by decide, by decide, in_r10 _ (List.mem_of_getElem? (i := 4) rfl)⟩
theorem fX11_132 : fl RX11 132 11 36 := ⟨by decide, by decide, in_r10 _ (List.mem_of_getElem? (i := 17) rfl)⟩
theorem fX11_135 : fl RX11 135 11 37 := ⟨by decide, by decide, in_r10 _ (List.mem_of_getElem? (i := 18) rfl)⟩
theorem fX11_138 : fl RX11 138 11 53 := ⟨by decide, by decide, in_r11 _ (List.mem_of_getElem? (i := 9) rfl)⟩
theorem fX11_141 : fl RX11 141 11 46 := ⟨by decide, by decide, in_r11 _ (List.mem_of_getElem? (i := 3) rfl)⟩
theorem fX11_144 : fl RX11 144 11 47 := ⟨by decide, by decide, in_r11 _ (List.mem_of_getElem? (i := 4) rfl)⟩
theorem fX11_158 : fl RX11 158 11 17 := ⟨by decide, by decide, in_r21 _ (List.mem_of_getElem? (i := 2) rfl)⟩
theorem fX11_161 : fl RX11 161 11 18 := ⟨by decide, by decide, in_r21 _ (List.mem_of_getElem? (i := 3) rfl)⟩
theorem fX11_207 : fl RX11 207 11 19 := ⟨by decide, by decide, in_r21 _ (List.mem_of_getElem? (i := 4) rfl)⟩
theorem fX11_329 : fl RX11 329 11 10 := ⟨by decide, by decide, in_r20 _ (List.mem_of_getElem? (i := 23) rfl)⟩
theorem fX11_332 : fl RX11 332 11 11 := ⟨by decide, by decide, in_r21 _ (List.mem_of_getElem? (i := 1) rfl)⟩
theorem fX11_221 : fl RX11 221 11 13 := ⟨by decide, by decide, in_r9 _ (List.mem_of_getElem? (i := 23) rfl)⟩
theorem fX11_224 : fl RX11 224 11 14 := ⟨by decide, by decide, in_r10 _ (List.mem_of_getElem? (i := 0) rfl)⟩
theorem fX11_335 : fl RX11 335 11 12 := ⟨by decide, by decide, in_r21 _ (List.mem_of_getElem? (i := 5) rfl)⟩
theorem fX11_227 : fl RX11 227 11 20 := ⟨by decide, by decide, in_r10 _ (List.mem_of_getElem? (i := 1) rfl)⟩
theorem fX11_230 : fl RX11 230 11 21 := ⟨by decide, by decide, in_r10 _ (List.mem_of_getElem? (i := 2) rfl)⟩
theorem fX11_233 : fl RX11 233 11 24 := ⟨by decide, by decide, in_r10 _ (List.mem_of_getElem? (i := 5) rfl)⟩
theorem fX11_235 : fl RX11 235 11 26 := ⟨by decide, by decide, in_r10 _ (List.mem_of_getElem? (i := 7) rfl)⟩
theorem fX11_238 : fl RX11 238 11 27 := ⟨by decide, by decide, in_r10 _ (List.mem_of_getElem? (i := 8) rfl)⟩
theorem fX11_241 : fl RX11 241 11 28 := ⟨by decide, by decide, in_r10 _ (List.mem_of_getElem? (i := 9) rfl)⟩
theorem fX11_244 : fl RX11 244 11 29 := ⟨by decide, by decide, in_r10 _ (List.mem_of_getElem? (i := 10) rfl)⟩
theorem fX11_246 : fl RX11 246 11 30 := ⟨by decide, by decide, in_r10 _ (List.mem_of_getElem? (i := 11) rfl)⟩
theorem fX11_249 : fl RX11 249 11 31 := ⟨by decide, by decide, in_r10 _ (List.mem_of_getElem? (i := 12) rfl)⟩
theorem fX11_252 : fl RX11 252 11 38 := ⟨by decide, by decide, in_r10 _ (List.mem_of_getElem? (i := 19) rfl)⟩
theorem fX11_254 : fl RX11 254 11 39 := ⟨by decide, by decide, in_r10 _ (List.mem_of_getElem? (i := 20) rfl)⟩
theorem fX11_257 : fl RX11 257 11 40 := ⟨by decide, by decide, in_r10 _ (List.mem_of_getElem? (i := 21) rfl)⟩
theorem fX11_259 : fl RX11 259 11 41 := ⟨by decide, by decide, in_r10 _ (List.mem_of_getElem? (i := 22) rfl)⟩
theorem fX11_261 : fl RX11 261 11 42 := ⟨by decide, by decide, in_r10 _ (List.mem_of_getElem? (i := 23) rfl)⟩
theorem fX11_264 : fl RX11 264 11 43 := ⟨by decide, by decide, in_r11 _ (List.mem_of_getElem? (i := 0) rfl)⟩
theorem fX11_267 : fl RX11 267 11 44 := ⟨by decide, by decide, in_r11 _ (List.mem_of_getElem? (i := 1) rfl)⟩
theorem fX11_283 : fl RX11 283 11 59 := ⟨by decide, by decide, in_r11 _ (List.mem_of_getElem? (i := 15) rfl)⟩
theorem fX11_310 : fl RX11 310 11 71 := ⟨by decide, by decide, in_r12 _ (List.mem_of_getElem? (i := 0) rfl)⟩
theorem fX11_313 : fl RX11 313 11 72 := ⟨by decide, by decide, in_r12 _ (List.mem_of_getElem? (i := 1) rfl)⟩
theorem fX11_346 : fl RX11 346 11 61 := ⟨by decide, by decide, in_r21 _ (List.mem_of_getElem? (i := 6) rfl)⟩
theorem fX11_301 : fl RX11 301 11 67 := ⟨by decide, by decide, in_r11 _ (List.mem_of_getElem? (i := 21) rfl)⟩
theorem fX11_304 : fl RX11 304 11 68 := ⟨by decide, by decide, in_r11 _ (List.mem_of_getElem? (i := 22) rfl)⟩
theorem fX11_273 : fl RX11 273 11 55 := ⟨by decide, by decide, in_r11 _ (List.mem_of_getElem? (i := 11) rfl)⟩
theorem fX11_270 : fl RX11 270 11 54 := ⟨by decide, by decide, in_r11 _ (List.mem_of_getElem? (i := 10) rfl)⟩
theorem fX11_423 : fl RX11 423 11 56 := ⟨by decide, by decide, in_r38 _ (List.mem_of_getElem? (i := 1) rfl)⟩
theorem fX11_279 : fl RX11 279 11 58 := ⟨by decide, by decide, in_r11 _ (List.mem_of_getElem? (i := 14) rfl)⟩
theorem fX11_276 : fl RX11 276 11 57 := ⟨by decide, by decide, in_r11 _ (List.mem_of_getElem? (i := 12) rfl)⟩
theorem fX11_289 : fl RX11 289 11 62 := ⟨by decide, by decide, in_r11 _ (List.mem_of_getElem? (i := 17) rfl)⟩
theorem fX11_292 : fl RX11 292 11 63 := ⟨by decide, by decide, in_r11 _ (List.mem_of_getElem? (i := 18) rfl)⟩
theorem fX11_470 : fl RX11 470 11 64 := ⟨by decide, by decide, in_r43 _ (List.mem_of_getElem? (i := 0) rfl)⟩
theorem fX11_295 : fl RX11 295 11 65 := ⟨by decide, by decide, in_r11 _ (List.mem_of_getElem? (i := 19) rfl)⟩
theorem fX11_298 : fl RX11 298 11 66 := ⟨by decide, by decide, in_r11 _ (List.mem_of_getElem? (i := 20) rfl)⟩
theorem fX11_286 : fl RX11 286 11 60 := ⟨by decide, by decide, in_r11 _ (List.mem_of_getElem? (i := 16) rfl)⟩
theorem fX11_307 : fl RX11 307 11 69 := ⟨by decide, by decide, in_r11 _ (List.mem_of_getElem? (i := 23) rfl)⟩
theorem fX11_512 : fl RX11 512 11 70 := ⟨by decide, by decide, in_r51 _ (List.mem_of_getElem? (i := 16) rfl)⟩
theorem fX11_316 : fl RX11 316 11 73 := ⟨by decide, by decide, in_r12 _ (List.mem_of_getElem? (i := 2) rfl)⟩
theorem fX11_527 : fl RX11 527 11 74 := ⟨by decide, by decide, in_r55 _ (List.mem_of_getElem? (i := 9) rfl)⟩
theorem fX11_530 : fl RX11 530 11 75 := ⟨by decide, by decide, in_r55 _ (List.mem_of_getElem? (i := 10) rfl)⟩
theorem kX9_60 : Cond.constant RX9 60 (1000000) ∈ wsL_law := in_r40 _ (List.mem_of_getElem? (i := 22) rfl)
theorem kX10_309 : Cond.constant RX10 309 (-1000000) ∈ wsL_law := in_r54 _ (List.mem_of_getElem? (i := 3) rfl)
theorem kX11_460 : Cond.constant RX11 460 (1000000) ∈ wsL_law := in_r43 _ (List.mem_of_getElem? (i := 1) rfl)
theorem kX11_544 : Cond.constant RX11 544 (-1000000) ∈ wsL_law := in_r55 _ (List.mem_of_getElem? (i := 8) rfl)
theorem klX1_50 : Cond.constantLong RX1 50 (1000) ∈ wsL_law := in_r54 _ (List.mem_of_getElem? (i := 22) rfl)
theorem klX2_90 : Cond.constantLong RX2 90 (1152921504606846976) ∈ wsL_law := in_r35 _ (List.mem_of_getElem? (i := 20) rfl)
theorem klX4_52 : Cond.constantLong RX4 52 (2147483647) ∈ wsL_law := in_r44 _ (List.mem_of_getElem? (i := 21) rfl)
theorem klX4_54 : Cond.constantLong RX4 54 (1000) ∈ wsL_law := in_r44 _ (List.mem_of_getElem? (i := 22) rfl)
theorem klX11_353 : Cond.constantLong RX11 353 (10) ∈ wsL_law := in_r27 _ (List.mem_of_getElem? (i := 14) rfl)
theorem klX11_355 : Cond.constantLong RX11 355 (16) ∈ wsL_law := in_r27 _ (List.mem_of_getElem? (i := 15) rfl)
theorem klX11_357 : Cond.constantLong RX11 357 (20) ∈ wsL_law := in_r27 _ (List.mem_of_getElem? (i := 16) rfl)
theorem klX11_359 : Cond.constantLong RX11 359 (59) ∈ wsL_law := in_r27 _ (List.mem_of_getElem? (i := 17) rfl)
theorem klX11_361 : Cond.constantLong RX11 361 (60) ∈ wsL_law := in_r27 _ (List.mem_of_getElem? (i := 18) rfl)
theorem klX11_363 : Cond.constantLong RX11 363 (79) ∈ wsL_law := in_r27 _ (List.mem_of_getElem? (i := 19) rfl)
theorem klX11_365 : Cond.constantLong RX11 365 (6) ∈ wsL_law := in_r28 _ (List.mem_of_getElem? (i := 19) rfl)
theorem klX11_376 : Cond.constantLong RX11 376 (2) ∈ wsL_law := in_r30 _ (List.mem_of_getElem? (i := 9) rfl)
theorem klX11_378 : Cond.constantLong RX11 378 (5) ∈ wsL_law := in_r31 _ (List.mem_of_getElem? (i := 10) rfl)
theorem klX11_408 : Cond.constantLong RX11 408 (47) ∈ wsL_law := in_r33 _ (List.mem_of_getElem? (i := 23) rfl)
theorem klX11_433 : Cond.constantLong RX11 433 (28) ∈ wsL_law := in_r37 _ (List.mem_of_getElem? (i := 11) rfl)
theorem klX11_452 : Cond.constantLong RX11 452 (4) ∈ wsL_law := in_r39 _ (List.mem_of_getElem? (i := 15) rfl)
theorem klX11_482 : Cond.constantLong RX11 482 (70) ∈ wsL_law := in_r42 _ (List.mem_of_getElem? (i := 19) rfl)
theorem klX11_488 : Cond.constantLong RX11 488 (1000) ∈ wsL_law := in_r45 _ (List.mem_of_getElem? (i := 10) rfl)
theorem klX11_500 : Cond.constantLong RX11 500 (18) ∈ wsL_law := in_r47 _ (List.mem_of_getElem? (i := 20) rfl)
theorem klX11_515 : Cond.constantLong RX11 515 (9) ∈ wsL_law := in_r51 _ (List.mem_of_getElem? (i := 14) rfl)
theorem klX11_517 : Cond.constantLong RX11 517 (100) ∈ wsL_law := in_r51 _ (List.mem_of_getElem? (i := 15) rfl)
theorem klX11_523 : Cond.constantLong RX11 523 (999) ∈ wsL_law := in_r52 _ (List.mem_of_getElem? (i := 13) rfl)
theorem klX11_525 : Cond.constantLong RX11 525 (52) ∈ wsL_law := in_r52 _ (List.mem_of_getElem? (i := 14) rfl)
theorem klX11_536 : Cond.constantLong RX11 536 (900) ∈ wsL_law := in_r55 _ (List.mem_of_getElem? (i := 14) rfl)
theorem klX11_538 : Cond.constantLong RX11 538 (40) ∈ wsL_law := in_r55 _ (List.mem_of_getElem? (i := 15) rfl)
theorem zX0_pricesAsTold : csZ mX0_pricesAsTold 0 := ⟨⟨by decide +kernel, by decide +kernel, by decide +kernel⟩, in_r8 _ (List.mem_of_getElem? (i := 8) rfl), in_r1 _ (List.mem_of_getElem? (i := 22) rfl)⟩
theorem vX0_pricesAsTold : Cond.instanceMethod yX0_pricesAsTold ∈ wsL_law ∧ Cond.selects RX0 yX0_pricesAsTold yX0_pricesAsTold ∈ wsL_law := ⟨in_r8 _ (List.mem_of_getElem? (i := 6) rfl), in_r8 _ (List.mem_of_getElem? (i := 7) rfl)⟩
theorem lX0_43 : Cond.methodLink RX0 43 yX0_pricesAsTold ∈ wsL_law := in_r8 _ (List.mem_of_getElem? (i := 5) rfl)
theorem zX0_lossesAsTold : csZ mX0_lossesAsTold 0 := ⟨⟨by decide +kernel, by decide +kernel, by decide +kernel⟩, in_r8 _ (List.mem_of_getElem? (i := 17) rfl), in_r1 _ (List.mem_of_getElem? (i := 22) rfl)⟩
theorem vX0_lossesAsTold : Cond.instanceMethod yX0_lossesAsTold ∈ wsL_law ∧ Cond.selects RX0 yX0_lossesAsTold yX0_lossesAsTold ∈ wsL_law := ⟨in_r8 _ (List.mem_of_getElem? (i := 15) rfl), in_r8 _ (List.mem_of_getElem? (i := 16) rfl)⟩
theorem lX0_46 : Cond.methodLink RX0 46 yX0_lossesAsTold ∈ wsL_law := in_r8 _ (List.mem_of_getElem? (i := 14) rfl)
theorem zX0_stampAll : csZ mX0_stampAll 0 := ⟨⟨by decide +kernel, by decide +kernel, by decide +kernel⟩, in_r8 _ (List.mem_of_getElem? (i := 22) rfl), in_r1 _ (List.mem_of_getElem? (i := 22) rfl)⟩
theorem vX0_stampAll : Cond.instanceMethod yX0_stampAll ∈ wsL_law ∧ Cond.selects RX0 yX0_stampAll yX0_stampAll ∈ wsL_law := ⟨in_r8 _ (List.mem_of_getElem? (i := 20) rfl), in_r8 _ (List.mem_of_getElem? (i := 21) rfl)⟩
theorem lX0_57 : Cond.methodLink RX0 57 yX0_stampAll ∈ wsL_law := in_r8 _ (List.mem_of_getElem? (i := 19) rfl)
theorem zX10_stampsOf : csZ mX10_stampsOf 2 := ⟨⟨by decide +kernel, by decide +kernel, by decide +kernel⟩, in_r9 _ (List.mem_of_getElem? (i := 0) rfl), in_r1 _ (List.mem_of_getElem? (i := 2) rfl)⟩
theorem tX10_stampsOf : Cond.static yX10_stampsOf ∈ wsL_law := in_r8 _ (List.mem_of_getElem? (i := 23) rfl)
theorem lX0_60 : Cond.methodLinkNest RX0 60 yX10_stampsOf RX10 ∈ nestW := by decide +kernel
theorem zJ7_fill_53178 : csZ mJ7_fill_53178 2 := ⟨⟨by decide +kernel, by decide +kernel, by decide +kernel⟩, in_r5 _ (List.mem_of_getElem? (i := 2) rfl), in_r5 _ (List.mem_of_getElem? (i := 1) rfl)⟩
theorem tJ7_fill_53178 : Cond.static yJ7_fill_53178 ∈ wsL_law := in_r5 _ (List.mem_of_getElem? (i := 0) rfl)
theorem lX1_22 : Cond.methodLink RX1 22 yJ7_fill_53178 ∈ wsL_law := in_r9 _ (List.mem_of_getElem? (i := 16) rfl)
theorem zX1_goOn : csZ mX1_goOn 3 := ⟨⟨by decide +kernel, by decide +kernel, by decide +kernel⟩, in_r54 _ (List.mem_of_getElem? (i := 21) rfl), in_r3 _ (List.mem_of_getElem? (i := 0) rfl)⟩
theorem vX1_goOn : Cond.instanceMethod yX1_goOn ∈ wsL_law ∧ Cond.selects RX1 yX1_goOn yX1_goOn ∈ wsL_law := ⟨in_r54 _ (List.mem_of_getElem? (i := 19) rfl), in_r54 _ (List.mem_of_getElem? (i := 20) rfl)⟩
theorem lX1_64 : Cond.methodLink RX1 64 yX1_goOn ∈ wsL_law := in_r56 _ (List.mem_of_getElem? (i := 5) rfl)
theorem zJ7_fill_d0a16 : csZ mJ7_fill_d0a16 2 := ⟨⟨by decide +kernel, by decide +kernel, by decide +kernel⟩, in_r35 _ (List.mem_of_getElem? (i := 11) rfl), in_r5 _ (List.mem_of_getElem? (i := 1) rfl)⟩
theorem tJ7_fill_d0a16 : Cond.static yJ7_fill_d0a16 ∈ wsL_law := in_r35 _ (List.mem_of_getElem? (i := 10) rfl)
theorem lX2_36 : Cond.methodLink RX2 36 yJ7_fill_d0a16 ∈ wsL_law := in_r35 _ (List.mem_of_getElem? (i := 9) rfl)
theorem zX6_load : csZ mX6_load 3 := ⟨⟨by decide +kernel, by decide +kernel, by decide +kernel⟩, in_r32 _ (List.mem_of_getElem? (i := 14) rfl), in_r5 _ (List.mem_of_getElem? (i := 19) rfl)⟩
theorem vX6_load : Cond.instanceMethod yX6_load ∈ wsL_law ∧ Cond.selects RX6 yX6_load yX6_load ∈ wsL_law := ⟨in_r32 _ (List.mem_of_getElem? (i := 12) rfl), in_r32 _ (List.mem_of_getElem? (i := 13) rfl)⟩
theorem lX2_42 : Cond.methodLink RX2 42 yX6_load ∈ wsL_law := in_r35 _ (List.mem_of_getElem? (i := 12) rfl)
theorem zX2_spread : csZ mX2_spread 2 := ⟨⟨by decide +kernel, by decide +kernel, by decide +kernel⟩, in_r35 _ (List.mem_of_getElem? (i := 16) rfl), in_r2 _ (List.mem_of_getElem? (i := 6) rfl)⟩
theorem vX2_spread : Cond.instanceMethod yX2_spread ∈ wsL_law ∧ Cond.selects RX2 yX2_spread yX2_spread ∈ wsL_law := ⟨in_r35 _ (List.mem_of_getElem? (i := 14) rfl), in_r35 _ (List.mem_of_getElem? (i := 15) rfl)⟩
theorem lX2_57 : Cond.methodLink RX2 57 yX2_spread ∈ wsL_law := in_r35 _ (List.mem_of_getElem? (i := 13) rfl)
theorem zX2_sleep : csZ mX2_sleep 2 := ⟨⟨by decide +kernel, by decide +kernel, by decide +kernel⟩, in_r36 _ (List.mem_of_getElem? (i := 11) rfl), in_r2 _ (List.mem_of_getElem? (i := 6) rfl)⟩
theorem vX2_sleep : Cond.instanceMethod yX2_sleep ∈ wsL_law ∧ Cond.selects RX2 yX2_sleep yX2_sleep ∈ wsL_law := ⟨in_r36 _ (List.mem_of_getElem? (i := 9) rfl), in_r36 _ (List.mem_of_getElem? (i := 10) rfl)⟩
theorem lX2_61 : Cond.methodLink RX2 61 yX2_sleep ∈ wsL_law := in_r36 _ (List.mem_of_getElem? (i := 8) rfl)
theorem lX2_64 : Cond.methodLink RX2 64 yJ7_fill_53178 ∈ wsL_law := in_r36 _ (List.mem_of_getElem? (i := 14) rfl)
theorem zX2_weighDay : csZ mX2_weighDay 4 := ⟨⟨by decide +kernel, by decide +kernel, by decide +kernel⟩, in_r36 _ (List.mem_of_getElem? (i := 18) rfl), in_r2 _ (List.mem_of_getElem? (i := 6) rfl)⟩
theorem vX2_weighDay : Cond.instanceMethod yX2_weighDay ∈ wsL_law ∧ Cond.selects RX2 yX2_weighDay yX2_weighDay ∈ wsL_law := ⟨in_r36 _ (List.mem_of_getElem? (i := 16) rfl), in_r36 _ (List.mem_of_getElem? (i := 17) rfl)⟩
theorem lX2_71 : Cond.methodLink RX2 71 yX2_weighDay ∈ wsL_law := in_r36 _ (List.mem_of_getElem? (i := 15) rfl)
theorem zX2_withEarned : csZ mX2_withEarned 2 := ⟨⟨by decide +kernel, by decide +kernel, by decide +kernel⟩, in_r35 _ (List.mem_of_getElem? (i := 19) rfl), in_r2 _ (List.mem_of_getElem? (i := 6) rfl)⟩
theorem tX2_withEarned : Cond.static yX2_withEarned ∈ wsL_law := in_r35 _ (List.mem_of_getElem? (i := 18) rfl)
theorem lX2_78 : Cond.methodLink RX2 78 yX2_withEarned ∈ wsL_law := in_r35 _ (List.mem_of_getElem? (i := 17) rfl)
theorem zX6_mostFromStore : csZ mX6_mostFromStore 1 := ⟨⟨by decide +kernel, by decide +kernel, by decide +kernel⟩, in_r33 _ (List.mem_of_getElem? (i := 14) rfl), in_r5 _ (List.mem_of_getElem? (i := 19) rfl)⟩
theorem vX6_mostFromStore : Cond.instanceMethod yX6_mostFromStore ∈ wsL_law ∧ Cond.selects RX6 yX6_mostFromStore yX6_mostFromStore ∈ wsL_law := ⟨in_r33 _ (List.mem_of_getElem? (i := 12) rfl), in_r33 _ (List.mem_of_getElem? (i := 13) rfl)⟩
theorem lX2_82 : Cond.methodLink RX2 82 yX6_mostFromStore ∈ wsL_law := in_r35 _ (List.mem_of_getElem? (i := 21) rfl)
theorem zX2_spend : csZ mX2_spend 3 := ⟨⟨by decide +kernel, by decide +kernel, by decide +kernel⟩, in_r36 _ (List.mem_of_getElem? (i := 1) rfl), in_r2 _ (List.mem_of_getElem? (i := 6) rfl)⟩
theorem vX2_spend : Cond.instanceMethod yX2_spend ∈ wsL_law ∧ Cond.selects RX2 yX2_spend yX2_spend ∈ wsL_law := ⟨in_r35 _ (List.mem_of_getElem? (i := 23) rfl), in_r36 _ (List.mem_of_getElem? (i := 0) rfl)⟩
theorem lX2_86 : Cond.methodLink RX2 86 yX2_spend ∈ wsL_law := in_r35 _ (List.mem_of_getElem? (i := 22) rfl)
theorem zX0_coinsBehind : csZ mX0_coinsBehind 3 := ⟨⟨by decide +kernel, by decide +kernel, by decide +kernel⟩, in_r30 _ (List.mem_of_getElem? (i := 23) rfl), in_r1 _ (List.mem_of_getElem? (i := 22) rfl)⟩
theorem vX0_coinsBehind : Cond.instanceMethod yX0_coinsBehind ∈ wsL_law ∧ Cond.selects RX0 yX0_coinsBehind yX0_coinsBehind ∈ wsL_law := ⟨in_r30 _ (List.mem_of_getElem? (i := 21) rfl), in_r30 _ (List.mem_of_getElem? (i := 22) rfl)⟩
theorem lX2_116 : Cond.methodLink RX2 116 yX0_coinsBehind ∈ wsL_law := in_r36 _ (List.mem_of_getElem? (i := 13) rfl)
theorem zX2_weigh : csZ mX2_weigh 3 := ⟨⟨by decide +kernel, by decide +kernel, by decide +kernel⟩, in_r37 _ (List.mem_of_getElem? (i := 1) rfl), in_r2 _ (List.mem_of_getElem? (i := 6) rfl)⟩
theorem vX2_weigh : Cond.instanceMethod yX2_weigh ∈ wsL_law ∧ Cond.selects RX2 yX2_weigh yX2_weigh ∈ wsL_law := ⟨in_r36 _ (List.mem_of_getElem? (i := 23) rfl), in_r37 _ (List.mem_of_getElem? (i := 0) rfl)⟩
theorem lX2_123 : Cond.methodLink RX2 123 yX2_weigh ∈ wsL_law := in_r36 _ (List.mem_of_getElem? (i := 22) rfl)
theorem zX7_forget : csZ mX7_forget 0 := ⟨⟨by decide +kernel, by decide +kernel, by decide +kernel⟩, in_r4 _ (List.mem_of_getElem? (i := 17) rfl), in_r2 _ (List.mem_of_getElem? (i := 1) rfl)⟩
theorem vX7_forget : Cond.instanceMethod yX7_forget ∈ wsL_law ∧ Cond.selects RX7 yX7_forget yX7_forget ∈ wsL_law := ⟨in_r4 _ (List.mem_of_getElem? (i := 15) rfl), in_r4 _ (List.mem_of_getElem? (i := 16) rfl)⟩
theorem lX3_26 : Cond.methodLink RX3 26 yX7_forget ∈ wsL_law := in_r13 _ (List.mem_of_getElem? (i := 18) rfl)
theorem zX3_note : csZ mX3_note 1 := ⟨⟨by decide +kernel, by decide +kernel, by decide +kernel⟩, in_r13 _ (List.mem_of_getElem? (i := 22) rfl), in_r1 _ (List.mem_of_getElem? (i := 18) rfl)⟩
theorem vX3_note : Cond.instanceMethod yX3_note ∈ wsL_law ∧ Cond.selects RX3 yX3_note yX3_note ∈ wsL_law := ⟨in_r13 _ (List.mem_of_getElem? (i := 20) rfl), in_r13 _ (List.mem_of_getElem? (i := 21) rfl)⟩
theorem lX3_31 : Cond.methodLink RX3 31 yX3_note ∈ wsL_law := in_r13 _ (List.mem_of_getElem? (i := 19) rfl)
theorem zX5_rewind : csZ mX5_rewind 0 := ⟨⟨by decide +kernel, by decide +kernel, by decide +kernel⟩, in_r14 _ (List.mem_of_getElem? (i := 3) rfl), in_r1 _ (List.mem_of_getElem? (i := 14) rfl)⟩
theorem vX5_rewind : Cond.instanceMethod yX5_rewind ∈ wsL_law ∧ Cond.selects RX5 yX5_rewind yX5_rewind ∈ wsL_law := ⟨in_r14 _ (List.mem_of_getElem? (i := 1) rfl), in_r14 _ (List.mem_of_getElem? (i := 2) rfl)⟩
theorem lX3_35 : Cond.methodLink RX3 35 yX5_rewind ∈ wsL_law := in_r14 _ (List.mem_of_getElem? (i := 0) rfl)
theorem zX5_next : csZ mX5_next 0 := ⟨⟨by decide +kernel, by decide +kernel, by decide +kernel⟩, in_r14 _ (List.mem_of_getElem? (i := 8) rfl), in_r1 _ (List.mem_of_getElem? (i := 14) rfl)⟩
theorem vX5_next : Cond.instanceMethod yX5_next ∈ wsL_law ∧ Cond.selects RX5 yX5_next yX5_next ∈ wsL_law := ⟨in_r14 _ (List.mem_of_getElem? (i := 6) rfl), in_r14 _ (List.mem_of_getElem? (i := 7) rfl)⟩
theorem lX3_40 : Cond.methodLink RX3 40 yX5_next ∈ wsL_law := in_r14 _ (List.mem_of_getElem? (i := 5) rfl)
theorem zX3_clauseAtHand : csZ mX3_clauseAtHand 0 := ⟨⟨by decide +kernel, by decide +kernel, by decide +kernel⟩, in_r15 _ (List.mem_of_getElem? (i := 6) rfl), in_r1 _ (List.mem_of_getElem? (i := 18) rfl)⟩
theorem vX3_clauseAtHand : Cond.instanceMethod yX3_clauseAtHand ∈ wsL_law ∧ Cond.selects RX3 yX3_clauseAtHand yX3_clauseAtHand ∈ wsL_law := ⟨in_r15 _ (List.mem_of_getElem? (i := 4) rfl), in_r15 _ (List.mem_of_getElem? (i := 5) rfl)⟩
theorem lX3_46 : Cond.methodLink RX3 46 yX3_clauseAtHand ∈ wsL_law := in_r15 _ (List.mem_of_getElem? (i := 3) rfl)
theorem zX7_faultAhead : csZ mX7_faultAhead 1 := ⟨⟨by decide +kernel, by decide +kernel, by decide +kernel⟩, in_r17 _ (List.mem_of_getElem? (i := 18) rfl), in_r2 _ (List.mem_of_getElem? (i := 1) rfl)⟩
theorem vX7_faultAhead : Cond.instanceMethod yX7_faultAhead ∈ wsL_law ∧ Cond.selects RX7 yX7_faultAhead yX7_faultAhead ∈ wsL_law := ⟨in_r17 _ (List.mem_of_getElem? (i := 16) rfl), in_r17 _ (List.mem_of_getElem? (i := 17) rfl)⟩
theorem lX3_50 : Cond.methodLink RX3 50 yX7_faultAhead ∈ wsL_law := in_r17 _ (List.mem_of_getElem? (i := 15) rfl)
theorem zX3_faultInParts : csZ mX3_faultInParts 2 := ⟨⟨by decide +kernel, by decide +kernel, by decide +kernel⟩, in_r18 _ (List.mem_of_getElem? (i := 2) rfl), in_r1 _ (List.mem_of_getElem? (i := 18) rfl)⟩
theorem vX3_faultInParts : Cond.instanceMethod yX3_faultInParts ∈ wsL_law ∧ Cond.selects RX3 yX3_faultInParts yX3_faultInParts ∈ wsL_law := ⟨in_r18 _ (List.mem_of_getElem? (i := 0) rfl), in_r18 _ (List.mem_of_getElem? (i := 1) rfl)⟩
theorem lX3_54 : Cond.methodLink RX3 54 yX3_faultInParts ∈ wsL_law := in_r17 _ (List.mem_of_getElem? (i := 23) rfl)
theorem zX7_tell : csZ mX7_tell 2 := ⟨⟨by decide +kernel, by decide +kernel, by decide +kernel⟩, in_r19 _ (List.mem_of_getElem? (i := 17) rfl), in_r2 _ (List.mem_of_getElem? (i := 1) rfl)⟩
theorem vX7_tell : Cond.instanceMethod yX7_tell ∈ wsL_law ∧ Cond.selects RX7 yX7_tell yX7_tell ∈ wsL_law := ⟨in_r19 _ (List.mem_of_getElem? (i := 15) rfl), in_r19 _ (List.mem_of_getElem? (i := 16) rfl)⟩
theorem lX3_58 : Cond.methodLink RX3 58 yX7_tell ∈ wsL_law := in_r19 _ (List.mem_of_getElem? (i := 14) rfl)
theorem zX7_isLoss : csZ mX7_isLoss 1 := ⟨⟨by decide +kernel, by decide +kernel, by decide +kernel⟩, in_r56 _ (List.mem_of_getElem? (i := 21) rfl), in_r2 _ (List.mem_of_getElem? (i := 1) rfl)⟩
theorem vX7_isLoss : Cond.instanceMethod yX7_isLoss ∈ wsL_law ∧ Cond.selects RX7 yX7_isLoss yX7_isLoss ∈ wsL_law := ⟨in_r56 _ (List.mem_of_getElem? (i := 19) rfl), in_r56 _ (List.mem_of_getElem? (i := 20) rfl)⟩
theorem lX3_62 : Cond.methodLink RX3 62 yX7_isLoss ∈ wsL_law := in_r56 _ (List.mem_of_getElem? (i := 18) rfl)
theorem zX3_wordOf : csZ mX3_wordOf 1 := ⟨⟨by decide +kernel, by decide +kernel, by decide +kernel⟩, in_r15 _ (List.mem_of_getElem? (i := 10) rfl), in_r1 _ (List.mem_of_getElem? (i := 18) rfl)⟩
theorem tX3_wordOf : Cond.static yX3_wordOf ∈ wsL_law := in_r15 _ (List.mem_of_getElem? (i := 9) rfl)
theorem lX3_72 : Cond.methodLink RX3 72 yX3_wordOf ∈ wsL_law := in_r15 _ (List.mem_of_getElem? (i := 8) rfl)
theorem zX3_lettersOf : csZ mX3_lettersOf 1 := ⟨⟨by decide +kernel, by decide +kernel, by decide +kernel⟩, in_r15 _ (List.mem_of_getElem? (i := 13) rfl), in_r1 _ (List.mem_of_getElem? (i := 18) rfl)⟩
theorem tX3_lettersOf : Cond.static yX3_lettersOf ∈ wsL_law := in_r15 _ (List.mem_of_getElem? (i := 12) rfl)
theorem lX3_76 : Cond.methodLink RX3 76 yX3_lettersOf ∈ wsL_law := in_r15 _ (List.mem_of_getElem? (i := 11) rfl)
theorem zX3_shapeOf : csZ mX3_shapeOf 1 := ⟨⟨by decide +kernel, by decide +kernel, by decide +kernel⟩, in_r18 _ (List.mem_of_getElem? (i := 5) rfl), in_r1 _ (List.mem_of_getElem? (i := 18) rfl)⟩
theorem tX3_shapeOf : Cond.static yX3_shapeOf ∈ wsL_law := in_r18 _ (List.mem_of_getElem? (i := 4) rfl)
theorem lX3_84 : Cond.methodLink RX3 84 yX3_shapeOf ∈ wsL_law := in_r18 _ (List.mem_of_getElem? (i := 3) rfl)
theorem zX3_faultOfName : csZ mX3_faultOfName 4 := ⟨⟨by decide +kernel, by decide +kernel, by decide +kernel⟩, in_r18 _ (List.mem_of_getElem? (i := 9) rfl), in_r1 _ (List.mem_of_getElem? (i := 18) rfl)⟩
theorem vX3_faultOfName : Cond.instanceMethod yX3_faultOfName ∈ wsL_law ∧ Cond.selects RX3 yX3_faultOfName yX3_faultOfName ∈ wsL_law := ⟨in_r18 _ (List.mem_of_getElem? (i := 7) rfl), in_r18 _ (List.mem_of_getElem? (i := 8) rfl)⟩
theorem lX3_96 : Cond.methodLink RX3 96 yX3_faultOfName ∈ wsL_law := in_r18 _ (List.mem_of_getElem? (i := 6) rfl)
theorem zX3_faultOfNumber : csZ mX3_faultOfNumber 4 := ⟨⟨by decide +kernel, by decide +kernel, by decide +kernel⟩, in_r19 _ (List.mem_of_getElem? (i := 6) rfl), in_r1 _ (List.mem_of_getElem? (i := 18) rfl)⟩
theorem vX3_faultOfNumber : Cond.instanceMethod yX3_faultOfNumber ∈ wsL_law ∧ Cond.selects RX3 yX3_faultOfNumber yX3_faultOfNumber ∈ wsL_law := ⟨in_r19 _ (List.mem_of_getElem? (i := 4) rfl), in_r19 _ (List.mem_of_getElem? (i := 5) rfl)⟩
theorem lX3_100 : Cond.methodLink RX3 100 yX3_faultOfNumber ∈ wsL_law := in_r19 _ (List.mem_of_getElem? (i := 3) rfl)
theorem zX7_sortNamed : csZ mX7_sortNamed 1 := ⟨⟨by decide +kernel, by decide +kernel, by decide +kernel⟩, in_r18 _ (List.mem_of_getElem? (i := 13) rfl), in_r2 _ (List.mem_of_getElem? (i := 1) rfl)⟩
theorem vX7_sortNamed : Cond.instanceMethod yX7_sortNamed ∈ wsL_law ∧ Cond.selects RX7 yX7_sortNamed yX7_sortNamed ∈ wsL_law := ⟨in_r18 _ (List.mem_of_getElem? (i := 11) rfl), in_r18 _ (List.mem_of_getElem? (i := 12) rfl)⟩
theorem lX3_103 : Cond.methodLink RX3 103 yX7_sortNamed ∈ wsL_law := in_r18 _ (List.mem_of_getElem? (i := 10) rfl)
theorem zX7_thingNamed : csZ mX7_thingNamed 1 := ⟨⟨by decide +kernel, by decide +kernel, by decide +kernel⟩, in_r18 _ (List.mem_of_getElem? (i := 21) rfl), in_r2 _ (List.mem_of_getElem? (i := 1) rfl)⟩
theorem vX7_thingNamed : Cond.instanceMethod yX7_thingNamed ∈ wsL_law ∧ Cond.selects RX7 yX7_thingNamed yX7_thingNamed ∈ wsL_law := ⟨in_r18 _ (List.mem_of_getElem? (i := 19) rfl), in_r18 _ (List.mem_of_getElem? (i := 20) rfl)⟩
theorem lX3_107 : Cond.methodLink RX3 107 yX7_thingNamed ∈ wsL_law := in_r18 _ (List.mem_of_getElem? (i := 18) rfl)
theorem zX7_name : csZ mX7_name 2 := ⟨⟨by decide +kernel, by decide +kernel, by decide +kernel⟩, in_r19 _ (List.mem_of_getElem? (i := 1) rfl), in_r2 _ (List.mem_of_getElem? (i := 1) rfl)⟩
theorem vX7_name : Cond.instanceMethod yX7_name ∈ wsL_law ∧ Cond.selects RX7 yX7_name yX7_name ∈ wsL_law := ⟨in_r18 _ (List.mem_of_getElem? (i := 23) rfl), in_r19 _ (List.mem_of_getElem? (i := 0) rfl)⟩
theorem lX3_110 : Cond.methodLink RX3 110 yX7_name ∈ wsL_law := in_r18 _ (List.mem_of_getElem? (i := 22) rfl)
theorem zX7_isTold : csZ mX7_isTold 3 := ⟨⟨by decide +kernel, by decide +kernel, by decide +kernel⟩, in_r17 _ (List.mem_of_getElem? (i := 22) rfl), in_r2 _ (List.mem_of_getElem? (i := 1) rfl)⟩
theorem vX7_isTold : Cond.instanceMethod yX7_isTold ∈ wsL_law ∧ Cond.selects RX7 yX7_isTold yX7_isTold ∈ wsL_law := ⟨in_r17 _ (List.mem_of_getElem? (i := 20) rfl), in_r17 _ (List.mem_of_getElem? (i := 21) rfl)⟩
theorem lX3_114 : Cond.methodLink RX3 114 yX7_isTold ∈ wsL_law := in_r19 _ (List.mem_of_getElem? (i := 2) rfl)
theorem zX3_leastOf : csZ mX3_leastOf 1 := ⟨⟨by decide +kernel, by decide +kernel, by decide +kernel⟩, in_r19 _ (List.mem_of_getElem? (i := 10) rfl), in_r1 _ (List.mem_of_getElem? (i := 18) rfl)⟩
theorem tX3_leastOf : Cond.static yX3_leastOf ∈ wsL_law := in_r19 _ (List.mem_of_getElem? (i := 9) rfl)
theorem lX3_121 : Cond.methodLink RX3 121 yX3_leastOf ∈ wsL_law := in_r19 _ (List.mem_of_getElem? (i := 8) rfl)
theorem zX3_mostOf : csZ mX3_mostOf 1 := ⟨⟨by decide +kernel, by decide +kernel, by decide +kernel⟩, in_r19 _ (List.mem_of_getElem? (i := 13) rfl), in_r1 _ (List.mem_of_getElem? (i := 18) rfl)⟩
theorem tX3_mostOf : Cond.static yX3_mostOf ∈ wsL_law := in_r19 _ (List.mem_of_getElem? (i := 12) rfl)
theorem lX3_125 : Cond.methodLink RX3 125 yX3_mostOf ∈ wsL_law := in_r19 _ (List.mem_of_getElem? (i := 11) rfl)
theorem lX4_32 : Cond.methodLink RX4 32 yJ7_fill_53178 ∈ wsL_law := in_r9 _ (List.mem_of_getElem? (i := 10) rfl)
theorem zX4_sum : csZ mX4_sum 1 := ⟨⟨by decide +kernel, by decide +kernel, by decide +kernel⟩, in_r45 _ (List.mem_of_getElem? (i := 5) rfl), in_r2 _ (List.mem_of_getElem? (i := 14) rfl)⟩
theorem vX4_sum : Cond.instanceMethod yX4_sum ∈ wsL_law ∧ Cond.selects RX4 yX4_sum yX4_sum ∈ wsL_law := ⟨in_r45 _ (List.mem_of_getElem? (i := 3) rfl), in_r45 _ (List.mem_of_getElem? (i := 4) rfl)⟩
theorem lX4_56 : Cond.methodLink RX4 56 yX4_sum ∈ wsL_law := in_r45 _ (List.mem_of_getElem? (i := 2) rfl)
theorem zX5_isLetter : csZ mX5_isLetter 1 := ⟨⟨by decide +kernel, by decide +kernel, by decide +kernel⟩, in_r14 _ (List.mem_of_getElem? (i := 13) rfl), in_r1 _ (List.mem_of_getElem? (i := 14) rfl)⟩
theorem tX5_isLetter : Cond.static yX5_isLetter ∈ wsL_law := in_r14 _ (List.mem_of_getElem? (i := 12) rfl)
theorem lX5_28 : Cond.methodLink RX5 28 yX5_isLetter ∈ wsL_law := in_r14 _ (List.mem_of_getElem? (i := 11) rfl)
theorem zX5_readWord : csZ mX5_readWord 0 := ⟨⟨by decide +kernel, by decide +kernel, by decide +kernel⟩, in_r14 _ (List.mem_of_getElem? (i := 17) rfl), in_r1 _ (List.mem_of_getElem? (i := 14) rfl)⟩
theorem vX5_readWord : Cond.instanceMethod yX5_readWord ∈ wsL_law ∧ Cond.selects RX5 yX5_readWord yX5_readWord ∈ wsL_law := ⟨in_r14 _ (List.mem_of_getElem? (i := 15) rfl), in_r14 _ (List.mem_of_getElem? (i := 16) rfl)⟩
theorem lX5_32 : Cond.methodLink RX5 32 yX5_readWord ∈ wsL_law := in_r14 _ (List.mem_of_getElem? (i := 14) rfl)
theorem zX5_isDigit : csZ mX5_isDigit 1 := ⟨⟨by decide +kernel, by decide +kernel, by decide +kernel⟩, in_r14 _ (List.mem_of_getElem? (i := 21) rfl), in_r1 _ (List.mem_of_getElem? (i := 14) rfl)⟩
theorem tX5_isDigit : Cond.static yX5_isDigit ∈ wsL_law := in_r14 _ (List.mem_of_getElem? (i := 20) rfl)
theorem lX5_35 : Cond.methodLink RX5 35 yX5_isDigit ∈ wsL_law := in_r14 _ (List.mem_of_getElem? (i := 19) rfl)
theorem zX5_readNumber : csZ mX5_readNumber 0 := ⟨⟨by decide +kernel, by decide +kernel, by decide +kernel⟩, in_r15 _ (List.mem_of_getElem? (i := 1) rfl), in_r1 _ (List.mem_of_getElem? (i := 14) rfl)⟩
theorem vX5_readNumber : Cond.instanceMethod yX5_readNumber ∈ wsL_law ∧ Cond.selects RX5 yX5_readNumber yX5_readNumber ∈ wsL_law := ⟨in_r14 _ (List.mem_of_getElem? (i := 23) rfl), in_r15 _ (List.mem_of_getElem? (i := 0) rfl)⟩
theorem lX5_38 : Cond.methodLink RX5 38 yX5_readNumber ∈ wsL_law := in_r14 _ (List.mem_of_getElem? (i := 22) rfl)
theorem lX6_70 : Cond.methodLink RX6 70 yX6_mostFromStore ∈ wsL_law := in_r33 _ (List.mem_of_getElem? (i := 11) rfl)
theorem zX6_priceOf : csZ mX6_priceOf 2 := ⟨⟨by decide +kernel, by decide +kernel, by decide +kernel⟩, in_r33 _ (List.mem_of_getElem? (i := 18) rfl), in_r5 _ (List.mem_of_getElem? (i := 19) rfl)⟩
theorem vX6_priceOf : Cond.instanceMethod yX6_priceOf ∈ wsL_law ∧ Cond.selects RX6 yX6_priceOf yX6_priceOf ∈ wsL_law := ⟨in_r33 _ (List.mem_of_getElem? (i := 16) rfl), in_r33 _ (List.mem_of_getElem? (i := 17) rfl)⟩
theorem lX6_74 : Cond.methodLink RX6 74 yX6_priceOf ∈ wsL_law := in_r33 _ (List.mem_of_getElem? (i := 15) rfl)
theorem zX10_affordable : csZ mX10_affordable 2 := ⟨⟨by decide +kernel, by decide +kernel, by decide +kernel⟩, in_r39 _ (List.mem_of_getElem? (i := 7) rfl), in_r1 _ (List.mem_of_getElem? (i := 2) rfl)⟩
theorem tX10_affordable : Cond.static yX10_affordable ∈ wsL_law := in_r39 _ (List.mem_of_getElem? (i := 6) rfl)
theorem lX6_83 : Cond.methodLinkNest RX6 83 yX10_affordable RX10 ∈ nestW := by decide +kernel
theorem lX7_77 : Cond.methodLink RX7 77 yJ7_fill_53178 ∈ wsL_law := in_r4 _ (List.mem_of_getElem? (i := 23) rfl)
theorem zX7_named : csZ mX7_named 3 := ⟨⟨by decide +kernel, by decide +kernel, by decide +kernel⟩, in_r18 _ (List.mem_of_getElem? (i := 17) rfl), in_r2 _ (List.mem_of_getElem? (i := 1) rfl)⟩
theorem vX7_named : Cond.instanceMethod yX7_named ∈ wsL_law ∧ Cond.selects RX7 yX7_named yX7_named ∈ wsL_law := ⟨in_r18 _ (List.mem_of_getElem? (i := 15) rfl), in_r18 _ (List.mem_of_getElem? (i := 16) rfl)⟩
theorem lX7_83 : Cond.methodLink RX7 83 yX7_named ∈ wsL_law := in_r18 _ (List.mem_of_getElem? (i := 14) rfl)
theorem lX7_87 : Cond.methodLink RX7 87 yX7_isTold ∈ wsL_law := in_r17 _ (List.mem_of_getElem? (i := 19) rfl)
theorem zX7_tellLoss : csZ mX7_tellLoss 2 := ⟨⟨by decide +kernel, by decide +kernel, by decide +kernel⟩, in_r19 _ (List.mem_of_getElem? (i := 21) rfl), in_r2 _ (List.mem_of_getElem? (i := 1) rfl)⟩
theorem vX7_tellLoss : Cond.instanceMethod yX7_tellLoss ∈ wsL_law ∧ Cond.selects RX7 yX7_tellLoss yX7_tellLoss ∈ wsL_law := ⟨in_r19 _ (List.mem_of_getElem? (i := 19) rfl), in_r19 _ (List.mem_of_getElem? (i := 20) rfl)⟩
theorem lX7_91 : Cond.methodLink RX7 91 yX7_tellLoss ∈ wsL_law := in_r19 _ (List.mem_of_getElem? (i := 18) rfl)
theorem zX7_tellSort : csZ mX7_tellSort 1 := ⟨⟨by decide +kernel, by decide +kernel, by decide +kernel⟩, in_r20 _ (List.mem_of_getElem? (i := 5) rfl), in_r2 _ (List.mem_of_getElem? (i := 1) rfl)⟩
theorem vX7_tellSort : Cond.instanceMethod yX7_tellSort ∈ wsL_law ∧ Cond.selects RX7 yX7_tellSort yX7_tellSort ∈ wsL_law := ⟨in_r20 _ (List.mem_of_getElem? (i := 3) rfl), in_r20 _ (List.mem_of_getElem? (i := 4) rfl)⟩
theorem lX7_95 : Cond.methodLink RX7 95 yX7_tellSort ∈ wsL_law := in_r20 _ (List.mem_of_getElem? (i := 2) rfl)
theorem zX7_tellThing : csZ mX7_tellThing 1 := ⟨⟨by decide +kernel, by decide +kernel, by decide +kernel⟩, in_r20 _ (List.mem_of_getElem? (i := 9) rfl), in_r2 _ (List.mem_of_getElem? (i := 1) rfl)⟩
theorem vX7_tellThing : Cond.instanceMethod yX7_tellThing ∈ wsL_law ∧ Cond.selects RX7 yX7_tellThing yX7_tellThing ∈ wsL_law := ⟨in_r20 _ (List.mem_of_getElem? (i := 7) rfl), in_r20 _ (List.mem_of_getElem? (i := 8) rfl)⟩
theorem lX7_99 : Cond.methodLink RX7 99 yX7_tellThing ∈ wsL_law := in_r20 _ (List.mem_of_getElem? (i := 6) rfl)
theorem zX7_tellOn : csZ mX7_tellOn 3 := ⟨⟨by decide +kernel, by decide +kernel, by decide +kernel⟩, in_r20 _ (List.mem_of_getElem? (i := 13) rfl), in_r2 _ (List.mem_of_getElem? (i := 1) rfl)⟩
theorem vX7_tellOn : Cond.instanceMethod yX7_tellOn ∈ wsL_law ∧ Cond.selects RX7 yX7_tellOn yX7_tellOn ∈ wsL_law := ⟨in_r20 _ (List.mem_of_getElem? (i := 11) rfl), in_r20 _ (List.mem_of_getElem? (i := 12) rfl)⟩
theorem lX7_102 : Cond.methodLink RX7 102 yX7_tellOn ∈ wsL_law := in_r20 _ (List.mem_of_getElem? (i := 10) rfl)
theorem zX7_tellWant : csZ mX7_tellWant 1 := ⟨⟨by decide +kernel, by decide +kernel, by decide +kernel⟩, in_r20 _ (List.mem_of_getElem? (i := 17) rfl), in_r2 _ (List.mem_of_getElem? (i := 1) rfl)⟩
theorem vX7_tellWant : Cond.instanceMethod yX7_tellWant ∈ wsL_law ∧ Cond.selects RX7 yX7_tellWant yX7_tellWant ∈ wsL_law := ⟨in_r20 _ (List.mem_of_getElem? (i := 15) rfl), in_r20 _ (List.mem_of_getElem? (i := 16) rfl)⟩
theorem lX7_106 : Cond.methodLink RX7 106 yX7_tellWant ∈ wsL_law := in_r20 _ (List.mem_of_getElem? (i := 14) rfl)
theorem zX7_hold : csZ mX7_hold 3 := ⟨⟨by decide +kernel, by decide +kernel, by decide +kernel⟩, in_r20 _ (List.mem_of_getElem? (i := 1) rfl), in_r2 _ (List.mem_of_getElem? (i := 1) rfl)⟩
theorem vX7_hold : Cond.instanceMethod yX7_hold ∈ wsL_law ∧ Cond.selects RX7 yX7_hold yX7_hold ∈ wsL_law := ⟨in_r19 _ (List.mem_of_getElem? (i := 23) rfl), in_r20 _ (List.mem_of_getElem? (i := 0) rfl)⟩
theorem lX7_109 : Cond.methodLink RX7 109 yX7_hold ∈ wsL_law := in_r19 _ (List.mem_of_getElem? (i := 22) rfl)
theorem lX8_25 : Cond.methodLink RX8 25 yJ7_fill_53178 ∈ wsL_law := in_r50 _ (List.mem_of_getElem? (i := 13) rfl)
theorem zX8_losesOn : csZ mX8_losesOn 2 := ⟨⟨by decide +kernel, by decide +kernel, by decide +kernel⟩, in_r50 _ (List.mem_of_getElem? (i := 16) rfl), in_r2 _ (List.mem_of_getElem? (i := 20) rfl)⟩
theorem tX8_losesOn : Cond.static yX8_losesOn ∈ wsL_law := in_r50 _ (List.mem_of_getElem? (i := 15) rfl)
theorem lX8_31 : Cond.methodLink RX8 31 yX8_losesOn ∈ wsL_law := in_r50 _ (List.mem_of_getElem? (i := 14) rfl)
theorem zX8_offeringNote : csZ mX8_offeringNote 2 := ⟨⟨by decide +kernel, by decide +kernel, by decide +kernel⟩, in_r50 _ (List.mem_of_getElem? (i := 20) rfl), in_r2 _ (List.mem_of_getElem? (i := 20) rfl)⟩
theorem vX8_offeringNote : Cond.instanceMethod yX8_offeringNote ∈ wsL_law ∧ Cond.selects RX8 yX8_offeringNote yX8_offeringNote ∈ wsL_law := ⟨in_r50 _ (List.mem_of_getElem? (i := 18) rfl), in_r50 _ (List.mem_of_getElem? (i := 19) rfl)⟩
theorem lX8_35 : Cond.methodLink RX8 35 yX8_offeringNote ∈ wsL_law := in_r50 _ (List.mem_of_getElem? (i := 17) rfl)
theorem zX8_offeringOther : csZ mX8_offeringOther 2 := ⟨⟨by decide +kernel, by decide +kernel, by decide +kernel⟩, in_r51 _ (List.mem_of_getElem? (i := 7) rfl), in_r2 _ (List.mem_of_getElem? (i := 20) rfl)⟩
theorem vX8_offeringOther : Cond.instanceMethod yX8_offeringOther ∈ wsL_law ∧ Cond.selects RX8 yX8_offeringOther yX8_offeringOther ∈ wsL_law := ⟨in_r51 _ (List.mem_of_getElem? (i := 5) rfl), in_r51 _ (List.mem_of_getElem? (i := 6) rfl)⟩
theorem lX8_38 : Cond.methodLink RX8 38 yX8_offeringOther ∈ wsL_law := in_r51 _ (List.mem_of_getElem? (i := 4) rfl)
theorem zX8_behind : csZ mX8_behind 2 := ⟨⟨by decide +kernel, by decide +kernel, by decide +kernel⟩, in_r51 _ (List.mem_of_getElem? (i := 0) rfl), in_r2 _ (List.mem_of_getElem? (i := 20) rfl)⟩
theorem vX8_behind : Cond.instanceMethod yX8_behind ∈ wsL_law ∧ Cond.selects RX8 yX8_behind yX8_behind ∈ wsL_law := ⟨in_r50 _ (List.mem_of_getElem? (i := 22) rfl), in_r50 _ (List.mem_of_getElem? (i := 23) rfl)⟩
theorem lX8_46 : Cond.methodLink RX8 46 yX8_behind ∈ wsL_law := in_r50 _ (List.mem_of_getElem? (i := 21) rfl)
theorem zX8_mean : csZ mX8_mean 3 := ⟨⟨by decide +kernel, by decide +kernel, by decide +kernel⟩, in_r51 _ (List.mem_of_getElem? (i := 3) rfl), in_r2 _ (List.mem_of_getElem? (i := 20) rfl)⟩
theorem tX8_mean : Cond.static yX8_mean ∈ wsL_law := in_r51 _ (List.mem_of_getElem? (i := 2) rfl)
theorem lX8_49 : Cond.methodLink RX8 49 yX8_mean ∈ wsL_law := in_r51 _ (List.mem_of_getElem? (i := 1) rfl)
theorem zJ9_floorMod_7cf53 : csZ mJ9_floorMod_7cf53 2 := ⟨⟨by decide +kernel, by decide +kernel, by decide +kernel⟩, in_r41 _ (List.mem_of_getElem? (i := 3) rfl), in_r41 _ (List.mem_of_getElem? (i := 2) rfl)⟩
theorem tJ9_floorMod_7cf53 : Cond.static yJ9_floorMod_7cf53 ∈ wsL_law := in_r41 _ (List.mem_of_getElem? (i := 1) rfl)
theorem lX9_39 : Cond.methodLink RX9 39 yJ9_floorMod_7cf53 ∈ wsL_law := in_r41 _ (List.mem_of_getElem? (i := 0) rfl)
theorem zX9_openChest : csZ mX9_openChest 1 := ⟨⟨by decide +kernel, by decide +kernel, by decide +kernel⟩, in_r41 _ (List.mem_of_getElem? (i := 7) rfl), in_r2 _ (List.mem_of_getElem? (i := 10) rfl)⟩
theorem vX9_openChest : Cond.instanceMethod yX9_openChest ∈ wsL_law ∧ Cond.selects RX9 yX9_openChest yX9_openChest ∈ wsL_law := ⟨in_r41 _ (List.mem_of_getElem? (i := 5) rfl), in_r41 _ (List.mem_of_getElem? (i := 6) rfl)⟩
theorem lX9_45 : Cond.methodLink RX9 45 yX9_openChest ∈ wsL_law := in_r41 _ (List.mem_of_getElem? (i := 4) rfl)
theorem zX9_serve : csZ mX9_serve 3 := ⟨⟨by decide +kernel, by decide +kernel, by decide +kernel⟩, in_r41 _ (List.mem_of_getElem? (i := 16) rfl), in_r2 _ (List.mem_of_getElem? (i := 10) rfl)⟩
theorem vX9_serve : Cond.instanceMethod yX9_serve ∈ wsL_law ∧ Cond.selects RX9 yX9_serve yX9_serve ∈ wsL_law := ⟨in_r41 _ (List.mem_of_getElem? (i := 14) rfl), in_r41 _ (List.mem_of_getElem? (i := 15) rfl)⟩
theorem lX9_64 : Cond.methodLink RX9 64 yX9_serve ∈ wsL_law := in_r41 _ (List.mem_of_getElem? (i := 13) rfl)
theorem zX0_earned : csZ mX0_earned 3 := ⟨⟨by decide +kernel, by decide +kernel, by decide +kernel⟩, in_r34 _ (List.mem_of_getElem? (i := 20) rfl), in_r1 _ (List.mem_of_getElem? (i := 22) rfl)⟩
theorem vX0_earned : Cond.instanceMethod yX0_earned ∈ wsL_law ∧ Cond.selects RX0 yX0_earned yX0_earned ∈ wsL_law := ⟨in_r34 _ (List.mem_of_getElem? (i := 18) rfl), in_r34 _ (List.mem_of_getElem? (i := 19) rfl)⟩
theorem lX9_81 : Cond.methodLink RX9 81 yX0_earned ∈ wsL_law := in_r41 _ (List.mem_of_getElem? (i := 23) rfl)
theorem lX9_88 : Cond.methodLink RX9 88 yX6_load ∈ wsL_law := in_r42 _ (List.mem_of_getElem? (i := 0) rfl)
theorem zX2_search : csZ mX2_search 5 := ⟨⟨by decide +kernel, by decide +kernel, by decide +kernel⟩, in_r35 _ (List.mem_of_getElem? (i := 4) rfl), in_r2 _ (List.mem_of_getElem? (i := 6) rfl)⟩
theorem vX2_search : Cond.instanceMethod yX2_search ∈ wsL_law ∧ Cond.selects RX2 yX2_search yX2_search ∈ wsL_law := ⟨in_r35 _ (List.mem_of_getElem? (i := 2) rfl), in_r35 _ (List.mem_of_getElem? (i := 3) rfl)⟩
theorem lX9_92 : Cond.methodLink RX9 92 yX2_search ∈ wsL_law := in_r42 _ (List.mem_of_getElem? (i := 1) rfl)
theorem zX6_habit : csZ mX6_habit 3 := ⟨⟨by decide +kernel, by decide +kernel, by decide +kernel⟩, in_r39 _ (List.mem_of_getElem? (i := 4) rfl), in_r5 _ (List.mem_of_getElem? (i := 19) rfl)⟩
theorem vX6_habit : Cond.instanceMethod yX6_habit ∈ wsL_law ∧ Cond.selects RX6 yX6_habit yX6_habit ∈ wsL_law := ⟨in_r39 _ (List.mem_of_getElem? (i := 2) rfl), in_r39 _ (List.mem_of_getElem? (i := 3) rfl)⟩
theorem lX9_98 : Cond.methodLink RX9 98 yX6_habit ∈ wsL_law := in_r42 _ (List.mem_of_getElem? (i := 2) rfl)
theorem zX9_buy : csZ mX9_buy 4 := ⟨⟨by decide +kernel, by decide +kernel, by decide +kernel⟩, in_r42 _ (List.mem_of_getElem? (i := 6) rfl), in_r2 _ (List.mem_of_getElem? (i := 10) rfl)⟩
theorem vX9_buy : Cond.instanceMethod yX9_buy ∈ wsL_law ∧ Cond.selects RX9 yX9_buy yX9_buy ∈ wsL_law := ⟨in_r42 _ (List.mem_of_getElem? (i := 4) rfl), in_r42 _ (List.mem_of_getElem? (i := 5) rfl)⟩
theorem lX9_104 : Cond.methodLink RX9 104 yX9_buy ∈ wsL_law := in_r42 _ (List.mem_of_getElem? (i := 3) rfl)
theorem lX9_111 : Cond.methodLink RX9 111 yX6_priceOf ∈ wsL_law := in_r42 _ (List.mem_of_getElem? (i := 7) rfl)
theorem zX9_sleep : csZ mX9_sleep 5 := ⟨⟨by decide +kernel, by decide +kernel, by decide +kernel⟩, in_r42 _ (List.mem_of_getElem? (i := 11) rfl), in_r2 _ (List.mem_of_getElem? (i := 10) rfl)⟩
theorem vX9_sleep : Cond.instanceMethod yX9_sleep ∈ wsL_law ∧ Cond.selects RX9 yX9_sleep yX9_sleep ∈ wsL_law := ⟨in_r42 _ (List.mem_of_getElem? (i := 9) rfl), in_r42 _ (List.mem_of_getElem? (i := 10) rfl)⟩
theorem lX9_124 : Cond.methodLink RX9 124 yX9_sleep ∈ wsL_law := in_r42 _ (List.mem_of_getElem? (i := 8) rfl)
theorem lX9_131 : Cond.methodLinkNest RX9 131 yX10_stampsOf RX10 ∈ nestW := by decide +kernel
theorem lX9_137 : Cond.methodLink RX9 137 yX0_coinsBehind ∈ wsL_law := in_r42 _ (List.mem_of_getElem? (i := 14) rfl)
theorem zX5_put : csZ mX5_put 1 := ⟨⟨by decide +kernel, by decide +kernel, by decide +kernel⟩, in_r12 _ (List.mem_of_getElem? (i := 11) rfl), in_r1 _ (List.mem_of_getElem? (i := 14) rfl)⟩
theorem vX5_put : Cond.instanceMethod yX5_put ∈ wsL_law ∧ Cond.selects RX5 yX5_put yX5_put ∈ wsL_law := ⟨in_r12 _ (List.mem_of_getElem? (i := 9) rfl), in_r12 _ (List.mem_of_getElem? (i := 10) rfl)⟩
theorem lX10_94 : Cond.methodLink RX10 94 yX5_put ∈ wsL_law := in_r12 _ (List.mem_of_getElem? (i := 8) rfl)
theorem zX3_readTown : csZ mX3_readTown 1 := ⟨⟨by decide +kernel, by decide +kernel, by decide +kernel⟩, in_r13 _ (List.mem_of_getElem? (i := 16) rfl), in_r1 _ (List.mem_of_getElem? (i := 18) rfl)⟩
theorem vX3_readTown : Cond.instanceMethod yX3_readTown ∈ wsL_law ∧ Cond.selects RX3 yX3_readTown yX3_readTown ∈ wsL_law := ⟨in_r13 _ (List.mem_of_getElem? (i := 14) rfl), in_r13 _ (List.mem_of_getElem? (i := 15) rfl)⟩
theorem lX10_98 : Cond.methodLink RX10 98 yX3_readTown ∈ wsL_law := in_r13 _ (List.mem_of_getElem? (i := 13) rfl)
theorem zX10_settle : csZ mX10_settle 0 := ⟨⟨by decide +kernel, by decide +kernel, by decide +kernel⟩, in_r7 _ (List.mem_of_getElem? (i := 17) rfl), in_r1 _ (List.mem_of_getElem? (i := 2) rfl)⟩
theorem vX10_settle : Cond.instanceMethod yX10_settle ∈ wsL_law ∧ Cond.selects RX10 yX10_settle yX10_settle ∈ wsL_law := ⟨in_r7 _ (List.mem_of_getElem? (i := 15) rfl), in_r7 _ (List.mem_of_getElem? (i := 16) rfl)⟩
theorem lX10_87 : Cond.methodLink RX10 87 yX10_settle ∈ wsL_law := in_r7 _ (List.mem_of_getElem? (i := 14) rfl)
theorem zX10_toldOfSort : csZ mX10_toldOfSort 3 := ⟨⟨by decide +kernel, by decide +kernel, by decide +kernel⟩, in_r27 _ (List.mem_of_getElem? (i := 5) rfl), in_r1 _ (List.mem_of_getElem? (i := 2) rfl)⟩
theorem tX10_toldOfSort : Cond.static yX10_toldOfSort ∈ wsL_law := in_r27 _ (List.mem_of_getElem? (i := 4) rfl)
theorem lX10_136 : Cond.methodLink RX10 136 yX10_toldOfSort ∈ wsL_law := in_r27 _ (List.mem_of_getElem? (i := 3) rfl)
theorem zX10_isSort : csZ mX10_isSort 1 := ⟨⟨by decide +kernel, by decide +kernel, by decide +kernel⟩, in_r28 _ (List.mem_of_getElem? (i := 4) rfl), in_r1 _ (List.mem_of_getElem? (i := 2) rfl)⟩
theorem vX10_isSort : Cond.instanceMethod yX10_isSort ∈ wsL_law ∧ Cond.selects RX10 yX10_isSort yX10_isSort ∈ wsL_law := ⟨in_r28 _ (List.mem_of_getElem? (i := 2) rfl), in_r28 _ (List.mem_of_getElem? (i := 3) rfl)⟩
theorem lX10_152 : Cond.methodLink RX10 152 yX10_isSort ∈ wsL_law := in_r28 _ (List.mem_of_getElem? (i := 1) rfl)
theorem zX10_isDay : csZ mX10_isDay 1 := ⟨⟨by decide +kernel, by decide +kernel, by decide +kernel⟩, in_r28 _ (List.mem_of_getElem? (i := 7) rfl), in_r1 _ (List.mem_of_getElem? (i := 2) rfl)⟩
theorem tX10_isDay : Cond.static yX10_isDay ∈ wsL_law := in_r28 _ (List.mem_of_getElem? (i := 6) rfl)
theorem lX10_156 : Cond.methodLink RX10 156 yX10_isDay ∈ wsL_law := in_r28 _ (List.mem_of_getElem? (i := 5) rfl)
theorem zX10_isThing : csZ mX10_isThing 1 := ⟨⟨by decide +kernel, by decide +kernel, by decide +kernel⟩, in_r29 _ (List.mem_of_getElem? (i := 4) rfl), in_r1 _ (List.mem_of_getElem? (i := 2) rfl)⟩
theorem vX10_isThing : Cond.instanceMethod yX10_isThing ∈ wsL_law ∧ Cond.selects RX10 yX10_isThing yX10_isThing ∈ wsL_law := ⟨in_r29 _ (List.mem_of_getElem? (i := 2) rfl), in_r29 _ (List.mem_of_getElem? (i := 3) rfl)⟩
theorem lX10_162 : Cond.methodLink RX10 162 yX10_isThing ∈ wsL_law := in_r29 _ (List.mem_of_getElem? (i := 1) rfl)
theorem zX10_isHeld : csZ mX10_isHeld 2 := ⟨⟨by decide +kernel, by decide +kernel, by decide +kernel⟩, in_r30 _ (List.mem_of_getElem? (i := 16) rfl), in_r1 _ (List.mem_of_getElem? (i := 2) rfl)⟩
theorem tX10_isHeld : Cond.static yX10_isHeld ∈ wsL_law := in_r30 _ (List.mem_of_getElem? (i := 15) rfl)
theorem lX10_180 : Cond.methodLink RX10 180 yX10_isHeld ∈ wsL_law := in_r30 _ (List.mem_of_getElem? (i := 14) rfl)
theorem lX10_184 : Cond.methodLink RX10 184 yX0_coinsBehind ∈ wsL_law := in_r30 _ (List.mem_of_getElem? (i := 20) rfl)
theorem zX10_isPerson : csZ mX10_isPerson 4 := ⟨⟨by decide +kernel, by decide +kernel, by decide +kernel⟩, in_r32 _ (List.mem_of_getElem? (i := 10) rfl), in_r1 _ (List.mem_of_getElem? (i := 2) rfl)⟩
theorem vX10_isPerson : Cond.instanceMethod yX10_isPerson ∈ wsL_law ∧ Cond.selects RX10 yX10_isPerson yX10_isPerson ∈ wsL_law := ⟨in_r32 _ (List.mem_of_getElem? (i := 8) rfl), in_r32 _ (List.mem_of_getElem? (i := 9) rfl)⟩
theorem lX10_188 : Cond.methodLink RX10 188 yX10_isPerson ∈ wsL_law := in_r32 _ (List.mem_of_getElem? (i := 7) rfl)
theorem lX10_196 : Cond.methodLink RX10 196 yX6_load ∈ wsL_law := in_r32 _ (List.mem_of_getElem? (i := 11) rfl)
theorem zX6_allow : csZ mX6_allow 3 := ⟨⟨by decide +kernel, by decide +kernel, by decide +kernel⟩, in_r33 _ (List.mem_of_getElem? (i := 10) rfl), in_r5 _ (List.mem_of_getElem? (i := 19) rfl)⟩
theorem vX6_allow : Cond.instanceMethod yX6_allow ∈ wsL_law ∧ Cond.selects RX6 yX6_allow yX6_allow ∈ wsL_law := ⟨in_r33 _ (List.mem_of_getElem? (i := 8) rfl), in_r33 _ (List.mem_of_getElem? (i := 9) rfl)⟩
theorem lX10_202 : Cond.methodLink RX10 202 yX6_allow ∈ wsL_law := in_r33 _ (List.mem_of_getElem? (i := 7) rfl)
theorem zX10_within : csZ mX10_within 3 := ⟨⟨by decide +kernel, by decide +kernel, by decide +kernel⟩, in_r30 _ (List.mem_of_getElem? (i := 19) rfl), in_r1 _ (List.mem_of_getElem? (i := 2) rfl)⟩
theorem tX10_within : Cond.static yX10_within ∈ wsL_law := in_r30 _ (List.mem_of_getElem? (i := 18) rfl)
theorem lX10_206 : Cond.methodLink RX10 206 yX10_within ∈ wsL_law := in_r30 _ (List.mem_of_getElem? (i := 17) rfl)
theorem lX10_209 : Cond.methodLink RX10 209 yX0_earned ∈ wsL_law := in_r34 _ (List.mem_of_getElem? (i := 17) rfl)
theorem lX10_212 : Cond.methodLink RX10 212 yX2_search ∈ wsL_law := in_r35 _ (List.mem_of_getElem? (i := 1) rfl)
theorem zX10_isWay : csZ mX10_isWay 1 := ⟨⟨by decide +kernel, by decide +kernel, by decide +kernel⟩, in_r39 _ (List.mem_of_getElem? (i := 0) rfl), in_r1 _ (List.mem_of_getElem? (i := 2) rfl)⟩
theorem tX10_isWay : Cond.static yX10_isWay ∈ wsL_law := in_r38 _ (List.mem_of_getElem? (i := 23) rfl)
theorem lX10_219 : Cond.methodLink RX10 219 yX10_isWay ∈ wsL_law := in_r38 _ (List.mem_of_getElem? (i := 22) rfl)
theorem lX10_222 : Cond.methodLink RX10 222 yX6_habit ∈ wsL_law := in_r39 _ (List.mem_of_getElem? (i := 1) rfl)
theorem zX9_passDay : csZ mX9_passDay 2 := ⟨⟨by decide +kernel, by decide +kernel, by decide +kernel⟩, in_r40 _ (List.mem_of_getElem? (i := 18) rfl), in_r2 _ (List.mem_of_getElem? (i := 10) rfl)⟩
theorem vX9_passDay : Cond.instanceMethod yX9_passDay ∈ wsL_law ∧ Cond.selects RX9 yX9_passDay yX9_passDay ∈ wsL_law := ⟨in_r40 _ (List.mem_of_getElem? (i := 16) rfl), in_r40 _ (List.mem_of_getElem? (i := 17) rfl)⟩
theorem lX10_228 : Cond.methodLink RX10 228 yX9_passDay ∈ wsL_law := in_r40 _ (List.mem_of_getElem? (i := 15) rfl)
theorem zX4_round : csZ mX4_round 0 := ⟨⟨by decide +kernel, by decide +kernel, by decide +kernel⟩, in_r44 _ (List.mem_of_getElem? (i := 20) rfl), in_r2 _ (List.mem_of_getElem? (i := 14) rfl)⟩
theorem vX4_round : Cond.instanceMethod yX4_round ∈ wsL_law ∧ Cond.selects RX4 yX4_round yX4_round ∈ wsL_law := ⟨in_r44 _ (List.mem_of_getElem? (i := 18) rfl), in_r44 _ (List.mem_of_getElem? (i := 19) rfl)⟩
theorem lX10_239 : Cond.methodLink RX10 239 yX4_round ∈ wsL_law := in_r44 _ (List.mem_of_getElem? (i := 17) rfl)
theorem zX4_begin : csZ mX4_begin 1 := ⟨⟨by decide +kernel, by decide +kernel, by decide +kernel⟩, in_r9 _ (List.mem_of_getElem? (i := 4) rfl), in_r2 _ (List.mem_of_getElem? (i := 14) rfl)⟩
theorem vX4_begin : Cond.instanceMethod yX4_begin ∈ wsL_law ∧ Cond.selects RX4 yX4_begin yX4_begin ∈ wsL_law := ⟨in_r9 _ (List.mem_of_getElem? (i := 2) rfl), in_r9 _ (List.mem_of_getElem? (i := 3) rfl)⟩
theorem lX10_246 : Cond.methodLink RX10 246 yX4_begin ∈ wsL_law := in_r9 _ (List.mem_of_getElem? (i := 1) rfl)
theorem zX4_become : csZ mX4_become 1 := ⟨⟨by decide +kernel, by decide +kernel, by decide +kernel⟩, in_r46 _ (List.mem_of_getElem? (i := 6) rfl), in_r2 _ (List.mem_of_getElem? (i := 14) rfl)⟩
theorem vX4_become : Cond.instanceMethod yX4_become ∈ wsL_law ∧ Cond.selects RX4 yX4_become yX4_become ∈ wsL_law := ⟨in_r46 _ (List.mem_of_getElem? (i := 4) rfl), in_r46 _ (List.mem_of_getElem? (i := 5) rfl)⟩
theorem lX10_249 : Cond.methodLink RX10 249 yX4_become ∈ wsL_law := in_r46 _ (List.mem_of_getElem? (i := 3) rfl)
theorem zX10_isWeeks : csZ mX10_isWeeks 1 := ⟨⟨by decide +kernel, by decide +kernel, by decide +kernel⟩, in_r47 _ (List.mem_of_getElem? (i := 5) rfl), in_r1 _ (List.mem_of_getElem? (i := 2) rfl)⟩
theorem tX10_isWeeks : Cond.static yX10_isWeeks ∈ wsL_law := in_r47 _ (List.mem_of_getElem? (i := 4) rfl)
theorem lX10_253 : Cond.methodLink RX10 253 yX10_isWeeks ∈ wsL_law := in_r47 _ (List.mem_of_getElem? (i := 3) rfl)
theorem zX10_worthOfAll : csZ mX10_worthOfAll 2 := ⟨⟨by decide +kernel, by decide +kernel, by decide +kernel⟩, in_r47 _ (List.mem_of_getElem? (i := 9) rfl), in_r1 _ (List.mem_of_getElem? (i := 2) rfl)⟩
theorem vX10_worthOfAll : Cond.instanceMethod yX10_worthOfAll ∈ wsL_law ∧ Cond.selects RX10 yX10_worthOfAll yX10_worthOfAll ∈ wsL_law := ⟨in_r47 _ (List.mem_of_getElem? (i := 7) rfl), in_r47 _ (List.mem_of_getElem? (i := 8) rfl)⟩
theorem lX10_256 : Cond.methodLink RX10 256 yX10_worthOfAll ∈ wsL_law := in_r47 _ (List.mem_of_getElem? (i := 6) rfl)
theorem lX10_260 : Cond.methodLink RX10 260 yX0_pricesAsTold ∈ wsL_law := in_r48 _ (List.mem_of_getElem? (i := 17) rfl)
theorem zX10_turnChanges : csZ mX10_turnChanges 0 := ⟨⟨by decide +kernel, by decide +kernel, by decide +kernel⟩, in_r48 _ (List.mem_of_getElem? (i := 21) rfl), in_r1 _ (List.mem_of_getElem? (i := 2) rfl)⟩
theorem vX10_turnChanges : Cond.instanceMethod yX10_turnChanges ∈ wsL_law ∧ Cond.selects RX10 yX10_turnChanges yX10_turnChanges ∈ wsL_law := ⟨in_r48 _ (List.mem_of_getElem? (i := 19) rfl), in_r48 _ (List.mem_of_getElem? (i := 20) rfl)⟩
theorem lX10_266 : Cond.methodLink RX10 266 yX10_turnChanges ∈ wsL_law := in_r48 _ (List.mem_of_getElem? (i := 18) rfl)
theorem zX8_takenAt : csZ mX8_takenAt 2 := ⟨⟨by decide +kernel, by decide +kernel, by decide +kernel⟩, in_r50 _ (List.mem_of_getElem? (i := 5) rfl), in_r2 _ (List.mem_of_getElem? (i := 20) rfl)⟩
theorem vX8_takenAt : Cond.instanceMethod yX8_takenAt ∈ wsL_law ∧ Cond.selects RX8 yX8_takenAt yX8_takenAt ∈ wsL_law := ⟨in_r50 _ (List.mem_of_getElem? (i := 3) rfl), in_r50 _ (List.mem_of_getElem? (i := 4) rfl)⟩
theorem lX10_270 : Cond.methodLink RX10 270 yX8_takenAt ∈ wsL_law := in_r50 _ (List.mem_of_getElem? (i := 2) rfl)
theorem zX8_lookBack : csZ mX8_lookBack 4 := ⟨⟨by decide +kernel, by decide +kernel, by decide +kernel⟩, in_r50 _ (List.mem_of_getElem? (i := 11) rfl), in_r2 _ (List.mem_of_getElem? (i := 20) rfl)⟩
theorem vX8_lookBack : Cond.instanceMethod yX8_lookBack ∈ wsL_law ∧ Cond.selects RX8 yX8_lookBack yX8_lookBack ∈ wsL_law := ⟨in_r50 _ (List.mem_of_getElem? (i := 9) rfl), in_r50 _ (List.mem_of_getElem? (i := 10) rfl)⟩
theorem lX10_274 : Cond.methodLink RX10 274 yX8_lookBack ∈ wsL_law := in_r50 _ (List.mem_of_getElem? (i := 8) rfl)
theorem lX10_278 : Cond.methodLink RX10 278 yX8_offeringNote ∈ wsL_law := in_r51 _ (List.mem_of_getElem? (i := 8) rfl)
theorem lX10_281 : Cond.methodLink RX10 281 yX8_offeringOther ∈ wsL_law := in_r51 _ (List.mem_of_getElem? (i := 9) rfl)
theorem zX0_heldForWeek : csZ mX0_heldForWeek 1 := ⟨⟨by decide +kernel, by decide +kernel, by decide +kernel⟩, in_r52 _ (List.mem_of_getElem? (i := 8) rfl), in_r1 _ (List.mem_of_getElem? (i := 22) rfl)⟩
theorem vX0_heldForWeek : Cond.instanceMethod yX0_heldForWeek ∈ wsL_law ∧ Cond.selects RX0 yX0_heldForWeek yX0_heldForWeek ∈ wsL_law := ⟨in_r52 _ (List.mem_of_getElem? (i := 6) rfl), in_r52 _ (List.mem_of_getElem? (i := 7) rfl)⟩
theorem lX10_289 : Cond.methodLink RX10 289 yX0_heldForWeek ∈ wsL_law := in_r52 _ (List.mem_of_getElem? (i := 5) rfl)
theorem zX0_neededAhead : csZ mX0_neededAhead 2 := ⟨⟨by decide +kernel, by decide +kernel, by decide +kernel⟩, in_r52 _ (List.mem_of_getElem? (i := 22) rfl), in_r1 _ (List.mem_of_getElem? (i := 22) rfl)⟩
theorem vX0_neededAhead : Cond.instanceMethod yX0_neededAhead ∈ wsL_law ∧ Cond.selects RX0 yX0_neededAhead yX0_neededAhead ∈ wsL_law := ⟨in_r52 _ (List.mem_of_getElem? (i := 20) rfl), in_r52 _ (List.mem_of_getElem? (i := 21) rfl)⟩
theorem lX10_293 : Cond.methodLink RX10 293 yX0_neededAhead ∈ wsL_law := in_r52 _ (List.mem_of_getElem? (i := 19) rfl)
theorem zX3_readValues : csZ mX3_readValues 2 := ⟨⟨by decide +kernel, by decide +kernel, by decide +kernel⟩, in_r53 _ (List.mem_of_getElem? (i := 12) rfl), in_r1 _ (List.mem_of_getElem? (i := 18) rfl)⟩
theorem vX3_readValues : Cond.instanceMethod yX3_readValues ∈ wsL_law ∧ Cond.selects RX3 yX3_readValues yX3_readValues ∈ wsL_law := ⟨in_r53 _ (List.mem_of_getElem? (i := 10) rfl), in_r53 _ (List.mem_of_getElem? (i := 11) rfl)⟩
theorem lX10_299 : Cond.methodLink RX10 299 yX3_readValues ∈ wsL_law := in_r53 _ (List.mem_of_getElem? (i := 9) rfl)
theorem zX1_takeDraft : csZ mX1_takeDraft 0 := ⟨⟨by decide +kernel, by decide +kernel, by decide +kernel⟩, in_r53 _ (List.mem_of_getElem? (i := 17) rfl), in_r3 _ (List.mem_of_getElem? (i := 0) rfl)⟩
theorem vX1_takeDraft : Cond.instanceMethod yX1_takeDraft ∈ wsL_law ∧ Cond.selects RX1 yX1_takeDraft yX1_takeDraft ∈ wsL_law := ⟨in_r53 _ (List.mem_of_getElem? (i := 15) rfl), in_r53 _ (List.mem_of_getElem? (i := 16) rfl)⟩
theorem lX10_303 : Cond.methodLink RX10 303 yX1_takeDraft ∈ wsL_law := in_r53 _ (List.mem_of_getElem? (i := 14) rfl)
theorem zX10_isMeeting : csZ mX10_isMeeting 3 := ⟨⟨by decide +kernel, by decide +kernel, by decide +kernel⟩, in_r54 _ (List.mem_of_getElem? (i := 8) rfl), in_r1 _ (List.mem_of_getElem? (i := 2) rfl)⟩
theorem tX10_isMeeting : Cond.static yX10_isMeeting ∈ wsL_law := in_r54 _ (List.mem_of_getElem? (i := 7) rfl)
theorem lX10_306 : Cond.methodLink RX10 306 yX10_isMeeting ∈ wsL_law := in_r54 _ (List.mem_of_getElem? (i := 6) rfl)
theorem zX1_start : csZ mX1_start 3 := ⟨⟨by decide +kernel, by decide +kernel, by decide +kernel⟩, in_r54 _ (List.mem_of_getElem? (i := 12) rfl), in_r3 _ (List.mem_of_getElem? (i := 0) rfl)⟩
theorem vX1_start : Cond.instanceMethod yX1_start ∈ wsL_law ∧ Cond.selects RX1 yX1_start yX1_start ∈ wsL_law := ⟨in_r54 _ (List.mem_of_getElem? (i := 10) rfl), in_r54 _ (List.mem_of_getElem? (i := 11) rfl)⟩
theorem lX10_310 : Cond.methodLink RX10 310 yX1_start ∈ wsL_law := in_r54 _ (List.mem_of_getElem? (i := 9) rfl)
theorem lX10_314 : Cond.methodLink RX10 314 yX1_goOn ∈ wsL_law := in_r54 _ (List.mem_of_getElem? (i := 18) rfl)
theorem zX1_isAtRest : csZ mX1_isAtRest 2 := ⟨⟨by decide +kernel, by decide +kernel, by decide +kernel⟩, in_r56 _ (List.mem_of_getElem? (i := 4) rfl), in_r3 _ (List.mem_of_getElem? (i := 0) rfl)⟩
theorem vX1_isAtRest : Cond.instanceMethod yX1_isAtRest ∈ wsL_law ∧ Cond.selects RX1 yX1_isAtRest yX1_isAtRest ∈ wsL_law := ⟨in_r56 _ (List.mem_of_getElem? (i := 2) rfl), in_r56 _ (List.mem_of_getElem? (i := 3) rfl)⟩
theorem lX10_325 : Cond.methodLink RX10 325 yX1_isAtRest ∈ wsL_law := in_r56 _ (List.mem_of_getElem? (i := 1) rfl)
theorem zX3_readBook : csZ mX3_readBook 1 := ⟨⟨by decide +kernel, by decide +kernel, by decide +kernel⟩, in_r56 _ (List.mem_of_getElem? (i := 17) rfl), in_r1 _ (List.mem_of_getElem? (i := 18) rfl)⟩
theorem vX3_readBook : Cond.instanceMethod yX3_readBook ∈ wsL_law ∧ Cond.selects RX3 yX3_readBook yX3_readBook ∈ wsL_law := ⟨in_r56 _ (List.mem_of_getElem? (i := 15) rfl), in_r56 _ (List.mem_of_getElem? (i := 16) rfl)⟩
theorem lX10_328 : Cond.methodLink RX10 328 yX3_readBook ∈ wsL_law := in_r56 _ (List.mem_of_getElem? (i := 14) rfl)
theorem zX0_open : csZ mX0_open 0 := ⟨⟨by decide +kernel, by decide +kernel, by decide +kernel⟩, in_r8 _ (List.mem_of_getElem? (i := 1) rfl), in_r1 _ (List.mem_of_getElem? (i := 22) rfl)⟩
theorem vX0_open : Cond.instanceMethod yX0_open ∈ wsL_law ∧ Cond.selects RX0 yX0_open yX0_open ∈ wsL_law := ⟨in_r7 _ (List.mem_of_getElem? (i := 23) rfl), in_r8 _ (List.mem_of_getElem? (i := 0) rfl)⟩
theorem lX10_332 : Cond.methodLink RX10 332 yX0_open ∈ wsL_law := in_r7 _ (List.mem_of_getElem? (i := 22) rfl)
theorem lX10_335 : Cond.methodLink RX10 335 yJ7_fill_53178 ∈ wsL_law := in_r9 _ (List.mem_of_getElem? (i := 11) rfl)
theorem zX1_forget : csZ mX1_forget 0 := ⟨⟨by decide +kernel, by decide +kernel, by decide +kernel⟩, in_r9 _ (List.mem_of_getElem? (i := 15) rfl), in_r3 _ (List.mem_of_getElem? (i := 0) rfl)⟩
theorem vX1_forget : Cond.instanceMethod yX1_forget ∈ wsL_law ∧ Cond.selects RX1 yX1_forget yX1_forget ∈ wsL_law := ⟨in_r9 _ (List.mem_of_getElem? (i := 13) rfl), in_r9 _ (List.mem_of_getElem? (i := 14) rfl)⟩
theorem lX10_341 : Cond.methodLink RX10 341 yX1_forget ∈ wsL_law := in_r9 _ (List.mem_of_getElem? (i := 12) rfl)
theorem zX0_lossesAt : csZ mX0_lossesAt 1 := ⟨⟨by decide +kernel, by decide +kernel, by decide +kernel⟩, in_r47 _ (List.mem_of_getElem? (i := 13) rfl), in_r1 _ (List.mem_of_getElem? (i := 22) rfl)⟩
theorem vX0_lossesAt : Cond.instanceMethod yX0_lossesAt ∈ wsL_law ∧ Cond.selects RX0 yX0_lossesAt yX0_lossesAt ∈ wsL_law := ⟨in_r47 _ (List.mem_of_getElem? (i := 11) rfl), in_r47 _ (List.mem_of_getElem? (i := 12) rfl)⟩
theorem lX10_344 : Cond.methodLink RX10 344 yX0_lossesAt ∈ wsL_law := in_r47 _ (List.mem_of_getElem? (i := 10) rfl)
theorem lX10_347 : Cond.methodLink RX10 347 yX0_lossesAsTold ∈ wsL_law := in_r47 _ (List.mem_of_getElem? (i := 14) rfl)
theorem lX10_350 : Cond.methodLink RX10 350 yX4_sum ∈ wsL_law := in_r47 _ (List.mem_of_getElem? (i := 15) rfl)
theorem zX0_movePrices : csZ mX0_movePrices 1 := ⟨⟨by decide +kernel, by decide +kernel, by decide +kernel⟩, in_r49 _ (List.mem_of_getElem? (i := 2) rfl), in_r1 _ (List.mem_of_getElem? (i := 22) rfl)⟩
theorem vX0_movePrices : Cond.instanceMethod yX0_movePrices ∈ wsL_law ∧ Cond.selects RX0 yX0_movePrices yX0_movePrices ∈ wsL_law := ⟨in_r49 _ (List.mem_of_getElem? (i := 0) rfl), in_r49 _ (List.mem_of_getElem? (i := 1) rfl)⟩
theorem lX10_356 : Cond.methodLink RX10 356 yX0_movePrices ∈ wsL_law := in_r48 _ (List.mem_of_getElem? (i := 23) rfl)
theorem zX11_byteAt : csZ mX11_byteAt 1 := ⟨⟨by decide +kernel, by decide +kernel, by decide +kernel⟩, in_r22 _ (List.mem_of_getElem? (i := 0) rfl), in_r1 _ (List.mem_of_getElem? (i := 5) rfl)⟩
theorem vX11_byteAt : Cond.instanceMethod yX11_byteAt ∈ wsL_law ∧ Cond.selects RX11 yX11_byteAt yX11_byteAt ∈ wsL_law := ⟨in_r21 _ (List.mem_of_getElem? (i := 22) rfl), in_r21 _ (List.mem_of_getElem? (i := 23) rfl)⟩
theorem lX11_23 : Cond.methodLink RX11 23 yX11_byteAt ∈ wsL_law := in_r21 _ (List.mem_of_getElem? (i := 21) rfl)
theorem zX11_isSmall : csZ mX11_isSmall 1 := ⟨⟨by decide +kernel, by decide +kernel, by decide +kernel⟩, in_r22 _ (List.mem_of_getElem? (i := 3) rfl), in_r1 _ (List.mem_of_getElem? (i := 5) rfl)⟩
theorem tX11_isSmall : Cond.static yX11_isSmall ∈ wsL_law := in_r22 _ (List.mem_of_getElem? (i := 2) rfl)
theorem lX11_30 : Cond.methodLink RX11 30 yX11_isSmall ∈ wsL_law := in_r22 _ (List.mem_of_getElem? (i := 1) rfl)
theorem zX11_isDigit : csZ mX11_isDigit 1 := ⟨⟨by decide +kernel, by decide +kernel, by decide +kernel⟩, in_r22 _ (List.mem_of_getElem? (i := 6) rfl), in_r1 _ (List.mem_of_getElem? (i := 5) rfl)⟩
theorem tX11_isDigit : Cond.static yX11_isDigit ∈ wsL_law := in_r22 _ (List.mem_of_getElem? (i := 5) rfl)
theorem lX11_34 : Cond.methodLink RX11 34 yX11_isDigit ∈ wsL_law := in_r22 _ (List.mem_of_getElem? (i := 4) rfl)
theorem zX11_bad : csZ mX11_bad 1 := ⟨⟨by decide +kernel, by decide +kernel, by decide +kernel⟩, in_r23 _ (List.mem_of_getElem? (i := 10) rfl), in_r1 _ (List.mem_of_getElem? (i := 5) rfl)⟩
theorem vX11_bad : Cond.instanceMethod yX11_bad ∈ wsL_law ∧ Cond.selects RX11 yX11_bad yX11_bad ∈ wsL_law := ⟨in_r23 _ (List.mem_of_getElem? (i := 8) rfl), in_r23 _ (List.mem_of_getElem? (i := 9) rfl)⟩
theorem lX11_49 : Cond.methodLink RX11 49 yX11_bad ∈ wsL_law := in_r23 _ (List.mem_of_getElem? (i := 7) rfl)
theorem zX11_in : csZ mX11_in 3 := ⟨⟨by decide +kernel, by decide +kernel, by decide +kernel⟩, in_r13 _ (List.mem_of_getElem? (i := 7) rfl), in_r1 _ (List.mem_of_getElem? (i := 5) rfl)⟩
theorem tX11_in : Cond.static yX11_in ∈ wsL_law := in_r13 _ (List.mem_of_getElem? (i := 6) rfl)
theorem lX11_52 : Cond.methodLink RX11 52 yX11_in ∈ wsL_law := in_r13 _ (List.mem_of_getElem? (i := 5) rfl)
theorem zX11_peek : csZ mX11_peek 2 := ⟨⟨by decide +kernel, by decide +kernel, by decide +kernel⟩, in_r23 _ (List.mem_of_getElem? (i := 6) rfl), in_r1 _ (List.mem_of_getElem? (i := 5) rfl)⟩
theorem vX11_peek : Cond.instanceMethod yX11_peek ∈ wsL_law ∧ Cond.selects RX11 yX11_peek yX11_peek ∈ wsL_law := ⟨in_r23 _ (List.mem_of_getElem? (i := 4) rfl), in_r23 _ (List.mem_of_getElem? (i := 5) rfl)⟩
theorem lX11_59 : Cond.methodLink RX11 59 yX11_peek ∈ wsL_law := in_r23 _ (List.mem_of_getElem? (i := 3) rfl)
theorem zX11_scan : csZ mX11_scan 0 := ⟨⟨by decide +kernel, by decide +kernel, by decide +kernel⟩, in_r21 _ (List.mem_of_getElem? (i := 17) rfl), in_r1 _ (List.mem_of_getElem? (i := 5) rfl)⟩
theorem vX11_scan : Cond.instanceMethod yX11_scan ∈ wsL_law ∧ Cond.selects RX11 yX11_scan yX11_scan ∈ wsL_law := ⟨in_r21 _ (List.mem_of_getElem? (i := 15) rfl), in_r21 _ (List.mem_of_getElem? (i := 16) rfl)⟩
theorem lX11_63 : Cond.methodLink RX11 63 yX11_scan ∈ wsL_law := in_r21 _ (List.mem_of_getElem? (i := 14) rfl)
theorem zX11_name : csZ mX11_name 0 := ⟨⟨by decide +kernel, by decide +kernel, by decide +kernel⟩, in_r24 _ (List.mem_of_getElem? (i := 6) rfl), in_r1 _ (List.mem_of_getElem? (i := 5) rfl)⟩
theorem vX11_name : Cond.instanceMethod yX11_name ∈ wsL_law ∧ Cond.selects RX11 yX11_name yX11_name ∈ wsL_law := ⟨in_r24 _ (List.mem_of_getElem? (i := 4) rfl), in_r24 _ (List.mem_of_getElem? (i := 5) rfl)⟩
theorem lX11_67 : Cond.methodLink RX11 67 yX11_name ∈ wsL_law := in_r24 _ (List.mem_of_getElem? (i := 3) rfl)
theorem zX11_find : csZ mX11_find 2 := ⟨⟨by decide +kernel, by decide +kernel, by decide +kernel⟩, in_r24 _ (List.mem_of_getElem? (i := 2) rfl), in_r1 _ (List.mem_of_getElem? (i := 5) rfl)⟩
theorem vX11_find : Cond.instanceMethod yX11_find ∈ wsL_law ∧ Cond.selects RX11 yX11_find yX11_find ∈ wsL_law := ⟨in_r24 _ (List.mem_of_getElem? (i := 0) rfl), in_r24 _ (List.mem_of_getElem? (i := 1) rfl)⟩
theorem lX11_71 : Cond.methodLink RX11 71 yX11_find ∈ wsL_law := in_r23 _ (List.mem_of_getElem? (i := 23) rfl)
theorem zX11_number : csZ mX11_number 2 := ⟨⟨by decide +kernel, by decide +kernel, by decide +kernel⟩, in_r23 _ (List.mem_of_getElem? (i := 14) rfl), in_r1 _ (List.mem_of_getElem? (i := 5) rfl)⟩
theorem vX11_number : Cond.instanceMethod yX11_number ∈ wsL_law ∧ Cond.selects RX11 yX11_number yX11_number ∈ wsL_law := ⟨in_r23 _ (List.mem_of_getElem? (i := 12) rfl), in_r23 _ (List.mem_of_getElem? (i := 13) rfl)⟩
theorem lX11_81 : Cond.methodLink RX11 81 yX11_number ∈ wsL_law := in_r23 _ (List.mem_of_getElem? (i := 11) rfl)
theorem zX11_fresh : csZ mX11_fresh 2 := ⟨⟨by decide +kernel, by decide +kernel, by decide +kernel⟩, in_r23 _ (List.mem_of_getElem? (i := 22) rfl), in_r1 _ (List.mem_of_getElem? (i := 5) rfl)⟩
theorem vX11_fresh : Cond.instanceMethod yX11_fresh ∈ wsL_law ∧ Cond.selects RX11 yX11_fresh yX11_fresh ∈ wsL_law := ⟨in_r23 _ (List.mem_of_getElem? (i := 20) rfl), in_r23 _ (List.mem_of_getElem? (i := 21) rfl)⟩
theorem lX11_95 : Cond.methodLink RX11 95 yX11_fresh ∈ wsL_law := in_r23 _ (List.mem_of_getElem? (i := 19) rfl)
theorem zX11_known : csZ mX11_known 2 := ⟨⟨by decide +kernel, by decide +kernel, by decide +kernel⟩, in_r24 _ (List.mem_of_getElem? (i := 18) rfl), in_r1 _ (List.mem_of_getElem? (i := 5) rfl)⟩
theorem vX11_known : Cond.instanceMethod yX11_known ∈ wsL_law ∧ Cond.selects RX11 yX11_known yX11_known ∈ wsL_law := ⟨in_r24 _ (List.mem_of_getElem? (i := 16) rfl), in_r24 _ (List.mem_of_getElem? (i := 17) rfl)⟩
theorem lX11_147 : Cond.methodLink RX11 147 yX11_known ∈ wsL_law := in_r24 _ (List.mem_of_getElem? (i := 15) rfl)
theorem zX11_is : csZ mX11_is 1 := ⟨⟨by decide +kernel, by decide +kernel, by decide +kernel⟩, in_r22 _ (List.mem_of_getElem? (i := 19) rfl), in_r1 _ (List.mem_of_getElem? (i := 5) rfl)⟩
theorem vX11_is : Cond.instanceMethod yX11_is ∈ wsL_law ∧ Cond.selects RX11 yX11_is yX11_is ∈ wsL_law := ⟨in_r22 _ (List.mem_of_getElem? (i := 17) rfl), in_r22 _ (List.mem_of_getElem? (i := 18) rfl)⟩
theorem lX11_152 : Cond.methodLink RX11 152 yX11_is ∈ wsL_law := in_r22 _ (List.mem_of_getElem? (i := 16) rfl)
theorem zX11_readRot : csZ mX11_readRot 0 := ⟨⟨by decide +kernel, by decide +kernel, by decide +kernel⟩, in_r23 _ (List.mem_of_getElem? (i := 1) rfl), in_r1 _ (List.mem_of_getElem? (i := 5) rfl)⟩
theorem vX11_readRot : Cond.instanceMethod yX11_readRot ∈ wsL_law ∧ Cond.selects RX11 yX11_readRot yX11_readRot ∈ wsL_law := ⟨in_r22 _ (List.mem_of_getElem? (i := 23) rfl), in_r23 _ (List.mem_of_getElem? (i := 0) rfl)⟩
theorem lX11_166 : Cond.methodLink RX11 166 yX11_readRot ∈ wsL_law := in_r22 _ (List.mem_of_getElem? (i := 22) rfl)
theorem zX11_readSort : csZ mX11_readSort 0 := ⟨⟨by decide +kernel, by decide +kernel, by decide +kernel⟩, in_r23 _ (List.mem_of_getElem? (i := 18) rfl), in_r1 _ (List.mem_of_getElem? (i := 5) rfl)⟩
theorem vX11_readSort : Cond.instanceMethod yX11_readSort ∈ wsL_law ∧ Cond.selects RX11 yX11_readSort yX11_readSort ∈ wsL_law := ⟨in_r23 _ (List.mem_of_getElem? (i := 16) rfl), in_r23 _ (List.mem_of_getElem? (i := 17) rfl)⟩
theorem lX11_171 : Cond.methodLink RX11 171 yX11_readSort ∈ wsL_law := in_r23 _ (List.mem_of_getElem? (i := 15) rfl)
theorem zX11_readThingOf : csZ mX11_readThingOf 0 := ⟨⟨by decide +kernel, by decide +kernel, by decide +kernel⟩, in_r24 _ (List.mem_of_getElem? (i := 10) rfl), in_r1 _ (List.mem_of_getElem? (i := 5) rfl)⟩
theorem vX11_readThingOf : Cond.instanceMethod yX11_readThingOf ∈ wsL_law ∧ Cond.selects RX11 yX11_readThingOf yX11_readThingOf ∈ wsL_law := ⟨in_r24 _ (List.mem_of_getElem? (i := 8) rfl), in_r24 _ (List.mem_of_getElem? (i := 9) rfl)⟩
theorem lX11_176 : Cond.methodLink RX11 176 yX11_readThingOf ∈ wsL_law := in_r24 _ (List.mem_of_getElem? (i := 7) rfl)
theorem zX11_readEarns : csZ mX11_readEarns 0 := ⟨⟨by decide +kernel, by decide +kernel, by decide +kernel⟩, in_r24 _ (List.mem_of_getElem? (i := 14) rfl), in_r1 _ (List.mem_of_getElem? (i := 5) rfl)⟩
theorem vX11_readEarns : Cond.instanceMethod yX11_readEarns ∈ wsL_law ∧ Cond.selects RX11 yX11_readEarns yX11_readEarns ∈ wsL_law := ⟨in_r24 _ (List.mem_of_getElem? (i := 12) rfl), in_r24 _ (List.mem_of_getElem? (i := 13) rfl)⟩
theorem lX11_181 : Cond.methodLink RX11 181 yX11_readEarns ∈ wsL_law := in_r24 _ (List.mem_of_getElem? (i := 11) rfl)
theorem zX11_readPrices : csZ mX11_readPrices 0 := ⟨⟨by decide +kernel, by decide +kernel, by decide +kernel⟩, in_r24 _ (List.mem_of_getElem? (i := 22) rfl), in_r1 _ (List.mem_of_getElem? (i := 5) rfl)⟩
theorem vX11_readPrices : Cond.instanceMethod yX11_readPrices ∈ wsL_law ∧ Cond.selects RX11 yX11_readPrices yX11_readPrices ∈ wsL_law := ⟨in_r24 _ (List.mem_of_getElem? (i := 20) rfl), in_r24 _ (List.mem_of_getElem? (i := 21) rfl)⟩
theorem lX11_186 : Cond.methodLink RX11 186 yX11_readPrices ∈ wsL_law := in_r24 _ (List.mem_of_getElem? (i := 19) rfl)
theorem zX11_readMakes : csZ mX11_readMakes 0 := ⟨⟨by decide +kernel, by decide +kernel, by decide +kernel⟩, in_r25 _ (List.mem_of_getElem? (i := 2) rfl), in_r1 _ (List.mem_of_getElem? (i := 5) rfl)⟩
theorem vX11_readMakes : Cond.instanceMethod yX11_readMakes ∈ wsL_law ∧ Cond.selects RX11 yX11_readMakes yX11_readMakes ∈ wsL_law := ⟨in_r25 _ (List.mem_of_getElem? (i := 0) rfl), in_r25 _ (List.mem_of_getElem? (i := 1) rfl)⟩
theorem lX11_191 : Cond.methodLink RX11 191 yX11_readMakes ∈ wsL_law := in_r24 _ (List.mem_of_getElem? (i := 23) rfl)
theorem zX11_readWants : csZ mX11_readWants 0 := ⟨⟨by decide +kernel, by decide +kernel, by decide +kernel⟩, in_r25 _ (List.mem_of_getElem? (i := 6) rfl), in_r1 _ (List.mem_of_getElem? (i := 5) rfl)⟩
theorem vX11_readWants : Cond.instanceMethod yX11_readWants ∈ wsL_law ∧ Cond.selects RX11 yX11_readWants yX11_readWants ∈ wsL_law := ⟨in_r25 _ (List.mem_of_getElem? (i := 4) rfl), in_r25 _ (List.mem_of_getElem? (i := 5) rfl)⟩
theorem lX11_196 : Cond.methodLink RX11 196 yX11_readWants ∈ wsL_law := in_r25 _ (List.mem_of_getElem? (i := 3) rfl)
theorem zX11_readIlls : csZ mX11_readIlls 0 := ⟨⟨by decide +kernel, by decide +kernel, by decide +kernel⟩, in_r25 _ (List.mem_of_getElem? (i := 10) rfl), in_r1 _ (List.mem_of_getElem? (i := 5) rfl)⟩
theorem vX11_readIlls : Cond.instanceMethod yX11_readIlls ∈ wsL_law ∧ Cond.selects RX11 yX11_readIlls yX11_readIlls ∈ wsL_law := ⟨in_r25 _ (List.mem_of_getElem? (i := 8) rfl), in_r25 _ (List.mem_of_getElem? (i := 9) rfl)⟩
theorem lX11_201 : Cond.methodLink RX11 201 yX11_readIlls ∈ wsL_law := in_r25 _ (List.mem_of_getElem? (i := 7) rfl)
theorem zX11_readOnce : csZ mX11_readOnce 0 := ⟨⟨by decide +kernel, by decide +kernel, by decide +kernel⟩, in_r25 _ (List.mem_of_getElem? (i := 14) rfl), in_r1 _ (List.mem_of_getElem? (i := 5) rfl)⟩
theorem vX11_readOnce : Cond.instanceMethod yX11_readOnce ∈ wsL_law ∧ Cond.selects RX11 yX11_readOnce yX11_readOnce ∈ wsL_law := ⟨in_r25 _ (List.mem_of_getElem? (i := 12) rfl), in_r25 _ (List.mem_of_getElem? (i := 13) rfl)⟩
theorem lX11_204 : Cond.methodLink RX11 204 yX11_readOnce ∈ wsL_law := in_r25 _ (List.mem_of_getElem? (i := 11) rfl)
theorem zX11_readClause : csZ mX11_readClause 0 := ⟨⟨by decide +kernel, by decide +kernel, by decide +kernel⟩, in_r22 _ (List.mem_of_getElem? (i := 15) rfl), in_r1 _ (List.mem_of_getElem? (i := 5) rfl)⟩
theorem vX11_readClause : Cond.instanceMethod yX11_readClause ∈ wsL_law ∧ Cond.selects RX11 yX11_readClause yX11_readClause ∈ wsL_law := ⟨in_r22 _ (List.mem_of_getElem? (i := 13) rfl), in_r22 _ (List.mem_of_getElem? (i := 14) rfl)⟩
theorem lX11_210 : Cond.methodLink RX11 210 yX11_readClause ∈ wsL_law := in_r22 _ (List.mem_of_getElem? (i := 12) rfl)
theorem zX11_close : csZ mX11_close 0 := ⟨⟨by decide +kernel, by decide +kernel, by decide +kernel⟩, in_r25 _ (List.mem_of_getElem? (i := 18) rfl), in_r1 _ (List.mem_of_getElem? (i := 5) rfl)⟩
theorem vX11_close : Cond.instanceMethod yX11_close ∈ wsL_law ∧ Cond.selects RX11 yX11_close yX11_close ∈ wsL_law := ⟨in_r25 _ (List.mem_of_getElem? (i := 16) rfl), in_r25 _ (List.mem_of_getElem? (i := 17) rfl)⟩
theorem lX11_213 : Cond.methodLink RX11 213 yX11_close ∈ wsL_law := in_r25 _ (List.mem_of_getElem? (i := 15) rfl)
theorem zX11_putFour : csZ mX11_putFour 1 := ⟨⟨by decide +kernel, by decide +kernel, by decide +kernel⟩, in_r12 _ (List.mem_of_getElem? (i := 20) rfl), in_r1 _ (List.mem_of_getElem? (i := 5) rfl)⟩
theorem vX11_putFour : Cond.instanceMethod yX11_putFour ∈ wsL_law ∧ Cond.selects RX11 yX11_putFour yX11_putFour ∈ wsL_law := ⟨in_r12 _ (List.mem_of_getElem? (i := 18) rfl), in_r12 _ (List.mem_of_getElem? (i := 19) rfl)⟩
theorem lX11_319 : Cond.methodLink RX11 319 yX11_putFour ∈ wsL_law := in_r12 _ (List.mem_of_getElem? (i := 17) rfl)
theorem zX11_open : csZ mX11_open 0 := ⟨⟨by decide +kernel, by decide +kernel, by decide +kernel⟩, in_r21 _ (List.mem_of_getElem? (i := 10) rfl), in_r1 _ (List.mem_of_getElem? (i := 5) rfl)⟩
theorem vX11_open : Cond.instanceMethod yX11_open ∈ wsL_law ∧ Cond.selects RX11 yX11_open yX11_open ∈ wsL_law := ⟨in_r21 _ (List.mem_of_getElem? (i := 8) rfl), in_r21 _ (List.mem_of_getElem? (i := 9) rfl)⟩
theorem lX11_323 : Cond.methodLink RX11 323 yX11_open ∈ wsL_law := in_r21 _ (List.mem_of_getElem? (i := 7) rfl)
theorem zX11_readTown : csZ mX11_readTown 0 := ⟨⟨by decide +kernel, by decide +kernel, by decide +kernel⟩, in_r22 _ (List.mem_of_getElem? (i := 10) rfl), in_r1 _ (List.mem_of_getElem? (i := 5) rfl)⟩
theorem vX11_readTown : Cond.instanceMethod yX11_readTown ∈ wsL_law ∧ Cond.selects RX11 yX11_readTown yX11_readTown ∈ wsL_law := ⟨in_r22 _ (List.mem_of_getElem? (i := 8) rfl), in_r22 _ (List.mem_of_getElem? (i := 9) rfl)⟩
theorem lX11_326 : Cond.methodLink RX11 326 yX11_readTown ∈ wsL_law := in_r22 _ (List.mem_of_getElem? (i := 7) rfl)
theorem zX11_copy : csZ mX11_copy 2 := ⟨⟨by decide +kernel, by decide +kernel, by decide +kernel⟩, in_r25 _ (List.mem_of_getElem? (i := 21) rfl), in_r1 _ (List.mem_of_getElem? (i := 5) rfl)⟩
theorem tX11_copy : Cond.static yX11_copy ∈ wsL_law := in_r25 _ (List.mem_of_getElem? (i := 20) rfl)
theorem lX11_338 : Cond.methodLink RX11 338 yX11_copy ∈ wsL_law := in_r25 _ (List.mem_of_getElem? (i := 19) rfl)
theorem zX11_begin : csZ mX11_begin 1 := ⟨⟨by decide +kernel, by decide +kernel, by decide +kernel⟩, in_r26 _ (List.mem_of_getElem? (i := 1) rfl), in_r1 _ (List.mem_of_getElem? (i := 5) rfl)⟩
theorem vX11_begin : Cond.instanceMethod yX11_begin ∈ wsL_law ∧ Cond.selects RX11 yX11_begin yX11_begin ∈ wsL_law := ⟨in_r25 _ (List.mem_of_getElem? (i := 23) rfl), in_r26 _ (List.mem_of_getElem? (i := 0) rfl)⟩
theorem lX11_342 : Cond.methodLink RX11 342 yX11_begin ∈ wsL_law := in_r25 _ (List.mem_of_getElem? (i := 22) rfl)
theorem zX11_forgetWeeks : csZ mX11_forgetWeeks 0 := ⟨⟨by decide +kernel, by decide +kernel, by decide +kernel⟩, in_r26 _ (List.mem_of_getElem? (i := 5) rfl), in_r1 _ (List.mem_of_getElem? (i := 5) rfl)⟩
theorem vX11_forgetWeeks : Cond.instanceMethod yX11_forgetWeeks ∈ wsL_law ∧ Cond.selects RX11 yX11_forgetWeeks yX11_forgetWeeks ∈ wsL_law := ⟨in_r26 _ (List.mem_of_getElem? (i := 3) rfl), in_r26 _ (List.mem_of_getElem? (i := 4) rfl)⟩
theorem lX11_350 : Cond.methodLink RX11 350 yX11_forgetWeeks ∈ wsL_law := in_r26 _ (List.mem_of_getElem? (i := 2) rfl)
theorem zX11_isSort : csZ mX11_isSort 1 := ⟨⟨by decide +kernel, by decide +kernel, by decide +kernel⟩, in_r28 _ (List.mem_of_getElem? (i := 15) rfl), in_r1 _ (List.mem_of_getElem? (i := 5) rfl)⟩
theorem vX11_isSort : Cond.instanceMethod yX11_isSort ∈ wsL_law ∧ Cond.selects RX11 yX11_isSort yX11_isSort ∈ wsL_law := ⟨in_r28 _ (List.mem_of_getElem? (i := 13) rfl), in_r28 _ (List.mem_of_getElem? (i := 14) rfl)⟩
theorem lX11_367 : Cond.methodLink RX11 367 yX11_isSort ∈ wsL_law := in_r28 _ (List.mem_of_getElem? (i := 12) rfl)
theorem zX11_isDay : csZ mX11_isDay 1 := ⟨⟨by decide +kernel, by decide +kernel, by decide +kernel⟩, in_r28 _ (List.mem_of_getElem? (i := 18) rfl), in_r1 _ (List.mem_of_getElem? (i := 5) rfl)⟩
theorem tX11_isDay : Cond.static yX11_isDay ∈ wsL_law := in_r28 _ (List.mem_of_getElem? (i := 17) rfl)
theorem lX11_370 : Cond.methodLink RX11 370 yX11_isDay ∈ wsL_law := in_r28 _ (List.mem_of_getElem? (i := 16) rfl)
theorem zX11_isThing : csZ mX11_isThing 1 := ⟨⟨by decide +kernel, by decide +kernel, by decide +kernel⟩, in_r29 _ (List.mem_of_getElem? (i := 12) rfl), in_r1 _ (List.mem_of_getElem? (i := 5) rfl)⟩
theorem vX11_isThing : Cond.instanceMethod yX11_isThing ∈ wsL_law ∧ Cond.selects RX11 yX11_isThing yX11_isThing ∈ wsL_law := ⟨in_r29 _ (List.mem_of_getElem? (i := 10) rfl), in_r29 _ (List.mem_of_getElem? (i := 11) rfl)⟩
theorem lX11_373 : Cond.methodLink RX11 373 yX11_isThing ∈ wsL_law := in_r29 _ (List.mem_of_getElem? (i := 9) rfl)
theorem zX11_stampsOf : csZ mX11_stampsOf 2 := ⟨⟨by decide +kernel, by decide +kernel, by decide +kernel⟩, in_r31 _ (List.mem_of_getElem? (i := 21) rfl), in_r1 _ (List.mem_of_getElem? (i := 5) rfl)⟩
theorem tX11_stampsOf : Cond.static yX11_stampsOf ∈ wsL_law := in_r31 _ (List.mem_of_getElem? (i := 20) rfl)
theorem lX11_380 : Cond.methodLink RX11 380 yX11_stampsOf ∈ wsL_law := in_r31 _ (List.mem_of_getElem? (i := 19) rfl)
theorem zX11_costOf : csZ mX11_costOf 0 := ⟨⟨by decide +kernel, by decide +kernel, by decide +kernel⟩, in_r32 _ (List.mem_of_getElem? (i := 1) rfl), in_r1 _ (List.mem_of_getElem? (i := 5) rfl)⟩
theorem vX11_costOf : Cond.instanceMethod yX11_costOf ∈ wsL_law ∧ Cond.selects RX11 yX11_costOf yX11_costOf ∈ wsL_law := ⟨in_r31 _ (List.mem_of_getElem? (i := 23) rfl), in_r32 _ (List.mem_of_getElem? (i := 0) rfl)⟩
theorem lX11_384 : Cond.methodLink RX11 384 yX11_costOf ∈ wsL_law := in_r31 _ (List.mem_of_getElem? (i := 22) rfl)
theorem zX11_areCoins : csZ mX11_areCoins 1 := ⟨⟨by decide +kernel, by decide +kernel, by decide +kernel⟩, in_r31 _ (List.mem_of_getElem? (i := 6) rfl), in_r1 _ (List.mem_of_getElem? (i := 5) rfl)⟩
theorem tX11_areCoins : Cond.static yX11_areCoins ∈ wsL_law := in_r31 _ (List.mem_of_getElem? (i := 5) rfl)
theorem lX11_392 : Cond.methodLink RX11 392 yX11_areCoins ∈ wsL_law := in_r31 _ (List.mem_of_getElem? (i := 4) rfl)
theorem zX11_isStore : csZ mX11_isStore 1 := ⟨⟨by decide +kernel, by decide +kernel, by decide +kernel⟩, in_r31 _ (List.mem_of_getElem? (i := 9) rfl), in_r1 _ (List.mem_of_getElem? (i := 5) rfl)⟩
theorem tX11_isStore : Cond.static yX11_isStore ∈ wsL_law := in_r31 _ (List.mem_of_getElem? (i := 8) rfl)
theorem lX11_395 : Cond.methodLink RX11 395 yX11_isStore ∈ wsL_law := in_r31 _ (List.mem_of_getElem? (i := 7) rfl)
theorem zX11_behindNight : csZ mX11_behindNight 3 := ⟨⟨by decide +kernel, by decide +kernel, by decide +kernel⟩, in_r31 _ (List.mem_of_getElem? (i := 14) rfl), in_r1 _ (List.mem_of_getElem? (i := 5) rfl)⟩
theorem vX11_behindNight : Cond.instanceMethod yX11_behindNight ∈ wsL_law ∧ Cond.selects RX11 yX11_behindNight yX11_behindNight ∈ wsL_law := ⟨in_r31 _ (List.mem_of_getElem? (i := 12) rfl), in_r31 _ (List.mem_of_getElem? (i := 13) rfl)⟩
theorem lX11_398 : Cond.methodLink RX11 398 yX11_behindNight ∈ wsL_law := in_r31 _ (List.mem_of_getElem? (i := 11) rfl)
theorem zX11_costAt : csZ mX11_costAt 2 := ⟨⟨by decide +kernel, by decide +kernel, by decide +kernel⟩, in_r34 _ (List.mem_of_getElem? (i := 11) rfl), in_r1 _ (List.mem_of_getElem? (i := 5) rfl)⟩
theorem vX11_costAt : Cond.instanceMethod yX11_costAt ∈ wsL_law ∧ Cond.selects RX11 yX11_costAt yX11_costAt ∈ wsL_law := ⟨in_r34 _ (List.mem_of_getElem? (i := 9) rfl), in_r34 _ (List.mem_of_getElem? (i := 10) rfl)⟩
theorem lX11_402 : Cond.methodLink RX11 402 yX11_costAt ∈ wsL_law := in_r34 _ (List.mem_of_getElem? (i := 8) rfl)
theorem zX11_paysFor : csZ mX11_paysFor 3 := ⟨⟨by decide +kernel, by decide +kernel, by decide +kernel⟩, in_r34 _ (List.mem_of_getElem? (i := 7) rfl), in_r1 _ (List.mem_of_getElem? (i := 5) rfl)⟩
theorem vX11_paysFor : Cond.instanceMethod yX11_paysFor ∈ wsL_law ∧ Cond.selects RX11 yX11_paysFor yX11_paysFor ∈ wsL_law := ⟨in_r34 _ (List.mem_of_getElem? (i := 5) rfl), in_r34 _ (List.mem_of_getElem? (i := 6) rfl)⟩
theorem lX11_405 : Cond.methodLink RX11 405 yX11_paysFor ∈ wsL_law := in_r34 _ (List.mem_of_getElem? (i := 4) rfl)
theorem zX11_mayDo : csZ mX11_mayDo 5 := ⟨⟨by decide +kernel, by decide +kernel, by decide +kernel⟩, in_r34 _ (List.mem_of_getElem? (i := 3) rfl), in_r1 _ (List.mem_of_getElem? (i := 5) rfl)⟩
theorem vX11_mayDo : Cond.instanceMethod yX11_mayDo ∈ wsL_law ∧ Cond.selects RX11 yX11_mayDo yX11_mayDo ∈ wsL_law := ⟨in_r34 _ (List.mem_of_getElem? (i := 1) rfl), in_r34 _ (List.mem_of_getElem? (i := 2) rfl)⟩
theorem lX11_410 : Cond.methodLink RX11 410 yX11_mayDo ∈ wsL_law := in_r34 _ (List.mem_of_getElem? (i := 0) rfl)
theorem zX11_loses : csZ mX11_loses 1 := ⟨⟨by decide +kernel, by decide +kernel, by decide +kernel⟩, in_r38 _ (List.mem_of_getElem? (i := 5) rfl), in_r1 _ (List.mem_of_getElem? (i := 5) rfl)⟩
theorem vX11_loses : Cond.instanceMethod yX11_loses ∈ wsL_law ∧ Cond.selects RX11 yX11_loses yX11_loses ∈ wsL_law := ⟨in_r38 _ (List.mem_of_getElem? (i := 3) rfl), in_r38 _ (List.mem_of_getElem? (i := 4) rfl)⟩
theorem lX11_414 : Cond.methodLink RX11 414 yX11_loses ∈ wsL_law := in_r38 _ (List.mem_of_getElem? (i := 2) rfl)
theorem zX11_leftOf : csZ mX11_leftOf 1 := ⟨⟨by decide +kernel, by decide +kernel, by decide +kernel⟩, in_r38 _ (List.mem_of_getElem? (i := 9) rfl), in_r1 _ (List.mem_of_getElem? (i := 5) rfl)⟩
theorem vX11_leftOf : Cond.instanceMethod yX11_leftOf ∈ wsL_law ∧ Cond.selects RX11 yX11_leftOf yX11_leftOf ∈ wsL_law := ⟨in_r38 _ (List.mem_of_getElem? (i := 7) rfl), in_r38 _ (List.mem_of_getElem? (i := 8) rfl)⟩
theorem lX11_420 : Cond.methodLink RX11 420 yX11_leftOf ∈ wsL_law := in_r38 _ (List.mem_of_getElem? (i := 6) rfl)
theorem zX11_earned : csZ mX11_earned 3 := ⟨⟨by decide +kernel, by decide +kernel, by decide +kernel⟩, in_r37 _ (List.mem_of_getElem? (i := 19) rfl), in_r1 _ (List.mem_of_getElem? (i := 5) rfl)⟩
theorem vX11_earned : Cond.instanceMethod yX11_earned ∈ wsL_law ∧ Cond.selects RX11 yX11_earned yX11_earned ∈ wsL_law := ⟨in_r37 _ (List.mem_of_getElem? (i := 17) rfl), in_r37 _ (List.mem_of_getElem? (i := 18) rfl)⟩
theorem lX11_426 : Cond.methodLink RX11 426 yX11_earned ∈ wsL_law := in_r37 _ (List.mem_of_getElem? (i := 16) rfl)
theorem zX11_bestFrom : csZ mX11_bestFrom 5 := ⟨⟨by decide +kernel, by decide +kernel, by decide +kernel⟩, in_r38 _ (List.mem_of_getElem? (i := 0) rfl), in_r1 _ (List.mem_of_getElem? (i := 5) rfl)⟩
theorem vX11_bestFrom : Cond.instanceMethod yX11_bestFrom ∈ wsL_law ∧ Cond.selects RX11 yX11_bestFrom yX11_bestFrom ∈ wsL_law := ⟨in_r37 _ (List.mem_of_getElem? (i := 22) rfl), in_r37 _ (List.mem_of_getElem? (i := 23) rfl)⟩
theorem lX11_429 : Cond.methodLink RX11 429 yX11_bestFrom ∈ wsL_law := in_r37 _ (List.mem_of_getElem? (i := 21) rfl)
theorem zX11_isBest : csZ mX11_isBest 5 := ⟨⟨by decide +kernel, by decide +kernel, by decide +kernel⟩, in_r37 _ (List.mem_of_getElem? (i := 10) rfl), in_r1 _ (List.mem_of_getElem? (i := 5) rfl)⟩
theorem vX11_isBest : Cond.instanceMethod yX11_isBest ∈ wsL_law ∧ Cond.selects RX11 yX11_isBest yX11_isBest ∈ wsL_law := ⟨in_r37 _ (List.mem_of_getElem? (i := 8) rfl), in_r37 _ (List.mem_of_getElem? (i := 9) rfl)⟩
theorem lX11_435 : Cond.methodLink RX11 435 yX11_isBest ∈ wsL_law := in_r37 _ (List.mem_of_getElem? (i := 7) rfl)
theorem zX11_findBest : csZ mX11_findBest 3 := ⟨⟨by decide +kernel, by decide +kernel, by decide +kernel⟩, in_r37 _ (List.mem_of_getElem? (i := 15) rfl), in_r1 _ (List.mem_of_getElem? (i := 5) rfl)⟩
theorem vX11_findBest : Cond.instanceMethod yX11_findBest ∈ wsL_law ∧ Cond.selects RX11 yX11_findBest yX11_findBest ∈ wsL_law := ⟨in_r37 _ (List.mem_of_getElem? (i := 13) rfl), in_r37 _ (List.mem_of_getElem? (i := 14) rfl)⟩
theorem lX11_438 : Cond.methodLink RX11 438 yX11_findBest ∈ wsL_law := in_r37 _ (List.mem_of_getElem? (i := 12) rfl)
theorem zX11_findWeek : csZ mX11_findWeek 2 := ⟨⟨by decide +kernel, by decide +kernel, by decide +kernel⟩, in_r39 _ (List.mem_of_getElem? (i := 23) rfl), in_r1 _ (List.mem_of_getElem? (i := 5) rfl)⟩
theorem vX11_findWeek : Cond.instanceMethod yX11_findWeek ∈ wsL_law ∧ Cond.selects RX11 yX11_findWeek yX11_findWeek ∈ wsL_law := ⟨in_r39 _ (List.mem_of_getElem? (i := 21) rfl), in_r39 _ (List.mem_of_getElem? (i := 22) rfl)⟩
theorem lX11_442 : Cond.methodLink RX11 442 yX11_findWeek ∈ wsL_law := in_r39 _ (List.mem_of_getElem? (i := 20) rfl)
theorem zX11_canBuy : csZ mX11_canBuy 3 := ⟨⟨by decide +kernel, by decide +kernel, by decide +kernel⟩, in_r40 _ (List.mem_of_getElem? (i := 2) rfl), in_r1 _ (List.mem_of_getElem? (i := 5) rfl)⟩
theorem tX11_canBuy : Cond.static yX11_canBuy ∈ wsL_law := in_r40 _ (List.mem_of_getElem? (i := 1) rfl)
theorem lX11_446 : Cond.methodLink RX11 446 yX11_canBuy ∈ wsL_law := in_r40 _ (List.mem_of_getElem? (i := 0) rfl)
theorem zX11_each : csZ mX11_each 2 := ⟨⟨by decide +kernel, by decide +kernel, by decide +kernel⟩, in_r43 _ (List.mem_of_getElem? (i := 17) rfl), in_r1 _ (List.mem_of_getElem? (i := 5) rfl)⟩
theorem vX11_each : Cond.instanceMethod yX11_each ∈ wsL_law ∧ Cond.selects RX11 yX11_each yX11_each ∈ wsL_law := ⟨in_r43 _ (List.mem_of_getElem? (i := 15) rfl), in_r43 _ (List.mem_of_getElem? (i := 16) rfl)⟩
theorem lX11_449 : Cond.methodLink RX11 449 yX11_each ∈ wsL_law := in_r43 _ (List.mem_of_getElem? (i := 14) rfl)
theorem zX11_isWay : csZ mX11_isWay 1 := ⟨⟨by decide +kernel, by decide +kernel, by decide +kernel⟩, in_r39 _ (List.mem_of_getElem? (i := 14) rfl), in_r1 _ (List.mem_of_getElem? (i := 5) rfl)⟩
theorem tX11_isWay : Cond.static yX11_isWay ∈ wsL_law := in_r39 _ (List.mem_of_getElem? (i := 13) rfl)
theorem lX11_454 : Cond.methodLink RX11 454 yX11_isWay ∈ wsL_law := in_r39 _ (List.mem_of_getElem? (i := 12) rfl)
theorem zX11_actOf : csZ mX11_actOf 5 := ⟨⟨by decide +kernel, by decide +kernel, by decide +kernel⟩, in_r39 _ (List.mem_of_getElem? (i := 19) rfl), in_r1 _ (List.mem_of_getElem? (i := 5) rfl)⟩
theorem vX11_actOf : Cond.instanceMethod yX11_actOf ∈ wsL_law ∧ Cond.selects RX11 yX11_actOf yX11_actOf ∈ wsL_law := ⟨in_r39 _ (List.mem_of_getElem? (i := 17) rfl), in_r39 _ (List.mem_of_getElem? (i := 18) rfl)⟩
theorem lX11_457 : Cond.methodLink RX11 457 yX11_actOf ∈ wsL_law := in_r39 _ (List.mem_of_getElem? (i := 16) rfl)
theorem zX11_cutAct : csZ mX11_cutAct 3 := ⟨⟨by decide +kernel, by decide +kernel, by decide +kernel⟩, in_r43 _ (List.mem_of_getElem? (i := 13) rfl), in_r1 _ (List.mem_of_getElem? (i := 5) rfl)⟩
theorem vX11_cutAct : Cond.instanceMethod yX11_cutAct ∈ wsL_law ∧ Cond.selects RX11 yX11_cutAct yX11_cutAct ∈ wsL_law := ⟨in_r43 _ (List.mem_of_getElem? (i := 11) rfl), in_r43 _ (List.mem_of_getElem? (i := 12) rfl)⟩
theorem lX11_461 : Cond.methodLink RX11 461 yX11_cutAct ∈ wsL_law := in_r43 _ (List.mem_of_getElem? (i := 10) rfl)
theorem zX11_takes : csZ mX11_takes 3 := ⟨⟨by decide +kernel, by decide +kernel, by decide +kernel⟩, in_r43 _ (List.mem_of_getElem? (i := 21) rfl), in_r1 _ (List.mem_of_getElem? (i := 5) rfl)⟩
theorem vX11_takes : Cond.instanceMethod yX11_takes ∈ wsL_law ∧ Cond.selects RX11 yX11_takes yX11_takes ∈ wsL_law := ⟨in_r43 _ (List.mem_of_getElem? (i := 19) rfl), in_r43 _ (List.mem_of_getElem? (i := 20) rfl)⟩
theorem lX11_464 : Cond.methodLink RX11 464 yX11_takes ∈ wsL_law := in_r43 _ (List.mem_of_getElem? (i := 18) rfl)
theorem zX11_openChest : csZ mX11_openChest 1 := ⟨⟨by decide +kernel, by decide +kernel, by decide +kernel⟩, in_r43 _ (List.mem_of_getElem? (i := 5) rfl), in_r1 _ (List.mem_of_getElem? (i := 5) rfl)⟩
theorem vX11_openChest : Cond.instanceMethod yX11_openChest ∈ wsL_law ∧ Cond.selects RX11 yX11_openChest yX11_openChest ∈ wsL_law := ⟨in_r43 _ (List.mem_of_getElem? (i := 3) rfl), in_r43 _ (List.mem_of_getElem? (i := 4) rfl)⟩
theorem lX11_467 : Cond.methodLink RX11 467 yX11_openChest ∈ wsL_law := in_r43 _ (List.mem_of_getElem? (i := 2) rfl)
theorem zX11_sortDay : csZ mX11_sortDay 3 := ⟨⟨by decide +kernel, by decide +kernel, by decide +kernel⟩, in_r43 _ (List.mem_of_getElem? (i := 9) rfl), in_r1 _ (List.mem_of_getElem? (i := 5) rfl)⟩
theorem vX11_sortDay : Cond.instanceMethod yX11_sortDay ∈ wsL_law ∧ Cond.selects RX11 yX11_sortDay yX11_sortDay ∈ wsL_law := ⟨in_r43 _ (List.mem_of_getElem? (i := 7) rfl), in_r43 _ (List.mem_of_getElem? (i := 8) rfl)⟩
theorem lX11_474 : Cond.methodLink RX11 474 yX11_sortDay ∈ wsL_law := in_r43 _ (List.mem_of_getElem? (i := 6) rfl)
theorem zX11_nightOf : csZ mX11_nightOf 3 := ⟨⟨by decide +kernel, by decide +kernel, by decide +kernel⟩, in_r44 _ (List.mem_of_getElem? (i := 1) rfl), in_r1 _ (List.mem_of_getElem? (i := 5) rfl)⟩
theorem vX11_nightOf : Cond.instanceMethod yX11_nightOf ∈ wsL_law ∧ Cond.selects RX11 yX11_nightOf yX11_nightOf ∈ wsL_law := ⟨in_r43 _ (List.mem_of_getElem? (i := 23) rfl), in_r44 _ (List.mem_of_getElem? (i := 0) rfl)⟩
theorem lX11_478 : Cond.methodLink RX11 478 yX11_nightOf ∈ wsL_law := in_r43 _ (List.mem_of_getElem? (i := 22) rfl)
theorem zX11_dayOf : csZ mX11_dayOf 1 := ⟨⟨by decide +kernel, by decide +kernel, by decide +kernel⟩, in_r42 _ (List.mem_of_getElem? (i := 23) rfl), in_r1 _ (List.mem_of_getElem? (i := 5) rfl)⟩
theorem vX11_dayOf : Cond.instanceMethod yX11_dayOf ∈ wsL_law ∧ Cond.selects RX11 yX11_dayOf yX11_dayOf ∈ wsL_law := ⟨in_r42 _ (List.mem_of_getElem? (i := 21) rfl), in_r42 _ (List.mem_of_getElem? (i := 22) rfl)⟩
theorem lX11_484 : Cond.methodLink RX11 484 yX11_dayOf ∈ wsL_law := in_r42 _ (List.mem_of_getElem? (i := 20) rfl)
theorem zX11_paidByAll : csZ mX11_paidByAll 1 := ⟨⟨by decide +kernel, by decide +kernel, by decide +kernel⟩, in_r45 _ (List.mem_of_getElem? (i := 14) rfl), in_r1 _ (List.mem_of_getElem? (i := 5) rfl)⟩
theorem vX11_paidByAll : Cond.instanceMethod yX11_paidByAll ∈ wsL_law ∧ Cond.selects RX11 yX11_paidByAll yX11_paidByAll ∈ wsL_law := ⟨in_r45 _ (List.mem_of_getElem? (i := 12) rfl), in_r45 _ (List.mem_of_getElem? (i := 13) rfl)⟩
theorem lX11_490 : Cond.methodLink RX11 490 yX11_paidByAll ∈ wsL_law := in_r45 _ (List.mem_of_getElem? (i := 11) rfl)
theorem zX11_isSlot : csZ mX11_isSlot 1 := ⟨⟨by decide +kernel, by decide +kernel, by decide +kernel⟩, in_r46 _ (List.mem_of_getElem? (i := 14) rfl), in_r1 _ (List.mem_of_getElem? (i := 5) rfl)⟩
theorem tX11_isSlot : Cond.static yX11_isSlot ∈ wsL_law := in_r46 _ (List.mem_of_getElem? (i := 13) rfl)
theorem lX11_494 : Cond.methodLink RX11 494 yX11_isSlot ∈ wsL_law := in_r46 _ (List.mem_of_getElem? (i := 12) rfl)
theorem zX11_runTrial : csZ mX11_runTrial 1 := ⟨⟨by decide +kernel, by decide +kernel, by decide +kernel⟩, in_r48 _ (List.mem_of_getElem? (i := 4) rfl), in_r1 _ (List.mem_of_getElem? (i := 5) rfl)⟩
theorem vX11_runTrial : Cond.instanceMethod yX11_runTrial ∈ wsL_law ∧ Cond.selects RX11 yX11_runTrial yX11_runTrial ∈ wsL_law := ⟨in_r48 _ (List.mem_of_getElem? (i := 2) rfl), in_r48 _ (List.mem_of_getElem? (i := 3) rfl)⟩
theorem lX11_497 : Cond.methodLink RX11 497 yX11_runTrial ∈ wsL_law := in_r48 _ (List.mem_of_getElem? (i := 1) rfl)
theorem zX11_worthOf : csZ mX11_worthOf 2 := ⟨⟨by decide +kernel, by decide +kernel, by decide +kernel⟩, in_r48 _ (List.mem_of_getElem? (i := 0) rfl), in_r1 _ (List.mem_of_getElem? (i := 5) rfl)⟩
theorem vX11_worthOf : Cond.instanceMethod yX11_worthOf ∈ wsL_law ∧ Cond.selects RX11 yX11_worthOf yX11_worthOf ∈ wsL_law := ⟨in_r47 _ (List.mem_of_getElem? (i := 22) rfl), in_r47 _ (List.mem_of_getElem? (i := 23) rfl)⟩
theorem lX11_502 : Cond.methodLink RX11 502 yX11_worthOf ∈ wsL_law := in_r47 _ (List.mem_of_getElem? (i := 21) rfl)
theorem zX11_turn : csZ mX11_turn 0 := ⟨⟨by decide +kernel, by decide +kernel, by decide +kernel⟩, in_r49 _ (List.mem_of_getElem? (i := 12) rfl), in_r1 _ (List.mem_of_getElem? (i := 5) rfl)⟩
theorem vX11_turn : Cond.instanceMethod yX11_turn ∈ wsL_law ∧ Cond.selects RX11 yX11_turn yX11_turn ∈ wsL_law := ⟨in_r49 _ (List.mem_of_getElem? (i := 10) rfl), in_r49 _ (List.mem_of_getElem? (i := 11) rfl)⟩
theorem lX11_505 : Cond.methodLink RX11 505 yX11_turn ∈ wsL_law := in_r49 _ (List.mem_of_getElem? (i := 9) rfl)
theorem zX11_follow : csZ mX11_follow 4 := ⟨⟨by decide +kernel, by decide +kernel, by decide +kernel⟩, in_r52 _ (List.mem_of_getElem? (i := 0) rfl), in_r1 _ (List.mem_of_getElem? (i := 5) rfl)⟩
theorem vX11_follow : Cond.instanceMethod yX11_follow ∈ wsL_law ∧ Cond.selects RX11 yX11_follow yX11_follow ∈ wsL_law := ⟨in_r51 _ (List.mem_of_getElem? (i := 22) rfl), in_r51 _ (List.mem_of_getElem? (i := 23) rfl)⟩
theorem lX11_508 : Cond.methodLink RX11 508 yX11_follow ∈ wsL_law := in_r51 _ (List.mem_of_getElem? (i := 21) rfl)
theorem zX11_offer : csZ mX11_offer 6 := ⟨⟨by decide +kernel, by decide +kernel, by decide +kernel⟩, in_r51 _ (List.mem_of_getElem? (i := 20) rfl), in_r1 _ (List.mem_of_getElem? (i := 5) rfl)⟩
theorem vX11_offer : Cond.instanceMethod yX11_offer ∈ wsL_law ∧ Cond.selects RX11 yX11_offer yX11_offer ∈ wsL_law := ⟨in_r51 _ (List.mem_of_getElem? (i := 18) rfl), in_r51 _ (List.mem_of_getElem? (i := 19) rfl)⟩
theorem lX11_519 : Cond.methodLink RX11 519 yX11_offer ∈ wsL_law := in_r51 _ (List.mem_of_getElem? (i := 17) rfl)
theorem zX11_isMeet : csZ mX11_isMeet 3 := ⟨⟨by decide +kernel, by decide +kernel, by decide +kernel⟩, in_r55 _ (List.mem_of_getElem? (i := 13) rfl), in_r1 _ (List.mem_of_getElem? (i := 5) rfl)⟩
theorem tX11_isMeet : Cond.static yX11_isMeet ∈ wsL_law := in_r55 _ (List.mem_of_getElem? (i := 12) rfl)
theorem lX11_540 : Cond.methodLink RX11 540 yX11_isMeet ∈ wsL_law := in_r55 _ (List.mem_of_getElem? (i := 11) rfl)
theorem zX11_findMeet : csZ mX11_findMeet 5 := ⟨⟨by decide +kernel, by decide +kernel, by decide +kernel⟩, in_r55 _ (List.mem_of_getElem? (i := 19) rfl), in_r1 _ (List.mem_of_getElem? (i := 5) rfl)⟩
theorem vX11_findMeet : Cond.instanceMethod yX11_findMeet ∈ wsL_law ∧ Cond.selects RX11 yX11_findMeet yX11_findMeet ∈ wsL_law := ⟨in_r55 _ (List.mem_of_getElem? (i := 17) rfl), in_r55 _ (List.mem_of_getElem? (i := 18) rfl)⟩
theorem lX11_545 : Cond.methodLink RX11 545 yX11_findMeet ∈ wsL_law := in_r55 _ (List.mem_of_getElem? (i := 16) rfl)
theorem zX11_isLost : csZ mX11_isLost 5 := ⟨⟨by decide +kernel, by decide +kernel, by decide +kernel⟩, in_r57 _ (List.mem_of_getElem? (i := 5) rfl), in_r1 _ (List.mem_of_getElem? (i := 5) rfl)⟩
theorem vX11_isLost : Cond.instanceMethod yX11_isLost ∈ wsL_law ∧ Cond.selects RX11 yX11_isLost yX11_isLost ∈ wsL_law := ⟨in_r57 _ (List.mem_of_getElem? (i := 3) rfl), in_r57 _ (List.mem_of_getElem? (i := 4) rfl)⟩
theorem lX11_549 : Cond.methodLink RX11 549 yX11_isLost ∈ wsL_law := in_r57 _ (List.mem_of_getElem? (i := 2) rfl)
theorem lX0_50 : Cond.methodLink RX0 50 arraycopyName ∈ wsL_law := in_r8 _ (List.mem_of_getElem? (i := 10) rfl)
theorem lX0_67 : Cond.methodLink RX0 67 Lib.Math.min.name ∈ wsL_law := in_r34 _ (List.mem_of_getElem? (i := 22) rfl)
theorem lX1_28 : Cond.methodLink RX1 28 arraycopyName ∈ wsL_law := in_r53 _ (List.mem_of_getElem? (i := 18) rfl)
theorem lX1_58 : Cond.methodLink RX1 58 Lib.MathLoose.max_long.x ∈ wsL_law := in_r55 _ (List.mem_of_getElem? (i := 1) rfl)
theorem lX10_284 : Cond.methodLink RX10 284 Lib.Math.max.name ∈ wsL_law := in_r50 _ (List.mem_of_getElem? (i := 1) rfl)
theorem lX11_387 : Cond.methodLink RX11 387 Lib.Math.max.name ∈ wsL_law := in_r31 _ (List.mem_of_getElem? (i := 15) rfl)
theorem lX11_417 : Cond.methodLink RX11 417 Lib.Math.min.name ∈ wsL_law := in_r37 _ (List.mem_of_getElem? (i := 20) rfl)
theorem lX11_533 : Cond.methodLink RX11 533 Lib.MathLoose.max_long.x ∈ wsL_law := in_r55 _ (List.mem_of_getElem? (i := 20) rfl)
theorem lX2_101 : Cond.methodLink RX2 101 Lib.Math.min.name ∈ wsL_law := in_r36 _ (List.mem_of_getElem? (i := 5) rfl)
theorem lX2_130 : Cond.methodLink RX2 130 Lib.Math.max.name ∈ wsL_law := in_r36 _ (List.mem_of_getElem? (i := 21) rfl)
theorem lX4_46 : Cond.methodLink RX4 46 arraycopyName ∈ wsL_law := in_r46 _ (List.mem_of_getElem? (i := 7) rfl)
theorem lX4_60 : Cond.methodLink RX4 60 Lib.MathLoose.min_long.x ∈ wsL_law := in_r44 _ (List.mem_of_getElem? (i := 23) rfl)
theorem lX6_78 : Cond.methodLink RX6 78 Lib.Math.min.name ∈ wsL_law := in_r39 _ (List.mem_of_getElem? (i := 5) rfl)
theorem lX8_41 : Cond.methodLink RX8 41 Lib.Math.max.name ∈ wsL_law := in_r50 _ (List.mem_of_getElem? (i := 12) rfl)
theorem lX9_78 : Cond.methodLink RX9 78 Lib.Math.min.name ∈ wsL_law := in_r41 _ (List.mem_of_getElem? (i := 12) rfl)
