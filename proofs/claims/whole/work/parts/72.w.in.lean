/-! WORDS: those of the contracts lie in the tables -/
theorem wI_1 : ∀ w ∈ wsL_law_r1, w ∈ lw_tbl := fun w h => (goodIn_p wsL_law_r1 [63, 66] (by decide +kernel) (by decide +kernel) w h).1
theorem wI_2 : ∀ w ∈ wsL_law_r2, w ∈ lw_tbl := fun w h => (goodIn_p wsL_law_r2 [71, 93] (by decide +kernel) (by decide +kernel) w h).1
theorem wI_3 : ∀ w ∈ wsL_law_r3, w ∈ lw_tbl := fun w h => (goodIn_p wsL_law_r3 [116, 142] (by decide +kernel) (by decide +kernel) w h).1
theorem wI_4 : ∀ w ∈ wsL_law_r4, w ∈ lw_tbl := fun w h => (goodIn_p wsL_law_r4 [585, 212] (by decide +kernel) (by decide +kernel) w h).1
theorem wI_5 : ∀ w ∈ wsL_law_r5, w ∈ lw_tbl := fun w h => (goodIn_p wsL_law_r5 [216, 662, 666, 220, 670, 673] (by decide +kernel) (by decide +kernel) w h).1
theorem wI_6 : ∀ w ∈ wsL_law_r6, w ∈ lw_tbl := fun w h => (goodIn_p wsL_law_r6 [224, 227, 231, 234, 237, 240] (by decide +kernel) (by decide +kernel) w h).1
theorem wI_7 : ∀ w ∈ wsL_law_r7, w ∈ lw_tbl := fun w h => (goodIn_p wsL_law_r7 [243, 247, 251, 254, 257, 269, 273] (by decide +kernel) (by decide +kernel) w h).1
theorem wI_8 : ∀ w ∈ wsL_law_r8, w ∈ lw_tbl := fun w h => (goodIn_p wsL_law_r8 [277, 283, 287, 290, 293] (by decide +kernel) (by decide +kernel) w h).1
theorem wI_9 : ∀ w ∈ wsL_law_r9, w ∈ lw_tbl := fun w h => (goodIn_p wsL_law_r9 [298, 301, 304, 307, 311, 321] (by decide +kernel) (by decide +kernel) w h).1
theorem wI_10 : ∀ w ∈ wsL_law_r10, w ∈ lw_tbl := fun w h => (goodIn_p wsL_law_r10 [325, 328, 333, 336, 339, 343] (by decide +kernel) (by decide +kernel) w h).1
theorem wI_11 : ∀ w ∈ wsL_law_r11, w ∈ lw_tbl := fun w h => (goodIn_p wsL_law_r11 [346, 677, 681, 685, 689] (by decide +kernel) (by decide +kernel) w h).1
theorem wI_12 : ∀ w ∈ wsL_law_r12, w ∈ lw_tbl := fun w h => (goodIn_p wsL_law_r12 [692, 695, 698, 702, 709, 713] (by decide +kernel) (by decide +kernel) w h).1
theorem wI_13 : ∀ w ∈ wsL_law_r13, w ∈ lw_tbl := fun w h => (goodIn_p wsL_law_r13 [717, 351, 721, 355, 725] (by decide +kernel) (by decide +kernel) w h).1
theorem wI_14 : ∀ w ∈ wsL_law_r14, w ∈ lw_tbl := fun w h => (goodIn_p wsL_law_r14 [359, 729, 363, 367, 371] (by decide +kernel) (by decide +kernel) w h).1
theorem wI_15 : ∀ w ∈ wsL_law_r15, w ∈ lw_tbl := fun w h => (goodIn_p wsL_law_r15 [375, 379, 383, 387, 391] (by decide +kernel) (by decide +kernel) w h).1
theorem wI_16 : ∀ w ∈ wsL_law_r16, w ∈ lw_tbl := fun w h => (goodIn_p wsL_law_r16 [396, 400, 403, 417] (by decide +kernel) (by decide +kernel) w h).1
theorem wI_17 : ∀ w ∈ wsL_law_r17, w ∈ lw_tbl := fun w h => (goodIn_p wsL_law_r17 [426, 430, 433, 436, 440] (by decide +kernel) (by decide +kernel) w h).1
theorem wI_18 : ∀ w ∈ wsL_law_r18, w ∈ lw_tbl := fun w h => (goodIn_p wsL_law_r18 [443, 446, 449, 453, 456, 459, 463] (by decide +kernel) (by decide +kernel) w h).1
theorem wI_19 : ∀ w ∈ wsL_law_r19, w ∈ lw_tbl := fun w h => (goodIn_p wsL_law_r19 [468, 472, 475, 479, 483, 488, 491] (by decide +kernel) (by decide +kernel) w h).1
theorem wI_20 : ∀ w ∈ wsL_law_r20, w ∈ lw_tbl := fun w h => (goodIn_p wsL_law_r20 [495, 733, 737, 741, 745] (by decide +kernel) (by decide +kernel) w h).1
theorem wI_21 : ∀ w ∈ wsL_law_r21, w ∈ lw_tbl := fun w h => (goodIn_p wsL_law_r21 [748, 753, 756, 761, 765, 768] (by decide +kernel) (by decide +kernel) w h).1
theorem wI_22 : ∀ w ∈ wsL_law_r22, w ∈ lw_tbl := fun w h => (goodIn_p wsL_law_r22 [771, 774, 778, 782, 786, 789, 793] (by decide +kernel) (by decide +kernel) w h).1
theorem wI_23 : ∀ w ∈ wsL_law_r23, w ∈ lw_tbl := fun w h => (goodIn_p wsL_law_r23 [501, 505, 509, 797, 801] (by decide +kernel) (by decide +kernel) w h).1
theorem wI_24 : ∀ w ∈ wsL_law_r24, w ∈ lw_tbl := fun w h => (goodIn_p wsL_law_r24 [805, 513, 517, 521, 525] (by decide +kernel) (by decide +kernel) w h).1
theorem wI_25 : ∀ w ∈ wsL_law_r25, w ∈ lw_tbl := fun w h => (goodIn_p wsL_law_r25 [531, 534, 541, 809, 813, 817] (by decide +kernel) (by decide +kernel) w h).1
theorem wI_26 : ∀ w ∈ wsL_law_r26, w ∈ lw_tbl := fun w h => (goodIn_p wsL_law_r26 [546, 549, 821, 824, 828, 553] (by decide +kernel) (by decide +kernel) w h).1
theorem wI_27 : ∀ w ∈ wsL_law_r27, w ∈ lw_tbl := fun w h => (goodIn_p wsL_law_r27 [832, 557, 561, 565, 569, 836] (by decide +kernel) (by decide +kernel) w h).1
theorem wI_28 : ∀ w ∈ wsL_law_r28, w ∈ lw_tbl := fun w h => (goodIn_p wsL_law_r28 [840, 844, 847, 574, 851] (by decide +kernel) (by decide +kernel) w h).1
theorem wI_29 : ∀ w ∈ wsL_law_r29, w ∈ lw_tbl := fun w h => (goodIn_p wsL_law_r29 [580, 855] (by decide +kernel) (by decide +kernel) w h).1
theorem wIX4 : ∀ w ∈ wsX40, w ∈ lw_tbl := fun w h => (goodIn_p wsX40 [] (by decide +kernel) (by decide +kernel) w h).1
theorem wIX5 : ∀ w ∈ wsX50, w ∈ lw_tbl := fun w h => (goodIn_p wsX50 [] (by decide +kernel) (by decide +kernel) w h).1
theorem wIX2 : ∀ w ∈ wsX20, w ∈ lw_tbl := fun w h => (goodIn_p wsX20 [] (by decide +kernel) (by decide +kernel) w h).1
theorem wIX1 : ∀ w ∈ wsX10, w ∈ lw_tbl := fun w h => (goodIn_p wsX10 [] (by decide +kernel) (by decide +kernel) w h).1
theorem wIX0 : ∀ w ∈ wsX00, w ∈ lw_tbl := fun w h => (goodIn_p wsX00 [] (by decide +kernel) (by decide +kernel) w h).1
theorem wIX3 : ∀ w ∈ wsX30, w ∈ lw_tbl := fun w h => (goodIn_p wsX30 [] (by decide +kernel) (by decide +kernel) w h).1
theorem wsL_law_in : ∀ w ∈ wsL_law, w ∈ lw_tbl := List.forall_mem_append.mpr ⟨List.forall_mem_append.mpr ⟨List.forall_mem_append.mpr ⟨List.forall_mem_append.mpr ⟨List.forall_mem_append.mpr ⟨List.forall_mem_append.mpr ⟨List.forall_mem_append.mpr ⟨List.forall_mem_append.mpr ⟨wI_1, List.forall_mem_append.mpr ⟨wI_2, List.forall_mem_append.mpr ⟨wI_3, List.forall_mem_append.mpr ⟨wI_4, List.forall_mem_append.mpr ⟨wI_5, List.forall_mem_append.mpr ⟨wI_6, List.forall_mem_append.mpr ⟨wI_7, List.forall_mem_append.mpr ⟨wI_8, List.forall_mem_append.mpr ⟨wI_9, List.forall_mem_append.mpr ⟨wI_10, List.forall_mem_append.mpr ⟨wI_11, List.forall_mem_append.mpr ⟨wI_12, List.forall_mem_append.mpr ⟨wI_13, List.forall_mem_append.mpr ⟨wI_14, List.forall_mem_append.mpr ⟨wI_15, List.forall_mem_append.mpr ⟨wI_16, List.forall_mem_append.mpr ⟨wI_17, List.forall_mem_append.mpr ⟨wI_18, List.forall_mem_append.mpr ⟨wI_19, List.forall_mem_append.mpr ⟨wI_20, List.forall_mem_append.mpr ⟨wI_21, List.forall_mem_append.mpr ⟨wI_22, List.forall_mem_append.mpr ⟨wI_23, List.forall_mem_append.mpr ⟨wI_24, List.forall_mem_append.mpr ⟨wI_25, List.forall_mem_append.mpr ⟨wI_26, List.forall_mem_append.mpr ⟨wI_27, List.forall_mem_append.mpr ⟨wI_28, wI_29⟩⟩⟩⟩⟩⟩⟩⟩⟩⟩⟩⟩⟩⟩⟩⟩⟩⟩⟩⟩⟩⟩⟩⟩⟩⟩⟩⟩, wIX4⟩, wIX5⟩, wIX2⟩, wIX1⟩, wIX0⟩, wIX3⟩, fun _ h => absurd h List.not_mem_nil⟩
