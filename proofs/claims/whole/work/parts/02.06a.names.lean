theorem dX5_findEnd_22 : decode cX5_findEnd 22 = .ok (.iconst 0, 1) := by decide +kernel
theorem dX5_findEnd_23 : decode cX5_findEnd 23 = .ok (.istore 5, 2) := by decide +kernel
theorem dX5_findEnd_25 : decode cX5_findEnd 25 = .ok (.iload 5, 2) := by decide +kernel
theorem dX5_findEnd_27 : decode cX5_findEnd 27 = .ok (.iconst 4, 1) := by decide +kernel
theorem dX5_findEnd_28 : decode cX5_findEnd 28 = .ok (.if_icmp .ge 55, 3) := by decide +kernel
theorem dX5_findEnd_31 : decode cX5_findEnd 31 = .ok (.iload 4, 2) := by decide +kernel
theorem dX5_findEnd_33 : decode cX5_findEnd 33 = .ok (.ifCond .eq 50, 3) := by decide +kernel
theorem dX5_findEnd_36 : decode cX5_findEnd 36 = .ok (.iload_n 2, 1) := by decide +kernel
theorem dX5_findEnd_37 : decode cX5_findEnd 37 = .ok (.iload 5, 2) := by decide +kernel
theorem dX5_findEnd_39 : decode cX5_findEnd 39 = .ok (.ishr, 1) := by decide +kernel
theorem dX5_findEnd_40 : decode cX5_findEnd 40 = .ok (.iconst 1, 1) := by decide +kernel
theorem dX5_findEnd_41 : decode cX5_findEnd 41 = .ok (.iand, 1) := by decide +kernel
theorem dX5_findEnd_42 : decode cX5_findEnd 42 = .ok (.ifCond .eq 28, 3) := by decide +kernel
theorem dX5_findEnd_45 : decode cX5_findEnd 45 = .ok (.aload_n 0, 1) := by decide +kernel
theorem dX5_findEnd_46 : decode cX5_findEnd 46 = .ok (.getfield 35, 3) := by decide +kernel
theorem dX5_findEnd_49 : decode cX5_findEnd 49 = .ok (.iload_n 3, 1) := by decide +kernel
theorem dX5_findEnd_50 : decode cX5_findEnd 50 = .ok (.laload, 1) := by decide +kernel
theorem dX5_findEnd_51 : decode cX5_findEnd 51 = .ok (.iconst 2, 1) := by decide +kernel
theorem dX5_findEnd_52 : decode cX5_findEnd 52 = .ok (.iload 5, 2) := by decide +kernel
theorem dX5_findEnd_54 : decode cX5_findEnd 54 = .ok (.imul, 1) := by decide +kernel
theorem dX5_findEnd_55 : decode cX5_findEnd 55 = .ok (.iconst 2, 1) := by decide +kernel
theorem dX5_findEnd_56 : decode cX5_findEnd 56 = .ok (.invokestatic 134, 3) := by decide +kernel
theorem dX5_findEnd_59 : decode cX5_findEnd 59 = .ok (.iload_n 1, 1) := by decide +kernel
theorem dX5_findEnd_60 : decode cX5_findEnd 60 = .ok (.iconst 2, 1) := by decide +kernel
theorem dX5_findEnd_61 : decode cX5_findEnd 61 = .ok (.iload 5, 2) := by decide +kernel
theorem dX5_findEnd_63 : decode cX5_findEnd 63 = .ok (.imul, 1) := by decide +kernel
theorem dX5_findEnd_64 : decode cX5_findEnd 64 = .ok (.ishr, 1) := by decide +kernel
theorem dX5_findEnd_65 : decode cX5_findEnd 65 = .ok (.iconst 3, 1) := by decide +kernel
theorem dX5_findEnd_66 : decode cX5_findEnd 66 = .ok (.iand, 1) := by decide +kernel
theorem dX5_findEnd_67 : decode cX5_findEnd 67 = .ok (.if_icmp .ne 7, 3) := by decide +kernel
theorem dX5_findEnd_70 : decode cX5_findEnd 70 = .ok (.iconst 1, 1) := by decide +kernel
theorem dX5_findEnd_71 : decode cX5_findEnd 71 = .ok (.goto 4, 3) := by decide +kernel
theorem dX5_findEnd_74 : decode cX5_findEnd 74 = .ok (.iconst 0, 1) := by decide +kernel
theorem dX5_findEnd_75 : decode cX5_findEnd 75 = .ok (.istore 4, 2) := by decide +kernel
theorem dX5_findEnd_77 : decode cX5_findEnd 77 = .ok (.iinc 5 1, 3) := by decide +kernel
theorem dX5_findEnd_80 : decode cX5_findEnd 80 = .ok (.goto (-55), 3) := by decide +kernel
theorem dX5_findEnd_83 : decode cX5_findEnd 83 = .ok (.iload 4, 2) := by decide +kernel
theorem dX5_findEnd_85 : decode cX5_findEnd 85 = .ok (.ifCond .eq 5, 3) := by decide +kernel
theorem dX5_findEnd_88 : decode cX5_findEnd 88 = .ok (.iload_n 3, 1) := by decide +kernel
theorem dX5_findEnd_89 : decode cX5_findEnd 89 = .ok (.ireturn, 1) := by decide +kernel
theorem dX5_findEnd_90 : decode cX5_findEnd 90 = .ok (.iinc 3 1, 3) := by decide +kernel
theorem dX5_findEnd_93 : decode cX5_findEnd 93 = .ok (.goto (-91), 3) := by decide +kernel
theorem dX5_findEnd_96 : decode cX5_findEnd 96 = .ok (.iconst (-1), 1) := by decide +kernel
theorem dX5_findEnd_97 : decode cX5_findEnd 97 = .ok (.ireturn, 1) := by decide +kernel
theorem dX5_keep_0 : decode cX5_keep 0 = .ok (.iload_n 1, 1) := by decide +kernel
theorem dX5_keep_1 : decode cX5_keep 1 = .ok (.ifCond .ge 5, 3) := by decide +kernel
theorem dX5_keep_4 : decode cX5_keep 4 = .ok (.iconst (-1), 1) := by decide +kernel
theorem dX5_keep_5 : decode cX5_keep 5 = .ok (.ireturn, 1) := by decide +kernel
theorem dX5_keep_6 : decode cX5_keep 6 = .ok (.aload_n 0, 1) := by decide +kernel
theorem dX5_keep_7 : decode cX5_keep 7 = .ok (.aload_n 0, 1) := by decide +kernel
theorem dX5_keep_8 : decode cX5_keep 8 = .ok (.getfield 46, 3) := by decide +kernel
theorem dX5_keep_11 : decode cX5_keep 11 = .ok (.iload_n 1, 1) := by decide +kernel
theorem dX5_keep_12 : decode cX5_keep 12 = .ok (.saload, 1) := by decide +kernel
theorem dX5_keep_13 : decode cX5_keep 13 = .ok (.putfield 201, 3) := by decide +kernel
theorem dX5_keep_16 : decode cX5_keep 16 = .ok (.iload_n 1, 1) := by decide +kernel
theorem dX5_keep_17 : decode cX5_keep 17 = .ok (.istore_n 2, 1) := by decide +kernel
theorem dX5_keep_18 : decode cX5_keep 18 = .ok (.aload_n 0, 1) := by decide +kernel
theorem dX5_keep_19 : decode cX5_keep 19 = .ok (.getfield 201, 3) := by decide +kernel
theorem dX5_keep_22 : decode cX5_keep 22 = .ok (.iconst 1, 1) := by decide +kernel
theorem dX5_keep_23 : decode cX5_keep 23 = .ok (.isub, 1) := by decide +kernel
theorem dX5_keep_24 : decode cX5_keep 24 = .ok (.istore_n 3, 1) := by decide +kernel
theorem dX5_keep_25 : decode cX5_keep 25 = .ok (.iload_n 3, 1) := by decide +kernel
theorem dX5_keep_26 : decode cX5_keep 26 = .ok (.ifCond .lt 28, 3) := by decide +kernel
theorem dX5_keep_29 : decode cX5_keep 29 = .ok (.aload_n 0, 1) := by decide +kernel
theorem dX5_keep_30 : decode cX5_keep 30 = .ok (.getfield 54, 3) := by decide +kernel
theorem dX5_keep_33 : decode cX5_keep 33 = .ok (.iload_n 3, 1) := by decide +kernel
theorem dX5_keep_34 : decode cX5_keep 34 = .ok (.aload_n 0, 1) := by decide +kernel
theorem dX5_keep_35 : decode cX5_keep 35 = .ok (.getfield 42, 3) := by decide +kernel
theorem dX5_keep_38 : decode cX5_keep 38 = .ok (.iload_n 2, 1) := by decide +kernel
theorem dX5_keep_39 : decode cX5_keep 39 = .ok (.baload, 1) := by decide +kernel
theorem dX5_keep_40 : decode cX5_keep 40 = .ok (.iastore, 1) := by decide +kernel
theorem dX5_keep_41 : decode cX5_keep 41 = .ok (.aload_n 0, 1) := by decide +kernel
theorem dX5_keep_42 : decode cX5_keep 42 = .ok (.getfield 39, 3) := by decide +kernel
theorem dX5_keep_45 : decode cX5_keep 45 = .ok (.iload_n 2, 1) := by decide +kernel
theorem dX5_keep_46 : decode cX5_keep 46 = .ok (.iaload, 1) := by decide +kernel
theorem dX5_keep_47 : decode cX5_keep 47 = .ok (.istore_n 2, 1) := by decide +kernel
theorem dX5_keep_48 : decode cX5_keep 48 = .ok (.iinc 3 (-1), 3) := by decide +kernel
theorem dX5_keep_51 : decode cX5_keep 51 = .ok (.goto (-26), 3) := by decide +kernel
theorem dX5_keep_54 : decode cX5_keep 54 = .ok (.aload_n 0, 1) := by decide +kernel
theorem dX5_keep_55 : decode cX5_keep 55 = .ok (.getfield 201, 3) := by decide +kernel
theorem dX5_keep_58 : decode cX5_keep 58 = .ok (.ireturn, 1) := by decide +kernel
set_option maxRecDepth 20000 in
theorem ggX5_both_X5_isIn : GoodIn wsX5_both wsX5_isIn := goodIn_r _ [5] (by decide +kernel) (by decide +kernel)
set_option maxRecDepth 20000 in
theorem gX5_both_X5_isIn : GoodIn wsX5_both (va_wsS RX5 64 yX5_isIn wsX5_isIn) := goodIn_app (goodIn_of _ (by decide +kernel)) ggX5_both_X5_isIn
set_option maxRecDepth 20000 in
theorem ggX5_both_X5_isWalked : GoodIn wsX5_both wsX5_isWalked := goodIn_r _ [9, 10, 11, 12, 13, 14, 4, 15, 1, 16, 17, 18, 19, 20, 21, 22, 23, 24, 25, 26, 27, 28, 29, 30, 31, 32, 33, 34, 35, 36, 37, 38, 39, 40, 41, 42, 43, 44, 45, 46, 47, 48, 49, 50, 51, 52, 53, 54, 55, 56, 57, 58, 59, 60, 61, 62, 63, 64, 65, 66, 67, 68, 69, 70, 71, 72, 73, 74, 75, 76, 77, 78, 79, 80, 81, 82, 93, 94, 95, 96, 97, 98, 99, 100, 101, 102, 103, 104, 105, 106, 107, 108, 109, 110, 111, 112, 113, 114, 115] (by decide +kernel) (by decide +kernel)
set_option maxRecDepth 20000 in
theorem gX5_both_X5_isWalked : GoodIn wsX5_both (wsV RX5 190 RX5 yX5_isWalked wsX5_isWalked) := goodIn_app (goodIn_of _ (by decide +kernel)) ggX5_both_X5_isWalked
set_option maxRecDepth 20000 in
theorem ggX5_both_X5_findBoth : GoodIn wsX5_both wsX5_findBoth := goodIn_r _ [86, 11, 29, 54, 55, 4, 56, 57, 58, 59, 93, 94, 95, 96, 97, 98, 99, 100, 101, 102, 103, 104, 105, 106, 107, 108, 109, 110, 111, 112, 113, 114, 115] (by decide +kernel) (by decide +kernel)
set_option maxRecDepth 20000 in
theorem gX5_both_X5_findBoth : GoodIn wsX5_both (wsV RX5 204 RX5 yX5_findBoth wsX5_findBoth) := goodIn_app (goodIn_of _ (by decide +kernel)) ggX5_both_X5_findBoth
set_option maxRecDepth 20000 in
theorem ggX5_both_X5_keep : GoodIn wsX5_both wsX5_keep := goodIn_r _ [90, 40, 91, 92, 39, 38, 93, 94, 95, 96, 97, 98, 99, 100, 101, 102, 103, 104, 105, 106, 107, 108, 109, 110, 111, 112, 113, 114, 115] (by decide +kernel) (by decide +kernel)
set_option maxRecDepth 20000 in
theorem gX5_both_X5_keep : GoodIn wsX5_both (wsV RX5 208 RX5 yX5_keep wsX5_keep) := goodIn_app (goodIn_of _ (by decide +kernel)) ggX5_both_X5_keep
theorem dX5_both_0 : decode cX5_both 0 = .ok (.iload_n 1, 1) := by decide +kernel
theorem dX5_both_1 : decode cX5_both 1 = .ok (.iconst 0, 1) := by decide +kernel
theorem dX5_both_2 : decode cX5_both 2 = .ok (.aload_n 0, 1) := by decide +kernel
theorem dX5_both_3 : decode cX5_both 3 = .ok (.getfield 7, 3) := by decide +kernel
theorem dX5_both_6 : decode cX5_both 6 = .ok (.iconst 0, 1) := by decide +kernel
theorem dX5_both_7 : decode cX5_both 7 = .ok (.iaload, 1) := by decide +kernel
theorem dX5_both_8 : decode cX5_both 8 = .ok (.invokestatic 64, 3) := by decide +kernel
theorem dX5_both_11 : decode cX5_both 11 = .ok (.ifCond .eq 17, 3) := by decide +kernel
theorem dX5_both_14 : decode cX5_both 14 = .ok (.iload_n 2, 1) := by decide +kernel
theorem dX5_both_15 : decode cX5_both 15 = .ok (.iconst 0, 1) := by decide +kernel
theorem dX5_both_16 : decode cX5_both 16 = .ok (.aload_n 0, 1) := by decide +kernel
theorem dX5_both_17 : decode cX5_both 17 = .ok (.getfield 7, 3) := by decide +kernel
theorem dX5_both_20 : decode cX5_both 20 = .ok (.iconst 1, 1) := by decide +kernel
theorem dX5_both_21 : decode cX5_both 21 = .ok (.iaload, 1) := by decide +kernel
theorem dX5_both_22 : decode cX5_both 22 = .ok (.invokestatic 64, 3) := by decide +kernel
theorem dX5_both_25 : decode cX5_both 25 = .ok (.ifCond .ne 5, 3) := by decide +kernel
theorem dX5_both_28 : decode cX5_both 28 = .ok (.iconst (-1), 1) := by decide +kernel
theorem dX5_both_29 : decode cX5_both 29 = .ok (.ireturn, 1) := by decide +kernel
theorem dX5_both_30 : decode cX5_both 30 = .ok (.aload_n 0, 1) := by decide +kernel
theorem dX5_both_31 : decode cX5_both 31 = .ok (.invokevirtual 190, 3) := by decide +kernel
theorem dX5_both_34 : decode cX5_both 34 = .ok (.ifCond .eq 16, 3) := by decide +kernel
theorem dX5_both_37 : decode cX5_both 37 = .ok (.aload_n 0, 1) := by decide +kernel
theorem dX5_both_38 : decode cX5_both 38 = .ok (.aload_n 0, 1) := by decide +kernel
theorem dX5_both_39 : decode cX5_both 39 = .ok (.iload_n 1, 1) := by decide +kernel
theorem dX5_both_40 : decode cX5_both 40 = .ok (.iload_n 2, 1) := by decide +kernel
theorem dX5_both_41 : decode cX5_both 41 = .ok (.invokevirtual 204, 3) := by decide +kernel
theorem dX5_both_44 : decode cX5_both 44 = .ok (.invokevirtual 208, 3) := by decide +kernel
theorem dX5_both_47 : decode cX5_both 47 = .ok (.goto 5, 3) := by decide +kernel
theorem dX5_both_50 : decode cX5_both 50 = .ok (.bipush (-2), 2) := by decide +kernel
theorem dX5_both_52 : decode cX5_both 52 = .ok (.ireturn, 1) := by decide +kernel
set_option maxRecDepth 20000 in
theorem ggX5_isAsked_X5_isIn : GoodIn wsX5_isAsked wsX5_isIn := goodIn_r _ [4] (by decide +kernel) (by decide +kernel)
set_option maxRecDepth 20000 in
theorem gX5_isAsked_X5_isIn : GoodIn wsX5_isAsked (va_wsS RX5 64 yX5_isIn wsX5_isIn) := goodIn_app (goodIn_of _ (by decide +kernel)) ggX5_isAsked_X5_isIn
theorem dX5_isAsked_0 : decode cX5_isAsked 0 = .ok (.iload_n 0, 1) := by decide +kernel
theorem dX5_isAsked_1 : decode cX5_isAsked 1 = .ok (.iconst 0, 1) := by decide +kernel
theorem dX5_isAsked_2 : decode cX5_isAsked 2 = .ok (.sipush 255, 3) := by decide +kernel
theorem dX5_isAsked_5 : decode cX5_isAsked 5 = .ok (.invokestatic 64, 3) := by decide +kernel
theorem dX5_isAsked_8 : decode cX5_isAsked 8 = .ok (.ifCond .eq 17, 3) := by decide +kernel
theorem dX5_isAsked_11 : decode cX5_isAsked 11 = .ok (.iload_n 1, 1) := by decide +kernel
theorem dX5_isAsked_12 : decode cX5_isAsked 12 = .ok (.iconst 0, 1) := by decide +kernel
theorem dX5_isAsked_13 : decode cX5_isAsked 13 = .ok (.bipush 15, 2) := by decide +kernel
theorem dX5_isAsked_15 : decode cX5_isAsked 15 = .ok (.invokestatic 64, 3) := by decide +kernel
theorem dX5_isAsked_18 : decode cX5_isAsked 18 = .ok (.ifCond .eq 7, 3) := by decide +kernel
theorem dX5_isAsked_21 : decode cX5_isAsked 21 = .ok (.iconst 1, 1) := by decide +kernel
theorem dX5_isAsked_22 : decode cX5_isAsked 22 = .ok (.goto 4, 3) := by decide +kernel
theorem dX5_isAsked_25 : decode cX5_isAsked 25 = .ok (.iconst 0, 1) := by decide +kernel
theorem dX5_isAsked_26 : decode cX5_isAsked 26 = .ok (.ireturn, 1) := by decide +kernel
set_option maxRecDepth 20000 in
theorem ggX5_outcome_X5_isAsked : GoodIn wsX5_outcome wsX5_isAsked := goodIn_r _ [4, 5, 6, 3, 7] (by decide +kernel) (by decide +kernel)
set_option maxRecDepth 20000 in
theorem gX5_outcome_X5_isAsked : GoodIn wsX5_outcome (va_wsS RX5 211 yX5_isAsked wsX5_isAsked) := goodIn_app (goodIn_of _ (by decide +kernel)) ggX5_outcome_X5_isAsked
set_option maxRecDepth 20000 in
theorem ggX5_outcome_X5_isWalked : GoodIn wsX5_outcome wsX5_isWalked := goodIn_r _ [11, 12, 13, 14, 15, 16, 3, 17, 18, 19, 20, 21, 22, 23, 24, 25, 26, 27, 28, 29, 30, 31, 32, 33, 34, 35, 36, 37, 38, 39, 40, 41, 42, 43, 44, 45, 46, 47, 48, 49, 50, 51, 52, 53, 54, 55, 56, 57, 58, 59, 60, 61, 62, 63, 64, 65, 66, 67, 68, 69, 70, 71, 72, 73, 74, 75, 76, 77, 78, 79, 80, 81, 82, 83, 84, 85, 104, 105, 106, 107, 108, 109, 110, 111, 112, 113, 114, 115, 116, 117, 118, 119, 120, 121, 122, 123, 124, 125, 126] (by decide +kernel) (by decide +kernel)
set_option maxRecDepth 20000 in
theorem gX5_outcome_X5_isWalked : GoodIn wsX5_outcome (wsV RX5 190 RX5 yX5_isWalked wsX5_isWalked) := goodIn_app (goodIn_of _ (by decide +kernel)) ggX5_outcome_X5_isWalked
set_option maxRecDepth 20000 in
theorem ggX5_outcome_X5_findEnd : GoodIn wsX5_outcome wsX5_findEnd := goodIn_r _ [89, 13, 32, 90, 91, 92, 3, 93, 18, 60, 61, 62, 57, 58, 59, 94, 95, 96, 97, 48, 49, 50, 51, 52, 36, 53, 54, 55, 56, 20, 19, 63, 64, 65, 33, 34, 35, 66, 67, 68, 69, 70, 71, 72, 73, 74, 75, 76, 77, 78, 79, 80, 81, 82, 83, 84, 85, 104, 105, 106, 107, 108, 109, 110, 111, 112, 113, 114, 115, 116, 117, 118, 119, 120, 121, 122, 123, 124, 125, 126] (by decide +kernel) (by decide +kernel)
set_option maxRecDepth 20000 in
theorem gX5_outcome_X5_findEnd : GoodIn wsX5_outcome (wsV RX5 215 RX5 yX5_findEnd wsX5_findEnd) := goodIn_app (goodIn_of _ (by decide +kernel)) ggX5_outcome_X5_findEnd
set_option maxRecDepth 20000 in
theorem ggX5_outcome_X5_keep : GoodIn wsX5_outcome wsX5_keep := goodIn_r _ [101, 43, 102, 103, 42, 41, 104, 105, 106, 107, 108, 109, 110, 111, 112, 113, 114, 115, 116, 117, 118, 119, 120, 121, 122, 123, 124, 125, 126] (by decide +kernel) (by decide +kernel)
set_option maxRecDepth 20000 in
theorem gX5_outcome_X5_keep : GoodIn wsX5_outcome (wsV RX5 208 RX5 yX5_keep wsX5_keep) := goodIn_app (goodIn_of _ (by decide +kernel)) ggX5_outcome_X5_keep
theorem dX5_outcome_0 : decode cX5_outcome 0 = .ok (.iload_n 1, 1) := by decide +kernel
theorem dX5_outcome_1 : decode cX5_outcome 1 = .ok (.iload_n 2, 1) := by decide +kernel
theorem dX5_outcome_2 : decode cX5_outcome 2 = .ok (.invokestatic 211, 3) := by decide +kernel
theorem dX5_outcome_5 : decode cX5_outcome 5 = .ok (.ifCond .ne 5, 3) := by decide +kernel
theorem dX5_outcome_8 : decode cX5_outcome 8 = .ok (.iconst (-1), 1) := by decide +kernel
theorem dX5_outcome_9 : decode cX5_outcome 9 = .ok (.ireturn, 1) := by decide +kernel
theorem dX5_outcome_10 : decode cX5_outcome 10 = .ok (.aload_n 0, 1) := by decide +kernel
theorem dX5_outcome_11 : decode cX5_outcome 11 = .ok (.invokevirtual 190, 3) := by decide +kernel
theorem dX5_outcome_14 : decode cX5_outcome 14 = .ok (.ifCond .eq 16, 3) := by decide +kernel
theorem dX5_outcome_17 : decode cX5_outcome 17 = .ok (.aload_n 0, 1) := by decide +kernel
theorem dX5_outcome_18 : decode cX5_outcome 18 = .ok (.aload_n 0, 1) := by decide +kernel
theorem dX5_outcome_19 : decode cX5_outcome 19 = .ok (.iload_n 1, 1) := by decide +kernel
theorem dX5_outcome_20 : decode cX5_outcome 20 = .ok (.iload_n 2, 1) := by decide +kernel
theorem dX5_outcome_21 : decode cX5_outcome 21 = .ok (.invokevirtual 215, 3) := by decide +kernel
theorem dX5_outcome_24 : decode cX5_outcome 24 = .ok (.invokevirtual 208, 3) := by decide +kernel
theorem dX5_outcome_27 : decode cX5_outcome 27 = .ok (.goto 5, 3) := by decide +kernel
theorem dX5_outcome_30 : decode cX5_outcome 30 = .ok (.bipush (-2), 2) := by decide +kernel
theorem dX5_outcome_32 : decode cX5_outcome 32 = .ok (.ireturn, 1) := by decide +kernel
set_option maxRecDepth 20000 in
theorem ggX5_step_X5_isIn : GoodIn wsX5_step wsX5_isIn := goodIn_r _ [6] (by decide +kernel) (by decide +kernel)
set_option maxRecDepth 20000 in
theorem gX5_step_X5_isIn : GoodIn wsX5_step (va_wsS RX5 64 yX5_isIn wsX5_isIn) := goodIn_app (goodIn_of _ (by decide +kernel)) ggX5_step_X5_isIn
theorem dX5_step_0 : decode cX5_step 0 = .ok (.iload_n 1, 1) := by decide +kernel
theorem dX5_step_1 : decode cX5_step 1 = .ok (.iconst 0, 1) := by decide +kernel
theorem dX5_step_2 : decode cX5_step 2 = .ok (.aload_n 0, 1) := by decide +kernel
theorem dX5_step_3 : decode cX5_step 3 = .ok (.getfield 201, 3) := by decide +kernel
theorem dX5_step_6 : decode cX5_step 6 = .ok (.iconst 1, 1) := by decide +kernel
theorem dX5_step_7 : decode cX5_step 7 = .ok (.isub, 1) := by decide +kernel
theorem dX5_step_8 : decode cX5_step 8 = .ok (.invokestatic 64, 3) := by decide +kernel
theorem dX5_step_11 : decode cX5_step 11 = .ok (.ifCond .eq 12, 3) := by decide +kernel
theorem dX5_step_14 : decode cX5_step 14 = .ok (.aload_n 0, 1) := by decide +kernel
theorem dX5_step_15 : decode cX5_step 15 = .ok (.getfield 54, 3) := by decide +kernel
theorem dX5_step_18 : decode cX5_step 18 = .ok (.iload_n 1, 1) := by decide +kernel
theorem dX5_step_19 : decode cX5_step 19 = .ok (.iaload, 1) := by decide +kernel
theorem dX5_step_20 : decode cX5_step 20 = .ok (.goto 4, 3) := by decide +kernel
theorem dX5_step_23 : decode cX5_step 23 = .ok (.iconst (-1), 1) := by decide +kernel
theorem dX5_step_24 : decode cX5_step 24 = .ok (.ireturn, 1) := by decide +kernel
theorem dX5_moved_0 : decode cX5_moved 0 = .ok (.iload_n 2, 1) := by decide +kernel
theorem dX5_moved_1 : decode cX5_moved 1 = .ok (.bipush 8, 2) := by decide +kernel
theorem dX5_moved_3 : decode cX5_moved 3 = .ok (.idiv, 1) := by decide +kernel
theorem dX5_moved_4 : decode cX5_moved 4 = .ok (.iload_n 1, 1) := by decide +kernel
theorem dX5_moved_5 : decode cX5_moved 5 = .ok (.if_icmp .ne 17, 3) := by decide +kernel
theorem dX5_moved_8 : decode cX5_moved 8 = .ok (.iload_n 0, 1) := by decide +kernel
theorem dX5_moved_9 : decode cX5_moved 9 = .ok (.iload_n 2, 1) := by decide +kernel
theorem dX5_moved_10 : decode cX5_moved 10 = .ok (.bipush 8, 2) := by decide +kernel
theorem dX5_moved_12 : decode cX5_moved 12 = .ok (.irem, 1) := by decide +kernel
theorem dX5_moved_13 : decode cX5_moved 13 = .ok (.if_icmp .lt 9, 3) := by decide +kernel
theorem dX5_moved_16 : decode cX5_moved 16 = .ok (.iload_n 0, 1) := by decide +kernel
theorem dX5_moved_17 : decode cX5_moved 17 = .ok (.iconst 1, 1) := by decide +kernel
theorem dX5_moved_18 : decode cX5_moved 18 = .ok (.iadd, 1) := by decide +kernel
theorem dX5_moved_19 : decode cX5_moved 19 = .ok (.goto 4, 3) := by decide +kernel
theorem dX5_moved_22 : decode cX5_moved 22 = .ok (.iload_n 0, 1) := by decide +kernel
theorem dX5_moved_23 : decode cX5_moved 23 = .ok (.ireturn, 1) := by decide +kernel
set_option maxRecDepth 20000 in
theorem ggX5_isBarred_X5_findEnd : GoodIn wsX5_isBarred wsX5_findEnd := goodIn_r _ [5, 6, 7, 8, 9, 10, 4, 11, 12, 13, 14, 15, 16, 17, 18, 19, 20, 21, 22, 23, 24, 25, 26, 27, 28, 29, 30, 31, 32, 33, 34, 35, 36, 37, 38, 39, 40, 41, 42, 43, 44, 45, 46, 47, 48, 49, 50, 51, 52, 53, 54, 55, 56, 57, 58, 59, 60, 68, 69, 70, 71, 72, 73, 74, 75, 76, 77, 78, 79, 80, 81, 82, 83, 84, 85, 86, 87, 88, 89, 90] (by decide +kernel) (by decide +kernel)
set_option maxRecDepth 20000 in
theorem gX5_isBarred_X5_findEnd : GoodIn wsX5_isBarred (wsV RX5 215 RX5 yX5_findEnd wsX5_findEnd) := goodIn_app (goodIn_of _ (by decide +kernel)) ggX5_isBarred_X5_findEnd
set_option maxRecDepth 20000 in
theorem ggX5_isBarred_X5_moved : GoodIn wsX5_isBarred wsX5_moved := goodIn_r _ [63] (by decide +kernel) (by decide +kernel)
set_option maxRecDepth 20000 in
theorem gX5_isBarred_X5_moved : GoodIn wsX5_isBarred (va_wsS RX5 218 yX5_moved wsX5_moved) := goodIn_app (goodIn_of _ (by decide +kernel)) ggX5_isBarred_X5_moved
set_option maxRecDepth 20000 in
theorem ggX5_isBarred_X5_findBoth : GoodIn wsX5_isBarred wsX5_findBoth := goodIn_r _ [67, 6, 7, 16, 17, 4, 18, 13, 14, 15, 68, 69, 70, 71, 72, 73, 74, 75, 76, 77, 78, 79, 80, 81, 82, 83, 84, 85, 86, 87, 88, 89, 90] (by decide +kernel) (by decide +kernel)
set_option maxRecDepth 20000 in
theorem gX5_isBarred_X5_findBoth : GoodIn wsX5_isBarred (wsV RX5 204 RX5 yX5_findBoth wsX5_findBoth) := goodIn_app (goodIn_of _ (by decide +kernel)) ggX5_isBarred_X5_findBoth
theorem dX5_isBarred_0 : decode cX5_isBarred 0 = .ok (.iload_n 2, 1) := by decide +kernel
theorem dX5_isBarred_1 : decode cX5_isBarred 1 = .ok (.ifCond .eq 13, 3) := by decide +kernel
theorem dX5_isBarred_4 : decode cX5_isBarred 4 = .ok (.aload_n 0, 1) := by decide +kernel
theorem dX5_isBarred_5 : decode cX5_isBarred 5 = .ok (.iload_n 3, 1) := by decide +kernel
theorem dX5_isBarred_6 : decode cX5_isBarred 6 = .ok (.iload 4, 2) := by decide +kernel
theorem dX5_isBarred_8 : decode cX5_isBarred 8 = .ok (.invokevirtual 215, 3) := by decide +kernel
theorem dX5_isBarred_11 : decode cX5_isBarred 11 = .ok (.goto 20, 3) := by decide +kernel
theorem dX5_isBarred_14 : decode cX5_isBarred 14 = .ok (.aload_n 0, 1) := by decide +kernel
theorem dX5_isBarred_15 : decode cX5_isBarred 15 = .ok (.iload_n 3, 1) := by decide +kernel
theorem dX5_isBarred_16 : decode cX5_isBarred 16 = .ok (.iconst 0, 1) := by decide +kernel
theorem dX5_isBarred_17 : decode cX5_isBarred 17 = .ok (.iload_n 1, 1) := by decide +kernel
theorem dX5_isBarred_18 : decode cX5_isBarred 18 = .ok (.invokestatic 218, 3) := by decide +kernel
theorem dX5_isBarred_21 : decode cX5_isBarred 21 = .ok (.iload 4, 2) := by decide +kernel
theorem dX5_isBarred_23 : decode cX5_isBarred 23 = .ok (.iconst 1, 1) := by decide +kernel
theorem dX5_isBarred_24 : decode cX5_isBarred 24 = .ok (.iload_n 1, 1) := by decide +kernel
theorem dX5_isBarred_25 : decode cX5_isBarred 25 = .ok (.invokestatic 218, 3) := by decide +kernel
theorem dX5_isBarred_28 : decode cX5_isBarred 28 = .ok (.invokevirtual 204, 3) := by decide +kernel
theorem dX5_isBarred_31 : decode cX5_isBarred 31 = .ok (.ifCond .ge 7, 3) := by decide +kernel
theorem dX5_isBarred_34 : decode cX5_isBarred 34 = .ok (.iconst 1, 1) := by decide +kernel
theorem dX5_isBarred_35 : decode cX5_isBarred 35 = .ok (.goto 4, 3) := by decide +kernel
theorem dX5_isBarred_38 : decode cX5_isBarred 38 = .ok (.iconst 0, 1) := by decide +kernel
theorem dX5_isBarred_39 : decode cX5_isBarred 39 = .ok (.ireturn, 1) := by decide +kernel
set_option maxRecDepth 20000 in
theorem ggX5_find_X5_lay : GoodIn wsX5_find wsX5_lay := goodIn_r _ [7, 1, 8, 9, 10, 11, 12, 6, 13, 98, 99, 100, 101, 102, 103, 104, 105, 106, 107, 108, 109, 110, 111, 112, 113, 114, 115, 116, 117, 118, 119, 120] (by decide +kernel) (by decide +kernel)
set_option maxRecDepth 20000 in
theorem gX5_find_X5_lay : GoodIn wsX5_find (wsV RX5 184 RX5 yX5_lay wsX5_lay) := goodIn_app (goodIn_of _ (by decide +kernel)) ggX5_find_X5_lay
set_option maxRecDepth 20000 in
theorem ggX5_find_X5_walkOn : GoodIn wsX5_find wsX5_walkOn := goodIn_r _ [17, 18, 19, 2, 20, 21, 22, 23, 6, 24, 25, 26, 27, 28, 29, 30, 31, 32, 33, 34, 35, 36, 37, 38, 39, 40, 41, 42, 43, 44, 45, 1, 9, 8, 46, 47, 48, 49, 50, 51, 52, 53, 54, 55, 56, 57, 58, 59, 60, 61, 62, 63, 64, 65, 66, 67, 68, 69, 70, 71, 72, 73, 74, 98, 99, 100, 101, 102, 103, 104, 105, 106, 107, 108, 109, 110, 111, 112, 113, 114, 115, 116, 117, 118, 119, 120] (by decide +kernel) (by decide +kernel)
set_option maxRecDepth 20000 in
theorem gX5_find_X5_walkOn : GoodIn wsX5_find (wsV RX5 187 RX5 yX5_walkOn wsX5_walkOn) := goodIn_app (goodIn_of _ (by decide +kernel)) ggX5_find_X5_walkOn
set_option maxRecDepth 20000 in
theorem ggX5_find_X5_isBarred : GoodIn wsX5_find wsX5_isBarred := goodIn_r _ [78, 79, 80, 81, 6, 82, 2, 21, 83, 84, 85, 86, 1, 49, 50, 51, 46, 47, 48, 87, 88, 89, 90, 37, 38, 39, 40, 41, 25, 42, 43, 44, 45, 9, 8, 52, 53, 54, 22, 23, 24, 55, 56, 57, 58, 59, 60, 61, 62, 63, 64, 65, 66, 67, 68, 69, 70, 71, 72, 73, 74, 91, 92, 93, 94, 95, 96, 97, 98, 99, 100, 101, 102, 103, 104, 105, 106, 107, 108, 109, 110, 111, 112, 113, 114, 115, 116, 117, 118, 119, 120] (by decide +kernel) (by decide +kernel)
set_option maxRecDepth 20000 in
theorem gX5_find_X5_isBarred : GoodIn wsX5_find (wsV RX5 222 RX5 yX5_isBarred wsX5_isBarred) := goodIn_app (goodIn_of _ (by decide +kernel)) ggX5_find_X5_isBarred
theorem dX5_find_0 : decode cX5_find 0 = .ok (.iconst 0, 1) := by decide +kernel
theorem dX5_find_1 : decode cX5_find 1 = .ok (.istore 4, 2) := by decide +kernel
theorem dX5_find_3 : decode cX5_find 3 = .ok (.iload 4, 2) := by decide +kernel
theorem dX5_find_5 : decode cX5_find 5 = .ok (.bipush 16, 2) := by decide +kernel
theorem dX5_find_7 : decode cX5_find 7 = .ok (.if_icmp .ge 84, 3) := by decide +kernel
theorem dX5_find_10 : decode cX5_find 10 = .ok (.iload 4, 2) := by decide +kernel
theorem dX5_find_12 : decode cX5_find 12 = .ok (.bipush 8, 2) := by decide +kernel
theorem dX5_find_14 : decode cX5_find 14 = .ok (.idiv, 1) := by decide +kernel
theorem dX5_find_15 : decode cX5_find 15 = .ok (.istore 5, 2) := by decide +kernel
theorem dX5_find_17 : decode cX5_find 17 = .ok (.aload_n 0, 1) := by decide +kernel
theorem dX5_find_18 : decode cX5_find 18 = .ok (.getfield 7, 3) := by decide +kernel
theorem dX5_find_21 : decode cX5_find 21 = .ok (.iload 5, 2) := by decide +kernel
theorem dX5_find_23 : decode cX5_find 23 = .ok (.iaload, 1) := by decide +kernel
theorem dX5_find_24 : decode cX5_find 24 = .ok (.bipush 7, 2) := by decide +kernel
theorem dX5_find_26 : decode cX5_find 26 = .ok (.if_icmp .eq 59, 3) := by decide +kernel
theorem dX5_find_29 : decode cX5_find 29 = .ok (.iload 4, 2) := by decide +kernel
theorem dX5_find_31 : decode cX5_find 31 = .ok (.bipush 8, 2) := by decide +kernel
theorem dX5_find_33 : decode cX5_find 33 = .ok (.irem, 1) := by decide +kernel
theorem dX5_find_34 : decode cX5_find 34 = .ok (.aload_n 0, 1) := by decide +kernel
theorem dX5_find_35 : decode cX5_find 35 = .ok (.getfield 7, 3) := by decide +kernel
theorem dX5_find_38 : decode cX5_find 38 = .ok (.iload 5, 2) := by decide +kernel
theorem dX5_find_40 : decode cX5_find 40 = .ok (.iaload, 1) := by decide +kernel
theorem dX5_find_41 : decode cX5_find 41 = .ok (.if_icmp .lt 6, 3) := by decide +kernel
theorem dX5_find_44 : decode cX5_find 44 = .ok (.goto 41, 3) := by decide +kernel
theorem dX5_find_47 : decode cX5_find 47 = .ok (.aload_n 0, 1) := by decide +kernel
theorem dX5_find_48 : decode cX5_find 48 = .ok (.iload 4, 2) := by decide +kernel
theorem dX5_find_50 : decode cX5_find 50 = .ok (.invokevirtual 184, 3) := by decide +kernel
theorem dX5_find_53 : decode cX5_find 53 = .ok (.aload_n 0, 1) := by decide +kernel
theorem dX5_find_54 : decode cX5_find 54 = .ok (.invokevirtual 187, 3) := by decide +kernel
theorem dX5_find_57 : decode cX5_find 57 = .ok (.aload_n 0, 1) := by decide +kernel
theorem dX5_find_58 : decode cX5_find 58 = .ok (.getfield 174, 3) := by decide +kernel
theorem dX5_find_61 : decode cX5_find 61 = .ok (.sipush 12000, 3) := by decide +kernel
theorem dX5_find_64 : decode cX5_find 64 = .ok (.if_icmp .le 6, 3) := by decide +kernel
theorem dX5_find_67 : decode cX5_find 67 = .ok (.bipush (-2), 2) := by decide +kernel
theorem dX5_find_69 : decode cX5_find 69 = .ok (.ireturn, 1) := by decide +kernel
theorem dX5_find_70 : decode cX5_find 70 = .ok (.aload_n 0, 1) := by decide +kernel
theorem dX5_find_71 : decode cX5_find 71 = .ok (.iload 4, 2) := by decide +kernel
theorem dX5_find_73 : decode cX5_find 73 = .ok (.iload_n 1, 1) := by decide +kernel
theorem dX5_find_74 : decode cX5_find 74 = .ok (.iload_n 2, 1) := by decide +kernel
theorem dX5_find_75 : decode cX5_find 75 = .ok (.iload_n 3, 1) := by decide +kernel
theorem dX5_find_76 : decode cX5_find 76 = .ok (.invokevirtual 222, 3) := by decide +kernel
theorem dX5_find_79 : decode cX5_find 79 = .ok (.ifCond .eq 6, 3) := by decide +kernel
theorem dX5_find_82 : decode cX5_find 82 = .ok (.iload 4, 2) := by decide +kernel
theorem dX5_find_84 : decode cX5_find 84 = .ok (.ireturn, 1) := by decide +kernel
theorem dX5_find_85 : decode cX5_find 85 = .ok (.iinc 4 1, 3) := by decide +kernel
theorem dX5_find_88 : decode cX5_find 88 = .ok (.goto (-85), 3) := by decide +kernel
theorem dX5_find_91 : decode cX5_find 91 = .ok (.iconst (-1), 1) := by decide +kernel
theorem dX5_find_92 : decode cX5_find 92 = .ok (.ireturn, 1) := by decide +kernel
set_option maxRecDepth 20000 in
theorem ggX5_missing_X5_isAsked : GoodIn wsX5_missing wsX5_isAsked := goodIn_r _ [6, 7, 8, 5, 9] (by decide +kernel) (by decide +kernel)
set_option maxRecDepth 20000 in
theorem gX5_missing_X5_isAsked : GoodIn wsX5_missing (va_wsS RX5 211 yX5_isAsked wsX5_isAsked) := goodIn_app (goodIn_of _ (by decide +kernel)) ggX5_missing_X5_isAsked
set_option maxRecDepth 20000 in
theorem ggX5_missing_X5_isIn : GoodIn wsX5_missing wsX5_isIn := goodIn_r _ [9] (by decide +kernel) (by decide +kernel)
set_option maxRecDepth 20000 in
theorem gX5_missing_X5_isIn : GoodIn wsX5_missing (va_wsS RX5 64 yX5_isIn wsX5_isIn) := goodIn_app (goodIn_of _ (by decide +kernel)) ggX5_missing_X5_isIn
set_option maxRecDepth 20000 in
theorem ggX5_missing_X5_isWalked : GoodIn wsX5_missing wsX5_isWalked := goodIn_r _ [13, 2, 14, 15, 16, 17, 5, 18, 1, 19, 20, 21, 22, 23, 24, 25, 26, 27, 28, 29, 30, 31, 32, 33, 34, 35, 36, 37, 38, 39, 40, 41, 42, 43, 44, 45, 46, 47, 48, 49, 50, 51, 52, 53, 54, 55, 56, 57, 58, 59, 60, 61, 62, 63, 64, 65, 66, 67, 68, 69, 70, 71, 72, 73, 74, 75, 76, 77, 78, 79, 80, 81, 82, 83, 84, 85, 113, 114, 115, 116, 117, 118, 119, 120, 121, 122, 123, 124, 125, 126, 127, 128, 129, 130, 131, 132, 133, 134, 135] (by decide +kernel) (by decide +kernel)
set_option maxRecDepth 20000 in
theorem gX5_missing_X5_isWalked : GoodIn wsX5_missing (wsV RX5 190 RX5 yX5_isWalked wsX5_isWalked) := goodIn_app (goodIn_of _ (by decide +kernel)) ggX5_missing_X5_isWalked
set_option maxRecDepth 20000 in
theorem ggX5_missing_X5_findEnd : GoodIn wsX5_missing wsX5_findEnd := goodIn_r _ [89, 14, 32, 90, 91, 92, 5, 93, 1, 60, 61, 62, 57, 58, 59, 94, 95, 96, 97, 48, 49, 50, 51, 52, 36, 53, 54, 55, 56, 20, 19, 63, 64, 65, 33, 34, 35, 66, 67, 68, 69, 70, 71, 72, 73, 74, 75, 76, 77, 78, 79, 80, 81, 82, 83, 84, 85, 113, 114, 115, 116, 117, 118, 119, 120, 121, 122, 123, 124, 125, 126, 127, 128, 129, 130, 131, 132, 133, 134, 135] (by decide +kernel) (by decide +kernel)
set_option maxRecDepth 20000 in
theorem gX5_missing_X5_findEnd : GoodIn wsX5_missing (wsV RX5 215 RX5 yX5_findEnd wsX5_findEnd) := goodIn_app (goodIn_of _ (by decide +kernel)) ggX5_missing_X5_findEnd
set_option maxRecDepth 20000 in
theorem ggX5_missing_X5_findBoth : GoodIn wsX5_missing wsX5_findBoth := goodIn_r _ [101, 14, 32, 57, 58, 5, 59, 60, 61, 62, 113, 114, 115, 116, 117, 118, 119, 120, 121, 122, 123, 124, 125, 126, 127, 128, 129, 130, 131, 132, 133, 134, 135] (by decide +kernel) (by decide +kernel)
set_option maxRecDepth 20000 in
theorem gX5_missing_X5_findBoth : GoodIn wsX5_missing (wsV RX5 204 RX5 yX5_findBoth wsX5_findBoth) := goodIn_app (goodIn_of _ (by decide +kernel)) ggX5_missing_X5_findBoth
set_option maxRecDepth 20000 in
theorem ggX5_missing_X5_find : GoodIn wsX5_missing wsX5_find := goodIn_r _ [105, 1, 14, 15, 16, 17, 5, 18, 19, 20, 21, 22, 23, 24, 25, 26, 27, 28, 29, 30, 31, 32, 33, 34, 35, 36, 37, 38, 39, 40, 41, 42, 43, 44, 45, 46, 47, 48, 49, 50, 51, 52, 53, 54, 55, 56, 57, 58, 59, 60, 61, 62, 63, 64, 65, 66, 67, 68, 69, 70, 71, 72, 73, 74, 75, 76, 77, 78, 79, 80, 81, 82, 83, 84, 85, 106, 107, 108, 109, 86, 87, 88, 89, 90, 91, 92, 93, 94, 95, 96, 97, 110, 111, 112, 98, 99, 100, 101, 113, 114, 115, 116, 117, 118, 119, 120, 121, 122, 123, 124, 125, 126, 127, 128, 129, 130, 131, 132, 133, 134, 135] (by decide +kernel) (by decide +kernel)
set_option maxRecDepth 20000 in
theorem gX5_missing_X5_find : GoodIn wsX5_missing (wsV RX5 226 RX5 yX5_find wsX5_find) := goodIn_app (goodIn_of _ (by decide +kernel)) ggX5_missing_X5_find
theorem dX5_missing_0 : decode cX5_missing 0 = .ok (.iload_n 1, 1) := by decide +kernel
theorem dX5_missing_1 : decode cX5_missing 1 = .ok (.ifCond .eq 14, 3) := by decide +kernel
theorem dX5_missing_4 : decode cX5_missing 4 = .ok (.iload_n 2, 1) := by decide +kernel
theorem dX5_missing_5 : decode cX5_missing 5 = .ok (.iload_n 3, 1) := by decide +kernel
theorem dX5_missing_6 : decode cX5_missing 6 = .ok (.invokestatic 211, 3) := by decide +kernel
theorem dX5_missing_9 : decode cX5_missing 9 = .ok (.ifCond .ne 36, 3) := by decide +kernel
theorem dX5_missing_12 : decode cX5_missing 12 = .ok (.goto 31, 3) := by decide +kernel
theorem dX5_missing_15 : decode cX5_missing 15 = .ok (.iload_n 2, 1) := by decide +kernel
theorem dX5_missing_16 : decode cX5_missing 16 = .ok (.iconst 0, 1) := by decide +kernel
theorem dX5_missing_17 : decode cX5_missing 17 = .ok (.aload_n 0, 1) := by decide +kernel
theorem dX5_missing_18 : decode cX5_missing 18 = .ok (.getfield 7, 3) := by decide +kernel
theorem dX5_missing_21 : decode cX5_missing 21 = .ok (.iconst 0, 1) := by decide +kernel
theorem dX5_missing_22 : decode cX5_missing 22 = .ok (.iaload, 1) := by decide +kernel
theorem dX5_missing_23 : decode cX5_missing 23 = .ok (.invokestatic 64, 3) := by decide +kernel
theorem dX5_missing_26 : decode cX5_missing 26 = .ok (.ifCond .eq 17, 3) := by decide +kernel
theorem dX5_missing_29 : decode cX5_missing 29 = .ok (.iload_n 3, 1) := by decide +kernel
theorem dX5_missing_30 : decode cX5_missing 30 = .ok (.iconst 0, 1) := by decide +kernel
theorem dX5_missing_31 : decode cX5_missing 31 = .ok (.aload_n 0, 1) := by decide +kernel
theorem dX5_missing_32 : decode cX5_missing 32 = .ok (.getfield 7, 3) := by decide +kernel
theorem dX5_missing_35 : decode cX5_missing 35 = .ok (.iconst 1, 1) := by decide +kernel
theorem dX5_missing_36 : decode cX5_missing 36 = .ok (.iaload, 1) := by decide +kernel
theorem dX5_missing_37 : decode cX5_missing 37 = .ok (.invokestatic 64, 3) := by decide +kernel
theorem dX5_missing_40 : decode cX5_missing 40 = .ok (.ifCond .ne 5, 3) := by decide +kernel
theorem dX5_missing_43 : decode cX5_missing 43 = .ok (.iconst (-1), 1) := by decide +kernel
theorem dX5_missing_44 : decode cX5_missing 44 = .ok (.ireturn, 1) := by decide +kernel
theorem dX5_missing_45 : decode cX5_missing 45 = .ok (.aload_n 0, 1) := by decide +kernel
theorem dX5_missing_46 : decode cX5_missing 46 = .ok (.invokevirtual 190, 3) := by decide +kernel
theorem dX5_missing_49 : decode cX5_missing 49 = .ok (.ifCond .ne 6, 3) := by decide +kernel
theorem dX5_missing_52 : decode cX5_missing 52 = .ok (.bipush (-2), 2) := by decide +kernel
theorem dX5_missing_54 : decode cX5_missing 54 = .ok (.ireturn, 1) := by decide +kernel
theorem dX5_missing_55 : decode cX5_missing 55 = .ok (.iload_n 1, 1) := by decide +kernel
theorem dX5_missing_56 : decode cX5_missing 56 = .ok (.ifCond .eq 12, 3) := by decide +kernel
theorem dX5_missing_59 : decode cX5_missing 59 = .ok (.aload_n 0, 1) := by decide +kernel
theorem dX5_missing_60 : decode cX5_missing 60 = .ok (.iload_n 2, 1) := by decide +kernel
theorem dX5_missing_61 : decode cX5_missing 61 = .ok (.iload_n 3, 1) := by decide +kernel
theorem dX5_missing_62 : decode cX5_missing 62 = .ok (.invokevirtual 215, 3) := by decide +kernel
theorem dX5_missing_65 : decode cX5_missing 65 = .ok (.goto 9, 3) := by decide +kernel
theorem dX5_missing_68 : decode cX5_missing 68 = .ok (.aload_n 0, 1) := by decide +kernel
theorem dX5_missing_69 : decode cX5_missing 69 = .ok (.iload_n 2, 1) := by decide +kernel
theorem dX5_missing_70 : decode cX5_missing 70 = .ok (.iload_n 3, 1) := by decide +kernel
theorem dX5_missing_71 : decode cX5_missing 71 = .ok (.invokevirtual 204, 3) := by decide +kernel
theorem dX5_missing_74 : decode cX5_missing 74 = .ok (.ifCond .ge 5, 3) := by decide +kernel
theorem dX5_missing_77 : decode cX5_missing 77 = .ok (.iconst (-1), 1) := by decide +kernel
theorem dX5_missing_78 : decode cX5_missing 78 = .ok (.ireturn, 1) := by decide +kernel
theorem dX5_missing_79 : decode cX5_missing 79 = .ok (.aload_n 0, 1) := by decide +kernel
theorem dX5_missing_80 : decode cX5_missing 80 = .ok (.iload_n 1, 1) := by decide +kernel
theorem dX5_missing_81 : decode cX5_missing 81 = .ok (.iload_n 2, 1) := by decide +kernel
theorem dX5_missing_82 : decode cX5_missing 82 = .ok (.iload_n 3, 1) := by decide +kernel
theorem dX5_missing_83 : decode cX5_missing 83 = .ok (.invokevirtual 226, 3) := by decide +kernel
theorem dX5_missing_86 : decode cX5_missing 86 = .ok (.istore 4, 2) := by decide +kernel
theorem dX5_missing_88 : decode cX5_missing 88 = .ok (.aload_n 0, 1) := by decide +kernel
theorem dX5_missing_89 : decode cX5_missing 89 = .ok (.iconst 0, 1) := by decide +kernel
theorem dX5_missing_90 : decode cX5_missing 90 = .ok (.putfield 125, 3) := by decide +kernel
theorem dX5_missing_93 : decode cX5_missing 93 = .ok (.iload 4, 2) := by decide +kernel
theorem dX5_missing_95 : decode cX5_missing 95 = .ok (.ireturn, 1) := by decide +kernel
set_option maxRecDepth 20000 in
theorem ggX5_statement_X5_isIn : GoodIn wsX5_statement wsX5_isIn := goodIn_r _ [7] (by decide +kernel) (by decide +kernel)
set_option maxRecDepth 20000 in
theorem gX5_statement_X5_isIn : GoodIn wsX5_statement (va_wsS RX5 64 yX5_isIn wsX5_isIn) := goodIn_app (goodIn_of _ (by decide +kernel)) ggX5_statement_X5_isIn
set_option maxRecDepth 20000 in
theorem ggX5_statement_X5_numbersOf : GoodIn wsX5_statement wsX5_numbersOf := goodIn_r _ [10] (by decide +kernel) (by decide +kernel)
set_option maxRecDepth 20000 in
theorem gX5_statement_X5_numbersOf : GoodIn wsX5_statement (va_wsS RX5 112 yX5_numbersOf wsX5_numbersOf) := goodIn_app (goodIn_of _ (by decide +kernel)) ggX5_statement_X5_numbersOf
theorem dX5_statement_0 : decode cX5_statement 0 = .ok (.iload_n 1, 1) := by decide +kernel
theorem dX5_statement_1 : decode cX5_statement 1 = .ok (.iconst 0, 1) := by decide +kernel
theorem dX5_statement_2 : decode cX5_statement 2 = .ok (.iconst 1, 1) := by decide +kernel
theorem dX5_statement_3 : decode cX5_statement 3 = .ok (.invokestatic 64, 3) := by decide +kernel
theorem dX5_statement_6 : decode cX5_statement 6 = .ok (.ifCond .eq 19, 3) := by decide +kernel
theorem dX5_statement_9 : decode cX5_statement 9 = .ok (.iload_n 2, 1) := by decide +kernel
theorem dX5_statement_10 : decode cX5_statement 10 = .ok (.iconst 0, 1) := by decide +kernel
theorem dX5_statement_11 : decode cX5_statement 11 = .ok (.aload_n 0, 1) := by decide +kernel
theorem dX5_statement_12 : decode cX5_statement 12 = .ok (.getfield 7, 3) := by decide +kernel
theorem dX5_statement_15 : decode cX5_statement 15 = .ok (.iload_n 1, 1) := by decide +kernel
theorem dX5_statement_16 : decode cX5_statement 16 = .ok (.iaload, 1) := by decide +kernel
theorem dX5_statement_17 : decode cX5_statement 17 = .ok (.iconst 1, 1) := by decide +kernel
theorem dX5_statement_18 : decode cX5_statement 18 = .ok (.isub, 1) := by decide +kernel
theorem dX5_statement_19 : decode cX5_statement 19 = .ok (.invokestatic 64, 3) := by decide +kernel
theorem dX5_statement_22 : decode cX5_statement 22 = .ok (.ifCond .ne 5, 3) := by decide +kernel
theorem dX5_statement_25 : decode cX5_statement 25 = .ok (.iconst (-1), 1) := by decide +kernel
theorem dX5_statement_26 : decode cX5_statement 26 = .ok (.ireturn, 1) := by decide +kernel
theorem dX5_statement_27 : decode cX5_statement 27 = .ok (.bipush 8, 2) := by decide +kernel
theorem dX5_statement_29 : decode cX5_statement 29 = .ok (.iload_n 1, 1) := by decide +kernel
theorem dX5_statement_30 : decode cX5_statement 30 = .ok (.imul, 1) := by decide +kernel
theorem dX5_statement_31 : decode cX5_statement 31 = .ok (.iload_n 2, 1) := by decide +kernel
theorem dX5_statement_32 : decode cX5_statement 32 = .ok (.iadd, 1) := by decide +kernel
theorem dX5_statement_33 : decode cX5_statement 33 = .ok (.istore 4, 2) := by decide +kernel
theorem dX5_statement_35 : decode cX5_statement 35 = .ok (.iload_n 3, 1) := by decide +kernel
theorem dX5_statement_36 : decode cX5_statement 36 = .ok (.ifCond .ne 13, 3) := by decide +kernel
theorem dX5_statement_39 : decode cX5_statement 39 = .ok (.aload_n 0, 1) := by decide +kernel
theorem dX5_statement_40 : decode cX5_statement 40 = .ok (.getfield 13, 3) := by decide +kernel
theorem dX5_statement_43 : decode cX5_statement 43 = .ok (.iload 4, 2) := by decide +kernel
theorem dX5_statement_45 : decode cX5_statement 45 = .ok (.iaload, 1) := by decide +kernel
theorem dX5_statement_46 : decode cX5_statement 46 = .ok (.goto 38, 3) := by decide +kernel
theorem dX5_statement_49 : decode cX5_statement 49 = .ok (.iload_n 3, 1) := by decide +kernel
theorem dX5_statement_50 : decode cX5_statement 50 = .ok (.iconst 1, 1) := by decide +kernel
theorem dX5_statement_51 : decode cX5_statement 51 = .ok (.aload_n 0, 1) := by decide +kernel
theorem dX5_statement_52 : decode cX5_statement 52 = .ok (.getfield 13, 3) := by decide +kernel
theorem dX5_statement_55 : decode cX5_statement 55 = .ok (.iload 4, 2) := by decide +kernel
theorem dX5_statement_57 : decode cX5_statement 57 = .ok (.iaload, 1) := by decide +kernel
theorem dX5_statement_58 : decode cX5_statement 58 = .ok (.invokestatic 112, 3) := by decide +kernel
theorem dX5_statement_61 : decode cX5_statement 61 = .ok (.invokestatic 64, 3) := by decide +kernel
theorem dX5_statement_64 : decode cX5_statement 64 = .ok (.ifCond .eq 19, 3) := by decide +kernel
theorem dX5_statement_67 : decode cX5_statement 67 = .ok (.aload_n 0, 1) := by decide +kernel
theorem dX5_statement_68 : decode cX5_statement 68 = .ok (.getfield 16, 3) := by decide +kernel
theorem dX5_statement_71 : decode cX5_statement 71 = .ok (.iconst 4, 1) := by decide +kernel
theorem dX5_statement_72 : decode cX5_statement 72 = .ok (.iload 4, 2) := by decide +kernel
theorem dX5_statement_74 : decode cX5_statement 74 = .ok (.imul, 1) := by decide +kernel
theorem dX5_statement_75 : decode cX5_statement 75 = .ok (.iload_n 3, 1) := by decide +kernel
theorem dX5_statement_76 : decode cX5_statement 76 = .ok (.iadd, 1) := by decide +kernel
theorem dX5_statement_77 : decode cX5_statement 77 = .ok (.iconst 1, 1) := by decide +kernel
theorem dX5_statement_78 : decode cX5_statement 78 = .ok (.isub, 1) := by decide +kernel
theorem dX5_statement_79 : decode cX5_statement 79 = .ok (.iaload, 1) := by decide +kernel
theorem dX5_statement_80 : decode cX5_statement 80 = .ok (.goto 4, 3) := by decide +kernel
theorem dX5_statement_83 : decode cX5_statement 83 = .ok (.iconst (-1), 1) := by decide +kernel
theorem dX5_statement_84 : decode cX5_statement 84 = .ok (.ireturn, 1) := by decide +kernel
set_option maxRecDepth 20000 in
theorem ggX5_about_X5_isIn : GoodIn wsX5_about wsX5_isIn := goodIn_r _ [9] (by decide +kernel) (by decide +kernel)
set_option maxRecDepth 20000 in
theorem gX5_about_X5_isIn : GoodIn wsX5_about (va_wsS RX5 64 yX5_isIn wsX5_isIn) := goodIn_app (goodIn_of _ (by decide +kernel)) ggX5_about_X5_isIn
theorem dX5_about_0 : decode cX5_about 0 = .ok (.iload_n 1, 1) := by decide +kernel
theorem dX5_about_1 : decode cX5_about 1 = .ok (.bipush 10, 2) := by decide +kernel
theorem dX5_about_3 : decode cX5_about 3 = .ok (.bipush 13, 2) := by decide +kernel
theorem dX5_about_5 : decode cX5_about 5 = .ok (.invokestatic 64, 3) := by decide +kernel
theorem dX5_about_8 : decode cX5_about 8 = .ok (.ifCond .eq 13, 3) := by decide +kernel
theorem dX5_about_11 : decode cX5_about 11 = .ok (.aload_n 0, 1) := by decide +kernel
theorem dX5_about_12 : decode cX5_about 12 = .ok (.getfield 19, 3) := by decide +kernel
theorem dX5_about_15 : decode cX5_about 15 = .ok (.iload_n 1, 1) := by decide +kernel
theorem dX5_about_16 : decode cX5_about 16 = .ok (.bipush 10, 2) := by decide +kernel
theorem dX5_about_18 : decode cX5_about 18 = .ok (.isub, 1) := by decide +kernel
theorem dX5_about_19 : decode cX5_about 19 = .ok (.iaload, 1) := by decide +kernel
theorem dX5_about_20 : decode cX5_about 20 = .ok (.ireturn, 1) := by decide +kernel
theorem dX5_about_21 : decode cX5_about 21 = .ok (.iload_n 1, 1) := by decide +kernel
theorem dX5_about_22 : decode cX5_about 22 = .ok (.bipush 20, 2) := by decide +kernel
theorem dX5_about_24 : decode cX5_about 24 = .ok (.bipush 23, 2) := by decide +kernel
theorem dX5_about_26 : decode cX5_about 26 = .ok (.invokestatic 64, 3) := by decide +kernel
theorem dX5_about_29 : decode cX5_about 29 = .ok (.ifCond .eq 13, 3) := by decide +kernel
theorem dX5_about_32 : decode cX5_about 32 = .ok (.aload_n 0, 1) := by decide +kernel
theorem dX5_about_33 : decode cX5_about 33 = .ok (.getfield 22, 3) := by decide +kernel
theorem dX5_about_36 : decode cX5_about 36 = .ok (.iload_n 1, 1) := by decide +kernel
theorem dX5_about_37 : decode cX5_about 37 = .ok (.bipush 20, 2) := by decide +kernel
theorem dX5_about_39 : decode cX5_about 39 = .ok (.isub, 1) := by decide +kernel
theorem dX5_about_40 : decode cX5_about 40 = .ok (.iaload, 1) := by decide +kernel
theorem dX5_about_41 : decode cX5_about 41 = .ok (.ireturn, 1) := by decide +kernel
theorem dX5_about_42 : decode cX5_about 42 = .ok (.iload_n 1, 1) := by decide +kernel
theorem dX5_about_43 : decode cX5_about 43 = .ok (.iconst 0, 1) := by decide +kernel
theorem dX5_about_44 : decode cX5_about 44 = .ok (.iconst 1, 1) := by decide +kernel
theorem dX5_about_45 : decode cX5_about 45 = .ok (.invokestatic 64, 3) := by decide +kernel
theorem dX5_about_48 : decode cX5_about 48 = .ok (.ifCond .eq 12, 3) := by decide +kernel
theorem dX5_about_51 : decode cX5_about 51 = .ok (.aload_n 0, 1) := by decide +kernel
theorem dX5_about_52 : decode cX5_about 52 = .ok (.getfield 7, 3) := by decide +kernel
theorem dX5_about_55 : decode cX5_about 55 = .ok (.iload_n 1, 1) := by decide +kernel
theorem dX5_about_56 : decode cX5_about 56 = .ok (.iaload, 1) := by decide +kernel
theorem dX5_about_57 : decode cX5_about 57 = .ok (.goto 36, 3) := by decide +kernel
theorem dX5_about_60 : decode cX5_about 60 = .ok (.iload_n 1, 1) := by decide +kernel
theorem dX5_about_61 : decode cX5_about 61 = .ok (.iconst 2, 1) := by decide +kernel
theorem dX5_about_62 : decode cX5_about 62 = .ok (.if_icmp .ne 10, 3) := by decide +kernel
theorem dX5_about_65 : decode cX5_about 65 = .ok (.aload_n 0, 1) := by decide +kernel
theorem dX5_about_66 : decode cX5_about 66 = .ok (.getfield 57, 3) := by decide +kernel
theorem dX5_about_69 : decode cX5_about 69 = .ok (.goto 24, 3) := by decide +kernel
theorem dX5_about_72 : decode cX5_about 72 = .ok (.iload_n 1, 1) := by decide +kernel
theorem dX5_about_73 : decode cX5_about 73 = .ok (.iconst 3, 1) := by decide +kernel
theorem dX5_about_74 : decode cX5_about 74 = .ok (.if_icmp .ne 18, 3) := by decide +kernel
theorem dX5_about_77 : decode cX5_about 77 = .ok (.aload_n 0, 1) := by decide +kernel
theorem dX5_about_78 : decode cX5_about 78 = .ok (.getfield 129, 3) := by decide +kernel
theorem dX5_about_81 : decode cX5_about 81 = .ok (.ifCond .eq 7, 3) := by decide +kernel
theorem dX5_about_84 : decode cX5_about 84 = .ok (.iconst 1, 1) := by decide +kernel
theorem dX5_about_85 : decode cX5_about 85 = .ok (.goto 8, 3) := by decide +kernel
theorem dX5_about_88 : decode cX5_about 88 = .ok (.iconst 0, 1) := by decide +kernel
theorem dX5_about_89 : decode cX5_about 89 = .ok (.goto 4, 3) := by decide +kernel
theorem dX5_about_92 : decode cX5_about 92 = .ok (.iconst (-1), 1) := by decide +kernel
theorem dX5_about_93 : decode cX5_about 93 = .ok (.ireturn, 1) := by decide +kernel
theorem dJ9_min_7cf53_0 : decode cJ9_min_7cf53 0 = .ok (.iload_n 0, 1) := by decide +kernel
theorem dJ9_min_7cf53_1 : decode cJ9_min_7cf53 1 = .ok (.iload_n 1, 1) := by decide +kernel
theorem dJ9_min_7cf53_2 : decode cJ9_min_7cf53 2 = .ok (.if_icmp .gt 7, 3) := by decide +kernel
theorem dJ9_min_7cf53_5 : decode cJ9_min_7cf53 5 = .ok (.iload_n 0, 1) := by decide +kernel
theorem dJ9_min_7cf53_6 : decode cJ9_min_7cf53 6 = .ok (.goto 4, 3) := by decide +kernel
theorem dJ9_min_7cf53_9 : decode cJ9_min_7cf53 9 = .ok (.iload_n 1, 1) := by decide +kernel
theorem dJ9_min_7cf53_10 : decode cJ9_min_7cf53 10 = .ok (.ireturn, 1) := by decide +kernel
set_option maxRecDepth 20000 in
theorem ggJ0_length_8abf5_J0_coder_7d493 : GoodIn wsJ0_length_8abf5 wsJ0_coder_7d493 := goodIn_r _ [6, 7, 8] (by decide +kernel) (by decide +kernel)
set_option maxRecDepth 20000 in
theorem gJ0_length_8abf5_J0_coder_7d493 : GoodIn wsJ0_length_8abf5 (wsV RJ0 335 RJ0 yJ0_coder_7d493 wsJ0_coder_7d493) := goodIn_app (goodIn_of _ (by decide +kernel)) ggJ0_length_8abf5_J0_coder_7d493
theorem dJ0_length_8abf5_0 : decode cJ0_length_8abf5 0 = .ok (.aload_n 0, 1) := by decide +kernel
theorem dJ0_length_8abf5_1 : decode cJ0_length_8abf5 1 = .ok (.getfield 9, 3) := by decide +kernel
theorem dJ0_length_8abf5_4 : decode cJ0_length_8abf5 4 = .ok (.arraylength, 1) := by decide +kernel
theorem dJ0_length_8abf5_5 : decode cJ0_length_8abf5 5 = .ok (.aload_n 0, 1) := by decide +kernel
theorem dJ0_length_8abf5_6 : decode cJ0_length_8abf5 6 = .ok (.invokevirtual 335, 3) := by decide +kernel
theorem dJ0_length_8abf5_9 : decode cJ0_length_8abf5 9 = .ok (.ishr, 1) := by decide +kernel
theorem dJ0_length_8abf5_10 : decode cJ0_length_8abf5 10 = .ok (.ireturn, 1) := by decide +kernel
set_option maxRecDepth 20000 in
theorem ggJ0_charAt_5068e_J0_isLatin1_aae02 : GoodIn wsJ0_charAt_5068e wsJ0_isLatin1_aae02 := goodIn_r _ [6, 7, 8] (by decide +kernel) (by decide +kernel)
set_option maxRecDepth 20000 in
theorem gJ0_charAt_5068e_J0_isLatin1_aae02 : GoodIn wsJ0_charAt_5068e (wsV RJ0 492 RJ0 yJ0_isLatin1_aae02 wsJ0_isLatin1_aae02) := goodIn_app (goodIn_of _ (by decide +kernel)) ggJ0_charAt_5068e_J0_isLatin1_aae02
set_option maxRecDepth 20000 in
theorem ggJ0_charAt_5068e_J1_charAt_3b067 : GoodIn wsJ0_charAt_5068e wsJ1_charAt_3b067 := goodIn_r _ [12, 13, 14, 5, 15, 16, 17, 18, 19, 20] (by decide +kernel) (by decide +kernel)
set_option maxRecDepth 20000 in
theorem gJ0_charAt_5068e_J1_charAt_3b067 : GoodIn wsJ0_charAt_5068e (va_wsS RJ0 495 yJ1_charAt_3b067 wsJ1_charAt_3b067) := goodIn_app (goodIn_of _ (by decide +kernel)) ggJ0_charAt_5068e_J1_charAt_3b067
set_option maxRecDepth 20000 in
theorem ggJ0_charAt_5068e_J2_charAt_3b067 : GoodIn wsJ0_charAt_5068e wsJ2_charAt_3b067 := goodIn_r _ [24, 25, 26, 23, 27, 28, 29, 30, 31, 14, 5, 15, 16, 17, 18, 19, 20, 32, 33, 34, 35, 36, 37] (by decide +kernel) (by decide +kernel)
set_option maxRecDepth 20000 in
theorem gJ0_charAt_5068e_J2_charAt_3b067 : GoodIn wsJ0_charAt_5068e (va_wsS RJ0 498 yJ2_charAt_3b067 wsJ2_charAt_3b067) := goodIn_app (goodIn_of _ (by decide +kernel)) ggJ0_charAt_5068e_J2_charAt_3b067
theorem dJ0_charAt_5068e_0 : decode cJ0_charAt_5068e 0 = .ok (.aload_n 0, 1) := by decide +kernel
theorem dJ0_charAt_5068e_1 : decode cJ0_charAt_5068e 1 = .ok (.invokevirtual 492, 3) := by decide +kernel
theorem dJ0_charAt_5068e_4 : decode cJ0_charAt_5068e 4 = .ok (.ifCond .eq 12, 3) := by decide +kernel
theorem dJ0_charAt_5068e_7 : decode cJ0_charAt_5068e 7 = .ok (.aload_n 0, 1) := by decide +kernel
theorem dJ0_charAt_5068e_8 : decode cJ0_charAt_5068e 8 = .ok (.getfield 9, 3) := by decide +kernel
theorem dJ0_charAt_5068e_11 : decode cJ0_charAt_5068e 11 = .ok (.iload_n 1, 1) := by decide +kernel
theorem dJ0_charAt_5068e_12 : decode cJ0_charAt_5068e 12 = .ok (.invokestatic 495, 3) := by decide +kernel
theorem dJ0_charAt_5068e_15 : decode cJ0_charAt_5068e 15 = .ok (.ireturn, 1) := by decide +kernel
theorem dJ0_charAt_5068e_16 : decode cJ0_charAt_5068e 16 = .ok (.aload_n 0, 1) := by decide +kernel
theorem dJ0_charAt_5068e_17 : decode cJ0_charAt_5068e 17 = .ok (.getfield 9, 3) := by decide +kernel
theorem dJ0_charAt_5068e_20 : decode cJ0_charAt_5068e 20 = .ok (.iload_n 1, 1) := by decide +kernel
theorem dJ0_charAt_5068e_21 : decode cJ0_charAt_5068e 21 = .ok (.invokestatic 498, 3) := by decide +kernel
theorem dJ0_charAt_5068e_24 : decode cJ0_charAt_5068e 24 = .ok (.ireturn, 1) := by decide +kernel
theorem dJ0_coder_7d493_0 : decode cJ0_coder_7d493 0 = .ok (.getstatic 38, 3) := by decide +kernel
theorem dJ0_coder_7d493_3 : decode cJ0_coder_7d493 3 = .ok (.ifCond .eq 10, 3) := by decide +kernel
theorem dJ0_coder_7d493_6 : decode cJ0_coder_7d493 6 = .ok (.aload_n 0, 1) := by decide +kernel
theorem dJ0_coder_7d493_7 : decode cJ0_coder_7d493 7 = .ok (.getfield 15, 3) := by decide +kernel
theorem dJ0_coder_7d493_10 : decode cJ0_coder_7d493 10 = .ok (.goto 4, 3) := by decide +kernel
theorem dJ0_coder_7d493_13 : decode cJ0_coder_7d493 13 = .ok (.iconst 1, 1) := by decide +kernel
theorem dJ0_coder_7d493_14 : decode cJ0_coder_7d493 14 = .ok (.ireturn, 1) := by decide +kernel
theorem dJ0_isLatin1_aae02_0 : decode cJ0_isLatin1_aae02 0 = .ok (.getstatic 38, 3) := by decide +kernel
theorem dJ0_isLatin1_aae02_3 : decode cJ0_isLatin1_aae02 3 = .ok (.ifCond .eq 14, 3) := by decide +kernel
theorem dJ0_isLatin1_aae02_6 : decode cJ0_isLatin1_aae02 6 = .ok (.aload_n 0, 1) := by decide +kernel
theorem dJ0_isLatin1_aae02_7 : decode cJ0_isLatin1_aae02 7 = .ok (.getfield 15, 3) := by decide +kernel
theorem dJ0_isLatin1_aae02_10 : decode cJ0_isLatin1_aae02 10 = .ok (.ifCond .ne 7, 3) := by decide +kernel
theorem dJ0_isLatin1_aae02_13 : decode cJ0_isLatin1_aae02 13 = .ok (.iconst 1, 1) := by decide +kernel
theorem dJ0_isLatin1_aae02_14 : decode cJ0_isLatin1_aae02 14 = .ok (.goto 4, 3) := by decide +kernel
theorem dJ0_isLatin1_aae02_17 : decode cJ0_isLatin1_aae02 17 = .ok (.iconst 0, 1) := by decide +kernel
theorem dJ0_isLatin1_aae02_18 : decode cJ0_isLatin1_aae02 18 = .ok (.ireturn, 1) := by decide +kernel
set_option maxRecDepth 20000 in
theorem ggJ0_checkIndex_df160_J3_checkIndex_8e157 : GoodIn wsJ0_checkIndex_df160 wsJ3_checkIndex_8e157 := goodIn_r _ [5] (by decide +kernel) (by decide +kernel)
set_option maxRecDepth 20000 in
theorem gJ0_checkIndex_df160_J3_checkIndex_8e157 : GoodIn wsJ0_checkIndex_df160 (va_wsS RJ0 1059 yJ3_checkIndex_8e157 wsJ3_checkIndex_8e157) := goodIn_app (goodIn_of _ (by decide +kernel)) ggJ0_checkIndex_df160_J3_checkIndex_8e157
theorem dJ0_checkIndex_df160_0 : decode cJ0_checkIndex_df160 0 = .ok (.iload_n 0, 1) := by decide +kernel
theorem dJ0_checkIndex_df160_1 : decode cJ0_checkIndex_df160 1 = .ok (.iload_n 1, 1) := by decide +kernel
theorem dJ0_checkIndex_df160_2 : decode cJ0_checkIndex_df160 2 = .ok (.getstatic 1053, 3) := by decide +kernel
theorem dJ0_checkIndex_df160_5 : decode cJ0_checkIndex_df160 5 = .ok (.invokestatic 1059, 3) := by decide +kernel
theorem dJ0_checkIndex_df160_8 : decode cJ0_checkIndex_df160 8 = .ok (.pop, 1) := by decide +kernel
theorem dJ0_checkIndex_df160_9 : decode cJ0_checkIndex_df160 9 = .ok (.return_, 1) := by decide +kernel
set_option maxRecDepth 20000 in
theorem ggJ1_charAt_3b067_J0_checkIndex_df160 : GoodIn wsJ1_charAt_3b067 wsJ0_checkIndex_df160 := goodIn_r _ [4, 5, 6, 7, 8, 9] (by decide +kernel) (by decide +kernel)
set_option maxRecDepth 20000 in
theorem gJ1_charAt_3b067_J0_checkIndex_df160 : GoodIn wsJ1_charAt_3b067 (va_wsS RJ1 9 yJ0_checkIndex_df160 wsJ0_checkIndex_df160) := goodIn_app (goodIn_of _ (by decide +kernel)) ggJ1_charAt_3b067_J0_checkIndex_df160
theorem dJ1_charAt_3b067_0 : decode cJ1_charAt_3b067 0 = .ok (.iload_n 1, 1) := by decide +kernel
theorem dJ1_charAt_3b067_1 : decode cJ1_charAt_3b067 1 = .ok (.aload_n 0, 1) := by decide +kernel
theorem dJ1_charAt_3b067_2 : decode cJ1_charAt_3b067 2 = .ok (.arraylength, 1) := by decide +kernel
theorem dJ1_charAt_3b067_3 : decode cJ1_charAt_3b067 3 = .ok (.invokestatic 9, 3) := by decide +kernel
theorem dJ1_charAt_3b067_6 : decode cJ1_charAt_3b067 6 = .ok (.aload_n 0, 1) := by decide +kernel
theorem dJ1_charAt_3b067_7 : decode cJ1_charAt_3b067 7 = .ok (.iload_n 1, 1) := by decide +kernel
theorem dJ1_charAt_3b067_8 : decode cJ1_charAt_3b067 8 = .ok (.baload, 1) := by decide +kernel
theorem dJ1_charAt_3b067_9 : decode cJ1_charAt_3b067 9 = .ok (.sipush 255, 3) := by decide +kernel
theorem dJ1_charAt_3b067_12 : decode cJ1_charAt_3b067 12 = .ok (.iand, 1) := by decide +kernel
theorem dJ1_charAt_3b067_13 : decode cJ1_charAt_3b067 13 = .ok (.i2c, 1) := by decide +kernel
theorem dJ1_charAt_3b067_14 : decode cJ1_charAt_3b067 14 = .ok (.ireturn, 1) := by decide +kernel
set_option maxRecDepth 20000 in
theorem ggJ2_getChar_3b067_J2_length_9d52b : GoodIn wsJ2_getChar_3b067 wsJ2_length_9d52b := goodIn_r _ [7] (by decide +kernel) (by decide +kernel)
set_option maxRecDepth 20000 in
theorem gJ2_getChar_3b067_J2_length_9d52b : GoodIn wsJ2_getChar_3b067 (va_wsS RJ2 48 yJ2_length_9d52b wsJ2_length_9d52b) := goodIn_app (goodIn_of _ (by decide +kernel)) ggJ2_getChar_3b067_J2_length_9d52b
theorem dJ2_getChar_3b067_0 : decode cJ2_getChar_3b067 0 = .ok (.getstatic 44, 3) := by decide +kernel
theorem dJ2_getChar_3b067_3 : decode cJ2_getChar_3b067 3 = .ok (.ifCond .ne 25, 3) := by decide +kernel
theorem dJ2_getChar_3b067_6 : decode cJ2_getChar_3b067 6 = .ok (.iload_n 1, 1) := by decide +kernel
theorem dJ2_getChar_3b067_7 : decode cJ2_getChar_3b067 7 = .ok (.ifCond .lt 11, 3) := by decide +kernel
theorem dJ2_getChar_3b067_10 : decode cJ2_getChar_3b067 10 = .ok (.iload_n 1, 1) := by decide +kernel
theorem dJ2_getChar_3b067_11 : decode cJ2_getChar_3b067 11 = .ok (.aload_n 0, 1) := by decide +kernel
theorem dJ2_getChar_3b067_12 : decode cJ2_getChar_3b067 12 = .ok (.invokestatic 48, 3) := by decide +kernel
theorem dJ2_getChar_3b067_15 : decode cJ2_getChar_3b067 15 = .ok (.if_icmp .lt 13, 3) := by decide +kernel
theorem dJ2_getChar_3b067_18 : decode cJ2_getChar_3b067 18 = .ok (.new 52, 3) := by decide +kernel
theorem dJ2_getChar_3b067_21 : decode cJ2_getChar_3b067 21 = .ok (.dup, 1) := by decide +kernel
theorem dJ2_getChar_3b067_22 : decode cJ2_getChar_3b067 22 = .ok (.ldc 54, 2) := by decide +kernel
theorem dJ2_getChar_3b067_24 : decode cJ2_getChar_3b067 24 = .ok (.invokespecial 56, 3) := by decide +kernel
theorem dJ2_getChar_3b067_27 : decode cJ2_getChar_3b067 27 = .ok (.athrow, 1) := by decide +kernel
theorem dJ2_getChar_3b067_28 : decode cJ2_getChar_3b067 28 = .ok (.iload_n 1, 1) := by decide +kernel
theorem dJ2_getChar_3b067_29 : decode cJ2_getChar_3b067 29 = .ok (.iconst 1, 1) := by decide +kernel
theorem dJ2_getChar_3b067_30 : decode cJ2_getChar_3b067 30 = .ok (.ishl, 1) := by decide +kernel
theorem dJ2_getChar_3b067_31 : decode cJ2_getChar_3b067 31 = .ok (.istore_n 1, 1) := by decide +kernel
theorem dJ2_getChar_3b067_32 : decode cJ2_getChar_3b067 32 = .ok (.aload_n 0, 1) := by decide +kernel
theorem dJ2_getChar_3b067_33 : decode cJ2_getChar_3b067 33 = .ok (.iload_n 1, 1) := by decide +kernel
theorem dJ2_getChar_3b067_34 : decode cJ2_getChar_3b067 34 = .ok (.iinc 1 1, 3) := by decide +kernel
theorem dJ2_getChar_3b067_37 : decode cJ2_getChar_3b067 37 = .ok (.baload, 1) := by decide +kernel
theorem dJ2_getChar_3b067_38 : decode cJ2_getChar_3b067 38 = .ok (.sipush 255, 3) := by decide +kernel
theorem dJ2_getChar_3b067_41 : decode cJ2_getChar_3b067 41 = .ok (.iand, 1) := by decide +kernel
theorem dJ2_getChar_3b067_42 : decode cJ2_getChar_3b067 42 = .ok (.getstatic 59, 3) := by decide +kernel
theorem dJ2_getChar_3b067_45 : decode cJ2_getChar_3b067 45 = .ok (.ishl, 1) := by decide +kernel
