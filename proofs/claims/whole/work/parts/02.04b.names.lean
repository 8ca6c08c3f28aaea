theorem dX5_feed_21 : decode cX5_feed 21 = .ok (.iload_n 2, 1) := by decide +kernel
theorem dX5_feed_22 : decode cX5_feed 22 = .ok (.invokevirtual 60, 3) := by decide +kernel
theorem dX5_feed_25 : decode cX5_feed 25 = .ok (.aload_n 0, 1) := by decide +kernel
theorem dX5_feed_26 : decode cX5_feed 26 = .ok (.iload_n 3, 1) := by decide +kernel
theorem dX5_feed_27 : decode cX5_feed 27 = .ok (.invokevirtual 60, 3) := by decide +kernel
theorem dX5_feed_30 : decode cX5_feed 30 = .ok (.aload_n 0, 1) := by decide +kernel
theorem dX5_feed_31 : decode cX5_feed 31 = .ok (.iload 4, 2) := by decide +kernel
theorem dX5_feed_33 : decode cX5_feed 33 = .ok (.invokevirtual 60, 3) := by decide +kernel
theorem dX5_feed_36 : decode cX5_feed 36 = .ok (.aload_n 0, 1) := by decide +kernel
theorem dX5_feed_37 : decode cX5_feed 37 = .ok (.iload 5, 2) := by decide +kernel
theorem dX5_feed_39 : decode cX5_feed 39 = .ok (.invokevirtual 60, 3) := by decide +kernel
theorem dX5_feed_42 : decode cX5_feed 42 = .ok (.aload_n 0, 1) := by decide +kernel
theorem dX5_feed_43 : decode cX5_feed 43 = .ok (.getfield 57, 3) := by decide +kernel
theorem dX5_feed_46 : decode cX5_feed 46 = .ok (.ireturn, 1) := by decide +kernel
set_option maxRecDepth 20000 in
theorem ggX5_end_X5_isIn : GoodIn wsX5_end wsX5_isIn := goodIn_r _ [5] (by decide +kernel) (by decide +kernel)
set_option maxRecDepth 20000 in
theorem gX5_end_X5_isIn : GoodIn wsX5_end (va_wsS RX5 64 yX5_isIn wsX5_isIn) := goodIn_app (goodIn_of _ (by decide +kernel)) ggX5_end_X5_isIn
theorem dX5_end_0 : decode cX5_end 0 = .ok (.iload_n 1, 1) := by decide +kernel
theorem dX5_end_1 : decode cX5_end 1 = .ok (.iconst 0, 1) := by decide +kernel
theorem dX5_end_2 : decode cX5_end 2 = .ok (.aload_n 0, 1) := by decide +kernel
theorem dX5_end_3 : decode cX5_end 3 = .ok (.getfield 57, 3) := by decide +kernel
theorem dX5_end_6 : decode cX5_end 6 = .ok (.invokestatic 64, 3) := by decide +kernel
theorem dX5_end_9 : decode cX5_end 9 = .ok (.ifCond .ne 5, 3) := by decide +kernel
theorem dX5_end_12 : decode cX5_end 12 = .ok (.iconst (-1), 1) := by decide +kernel
theorem dX5_end_13 : decode cX5_end 13 = .ok (.ireturn, 1) := by decide +kernel
theorem dX5_end_14 : decode cX5_end 14 = .ok (.aload_n 0, 1) := by decide +kernel
theorem dX5_end_15 : decode cX5_end 15 = .ok (.iload_n 1, 1) := by decide +kernel
theorem dX5_end_16 : decode cX5_end 16 = .ok (.putfield 57, 3) := by decide +kernel
theorem dX5_end_19 : decode cX5_end 19 = .ok (.iload_n 1, 1) := by decide +kernel
theorem dX5_end_20 : decode cX5_end 20 = .ok (.ireturn, 1) := by decide +kernel
theorem dX5_see_0 : decode cX5_see 0 = .ok (.iload_n 1, 1) := by decide +kernel
theorem dX5_see_1 : decode cX5_see 1 = .ok (.aload_n 0, 1) := by decide +kernel
theorem dX5_see_2 : decode cX5_see 2 = .ok (.getfield 57, 3) := by decide +kernel
theorem dX5_see_5 : decode cX5_see 5 = .ok (.if_icmp .ge 12, 3) := by decide +kernel
theorem dX5_see_8 : decode cX5_see 8 = .ok (.aload_n 0, 1) := by decide +kernel
theorem dX5_see_9 : decode cX5_see 9 = .ok (.getfield 25, 3) := by decide +kernel
theorem dX5_see_12 : decode cX5_see 12 = .ok (.iload_n 1, 1) := by decide +kernel
theorem dX5_see_13 : decode cX5_see 13 = .ok (.iaload, 1) := by decide +kernel
theorem dX5_see_14 : decode cX5_see 14 = .ok (.goto 4, 3) := by decide +kernel
theorem dX5_see_17 : decode cX5_see 17 = .ok (.iconst (-1), 1) := by decide +kernel
theorem dX5_see_18 : decode cX5_see 18 = .ok (.ireturn, 1) := by decide +kernel
set_option maxRecDepth 20000 in
theorem ggX5_isLetter_X5_isIn : GoodIn wsX5_isLetter wsX5_isIn := goodIn_r _ [4] (by decide +kernel) (by decide +kernel)
set_option maxRecDepth 20000 in
theorem gX5_isLetter_X5_isIn : GoodIn wsX5_isLetter (va_wsS RX5 64 yX5_isIn wsX5_isIn) := goodIn_app (goodIn_of _ (by decide +kernel)) ggX5_isLetter_X5_isIn
theorem dX5_isLetter_0 : decode cX5_isLetter 0 = .ok (.iload_n 0, 1) := by decide +kernel
theorem dX5_isLetter_1 : decode cX5_isLetter 1 = .ok (.bipush 97, 2) := by decide +kernel
theorem dX5_isLetter_3 : decode cX5_isLetter 3 = .ok (.bipush 122, 2) := by decide +kernel
theorem dX5_isLetter_5 : decode cX5_isLetter 5 = .ok (.invokestatic 64, 3) := by decide +kernel
theorem dX5_isLetter_8 : decode cX5_isLetter 8 = .ok (.ifCond .ne 14, 3) := by decide +kernel
theorem dX5_isLetter_11 : decode cX5_isLetter 11 = .ok (.iload_n 0, 1) := by decide +kernel
theorem dX5_isLetter_12 : decode cX5_isLetter 12 = .ok (.bipush 65, 2) := by decide +kernel
theorem dX5_isLetter_14 : decode cX5_isLetter 14 = .ok (.bipush 90, 2) := by decide +kernel
theorem dX5_isLetter_16 : decode cX5_isLetter 16 = .ok (.invokestatic 64, 3) := by decide +kernel
theorem dX5_isLetter_19 : decode cX5_isLetter 19 = .ok (.ifCond .eq 7, 3) := by decide +kernel
theorem dX5_isLetter_22 : decode cX5_isLetter 22 = .ok (.iconst 1, 1) := by decide +kernel
theorem dX5_isLetter_23 : decode cX5_isLetter 23 = .ok (.goto 4, 3) := by decide +kernel
theorem dX5_isLetter_26 : decode cX5_isLetter 26 = .ok (.iconst 0, 1) := by decide +kernel
theorem dX5_isLetter_27 : decode cX5_isLetter 27 = .ok (.ireturn, 1) := by decide +kernel
set_option maxRecDepth 20000 in
theorem ggX5_isDigit_X5_isIn : GoodIn wsX5_isDigit wsX5_isIn := goodIn_r _ [4] (by decide +kernel) (by decide +kernel)
set_option maxRecDepth 20000 in
theorem gX5_isDigit_X5_isIn : GoodIn wsX5_isDigit (va_wsS RX5 64 yX5_isIn wsX5_isIn) := goodIn_app (goodIn_of _ (by decide +kernel)) ggX5_isDigit_X5_isIn
theorem dX5_isDigit_0 : decode cX5_isDigit 0 = .ok (.iload_n 0, 1) := by decide +kernel
theorem dX5_isDigit_1 : decode cX5_isDigit 1 = .ok (.bipush 48, 2) := by decide +kernel
theorem dX5_isDigit_3 : decode cX5_isDigit 3 = .ok (.bipush 57, 2) := by decide +kernel
theorem dX5_isDigit_5 : decode cX5_isDigit 5 = .ok (.invokestatic 64, 3) := by decide +kernel
theorem dX5_isDigit_8 : decode cX5_isDigit 8 = .ok (.ireturn, 1) := by decide +kernel
theorem dX5_add_0 : decode cX5_add 0 = .ok (.lload_n 0, 1) := by decide +kernel
theorem dX5_add_1 : decode cX5_add 1 = .ok (.bipush 8, 2) := by decide +kernel
theorem dX5_add_3 : decode cX5_add 3 = .ok (.lshl, 1) := by decide +kernel
theorem dX5_add_4 : decode cX5_add 4 = .ok (.iload_n 2, 1) := by decide +kernel
theorem dX5_add_5 : decode cX5_add 5 = .ok (.i2l, 1) := by decide +kernel
theorem dX5_add_6 : decode cX5_add 6 = .ok (.lor, 1) := by decide +kernel
theorem dX5_add_7 : decode cX5_add 7 = .ok (.bipush 8, 2) := by decide +kernel
theorem dX5_add_9 : decode cX5_add 9 = .ok (.lshl, 1) := by decide +kernel
theorem dX5_add_10 : decode cX5_add 10 = .ok (.iload_n 3, 1) := by decide +kernel
theorem dX5_add_11 : decode cX5_add 11 = .ok (.i2l, 1) := by decide +kernel
theorem dX5_add_12 : decode cX5_add 12 = .ok (.lor, 1) := by decide +kernel
theorem dX5_add_13 : decode cX5_add 13 = .ok (.lreturn, 1) := by decide +kernel
set_option maxRecDepth 20000 in
theorem ggX5_wordOf_X5_add : GoodIn wsX5_wordOf wsX5_add := goodIn_r _ [9] (by decide +kernel) (by decide +kernel)
set_option maxRecDepth 20000 in
theorem gX5_wordOf_X5_add : GoodIn wsX5_wordOf (va_wsS RX5 70 yX5_add wsX5_add) := goodIn_app (goodIn_of _ (by decide +kernel)) ggX5_wordOf_X5_add
theorem dX5_wordOf_0 : decode cX5_wordOf 0 = .ok (.lload_n 0, 1) := by decide +kernel
theorem dX5_wordOf_1 : decode cX5_wordOf 1 = .ok (.ldc2_w 68, 3) := by decide +kernel
theorem dX5_wordOf_4 : decode cX5_wordOf 4 = .ok (.bipush 117, 2) := by decide +kernel
theorem dX5_wordOf_6 : decode cX5_wordOf 6 = .ok (.bipush 116, 2) := by decide +kernel
theorem dX5_wordOf_8 : decode cX5_wordOf 8 = .ok (.invokestatic 70, 3) := by decide +kernel
theorem dX5_wordOf_11 : decode cX5_wordOf 11 = .ok (.lcmp, 1) := by decide +kernel
theorem dX5_wordOf_12 : decode cX5_wordOf 12 = .ok (.ifCond .ne 5, 3) := by decide +kernel
theorem dX5_wordOf_15 : decode cX5_wordOf 15 = .ok (.iconst 0, 1) := by decide +kernel
theorem dX5_wordOf_16 : decode cX5_wordOf 16 = .ok (.ireturn, 1) := by decide +kernel
theorem dX5_wordOf_17 : decode cX5_wordOf 17 = .ok (.lload_n 0, 1) := by decide +kernel
theorem dX5_wordOf_18 : decode cX5_wordOf 18 = .ok (.ldc2_w 74, 3) := by decide +kernel
theorem dX5_wordOf_21 : decode cX5_wordOf 21 = .ok (.bipush 101, 2) := by decide +kernel
theorem dX5_wordOf_23 : decode cX5_wordOf 23 = .ok (.bipush 116, 2) := by decide +kernel
theorem dX5_wordOf_25 : decode cX5_wordOf 25 = .ok (.invokestatic 70, 3) := by decide +kernel
theorem dX5_wordOf_28 : decode cX5_wordOf 28 = .ok (.lcmp, 1) := by decide +kernel
theorem dX5_wordOf_29 : decode cX5_wordOf 29 = .ok (.ifCond .ne 5, 3) := by decide +kernel
theorem dX5_wordOf_32 : decode cX5_wordOf 32 = .ok (.iconst 1, 1) := by decide +kernel
theorem dX5_wordOf_33 : decode cX5_wordOf 33 = .ok (.ireturn, 1) := by decide +kernel
theorem dX5_wordOf_34 : decode cX5_wordOf 34 = .ok (.lload_n 0, 1) := by decide +kernel
theorem dX5_wordOf_35 : decode cX5_wordOf 35 = .ok (.lconst 0, 1) := by decide +kernel
theorem dX5_wordOf_36 : decode cX5_wordOf 36 = .ok (.bipush 115, 2) := by decide +kernel
theorem dX5_wordOf_38 : decode cX5_wordOf 38 = .ok (.bipush 119, 2) := by decide +kernel
theorem dX5_wordOf_40 : decode cX5_wordOf 40 = .ok (.invokestatic 70, 3) := by decide +kernel
theorem dX5_wordOf_43 : decode cX5_wordOf 43 = .ok (.bipush 97, 2) := by decide +kernel
theorem dX5_wordOf_45 : decode cX5_wordOf 45 = .ok (.bipush 112, 2) := by decide +kernel
theorem dX5_wordOf_47 : decode cX5_wordOf 47 = .ok (.invokestatic 70, 3) := by decide +kernel
theorem dX5_wordOf_50 : decode cX5_wordOf 50 = .ok (.lcmp, 1) := by decide +kernel
theorem dX5_wordOf_51 : decode cX5_wordOf 51 = .ok (.ifCond .ne 5, 3) := by decide +kernel
theorem dX5_wordOf_54 : decode cX5_wordOf 54 = .ok (.iconst 2, 1) := by decide +kernel
theorem dX5_wordOf_55 : decode cX5_wordOf 55 = .ok (.ireturn, 1) := by decide +kernel
theorem dX5_wordOf_56 : decode cX5_wordOf 56 = .ok (.lload_n 0, 1) := by decide +kernel
theorem dX5_wordOf_57 : decode cX5_wordOf 57 = .ok (.ldc2_w 76, 3) := by decide +kernel
theorem dX5_wordOf_60 : decode cX5_wordOf 60 = .ok (.bipush 100, 2) := by decide +kernel
theorem dX5_wordOf_62 : decode cX5_wordOf 62 = .ok (.bipush 100, 2) := by decide +kernel
theorem dX5_wordOf_64 : decode cX5_wordOf 64 = .ok (.invokestatic 70, 3) := by decide +kernel
theorem dX5_wordOf_67 : decode cX5_wordOf 67 = .ok (.lcmp, 1) := by decide +kernel
theorem dX5_wordOf_68 : decode cX5_wordOf 68 = .ok (.ifCond .ne 5, 3) := by decide +kernel
theorem dX5_wordOf_71 : decode cX5_wordOf 71 = .ok (.iconst 3, 1) := by decide +kernel
theorem dX5_wordOf_72 : decode cX5_wordOf 72 = .ok (.ireturn, 1) := by decide +kernel
theorem dX5_wordOf_73 : decode cX5_wordOf 73 = .ok (.lload_n 0, 1) := by decide +kernel
theorem dX5_wordOf_74 : decode cX5_wordOf 74 = .ok (.ldc2_w 78, 3) := by decide +kernel
theorem dX5_wordOf_77 : decode cX5_wordOf 77 = .ok (.bipush 101, 2) := by decide +kernel
theorem dX5_wordOf_79 : decode cX5_wordOf 79 = .ok (.bipush 110, 2) := by decide +kernel
theorem dX5_wordOf_81 : decode cX5_wordOf 81 = .ok (.invokestatic 70, 3) := by decide +kernel
theorem dX5_wordOf_84 : decode cX5_wordOf 84 = .ok (.bipush 99, 2) := by decide +kernel
theorem dX5_wordOf_86 : decode cX5_wordOf 86 = .ok (.bipush 101, 2) := by decide +kernel
theorem dX5_wordOf_88 : decode cX5_wordOf 88 = .ok (.invokestatic 70, 3) := by decide +kernel
theorem dX5_wordOf_91 : decode cX5_wordOf 91 = .ok (.lcmp, 1) := by decide +kernel
theorem dX5_wordOf_92 : decode cX5_wordOf 92 = .ok (.ifCond .ne 5, 3) := by decide +kernel
theorem dX5_wordOf_95 : decode cX5_wordOf 95 = .ok (.iconst 4, 1) := by decide +kernel
theorem dX5_wordOf_96 : decode cX5_wordOf 96 = .ok (.ireturn, 1) := by decide +kernel
theorem dX5_wordOf_97 : decode cX5_wordOf 97 = .ok (.lload_n 0, 1) := by decide +kernel
theorem dX5_wordOf_98 : decode cX5_wordOf 98 = .ok (.lconst 0, 1) := by decide +kernel
theorem dX5_wordOf_99 : decode cX5_wordOf 99 = .ok (.bipush 119, 2) := by decide +kernel
theorem dX5_wordOf_101 : decode cX5_wordOf 101 = .ok (.bipush 97, 2) := by decide +kernel
theorem dX5_wordOf_103 : decode cX5_wordOf 103 = .ok (.invokestatic 70, 3) := by decide +kernel
theorem dX5_wordOf_106 : decode cX5_wordOf 106 = .ok (.bipush 105, 2) := by decide +kernel
theorem dX5_wordOf_108 : decode cX5_wordOf 108 = .ok (.bipush 116, 2) := by decide +kernel
theorem dX5_wordOf_110 : decode cX5_wordOf 110 = .ok (.invokestatic 70, 3) := by decide +kernel
theorem dX5_wordOf_113 : decode cX5_wordOf 113 = .ok (.lcmp, 1) := by decide +kernel
theorem dX5_wordOf_114 : decode cX5_wordOf 114 = .ok (.ifCond .ne 5, 3) := by decide +kernel
theorem dX5_wordOf_117 : decode cX5_wordOf 117 = .ok (.iconst 5, 1) := by decide +kernel
theorem dX5_wordOf_118 : decode cX5_wordOf 118 = .ok (.ireturn, 1) := by decide +kernel
theorem dX5_wordOf_119 : decode cX5_wordOf 119 = .ok (.lload_n 0, 1) := by decide +kernel
theorem dX5_wordOf_120 : decode cX5_wordOf 120 = .ok (.ldc2_w 80, 3) := by decide +kernel
theorem dX5_wordOf_123 : decode cX5_wordOf 123 = .ok (.bipush 101, 2) := by decide +kernel
theorem dX5_wordOf_125 : decode cX5_wordOf 125 = .ok (.bipush 116, 2) := by decide +kernel
theorem dX5_wordOf_127 : decode cX5_wordOf 127 = .ok (.invokestatic 70, 3) := by decide +kernel
theorem dX5_wordOf_130 : decode cX5_wordOf 130 = .ok (.lcmp, 1) := by decide +kernel
theorem dX5_wordOf_131 : decode cX5_wordOf 131 = .ok (.ifCond .ne 6, 3) := by decide +kernel
theorem dX5_wordOf_134 : decode cX5_wordOf 134 = .ok (.bipush 6, 2) := by decide +kernel
theorem dX5_wordOf_136 : decode cX5_wordOf 136 = .ok (.ireturn, 1) := by decide +kernel
theorem dX5_wordOf_137 : decode cX5_wordOf 137 = .ok (.lload_n 0, 1) := by decide +kernel
theorem dX5_wordOf_138 : decode cX5_wordOf 138 = .ok (.lconst 0, 1) := by decide +kernel
theorem dX5_wordOf_139 : decode cX5_wordOf 139 = .ok (.bipush 108, 2) := by decide +kernel
theorem dX5_wordOf_141 : decode cX5_wordOf 141 = .ok (.bipush 111, 2) := by decide +kernel
theorem dX5_wordOf_143 : decode cX5_wordOf 143 = .ok (.invokestatic 70, 3) := by decide +kernel
theorem dX5_wordOf_146 : decode cX5_wordOf 146 = .ok (.bipush 97, 2) := by decide +kernel
theorem dX5_wordOf_148 : decode cX5_wordOf 148 = .ok (.bipush 100, 2) := by decide +kernel
theorem dX5_wordOf_150 : decode cX5_wordOf 150 = .ok (.invokestatic 70, 3) := by decide +kernel
theorem dX5_wordOf_153 : decode cX5_wordOf 153 = .ok (.lcmp, 1) := by decide +kernel
theorem dX5_wordOf_154 : decode cX5_wordOf 154 = .ok (.ifCond .ne 6, 3) := by decide +kernel
theorem dX5_wordOf_157 : decode cX5_wordOf 157 = .ok (.bipush 7, 2) := by decide +kernel
theorem dX5_wordOf_159 : decode cX5_wordOf 159 = .ok (.ireturn, 1) := by decide +kernel
theorem dX5_wordOf_160 : decode cX5_wordOf 160 = .ok (.lload_n 0, 1) := by decide +kernel
theorem dX5_wordOf_161 : decode cX5_wordOf 161 = .ok (.lconst 0, 1) := by decide +kernel
theorem dX5_wordOf_162 : decode cX5_wordOf 162 = .ok (.bipush 105, 2) := by decide +kernel
theorem dX5_wordOf_164 : decode cX5_wordOf 164 = .ok (.bipush 102, 2) := by decide +kernel
theorem dX5_wordOf_166 : decode cX5_wordOf 166 = .ok (.invokestatic 70, 3) := by decide +kernel
theorem dX5_wordOf_169 : decode cX5_wordOf 169 = .ok (.lcmp, 1) := by decide +kernel
theorem dX5_wordOf_170 : decode cX5_wordOf 170 = .ok (.ifCond .ne 8, 3) := by decide +kernel
theorem dX5_wordOf_173 : decode cX5_wordOf 173 = .ok (.bipush 8, 2) := by decide +kernel
theorem dX5_wordOf_175 : decode cX5_wordOf 175 = .ok (.goto 4, 3) := by decide +kernel
theorem dX5_wordOf_178 : decode cX5_wordOf 178 = .ok (.iconst (-1), 1) := by decide +kernel
theorem dX5_wordOf_179 : decode cX5_wordOf 179 = .ok (.ireturn, 1) := by decide +kernel
set_option maxRecDepth 20000 in
theorem ggX5_nextToken_X5_see : GoodIn wsX5_nextToken wsX5_see := goodIn_r _ [9, 10, 11, 32, 33, 34, 35, 36, 37, 38, 39, 40, 41, 42, 43, 44, 45, 46, 47, 48, 49, 50, 51, 52, 53, 54] (by decide +kernel) (by decide +kernel)
set_option maxRecDepth 20000 in
theorem gX5_nextToken_X5_see : GoodIn wsX5_nextToken (wsV RX5 85 RX5 yX5_see wsX5_see) := goodIn_app (goodIn_of _ (by decide +kernel)) ggX5_nextToken_X5_see
set_option maxRecDepth 20000 in
theorem ggX5_nextToken_X5_isDigit : GoodIn wsX5_nextToken wsX5_isDigit := goodIn_r _ [14, 15, 16, 8, 17] (by decide +kernel) (by decide +kernel)
set_option maxRecDepth 20000 in
theorem gX5_nextToken_X5_isDigit : GoodIn wsX5_nextToken (va_wsS RX5 95 yX5_isDigit wsX5_isDigit) := goodIn_app (goodIn_of _ (by decide +kernel)) ggX5_nextToken_X5_isDigit
set_option maxRecDepth 20000 in
theorem ggX5_nextToken_X5_isLetter : GoodIn wsX5_nextToken wsX5_isLetter := goodIn_r _ [20, 15, 16, 8, 17] (by decide +kernel) (by decide +kernel)
set_option maxRecDepth 20000 in
theorem gX5_nextToken_X5_isLetter : GoodIn wsX5_nextToken (va_wsS RX5 102 yX5_isLetter wsX5_isLetter) := goodIn_app (goodIn_of _ (by decide +kernel)) ggX5_nextToken_X5_isLetter
set_option maxRecDepth 20000 in
theorem ggX5_nextToken_X5_wordOf : GoodIn wsX5_nextToken wsX5_wordOf := goodIn_r _ [23, 24, 25, 26, 27, 28, 29, 30, 8, 31] (by decide +kernel) (by decide +kernel)
set_option maxRecDepth 20000 in
theorem gX5_nextToken_X5_wordOf : GoodIn wsX5_nextToken (va_wsS RX5 105 yX5_wordOf wsX5_wordOf) := goodIn_app (goodIn_of _ (by decide +kernel)) ggX5_nextToken_X5_wordOf
theorem dX5_nextToken_0 : decode cX5_nextToken 0 = .ok (.aload_n 0, 1) := by decide +kernel
theorem dX5_nextToken_1 : decode cX5_nextToken 1 = .ok (.aload_n 0, 1) := by decide +kernel
theorem dX5_nextToken_2 : decode cX5_nextToken 2 = .ok (.getfield 82, 3) := by decide +kernel
theorem dX5_nextToken_5 : decode cX5_nextToken 5 = .ok (.invokevirtual 85, 3) := by decide +kernel
theorem dX5_nextToken_8 : decode cX5_nextToken 8 = .ok (.bipush 32, 2) := by decide +kernel
theorem dX5_nextToken_10 : decode cX5_nextToken 10 = .ok (.if_icmp .eq 16, 3) := by decide +kernel
theorem dX5_nextToken_13 : decode cX5_nextToken 13 = .ok (.aload_n 0, 1) := by decide +kernel
theorem dX5_nextToken_14 : decode cX5_nextToken 14 = .ok (.aload_n 0, 1) := by decide +kernel
theorem dX5_nextToken_15 : decode cX5_nextToken 15 = .ok (.getfield 82, 3) := by decide +kernel
theorem dX5_nextToken_18 : decode cX5_nextToken 18 = .ok (.invokevirtual 85, 3) := by decide +kernel
theorem dX5_nextToken_21 : decode cX5_nextToken 21 = .ok (.bipush 10, 2) := by decide +kernel
theorem dX5_nextToken_23 : decode cX5_nextToken 23 = .ok (.if_icmp .ne 16, 3) := by decide +kernel
theorem dX5_nextToken_26 : decode cX5_nextToken 26 = .ok (.aload_n 0, 1) := by decide +kernel
theorem dX5_nextToken_27 : decode cX5_nextToken 27 = .ok (.dup, 1) := by decide +kernel
theorem dX5_nextToken_28 : decode cX5_nextToken 28 = .ok (.getfield 82, 3) := by decide +kernel
theorem dX5_nextToken_31 : decode cX5_nextToken 31 = .ok (.iconst 1, 1) := by decide +kernel
theorem dX5_nextToken_32 : decode cX5_nextToken 32 = .ok (.iadd, 1) := by decide +kernel
theorem dX5_nextToken_33 : decode cX5_nextToken 33 = .ok (.putfield 82, 3) := by decide +kernel
theorem dX5_nextToken_36 : decode cX5_nextToken 36 = .ok (.goto (-36), 3) := by decide +kernel
theorem dX5_nextToken_39 : decode cX5_nextToken 39 = .ok (.aload_n 0, 1) := by decide +kernel
theorem dX5_nextToken_40 : decode cX5_nextToken 40 = .ok (.aload_n 0, 1) := by decide +kernel
theorem dX5_nextToken_41 : decode cX5_nextToken 41 = .ok (.getfield 82, 3) := by decide +kernel
theorem dX5_nextToken_44 : decode cX5_nextToken 44 = .ok (.putfield 89, 3) := by decide +kernel
theorem dX5_nextToken_47 : decode cX5_nextToken 47 = .ok (.aload_n 0, 1) := by decide +kernel
theorem dX5_nextToken_48 : decode cX5_nextToken 48 = .ok (.aload_n 0, 1) := by decide +kernel
theorem dX5_nextToken_49 : decode cX5_nextToken 49 = .ok (.getfield 82, 3) := by decide +kernel
theorem dX5_nextToken_52 : decode cX5_nextToken 52 = .ok (.invokevirtual 85, 3) := by decide +kernel
theorem dX5_nextToken_55 : decode cX5_nextToken 55 = .ok (.istore_n 1, 1) := by decide +kernel
theorem dX5_nextToken_56 : decode cX5_nextToken 56 = .ok (.iload_n 1, 1) := by decide +kernel
theorem dX5_nextToken_57 : decode cX5_nextToken 57 = .ok (.ifCond .ge 11, 3) := by decide +kernel
theorem dX5_nextToken_60 : decode cX5_nextToken 60 = .ok (.aload_n 0, 1) := by decide +kernel
theorem dX5_nextToken_61 : decode cX5_nextToken 61 = .ok (.iconst 0, 1) := by decide +kernel
theorem dX5_nextToken_62 : decode cX5_nextToken 62 = .ok (.putfield 92, 3) := by decide +kernel
theorem dX5_nextToken_65 : decode cX5_nextToken 65 = .ok (.goto 207, 3) := by decide +kernel
theorem dX5_nextToken_68 : decode cX5_nextToken 68 = .ok (.iload_n 1, 1) := by decide +kernel
theorem dX5_nextToken_69 : decode cX5_nextToken 69 = .ok (.invokestatic 95, 3) := by decide +kernel
theorem dX5_nextToken_72 : decode cX5_nextToken 72 = .ok (.ifCond .eq 73, 3) := by decide +kernel
theorem dX5_nextToken_75 : decode cX5_nextToken 75 = .ok (.aload_n 0, 1) := by decide +kernel
theorem dX5_nextToken_76 : decode cX5_nextToken 76 = .ok (.iconst 1, 1) := by decide +kernel
theorem dX5_nextToken_77 : decode cX5_nextToken 77 = .ok (.putfield 92, 3) := by decide +kernel
theorem dX5_nextToken_80 : decode cX5_nextToken 80 = .ok (.aload_n 0, 1) := by decide +kernel
theorem dX5_nextToken_81 : decode cX5_nextToken 81 = .ok (.iconst 0, 1) := by decide +kernel
theorem dX5_nextToken_82 : decode cX5_nextToken 82 = .ok (.putfield 99, 3) := by decide +kernel
theorem dX5_nextToken_85 : decode cX5_nextToken 85 = .ok (.aload_n 0, 1) := by decide +kernel
theorem dX5_nextToken_86 : decode cX5_nextToken 86 = .ok (.aload_n 0, 1) := by decide +kernel
theorem dX5_nextToken_87 : decode cX5_nextToken 87 = .ok (.getfield 82, 3) := by decide +kernel
theorem dX5_nextToken_90 : decode cX5_nextToken 90 = .ok (.invokevirtual 85, 3) := by decide +kernel
theorem dX5_nextToken_93 : decode cX5_nextToken 93 = .ok (.invokestatic 95, 3) := by decide +kernel
theorem dX5_nextToken_96 : decode cX5_nextToken 96 = .ok (.ifCond .eq 176, 3) := by decide +kernel
theorem dX5_nextToken_99 : decode cX5_nextToken 99 = .ok (.aload_n 0, 1) := by decide +kernel
theorem dX5_nextToken_100 : decode cX5_nextToken 100 = .ok (.getfield 99, 3) := by decide +kernel
theorem dX5_nextToken_103 : decode cX5_nextToken 103 = .ok (.sipush 1000, 3) := by decide +kernel
theorem dX5_nextToken_106 : decode cX5_nextToken 106 = .ok (.if_icmp .ge 26, 3) := by decide +kernel
theorem dX5_nextToken_109 : decode cX5_nextToken 109 = .ok (.aload_n 0, 1) := by decide +kernel
theorem dX5_nextToken_110 : decode cX5_nextToken 110 = .ok (.bipush 10, 2) := by decide +kernel
theorem dX5_nextToken_112 : decode cX5_nextToken 112 = .ok (.aload_n 0, 1) := by decide +kernel
theorem dX5_nextToken_113 : decode cX5_nextToken 113 = .ok (.getfield 99, 3) := by decide +kernel
theorem dX5_nextToken_116 : decode cX5_nextToken 116 = .ok (.imul, 1) := by decide +kernel
theorem dX5_nextToken_117 : decode cX5_nextToken 117 = .ok (.aload_n 0, 1) := by decide +kernel
theorem dX5_nextToken_118 : decode cX5_nextToken 118 = .ok (.aload_n 0, 1) := by decide +kernel
theorem dX5_nextToken_119 : decode cX5_nextToken 119 = .ok (.getfield 82, 3) := by decide +kernel
theorem dX5_nextToken_122 : decode cX5_nextToken 122 = .ok (.invokevirtual 85, 3) := by decide +kernel
theorem dX5_nextToken_125 : decode cX5_nextToken 125 = .ok (.iadd, 1) := by decide +kernel
theorem dX5_nextToken_126 : decode cX5_nextToken 126 = .ok (.bipush 48, 2) := by decide +kernel
theorem dX5_nextToken_128 : decode cX5_nextToken 128 = .ok (.isub, 1) := by decide +kernel
theorem dX5_nextToken_129 : decode cX5_nextToken 129 = .ok (.putfield 99, 3) := by decide +kernel
theorem dX5_nextToken_132 : decode cX5_nextToken 132 = .ok (.aload_n 0, 1) := by decide +kernel
theorem dX5_nextToken_133 : decode cX5_nextToken 133 = .ok (.dup, 1) := by decide +kernel
theorem dX5_nextToken_134 : decode cX5_nextToken 134 = .ok (.getfield 82, 3) := by decide +kernel
theorem dX5_nextToken_137 : decode cX5_nextToken 137 = .ok (.iconst 1, 1) := by decide +kernel
theorem dX5_nextToken_138 : decode cX5_nextToken 138 = .ok (.iadd, 1) := by decide +kernel
theorem dX5_nextToken_139 : decode cX5_nextToken 139 = .ok (.putfield 82, 3) := by decide +kernel
theorem dX5_nextToken_142 : decode cX5_nextToken 142 = .ok (.goto (-57), 3) := by decide +kernel
theorem dX5_nextToken_145 : decode cX5_nextToken 145 = .ok (.iload_n 1, 1) := by decide +kernel
theorem dX5_nextToken_146 : decode cX5_nextToken 146 = .ok (.invokestatic 102, 3) := by decide +kernel
theorem dX5_nextToken_149 : decode cX5_nextToken 149 = .ok (.ifCond .eq 98, 3) := by decide +kernel
theorem dX5_nextToken_152 : decode cX5_nextToken 152 = .ok (.lconst 0, 1) := by decide +kernel
theorem dX5_nextToken_153 : decode cX5_nextToken 153 = .ok (.lstore_n 2, 1) := by decide +kernel
theorem dX5_nextToken_154 : decode cX5_nextToken 154 = .ok (.aload_n 0, 1) := by decide +kernel
theorem dX5_nextToken_155 : decode cX5_nextToken 155 = .ok (.aload_n 0, 1) := by decide +kernel
theorem dX5_nextToken_156 : decode cX5_nextToken 156 = .ok (.getfield 82, 3) := by decide +kernel
theorem dX5_nextToken_159 : decode cX5_nextToken 159 = .ok (.invokevirtual 85, 3) := by decide +kernel
theorem dX5_nextToken_162 : decode cX5_nextToken 162 = .ok (.invokestatic 102, 3) := by decide +kernel
theorem dX5_nextToken_165 : decode cX5_nextToken 165 = .ok (.ifCond .eq 45, 3) := by decide +kernel
theorem dX5_nextToken_168 : decode cX5_nextToken 168 = .ok (.aload_n 0, 1) := by decide +kernel
theorem dX5_nextToken_169 : decode cX5_nextToken 169 = .ok (.getfield 82, 3) := by decide +kernel
theorem dX5_nextToken_172 : decode cX5_nextToken 172 = .ok (.aload_n 0, 1) := by decide +kernel
theorem dX5_nextToken_173 : decode cX5_nextToken 173 = .ok (.getfield 89, 3) := by decide +kernel
theorem dX5_nextToken_176 : decode cX5_nextToken 176 = .ok (.isub, 1) := by decide +kernel
theorem dX5_nextToken_177 : decode cX5_nextToken 177 = .ok (.bipush 6, 2) := by decide +kernel
theorem dX5_nextToken_179 : decode cX5_nextToken 179 = .ok (.if_icmp .ge 18, 3) := by decide +kernel
theorem dX5_nextToken_182 : decode cX5_nextToken 182 = .ok (.lload_n 2, 1) := by decide +kernel
theorem dX5_nextToken_183 : decode cX5_nextToken 183 = .ok (.bipush 8, 2) := by decide +kernel
theorem dX5_nextToken_185 : decode cX5_nextToken 185 = .ok (.lshl, 1) := by decide +kernel
theorem dX5_nextToken_186 : decode cX5_nextToken 186 = .ok (.aload_n 0, 1) := by decide +kernel
theorem dX5_nextToken_187 : decode cX5_nextToken 187 = .ok (.aload_n 0, 1) := by decide +kernel
theorem dX5_nextToken_188 : decode cX5_nextToken 188 = .ok (.getfield 82, 3) := by decide +kernel
theorem dX5_nextToken_191 : decode cX5_nextToken 191 = .ok (.invokevirtual 85, 3) := by decide +kernel
theorem dX5_nextToken_194 : decode cX5_nextToken 194 = .ok (.i2l, 1) := by decide +kernel
theorem dX5_nextToken_195 : decode cX5_nextToken 195 = .ok (.lor, 1) := by decide +kernel
theorem dX5_nextToken_196 : decode cX5_nextToken 196 = .ok (.lstore_n 2, 1) := by decide +kernel
theorem dX5_nextToken_197 : decode cX5_nextToken 197 = .ok (.aload_n 0, 1) := by decide +kernel
theorem dX5_nextToken_198 : decode cX5_nextToken 198 = .ok (.dup, 1) := by decide +kernel
theorem dX5_nextToken_199 : decode cX5_nextToken 199 = .ok (.getfield 82, 3) := by decide +kernel
theorem dX5_nextToken_202 : decode cX5_nextToken 202 = .ok (.iconst 1, 1) := by decide +kernel
theorem dX5_nextToken_203 : decode cX5_nextToken 203 = .ok (.iadd, 1) := by decide +kernel
theorem dX5_nextToken_204 : decode cX5_nextToken 204 = .ok (.putfield 82, 3) := by decide +kernel
theorem dX5_nextToken_207 : decode cX5_nextToken 207 = .ok (.goto (-53), 3) := by decide +kernel
theorem dX5_nextToken_210 : decode cX5_nextToken 210 = .ok (.aload_n 0, 1) := by decide +kernel
theorem dX5_nextToken_211 : decode cX5_nextToken 211 = .ok (.aload_n 0, 1) := by decide +kernel
theorem dX5_nextToken_212 : decode cX5_nextToken 212 = .ok (.getfield 82, 3) := by decide +kernel
theorem dX5_nextToken_215 : decode cX5_nextToken 215 = .ok (.aload_n 0, 1) := by decide +kernel
theorem dX5_nextToken_216 : decode cX5_nextToken 216 = .ok (.getfield 89, 3) := by decide +kernel
theorem dX5_nextToken_219 : decode cX5_nextToken 219 = .ok (.isub, 1) := by decide +kernel
theorem dX5_nextToken_220 : decode cX5_nextToken 220 = .ok (.iconst 5, 1) := by decide +kernel
theorem dX5_nextToken_221 : decode cX5_nextToken 221 = .ok (.if_icmp .gt 10, 3) := by decide +kernel
theorem dX5_nextToken_224 : decode cX5_nextToken 224 = .ok (.lload_n 2, 1) := by decide +kernel
theorem dX5_nextToken_225 : decode cX5_nextToken 225 = .ok (.invokestatic 105, 3) := by decide +kernel
theorem dX5_nextToken_228 : decode cX5_nextToken 228 = .ok (.ifCond .ge 7, 3) := by decide +kernel
theorem dX5_nextToken_231 : decode cX5_nextToken 231 = .ok (.iconst 3, 1) := by decide +kernel
theorem dX5_nextToken_232 : decode cX5_nextToken 232 = .ok (.goto 9, 3) := by decide +kernel
theorem dX5_nextToken_235 : decode cX5_nextToken 235 = .ok (.iconst 4, 1) := by decide +kernel
theorem dX5_nextToken_236 : decode cX5_nextToken 236 = .ok (.lload_n 2, 1) := by decide +kernel
theorem dX5_nextToken_237 : decode cX5_nextToken 237 = .ok (.invokestatic 105, 3) := by decide +kernel
theorem dX5_nextToken_240 : decode cX5_nextToken 240 = .ok (.iadd, 1) := by decide +kernel
theorem dX5_nextToken_241 : decode cX5_nextToken 241 = .ok (.putfield 92, 3) := by decide +kernel
theorem dX5_nextToken_244 : decode cX5_nextToken 244 = .ok (.goto 28, 3) := by decide +kernel
theorem dX5_nextToken_247 : decode cX5_nextToken 247 = .ok (.aload_n 0, 1) := by decide +kernel
theorem dX5_nextToken_248 : decode cX5_nextToken 248 = .ok (.iload_n 1, 1) := by decide +kernel
theorem dX5_nextToken_249 : decode cX5_nextToken 249 = .ok (.bipush 59, 2) := by decide +kernel
theorem dX5_nextToken_251 : decode cX5_nextToken 251 = .ok (.if_icmp .ne 7, 3) := by decide +kernel
theorem dX5_nextToken_254 : decode cX5_nextToken 254 = .ok (.iconst 2, 1) := by decide +kernel
theorem dX5_nextToken_255 : decode cX5_nextToken 255 = .ok (.goto 4, 3) := by decide +kernel
theorem dX5_nextToken_258 : decode cX5_nextToken 258 = .ok (.iconst 3, 1) := by decide +kernel
theorem dX5_nextToken_259 : decode cX5_nextToken 259 = .ok (.putfield 92, 3) := by decide +kernel
theorem dX5_nextToken_262 : decode cX5_nextToken 262 = .ok (.aload_n 0, 1) := by decide +kernel
theorem dX5_nextToken_263 : decode cX5_nextToken 263 = .ok (.dup, 1) := by decide +kernel
theorem dX5_nextToken_264 : decode cX5_nextToken 264 = .ok (.getfield 82, 3) := by decide +kernel
theorem dX5_nextToken_267 : decode cX5_nextToken 267 = .ok (.iconst 1, 1) := by decide +kernel
theorem dX5_nextToken_268 : decode cX5_nextToken 268 = .ok (.iadd, 1) := by decide +kernel
theorem dX5_nextToken_269 : decode cX5_nextToken 269 = .ok (.putfield 82, 3) := by decide +kernel
theorem dX5_nextToken_272 : decode cX5_nextToken 272 = .ok (.return_, 1) := by decide +kernel
theorem dX5_numbersOf_0 : decode cX5_numbersOf 0 = .ok (.iload_n 0, 1) := by decide +kernel
theorem dX5_numbersOf_1 : decode cX5_numbersOf 1 = .ok (.iconst 2, 1) := by decide +kernel
theorem dX5_numbersOf_2 : decode cX5_numbersOf 2 = .ok (.if_icmp .ne 7, 3) := by decide +kernel
theorem dX5_numbersOf_5 : decode cX5_numbersOf 5 = .ok (.iconst 4, 1) := by decide +kernel
theorem dX5_numbersOf_6 : decode cX5_numbersOf 6 = .ok (.goto 33, 3) := by decide +kernel
theorem dX5_numbersOf_9 : decode cX5_numbersOf 9 = .ok (.iload_n 0, 1) := by decide +kernel
theorem dX5_numbersOf_10 : decode cX5_numbersOf 10 = .ok (.iconst 3, 1) := by decide +kernel
theorem dX5_numbersOf_11 : decode cX5_numbersOf 11 = .ok (.if_icmp .eq 9, 3) := by decide +kernel
theorem dX5_numbersOf_14 : decode cX5_numbersOf 14 = .ok (.iload_n 0, 1) := by decide +kernel
theorem dX5_numbersOf_15 : decode cX5_numbersOf 15 = .ok (.bipush 8, 2) := by decide +kernel
theorem dX5_numbersOf_17 : decode cX5_numbersOf 17 = .ok (.if_icmp .ne 7, 3) := by decide +kernel
theorem dX5_numbersOf_20 : decode cX5_numbersOf 20 = .ok (.iconst 3, 1) := by decide +kernel
theorem dX5_numbersOf_21 : decode cX5_numbersOf 21 = .ok (.goto 18, 3) := by decide +kernel
theorem dX5_numbersOf_24 : decode cX5_numbersOf 24 = .ok (.iload_n 0, 1) := by decide +kernel
theorem dX5_numbersOf_25 : decode cX5_numbersOf 25 = .ok (.iconst 4, 1) := by decide +kernel
theorem dX5_numbersOf_26 : decode cX5_numbersOf 26 = .ok (.if_icmp .eq 8, 3) := by decide +kernel
theorem dX5_numbersOf_29 : decode cX5_numbersOf 29 = .ok (.iload_n 0, 1) := by decide +kernel
theorem dX5_numbersOf_30 : decode cX5_numbersOf 30 = .ok (.iconst 5, 1) := by decide +kernel
theorem dX5_numbersOf_31 : decode cX5_numbersOf 31 = .ok (.if_icmp .ne 7, 3) := by decide +kernel
theorem dX5_numbersOf_34 : decode cX5_numbersOf 34 = .ok (.iconst 0, 1) := by decide +kernel
theorem dX5_numbersOf_35 : decode cX5_numbersOf 35 = .ok (.goto 4, 3) := by decide +kernel
theorem dX5_numbersOf_38 : decode cX5_numbersOf 38 = .ok (.iconst 2, 1) := by decide +kernel
theorem dX5_numbersOf_39 : decode cX5_numbersOf 39 = .ok (.ireturn, 1) := by decide +kernel
set_option maxRecDepth 20000 in
theorem ggX5_mayBe_X5_isIn : GoodIn wsX5_mayBe wsX5_isIn := goodIn_r _ [5] (by decide +kernel) (by decide +kernel)
set_option maxRecDepth 20000 in
theorem gX5_mayBe_X5_isIn : GoodIn wsX5_mayBe (va_wsS RX5 64 yX5_isIn wsX5_isIn) := goodIn_app (goodIn_of _ (by decide +kernel)) ggX5_mayBe_X5_isIn
theorem dX5_mayBe_0 : decode cX5_mayBe 0 = .ok (.aload_n 0, 1) := by decide +kernel
theorem dX5_mayBe_1 : decode cX5_mayBe 1 = .ok (.getfield 99, 3) := by decide +kernel
theorem dX5_mayBe_4 : decode cX5_mayBe 4 = .ok (.iconst 2, 1) := by decide +kernel
theorem dX5_mayBe_5 : decode cX5_mayBe 5 = .ok (.iconst 2, 1) := by decide +kernel
theorem dX5_mayBe_6 : decode cX5_mayBe 6 = .ok (.iload_n 1, 1) := by decide +kernel
theorem dX5_mayBe_7 : decode cX5_mayBe 7 = .ok (.imul, 1) := by decide +kernel
theorem dX5_mayBe_8 : decode cX5_mayBe 8 = .ok (.isub, 1) := by decide +kernel
theorem dX5_mayBe_9 : decode cX5_mayBe 9 = .ok (.iconst 3, 1) := by decide +kernel
theorem dX5_mayBe_10 : decode cX5_mayBe 10 = .ok (.iconst 2, 1) := by decide +kernel
theorem dX5_mayBe_11 : decode cX5_mayBe 11 = .ok (.iload_n 1, 1) := by decide +kernel
theorem dX5_mayBe_12 : decode cX5_mayBe 12 = .ok (.imul, 1) := by decide +kernel
theorem dX5_mayBe_13 : decode cX5_mayBe 13 = .ok (.isub, 1) := by decide +kernel
theorem dX5_mayBe_14 : decode cX5_mayBe 14 = .ok (.invokestatic 64, 3) := by decide +kernel
theorem dX5_mayBe_17 : decode cX5_mayBe 17 = .ok (.istore 4, 2) := by decide +kernel
theorem dX5_mayBe_19 : decode cX5_mayBe 19 = .ok (.aload_n 0, 1) := by decide +kernel
theorem dX5_mayBe_20 : decode cX5_mayBe 20 = .ok (.getfield 99, 3) := by decide +kernel
theorem dX5_mayBe_23 : decode cX5_mayBe 23 = .ok (.iconst 2, 1) := by decide +kernel
theorem dX5_mayBe_24 : decode cX5_mayBe 24 = .ok (.iload_n 1, 1) := by decide +kernel
theorem dX5_mayBe_25 : decode cX5_mayBe 25 = .ok (.imul, 1) := by decide +kernel
theorem dX5_mayBe_26 : decode cX5_mayBe 26 = .ok (.iconst 1, 1) := by decide +kernel
theorem dX5_mayBe_27 : decode cX5_mayBe 27 = .ok (.iconst 2, 1) := by decide +kernel
theorem dX5_mayBe_28 : decode cX5_mayBe 28 = .ok (.iload_n 1, 1) := by decide +kernel
theorem dX5_mayBe_29 : decode cX5_mayBe 29 = .ok (.imul, 1) := by decide +kernel
theorem dX5_mayBe_30 : decode cX5_mayBe 30 = .ok (.iadd, 1) := by decide +kernel
theorem dX5_mayBe_31 : decode cX5_mayBe 31 = .ok (.invokestatic 64, 3) := by decide +kernel
theorem dX5_mayBe_34 : decode cX5_mayBe 34 = .ok (.istore 5, 2) := by decide +kernel
theorem dX5_mayBe_36 : decode cX5_mayBe 36 = .ok (.iload_n 3, 1) := by decide +kernel
theorem dX5_mayBe_37 : decode cX5_mayBe 37 = .ok (.ifCond .ne 29, 3) := by decide +kernel
theorem dX5_mayBe_40 : decode cX5_mayBe 40 = .ok (.iload_n 2, 1) := by decide +kernel
theorem dX5_mayBe_41 : decode cX5_mayBe 41 = .ok (.bipush 8, 2) := by decide +kernel
theorem dX5_mayBe_43 : decode cX5_mayBe 43 = .ok (.if_icmp .eq 23, 3) := by decide +kernel
theorem dX5_mayBe_46 : decode cX5_mayBe 46 = .ok (.iload_n 2, 1) := by decide +kernel
theorem dX5_mayBe_47 : decode cX5_mayBe 47 = .ok (.bipush 6, 2) := by decide +kernel
theorem dX5_mayBe_49 : decode cX5_mayBe 49 = .ok (.if_icmp .eq 9, 3) := by decide +kernel
theorem dX5_mayBe_52 : decode cX5_mayBe 52 = .ok (.iload_n 2, 1) := by decide +kernel
theorem dX5_mayBe_53 : decode cX5_mayBe 53 = .ok (.bipush 7, 2) := by decide +kernel
theorem dX5_mayBe_55 : decode cX5_mayBe 55 = .ok (.if_icmp .ne 8, 3) := by decide +kernel
theorem dX5_mayBe_58 : decode cX5_mayBe 58 = .ok (.iload 5, 2) := by decide +kernel
theorem dX5_mayBe_60 : decode cX5_mayBe 60 = .ok (.goto 5, 3) := by decide +kernel
theorem dX5_mayBe_63 : decode cX5_mayBe 63 = .ok (.iload 4, 2) := by decide +kernel
theorem dX5_mayBe_65 : decode cX5_mayBe 65 = .ok (.ireturn, 1) := by decide +kernel
theorem dX5_mayBe_66 : decode cX5_mayBe 66 = .ok (.iload_n 2, 1) := by decide +kernel
theorem dX5_mayBe_67 : decode cX5_mayBe 67 = .ok (.bipush 8, 2) := by decide +kernel
theorem dX5_mayBe_69 : decode cX5_mayBe 69 = .ok (.if_icmp .ne 55, 3) := by decide +kernel
theorem dX5_mayBe_72 : decode cX5_mayBe 72 = .ok (.iload_n 3, 1) := by decide +kernel
theorem dX5_mayBe_73 : decode cX5_mayBe 73 = .ok (.ifCond .ne 19, 3) := by decide +kernel
theorem dX5_mayBe_76 : decode cX5_mayBe 76 = .ok (.aload_n 0, 1) := by decide +kernel
theorem dX5_mayBe_77 : decode cX5_mayBe 77 = .ok (.getfield 99, 3) := by decide +kernel
theorem dX5_mayBe_80 : decode cX5_mayBe 80 = .ok (.iconst 2, 1) := by decide +kernel
theorem dX5_mayBe_81 : decode cX5_mayBe 81 = .ok (.if_icmp .ge 7, 3) := by decide +kernel
theorem dX5_mayBe_84 : decode cX5_mayBe 84 = .ok (.iconst 1, 1) := by decide +kernel
theorem dX5_mayBe_85 : decode cX5_mayBe 85 = .ok (.goto 38, 3) := by decide +kernel
theorem dX5_mayBe_88 : decode cX5_mayBe 88 = .ok (.iconst 0, 1) := by decide +kernel
theorem dX5_mayBe_89 : decode cX5_mayBe 89 = .ok (.goto 34, 3) := by decide +kernel
theorem dX5_mayBe_92 : decode cX5_mayBe 92 = .ok (.iload_n 3, 1) := by decide +kernel
theorem dX5_mayBe_93 : decode cX5_mayBe 93 = .ok (.iconst 1, 1) := by decide +kernel
theorem dX5_mayBe_94 : decode cX5_mayBe 94 = .ok (.if_icmp .ne 19, 3) := by decide +kernel
theorem dX5_mayBe_97 : decode cX5_mayBe 97 = .ok (.aload_n 0, 1) := by decide +kernel
theorem dX5_mayBe_98 : decode cX5_mayBe 98 = .ok (.getfield 99, 3) := by decide +kernel
theorem dX5_mayBe_101 : decode cX5_mayBe 101 = .ok (.iconst 4, 1) := by decide +kernel
theorem dX5_mayBe_102 : decode cX5_mayBe 102 = .ok (.if_icmp .ge 7, 3) := by decide +kernel
theorem dX5_mayBe_105 : decode cX5_mayBe 105 = .ok (.iconst 1, 1) := by decide +kernel
theorem dX5_mayBe_106 : decode cX5_mayBe 106 = .ok (.goto 17, 3) := by decide +kernel
theorem dX5_mayBe_109 : decode cX5_mayBe 109 = .ok (.iconst 0, 1) := by decide +kernel
theorem dX5_mayBe_110 : decode cX5_mayBe 110 = .ok (.goto 13, 3) := by decide +kernel
theorem dX5_mayBe_113 : decode cX5_mayBe 113 = .ok (.aload_n 0, 1) := by decide +kernel
theorem dX5_mayBe_114 : decode cX5_mayBe 114 = .ok (.getfield 99, 3) := by decide +kernel
theorem dX5_mayBe_117 : decode cX5_mayBe 117 = .ok (.iconst 1, 1) := by decide +kernel
theorem dX5_mayBe_118 : decode cX5_mayBe 118 = .ok (.bipush 7, 2) := by decide +kernel
theorem dX5_mayBe_120 : decode cX5_mayBe 120 = .ok (.invokestatic 64, 3) := by decide +kernel
theorem dX5_mayBe_123 : decode cX5_mayBe 123 = .ok (.ireturn, 1) := by decide +kernel
theorem dX5_mayBe_124 : decode cX5_mayBe 124 = .ok (.iload_n 2, 1) := by decide +kernel
theorem dX5_mayBe_125 : decode cX5_mayBe 125 = .ok (.iconst 1, 1) := by decide +kernel
theorem dX5_mayBe_126 : decode cX5_mayBe 126 = .ok (.if_icmp .eq 9, 3) := by decide +kernel
theorem dX5_mayBe_129 : decode cX5_mayBe 129 = .ok (.iload_n 2, 1) := by decide +kernel
theorem dX5_mayBe_130 : decode cX5_mayBe 130 = .ok (.bipush 7, 2) := by decide +kernel
theorem dX5_mayBe_132 : decode cX5_mayBe 132 = .ok (.if_icmp .ne 8, 3) := by decide +kernel
theorem dX5_mayBe_135 : decode cX5_mayBe 135 = .ok (.iload_n 3, 1) := by decide +kernel
theorem dX5_mayBe_136 : decode cX5_mayBe 136 = .ok (.iconst 1, 1) := by decide +kernel
theorem dX5_mayBe_137 : decode cX5_mayBe 137 = .ok (.if_icmp .eq 23, 3) := by decide +kernel
theorem dX5_mayBe_140 : decode cX5_mayBe 140 = .ok (.iload_n 2, 1) := by decide +kernel
theorem dX5_mayBe_141 : decode cX5_mayBe 141 = .ok (.iconst 2, 1) := by decide +kernel
theorem dX5_mayBe_142 : decode cX5_mayBe 142 = .ok (.if_icmp .ne 8, 3) := by decide +kernel
theorem dX5_mayBe_145 : decode cX5_mayBe 145 = .ok (.iload_n 3, 1) := by decide +kernel
theorem dX5_mayBe_146 : decode cX5_mayBe 146 = .ok (.iconst 3, 1) := by decide +kernel
theorem dX5_mayBe_147 : decode cX5_mayBe 147 = .ok (.if_icmp .eq 13, 3) := by decide +kernel
theorem dX5_mayBe_150 : decode cX5_mayBe 150 = .ok (.iload_n 2, 1) := by decide +kernel
theorem dX5_mayBe_151 : decode cX5_mayBe 151 = .ok (.iconst 3, 1) := by decide +kernel
theorem dX5_mayBe_152 : decode cX5_mayBe 152 = .ok (.if_icmp .ne 12, 3) := by decide +kernel
theorem dX5_mayBe_155 : decode cX5_mayBe 155 = .ok (.iload_n 3, 1) := by decide +kernel
theorem dX5_mayBe_156 : decode cX5_mayBe 156 = .ok (.iconst 2, 1) := by decide +kernel
theorem dX5_mayBe_157 : decode cX5_mayBe 157 = .ok (.if_icmp .ne 7, 3) := by decide +kernel
theorem dX5_mayBe_160 : decode cX5_mayBe 160 = .ok (.iconst 1, 1) := by decide +kernel
theorem dX5_mayBe_161 : decode cX5_mayBe 161 = .ok (.goto 4, 3) := by decide +kernel
theorem dX5_mayBe_164 : decode cX5_mayBe 164 = .ok (.iconst 0, 1) := by decide +kernel
theorem dX5_mayBe_165 : decode cX5_mayBe 165 = .ok (.istore 6, 2) := by decide +kernel
theorem dX5_mayBe_167 : decode cX5_mayBe 167 = .ok (.iload 6, 2) := by decide +kernel
theorem dX5_mayBe_169 : decode cX5_mayBe 169 = .ok (.ifCond .eq 19, 3) := by decide +kernel
theorem dX5_mayBe_172 : decode cX5_mayBe 172 = .ok (.aload_n 0, 1) := by decide +kernel
theorem dX5_mayBe_173 : decode cX5_mayBe 173 = .ok (.getfield 99, 3) := by decide +kernel
theorem dX5_mayBe_176 : decode cX5_mayBe 176 = .ok (.iconst 2, 1) := by decide +kernel
theorem dX5_mayBe_177 : decode cX5_mayBe 177 = .ok (.if_icmp .ge 7, 3) := by decide +kernel
theorem dX5_mayBe_180 : decode cX5_mayBe 180 = .ok (.iconst 1, 1) := by decide +kernel
theorem dX5_mayBe_181 : decode cX5_mayBe 181 = .ok (.goto 20, 3) := by decide +kernel
theorem dX5_mayBe_184 : decode cX5_mayBe 184 = .ok (.iconst 0, 1) := by decide +kernel
theorem dX5_mayBe_185 : decode cX5_mayBe 185 = .ok (.goto 16, 3) := by decide +kernel
theorem dX5_mayBe_188 : decode cX5_mayBe 188 = .ok (.aload_n 0, 1) := by decide +kernel
theorem dX5_mayBe_189 : decode cX5_mayBe 189 = .ok (.getfield 99, 3) := by decide +kernel
theorem dX5_mayBe_192 : decode cX5_mayBe 192 = .ok (.iconst 4, 1) := by decide +kernel
theorem dX5_mayBe_193 : decode cX5_mayBe 193 = .ok (.if_icmp .ge 7, 3) := by decide +kernel
theorem dX5_mayBe_196 : decode cX5_mayBe 196 = .ok (.iconst 1, 1) := by decide +kernel
theorem dX5_mayBe_197 : decode cX5_mayBe 197 = .ok (.goto 4, 3) := by decide +kernel
theorem dX5_mayBe_200 : decode cX5_mayBe 200 = .ok (.iconst 0, 1) := by decide +kernel
theorem dX5_mayBe_201 : decode cX5_mayBe 201 = .ok (.ireturn, 1) := by decide +kernel
set_option maxRecDepth 20000 in
theorem ggX5_readProgram_X5_nextToken : GoodIn wsX5_readProgram wsX5_nextToken := goodIn_r _ [11, 2, 12, 3, 6, 13, 14, 15, 10, 16, 17, 18, 19, 20, 21, 22, 23, 24, 25, 26, 27, 28, 29, 30, 31, 32, 33, 34, 35, 36, 37, 38, 46, 47, 48, 49, 50, 51, 52, 53, 54, 55, 56, 57, 58, 59, 60, 61, 62, 63, 64, 65, 66, 67, 68] (by decide +kernel) (by decide +kernel)
set_option maxRecDepth 20000 in
theorem gX5_readProgram_X5_nextToken : GoodIn wsX5_readProgram (wsV RX5 109 RX5 yX5_nextToken wsX5_nextToken) := goodIn_app (goodIn_of _ (by decide +kernel)) ggX5_readProgram_X5_nextToken
set_option maxRecDepth 20000 in
theorem ggX5_readProgram_X5_numbersOf : GoodIn wsX5_readProgram wsX5_numbersOf := goodIn_r _ [41] (by decide +kernel) (by decide +kernel)
set_option maxRecDepth 20000 in
theorem gX5_readProgram_X5_numbersOf : GoodIn wsX5_readProgram (va_wsS RX5 112 yX5_numbersOf wsX5_numbersOf) := goodIn_app (goodIn_of _ (by decide +kernel)) ggX5_readProgram_X5_numbersOf
set_option maxRecDepth 20000 in
theorem ggX5_readProgram_X5_mayBe : GoodIn wsX5_readProgram wsX5_mayBe := goodIn_r _ [45, 6, 22, 23, 10, 24, 46, 47, 48, 49, 50, 51, 52, 53, 54, 55, 56, 57, 58, 59, 60, 61, 62, 63, 64, 65, 66, 67, 68] (by decide +kernel) (by decide +kernel)
set_option maxRecDepth 20000 in
theorem gX5_readProgram_X5_mayBe : GoodIn wsX5_readProgram (wsV RX5 115 RX5 yX5_mayBe wsX5_mayBe) := goodIn_app (goodIn_of _ (by decide +kernel)) ggX5_readProgram_X5_mayBe
theorem dX5_readProgram_0 : decode cX5_readProgram 0 = .ok (.aload_n 0, 1) := by decide +kernel
theorem dX5_readProgram_1 : decode cX5_readProgram 1 = .ok (.getfield 7, 3) := by decide +kernel
theorem dX5_readProgram_4 : decode cX5_readProgram 4 = .ok (.iconst 4, 1) := by decide +kernel
theorem dX5_readProgram_5 : decode cX5_readProgram 5 = .ok (.iconst 0, 1) := by decide +kernel
theorem dX5_readProgram_6 : decode cX5_readProgram 6 = .ok (.iastore, 1) := by decide +kernel
theorem dX5_readProgram_7 : decode cX5_readProgram 7 = .ok (.aload_n 0, 1) := by decide +kernel
theorem dX5_readProgram_8 : decode cX5_readProgram 8 = .ok (.iconst 0, 1) := by decide +kernel
theorem dX5_readProgram_9 : decode cX5_readProgram 9 = .ok (.putfield 82, 3) := by decide +kernel
theorem dX5_readProgram_12 : decode cX5_readProgram 12 = .ok (.aload_n 0, 1) := by decide +kernel
theorem dX5_readProgram_13 : decode cX5_readProgram 13 = .ok (.invokevirtual 109, 3) := by decide +kernel
theorem dX5_readProgram_16 : decode cX5_readProgram 16 = .ok (.aload_n 0, 1) := by decide +kernel
theorem dX5_readProgram_17 : decode cX5_readProgram 17 = .ok (.getfield 92, 3) := by decide +kernel
theorem dX5_readProgram_20 : decode cX5_readProgram 20 = .ok (.ifCond .eq 141, 3) := by decide +kernel
theorem dX5_readProgram_23 : decode cX5_readProgram 23 = .ok (.aload_n 0, 1) := by decide +kernel
theorem dX5_readProgram_24 : decode cX5_readProgram 24 = .ok (.getfield 92, 3) := by decide +kernel
theorem dX5_readProgram_27 : decode cX5_readProgram 27 = .ok (.iconst 4, 1) := by decide +kernel
theorem dX5_readProgram_28 : decode cX5_readProgram 28 = .ok (.if_icmp .ge 5, 3) := by decide +kernel
theorem dX5_readProgram_31 : decode cX5_readProgram 31 = .ok (.iconst 1, 1) := by decide +kernel
theorem dX5_readProgram_32 : decode cX5_readProgram 32 = .ok (.ireturn, 1) := by decide +kernel
theorem dX5_readProgram_33 : decode cX5_readProgram 33 = .ok (.aload_n 0, 1) := by decide +kernel
theorem dX5_readProgram_34 : decode cX5_readProgram 34 = .ok (.getfield 7, 3) := by decide +kernel
theorem dX5_readProgram_37 : decode cX5_readProgram 37 = .ok (.iconst 4, 1) := by decide +kernel
theorem dX5_readProgram_38 : decode cX5_readProgram 38 = .ok (.iaload, 1) := by decide +kernel
theorem dX5_readProgram_39 : decode cX5_readProgram 39 = .ok (.bipush 7, 2) := by decide +kernel
theorem dX5_readProgram_41 : decode cX5_readProgram 41 = .ok (.if_icmp .ne 5, 3) := by decide +kernel
theorem dX5_readProgram_44 : decode cX5_readProgram 44 = .ok (.iconst 3, 1) := by decide +kernel
theorem dX5_readProgram_45 : decode cX5_readProgram 45 = .ok (.ireturn, 1) := by decide +kernel
theorem dX5_readProgram_46 : decode cX5_readProgram 46 = .ok (.bipush 32, 2) := by decide +kernel
theorem dX5_readProgram_48 : decode cX5_readProgram 48 = .ok (.aload_n 0, 1) := by decide +kernel
theorem dX5_readProgram_49 : decode cX5_readProgram 49 = .ok (.getfield 7, 3) := by decide +kernel
theorem dX5_readProgram_52 : decode cX5_readProgram 52 = .ok (.iconst 4, 1) := by decide +kernel
theorem dX5_readProgram_53 : decode cX5_readProgram 53 = .ok (.iaload, 1) := by decide +kernel
theorem dX5_readProgram_54 : decode cX5_readProgram 54 = .ok (.iadd, 1) := by decide +kernel
theorem dX5_readProgram_55 : decode cX5_readProgram 55 = .ok (.istore_n 2, 1) := by decide +kernel
theorem dX5_readProgram_56 : decode cX5_readProgram 56 = .ok (.aload_n 0, 1) := by decide +kernel
theorem dX5_readProgram_57 : decode cX5_readProgram 57 = .ok (.getfield 92, 3) := by decide +kernel
theorem dX5_readProgram_60 : decode cX5_readProgram 60 = .ok (.iconst 4, 1) := by decide +kernel
theorem dX5_readProgram_61 : decode cX5_readProgram 61 = .ok (.isub, 1) := by decide +kernel
theorem dX5_readProgram_62 : decode cX5_readProgram 62 = .ok (.istore_n 3, 1) := by decide +kernel
theorem dX5_readProgram_63 : decode cX5_readProgram 63 = .ok (.aload_n 0, 1) := by decide +kernel
theorem dX5_readProgram_64 : decode cX5_readProgram 64 = .ok (.getfield 13, 3) := by decide +kernel
theorem dX5_readProgram_67 : decode cX5_readProgram 67 = .ok (.iload_n 2, 1) := by decide +kernel
theorem dX5_readProgram_68 : decode cX5_readProgram 68 = .ok (.iload_n 3, 1) := by decide +kernel
theorem dX5_readProgram_69 : decode cX5_readProgram 69 = .ok (.iastore, 1) := by decide +kernel
theorem dX5_readProgram_70 : decode cX5_readProgram 70 = .ok (.aload_n 0, 1) := by decide +kernel
theorem dX5_readProgram_71 : decode cX5_readProgram 71 = .ok (.invokevirtual 109, 3) := by decide +kernel
theorem dX5_readProgram_74 : decode cX5_readProgram 74 = .ok (.iconst 0, 1) := by decide +kernel
theorem dX5_readProgram_75 : decode cX5_readProgram 75 = .ok (.istore 4, 2) := by decide +kernel
theorem dX5_readProgram_77 : decode cX5_readProgram 77 = .ok (.iload 4, 2) := by decide +kernel
theorem dX5_readProgram_79 : decode cX5_readProgram 79 = .ok (.iload_n 3, 1) := by decide +kernel
theorem dX5_readProgram_80 : decode cX5_readProgram 80 = .ok (.invokestatic 112, 3) := by decide +kernel
theorem dX5_readProgram_83 : decode cX5_readProgram 83 = .ok (.if_icmp .ge 51, 3) := by decide +kernel
theorem dX5_readProgram_86 : decode cX5_readProgram 86 = .ok (.aload_n 0, 1) := by decide +kernel
theorem dX5_readProgram_87 : decode cX5_readProgram 87 = .ok (.getfield 92, 3) := by decide +kernel
theorem dX5_readProgram_90 : decode cX5_readProgram 90 = .ok (.iconst 1, 1) := by decide +kernel
theorem dX5_readProgram_91 : decode cX5_readProgram 91 = .ok (.if_icmp .eq 5, 3) := by decide +kernel
theorem dX5_readProgram_94 : decode cX5_readProgram 94 = .ok (.iconst 1, 1) := by decide +kernel
theorem dX5_readProgram_95 : decode cX5_readProgram 95 = .ok (.ireturn, 1) := by decide +kernel
theorem dX5_readProgram_96 : decode cX5_readProgram 96 = .ok (.aload_n 0, 1) := by decide +kernel
theorem dX5_readProgram_97 : decode cX5_readProgram 97 = .ok (.iload_n 1, 1) := by decide +kernel
theorem dX5_readProgram_98 : decode cX5_readProgram 98 = .ok (.iload_n 3, 1) := by decide +kernel
theorem dX5_readProgram_99 : decode cX5_readProgram 99 = .ok (.iload 4, 2) := by decide +kernel
theorem dX5_readProgram_101 : decode cX5_readProgram 101 = .ok (.invokevirtual 115, 3) := by decide +kernel
theorem dX5_readProgram_104 : decode cX5_readProgram 104 = .ok (.ifCond .ne 5, 3) := by decide +kernel
theorem dX5_readProgram_107 : decode cX5_readProgram 107 = .ok (.iconst 2, 1) := by decide +kernel
theorem dX5_readProgram_108 : decode cX5_readProgram 108 = .ok (.ireturn, 1) := by decide +kernel
theorem dX5_readProgram_109 : decode cX5_readProgram 109 = .ok (.aload_n 0, 1) := by decide +kernel
theorem dX5_readProgram_110 : decode cX5_readProgram 110 = .ok (.getfield 16, 3) := by decide +kernel
theorem dX5_readProgram_113 : decode cX5_readProgram 113 = .ok (.iconst 4, 1) := by decide +kernel
theorem dX5_readProgram_114 : decode cX5_readProgram 114 = .ok (.iload_n 2, 1) := by decide +kernel
theorem dX5_readProgram_115 : decode cX5_readProgram 115 = .ok (.imul, 1) := by decide +kernel
theorem dX5_readProgram_116 : decode cX5_readProgram 116 = .ok (.iload 4, 2) := by decide +kernel
theorem dX5_readProgram_118 : decode cX5_readProgram 118 = .ok (.iadd, 1) := by decide +kernel
theorem dX5_readProgram_119 : decode cX5_readProgram 119 = .ok (.aload_n 0, 1) := by decide +kernel
theorem dX5_readProgram_120 : decode cX5_readProgram 120 = .ok (.getfield 99, 3) := by decide +kernel
theorem dX5_readProgram_123 : decode cX5_readProgram 123 = .ok (.iastore, 1) := by decide +kernel
theorem dX5_readProgram_124 : decode cX5_readProgram 124 = .ok (.aload_n 0, 1) := by decide +kernel
theorem dX5_readProgram_125 : decode cX5_readProgram 125 = .ok (.invokevirtual 109, 3) := by decide +kernel
theorem dX5_readProgram_128 : decode cX5_readProgram 128 = .ok (.iinc 4 1, 3) := by decide +kernel
theorem dX5_readProgram_131 : decode cX5_readProgram 131 = .ok (.goto (-54), 3) := by decide +kernel
theorem dX5_readProgram_134 : decode cX5_readProgram 134 = .ok (.aload_n 0, 1) := by decide +kernel
theorem dX5_readProgram_135 : decode cX5_readProgram 135 = .ok (.getfield 92, 3) := by decide +kernel
theorem dX5_readProgram_138 : decode cX5_readProgram 138 = .ok (.iconst 2, 1) := by decide +kernel
theorem dX5_readProgram_139 : decode cX5_readProgram 139 = .ok (.if_icmp .eq 5, 3) := by decide +kernel
theorem dX5_readProgram_142 : decode cX5_readProgram 142 = .ok (.iconst 1, 1) := by decide +kernel
theorem dX5_readProgram_143 : decode cX5_readProgram 143 = .ok (.ireturn, 1) := by decide +kernel
theorem dX5_readProgram_144 : decode cX5_readProgram 144 = .ok (.aload_n 0, 1) := by decide +kernel
theorem dX5_readProgram_145 : decode cX5_readProgram 145 = .ok (.getfield 7, 3) := by decide +kernel
theorem dX5_readProgram_148 : decode cX5_readProgram 148 = .ok (.iconst 4, 1) := by decide +kernel
theorem dX5_readProgram_149 : decode cX5_readProgram 149 = .ok (.dup2, 1) := by decide +kernel
theorem dX5_readProgram_150 : decode cX5_readProgram 150 = .ok (.iaload, 1) := by decide +kernel
theorem dX5_readProgram_151 : decode cX5_readProgram 151 = .ok (.iconst 1, 1) := by decide +kernel
theorem dX5_readProgram_152 : decode cX5_readProgram 152 = .ok (.iadd, 1) := by decide +kernel
theorem dX5_readProgram_153 : decode cX5_readProgram 153 = .ok (.iastore, 1) := by decide +kernel
theorem dX5_readProgram_154 : decode cX5_readProgram 154 = .ok (.aload_n 0, 1) := by decide +kernel
theorem dX5_readProgram_155 : decode cX5_readProgram 155 = .ok (.invokevirtual 109, 3) := by decide +kernel
theorem dX5_readProgram_158 : decode cX5_readProgram 158 = .ok (.goto (-142), 3) := by decide +kernel
theorem dX5_readProgram_161 : decode cX5_readProgram 161 = .ok (.iconst 0, 1) := by decide +kernel
theorem dX5_readProgram_162 : decode cX5_readProgram 162 = .ok (.ireturn, 1) := by decide +kernel
theorem dX5_copyTo_0 : decode cX5_copyTo 0 = .ok (.aload_n 0, 1) := by decide +kernel
theorem dX5_copyTo_1 : decode cX5_copyTo 1 = .ok (.getfield 13, 3) := by decide +kernel
theorem dX5_copyTo_4 : decode cX5_copyTo 4 = .ok (.iload_n 2, 1) := by decide +kernel
theorem dX5_copyTo_5 : decode cX5_copyTo 5 = .ok (.aload_n 0, 1) := by decide +kernel
theorem dX5_copyTo_6 : decode cX5_copyTo 6 = .ok (.getfield 13, 3) := by decide +kernel
theorem dX5_copyTo_9 : decode cX5_copyTo 9 = .ok (.iload_n 1, 1) := by decide +kernel
theorem dX5_copyTo_10 : decode cX5_copyTo 10 = .ok (.iaload, 1) := by decide +kernel
theorem dX5_copyTo_11 : decode cX5_copyTo 11 = .ok (.iastore, 1) := by decide +kernel
theorem dX5_copyTo_12 : decode cX5_copyTo 12 = .ok (.iconst 0, 1) := by decide +kernel
theorem dX5_copyTo_13 : decode cX5_copyTo 13 = .ok (.istore_n 3, 1) := by decide +kernel
theorem dX5_copyTo_14 : decode cX5_copyTo 14 = .ok (.iload_n 3, 1) := by decide +kernel
theorem dX5_copyTo_15 : decode cX5_copyTo 15 = .ok (.iconst 4, 1) := by decide +kernel
theorem dX5_copyTo_16 : decode cX5_copyTo 16 = .ok (.if_icmp .ge 29, 3) := by decide +kernel
theorem dX5_copyTo_19 : decode cX5_copyTo 19 = .ok (.aload_n 0, 1) := by decide +kernel
theorem dX5_copyTo_20 : decode cX5_copyTo 20 = .ok (.getfield 16, 3) := by decide +kernel
theorem dX5_copyTo_23 : decode cX5_copyTo 23 = .ok (.iconst 4, 1) := by decide +kernel
theorem dX5_copyTo_24 : decode cX5_copyTo 24 = .ok (.iload_n 2, 1) := by decide +kernel
theorem dX5_copyTo_25 : decode cX5_copyTo 25 = .ok (.imul, 1) := by decide +kernel
theorem dX5_copyTo_26 : decode cX5_copyTo 26 = .ok (.iload_n 3, 1) := by decide +kernel
theorem dX5_copyTo_27 : decode cX5_copyTo 27 = .ok (.iadd, 1) := by decide +kernel
theorem dX5_copyTo_28 : decode cX5_copyTo 28 = .ok (.aload_n 0, 1) := by decide +kernel
theorem dX5_copyTo_29 : decode cX5_copyTo 29 = .ok (.getfield 16, 3) := by decide +kernel
theorem dX5_copyTo_32 : decode cX5_copyTo 32 = .ok (.iconst 4, 1) := by decide +kernel
theorem dX5_copyTo_33 : decode cX5_copyTo 33 = .ok (.iload_n 1, 1) := by decide +kernel
theorem dX5_copyTo_34 : decode cX5_copyTo 34 = .ok (.imul, 1) := by decide +kernel
theorem dX5_copyTo_35 : decode cX5_copyTo 35 = .ok (.iload_n 3, 1) := by decide +kernel
theorem dX5_copyTo_36 : decode cX5_copyTo 36 = .ok (.iadd, 1) := by decide +kernel
theorem dX5_copyTo_37 : decode cX5_copyTo 37 = .ok (.iaload, 1) := by decide +kernel
theorem dX5_copyTo_38 : decode cX5_copyTo 38 = .ok (.iastore, 1) := by decide +kernel
theorem dX5_copyTo_39 : decode cX5_copyTo 39 = .ok (.iinc 3 1, 3) := by decide +kernel
theorem dX5_copyTo_42 : decode cX5_copyTo 42 = .ok (.goto (-28), 3) := by decide +kernel
theorem dX5_copyTo_45 : decode cX5_copyTo 45 = .ok (.return_, 1) := by decide +kernel
set_option maxRecDepth 20000 in
theorem ggX5_program_X5_isIn : GoodIn wsX5_program wsX5_isIn := goodIn_r _ [10] (by decide +kernel) (by decide +kernel)
set_option maxRecDepth 20000 in
theorem gX5_program_X5_isIn : GoodIn wsX5_program (va_wsS RX5 64 yX5_isIn wsX5_isIn) := goodIn_app (goodIn_of _ (by decide +kernel)) ggX5_program_X5_isIn
set_option maxRecDepth 20000 in
theorem ggX5_program_X5_readProgram : GoodIn wsX5_program wsX5_readProgram := goodIn_r _ [14, 5, 15, 16, 17, 18, 19, 20, 21, 22, 9, 23, 2, 24, 25, 26, 27, 4, 28, 29, 30, 31, 7, 8, 10, 32, 33, 34, 35, 36, 37, 38, 39, 40, 41, 42, 43, 44, 45, 46, 47, 48, 49, 50, 51, 52, 57, 58, 59, 60, 61, 62, 63, 64, 65, 66, 67, 68, 69, 70, 71, 72, 73, 74, 75, 76, 77, 78, 79] (by decide +kernel) (by decide +kernel)
set_option maxRecDepth 20000 in
theorem gX5_program_X5_readProgram : GoodIn wsX5_program (wsV RX5 118 RX5 yX5_readProgram wsX5_readProgram) := goodIn_app (goodIn_of _ (by decide +kernel)) ggX5_program_X5_readProgram
set_option maxRecDepth 20000 in
theorem ggX5_program_X5_copyTo : GoodIn wsX5_program wsX5_copyTo := goodIn_r _ [56, 17, 18, 57, 58, 59, 60, 61, 62, 63, 64, 65, 66, 67, 68, 69, 70, 71, 72, 73, 74, 75, 76, 77, 78, 79] (by decide +kernel) (by decide +kernel)
set_option maxRecDepth 20000 in
theorem gX5_program_X5_copyTo : GoodIn wsX5_program (wsV RX5 121 RX5 yX5_copyTo wsX5_copyTo) := goodIn_app (goodIn_of _ (by decide +kernel)) ggX5_program_X5_copyTo
theorem dX5_program_0 : decode cX5_program 0 = .ok (.iload_n 1, 1) := by decide +kernel
theorem dX5_program_1 : decode cX5_program 1 = .ok (.iconst 0, 1) := by decide +kernel
theorem dX5_program_2 : decode cX5_program 2 = .ok (.iconst 1, 1) := by decide +kernel
theorem dX5_program_3 : decode cX5_program 3 = .ok (.invokestatic 64, 3) := by decide +kernel
theorem dX5_program_6 : decode cX5_program 6 = .ok (.ifCond .ne 5, 3) := by decide +kernel
theorem dX5_program_9 : decode cX5_program 9 = .ok (.iconst (-1), 1) := by decide +kernel
theorem dX5_program_10 : decode cX5_program 10 = .ok (.ireturn, 1) := by decide +kernel
theorem dX5_program_11 : decode cX5_program 11 = .ok (.aload_n 0, 1) := by decide +kernel
theorem dX5_program_12 : decode cX5_program 12 = .ok (.aload_n 0, 1) := by decide +kernel
theorem dX5_program_13 : decode cX5_program 13 = .ok (.iload_n 1, 1) := by decide +kernel
theorem dX5_program_14 : decode cX5_program 14 = .ok (.invokevirtual 118, 3) := by decide +kernel
theorem dX5_program_17 : decode cX5_program 17 = .ok (.putfield 28, 3) := by decide +kernel
theorem dX5_program_20 : decode cX5_program 20 = .ok (.aload_n 0, 1) := by decide +kernel
theorem dX5_program_21 : decode cX5_program 21 = .ok (.aload_n 0, 1) := by decide +kernel
