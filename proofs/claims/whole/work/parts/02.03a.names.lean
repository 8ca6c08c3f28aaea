theorem dX2_init_16 : decode cX2_init 16 = .ok (.putfield 18, 3) := by decide +kernel
theorem dX2_init_19 : decode cX2_init 19 = .ok (.aload_n 0, 1) := by decide +kernel
theorem dX2_init_20 : decode cX2_init 20 = .ok (.iconst 0, 1) := by decide +kernel
theorem dX2_init_21 : decode cX2_init 21 = .ok (.putfield 21, 3) := by decide +kernel
theorem dX2_init_24 : decode cX2_init 24 = .ok (.return_, 1) := by decide +kernel
set_option maxRecDepth 20000 in
theorem ggX2_read_X2_isBlank : GoodIn wsX2_read wsX2_isBlank := goodIn_r _ [8] (by decide +kernel) (by decide +kernel)
set_option maxRecDepth 20000 in
theorem gX2_read_X2_isBlank : GoodIn wsX2_read (va_wsS RX2 29 yX2_isBlank wsX2_isBlank) := goodIn_app (goodIn_of _ (by decide +kernel)) ggX2_read_X2_isBlank
set_option maxRecDepth 20000 in
theorem ggX2_read_X2_tokenEnd : GoodIn wsX2_read wsX2_tokenEnd := goodIn_r _ [11, 12, 13, 7, 14, 15, 16, 17] (by decide +kernel) (by decide +kernel)
set_option maxRecDepth 20000 in
theorem gX2_read_X2_tokenEnd : GoodIn wsX2_read (va_wsS RX2 33 yX2_tokenEnd wsX2_tokenEnd) := goodIn_app (goodIn_of _ (by decide +kernel)) ggX2_read_X2_tokenEnd
set_option maxRecDepth 20000 in
theorem ggX2_read_X2_take : GoodIn wsX2_read wsX2_take := goodIn_r _ [21, 2, 22, 1, 12, 13, 7, 14, 23, 24, 25, 26, 27, 28, 29, 30, 31, 32, 33, 34, 35, 36, 37, 38, 39, 40, 41, 42, 43, 44, 45, 46, 47, 48, 49, 50, 51, 52, 53, 54, 55, 56, 57, 58, 59, 60, 61, 62, 63, 64, 65, 66, 67, 68, 69, 70, 71, 72, 73, 74, 75, 76, 77, 78, 79, 80, 81, 82, 83, 84, 85, 86, 87, 88, 89, 90, 3, 4, 15, 16, 17, 91, 92, 93, 94, 95, 96, 97, 98, 99, 100, 101, 102, 103, 104, 105, 106, 107, 108, 109, 110, 111, 112, 113, 114, 115, 116, 117, 121, 122, 123, 124, 118, 119, 120] (by decide +kernel) (by decide +kernel)
set_option maxRecDepth 20000 in
theorem gX2_read_X2_take : GoodIn wsX2_read (wsV RX2 37 RX2 yX2_take wsX2_take) := goodIn_app (goodIn_of _ (by decide +kernel)) ggX2_read_X2_take
set_option maxRecDepth 20000 in
theorem ggX2_read_X2_refuse : GoodIn wsX2_read wsX2_refuse := goodIn_r _ [90, 3, 4, 121, 122, 123, 124] (by decide +kernel) (by decide +kernel)
set_option maxRecDepth 20000 in
theorem gX2_read_X2_refuse : GoodIn wsX2_read (wsV RX2 41 RX2 yX2_refuse wsX2_refuse) := goodIn_app (goodIn_of _ (by decide +kernel)) ggX2_read_X2_refuse
theorem dX2_read_0 : decode cX2_read 0 = .ok (.aload 4, 2) := by decide +kernel
theorem dX2_read_2 : decode cX2_read 2 = .ok (.iconst 0, 1) := by decide +kernel
theorem dX2_read_3 : decode cX2_read 3 = .ok (.putfield 24, 3) := by decide +kernel
theorem dX2_read_6 : decode cX2_read 6 = .ok (.aload_n 0, 1) := by decide +kernel
theorem dX2_read_7 : decode cX2_read 7 = .ok (.iconst (-1), 1) := by decide +kernel
theorem dX2_read_8 : decode cX2_read 8 = .ok (.putfield 18, 3) := by decide +kernel
theorem dX2_read_11 : decode cX2_read 11 = .ok (.aload_n 0, 1) := by decide +kernel
theorem dX2_read_12 : decode cX2_read 12 = .ok (.iconst 0, 1) := by decide +kernel
theorem dX2_read_13 : decode cX2_read 13 = .ok (.putfield 9, 3) := by decide +kernel
theorem dX2_read_16 : decode cX2_read 16 = .ok (.aload_n 0, 1) := by decide +kernel
theorem dX2_read_17 : decode cX2_read 17 = .ok (.iconst (-1), 1) := by decide +kernel
theorem dX2_read_18 : decode cX2_read 18 = .ok (.putfield 15, 3) := by decide +kernel
theorem dX2_read_21 : decode cX2_read 21 = .ok (.iconst 0, 1) := by decide +kernel
theorem dX2_read_22 : decode cX2_read 22 = .ok (.istore 5, 2) := by decide +kernel
theorem dX2_read_24 : decode cX2_read 24 = .ok (.iconst 0, 1) := by decide +kernel
theorem dX2_read_25 : decode cX2_read 25 = .ok (.istore 6, 2) := by decide +kernel
theorem dX2_read_27 : decode cX2_read 27 = .ok (.iload 6, 2) := by decide +kernel
theorem dX2_read_29 : decode cX2_read 29 = .ok (.iload_n 2, 1) := by decide +kernel
theorem dX2_read_30 : decode cX2_read 30 = .ok (.if_icmp .ge 54, 3) := by decide +kernel
theorem dX2_read_33 : decode cX2_read 33 = .ok (.aload_n 0, 1) := by decide +kernel
theorem dX2_read_34 : decode cX2_read 34 = .ok (.getfield 9, 3) := by decide +kernel
theorem dX2_read_37 : decode cX2_read 37 = .ok (.ifCond .ne 47, 3) := by decide +kernel
theorem dX2_read_40 : decode cX2_read 40 = .ok (.iload 6, 2) := by decide +kernel
theorem dX2_read_42 : decode cX2_read 42 = .ok (.iload 5, 2) := by decide +kernel
theorem dX2_read_44 : decode cX2_read 44 = .ok (.if_icmp .lt 34, 3) := by decide +kernel
theorem dX2_read_47 : decode cX2_read 47 = .ok (.aload_n 1, 1) := by decide +kernel
theorem dX2_read_48 : decode cX2_read 48 = .ok (.iload 6, 2) := by decide +kernel
theorem dX2_read_50 : decode cX2_read 50 = .ok (.baload, 1) := by decide +kernel
theorem dX2_read_51 : decode cX2_read 51 = .ok (.invokestatic 29, 3) := by decide +kernel
theorem dX2_read_54 : decode cX2_read 54 = .ok (.ifCond .ne 24, 3) := by decide +kernel
theorem dX2_read_57 : decode cX2_read 57 = .ok (.aload_n 1, 1) := by decide +kernel
theorem dX2_read_58 : decode cX2_read 58 = .ok (.iload 6, 2) := by decide +kernel
theorem dX2_read_60 : decode cX2_read 60 = .ok (.iload_n 2, 1) := by decide +kernel
theorem dX2_read_61 : decode cX2_read 61 = .ok (.invokestatic 33, 3) := by decide +kernel
theorem dX2_read_64 : decode cX2_read 64 = .ok (.istore 5, 2) := by decide +kernel
theorem dX2_read_66 : decode cX2_read 66 = .ok (.aload_n 0, 1) := by decide +kernel
theorem dX2_read_67 : decode cX2_read 67 = .ok (.aload_n 1, 1) := by decide +kernel
theorem dX2_read_68 : decode cX2_read 68 = .ok (.iload 6, 2) := by decide +kernel
theorem dX2_read_70 : decode cX2_read 70 = .ok (.iload 5, 2) := by decide +kernel
theorem dX2_read_72 : decode cX2_read 72 = .ok (.iload_n 3, 1) := by decide +kernel
theorem dX2_read_73 : decode cX2_read 73 = .ok (.aload 4, 2) := by decide +kernel
theorem dX2_read_75 : decode cX2_read 75 = .ok (.invokevirtual 37, 3) := by decide +kernel
theorem dX2_read_78 : decode cX2_read 78 = .ok (.iinc 6 1, 3) := by decide +kernel
theorem dX2_read_81 : decode cX2_read 81 = .ok (.goto (-54), 3) := by decide +kernel
theorem dX2_read_84 : decode cX2_read 84 = .ok (.aload_n 0, 1) := by decide +kernel
theorem dX2_read_85 : decode cX2_read 85 = .ok (.getfield 9, 3) := by decide +kernel
theorem dX2_read_88 : decode cX2_read 88 = .ok (.ifCond .ne 17, 3) := by decide +kernel
theorem dX2_read_91 : decode cX2_read 91 = .ok (.aload_n 0, 1) := by decide +kernel
theorem dX2_read_92 : decode cX2_read 92 = .ok (.getfield 18, 3) := by decide +kernel
theorem dX2_read_95 : decode cX2_read 95 = .ok (.iconst (-1), 1) := by decide +kernel
theorem dX2_read_96 : decode cX2_read 96 = .ok (.if_icmp .eq 9, 3) := by decide +kernel
theorem dX2_read_99 : decode cX2_read 99 = .ok (.aload_n 0, 1) := by decide +kernel
theorem dX2_read_100 : decode cX2_read 100 = .ok (.iconst 1, 1) := by decide +kernel
theorem dX2_read_101 : decode cX2_read 101 = .ok (.iload_n 2, 1) := by decide +kernel
theorem dX2_read_102 : decode cX2_read 102 = .ok (.invokevirtual 41, 3) := by decide +kernel
theorem dX2_read_105 : decode cX2_read 105 = .ok (.return_, 1) := by decide +kernel
theorem dX2_refuse_0 : decode cX2_refuse 0 = .ok (.aload_n 0, 1) := by decide +kernel
theorem dX2_refuse_1 : decode cX2_refuse 1 = .ok (.iload_n 1, 1) := by decide +kernel
theorem dX2_refuse_2 : decode cX2_refuse 2 = .ok (.putfield 9, 3) := by decide +kernel
theorem dX2_refuse_5 : decode cX2_refuse 5 = .ok (.aload_n 0, 1) := by decide +kernel
theorem dX2_refuse_6 : decode cX2_refuse 6 = .ok (.iload_n 2, 1) := by decide +kernel
theorem dX2_refuse_7 : decode cX2_refuse 7 = .ok (.putfield 15, 3) := by decide +kernel
theorem dX2_refuse_10 : decode cX2_refuse 10 = .ok (.return_, 1) := by decide +kernel
set_option maxRecDepth 20000 in
theorem ggX2_take_X2_isLetter : GoodIn wsX2_take wsX2_isLetter := goodIn_r _ [7] (by decide +kernel) (by decide +kernel)
set_option maxRecDepth 20000 in
theorem gX2_take_X2_isLetter : GoodIn wsX2_take (va_wsS RX2 45 yX2_isLetter wsX2_isLetter) := goodIn_app (goodIn_of _ (by decide +kernel)) ggX2_take_X2_isLetter
set_option maxRecDepth 20000 in
theorem ggX2_take_X2_takeName : GoodIn wsX2_take wsX2_takeName := goodIn_r _ [11, 1, 3, 2, 12, 13, 14, 6, 15, 16, 17, 18, 19, 20, 21, 22, 23, 24, 25, 26, 27, 28, 29, 30, 31, 32, 33, 34, 35, 36, 37, 38, 39, 40, 41, 42, 43, 44, 45, 46, 47, 48, 49, 50, 51, 52, 53, 54, 55, 56, 57, 58, 59, 60, 61, 62, 63, 64, 65, 66, 67, 68, 69, 70, 71, 72, 73, 74, 75, 76, 77, 108, 109, 110, 111, 112, 113, 114] (by decide +kernel) (by decide +kernel)
set_option maxRecDepth 20000 in
theorem gX2_take_X2_takeName : GoodIn wsX2_take (wsV RX2 48 RX2 yX2_takeName wsX2_takeName) := goodIn_app (goodIn_of _ (by decide +kernel)) ggX2_take_X2_takeName
set_option maxRecDepth 20000 in
theorem ggX2_take_X2_isDigit : GoodIn wsX2_take wsX2_isDigit := goodIn_r _ [80] (by decide +kernel) (by decide +kernel)
set_option maxRecDepth 20000 in
theorem gX2_take_X2_isDigit : GoodIn wsX2_take (va_wsS RX2 52 yX2_isDigit wsX2_isDigit) := goodIn_app (goodIn_of _ (by decide +kernel)) ggX2_take_X2_isDigit
set_option maxRecDepth 20000 in
theorem ggX2_take_X2_takeNumber : GoodIn wsX2_take wsX2_takeNumber := goodIn_r _ [84, 1, 2, 3, 85, 86, 18, 87, 88, 89, 90, 6, 91, 92, 93, 94, 95, 72, 73, 74, 75, 76, 77, 96, 97, 98, 99, 100, 101, 102, 103, 108, 109, 110, 111, 112, 113, 114] (by decide +kernel) (by decide +kernel)
set_option maxRecDepth 20000 in
theorem gX2_take_X2_takeNumber : GoodIn wsX2_take (wsV RX2 55 RX2 yX2_takeNumber wsX2_takeNumber) := goodIn_app (goodIn_of _ (by decide +kernel)) ggX2_take_X2_takeNumber
set_option maxRecDepth 20000 in
theorem ggX2_take_X1_numbersOf : GoodIn wsX2_take wsX1_numbersOf := goodIn_r _ [106, 107, 86, 18, 87, 88] (by decide +kernel) (by decide +kernel)
set_option maxRecDepth 20000 in
theorem gX2_take_X1_numbersOf : GoodIn wsX2_take (va_wsS RX2 58 yX1_numbersOf wsX1_numbersOf) := goodIn_app (goodIn_of _ (by decide +kernel)) ggX2_take_X1_numbersOf
set_option maxRecDepth 20000 in
theorem ggX2_take_X2_refuse : GoodIn wsX2_take wsX2_refuse := goodIn_r _ [75, 76, 77, 108, 109, 110, 111] (by decide +kernel) (by decide +kernel)
set_option maxRecDepth 20000 in
theorem gX2_take_X2_refuse : GoodIn wsX2_take (wsV RX2 41 RX2 yX2_refuse wsX2_refuse) := goodIn_app (goodIn_of _ (by decide +kernel)) ggX2_take_X2_refuse
theorem dX2_take_0 : decode cX2_take 0 = .ok (.aload_n 1, 1) := by decide +kernel
theorem dX2_take_1 : decode cX2_take 1 = .ok (.iload_n 2, 1) := by decide +kernel
theorem dX2_take_2 : decode cX2_take 2 = .ok (.baload, 1) := by decide +kernel
theorem dX2_take_3 : decode cX2_take 3 = .ok (.invokestatic 45, 3) := by decide +kernel
theorem dX2_take_6 : decode cX2_take 6 = .ok (.ifCond .eq 15, 3) := by decide +kernel
theorem dX2_take_9 : decode cX2_take 9 = .ok (.aload_n 0, 1) := by decide +kernel
theorem dX2_take_10 : decode cX2_take 10 = .ok (.aload_n 1, 1) := by decide +kernel
theorem dX2_take_11 : decode cX2_take 11 = .ok (.iload_n 2, 1) := by decide +kernel
theorem dX2_take_12 : decode cX2_take 12 = .ok (.iload_n 3, 1) := by decide +kernel
theorem dX2_take_13 : decode cX2_take 13 = .ok (.aload 5, 2) := by decide +kernel
theorem dX2_take_15 : decode cX2_take 15 = .ok (.invokevirtual 48, 3) := by decide +kernel
theorem dX2_take_18 : decode cX2_take 18 = .ok (.goto 81, 3) := by decide +kernel
theorem dX2_take_21 : decode cX2_take 21 = .ok (.aload_n 1, 1) := by decide +kernel
theorem dX2_take_22 : decode cX2_take 22 = .ok (.iload_n 2, 1) := by decide +kernel
theorem dX2_take_23 : decode cX2_take 23 = .ok (.baload, 1) := by decide +kernel
theorem dX2_take_24 : decode cX2_take 24 = .ok (.invokestatic 52, 3) := by decide +kernel
theorem dX2_take_27 : decode cX2_take 27 = .ok (.ifCond .eq 17, 3) := by decide +kernel
theorem dX2_take_30 : decode cX2_take 30 = .ok (.aload_n 0, 1) := by decide +kernel
theorem dX2_take_31 : decode cX2_take 31 = .ok (.aload_n 1, 1) := by decide +kernel
theorem dX2_take_32 : decode cX2_take 32 = .ok (.iload_n 2, 1) := by decide +kernel
theorem dX2_take_33 : decode cX2_take 33 = .ok (.iload_n 3, 1) := by decide +kernel
theorem dX2_take_34 : decode cX2_take 34 = .ok (.iload 4, 2) := by decide +kernel
theorem dX2_take_36 : decode cX2_take 36 = .ok (.aload 5, 2) := by decide +kernel
theorem dX2_take_38 : decode cX2_take 38 = .ok (.invokevirtual 55, 3) := by decide +kernel
theorem dX2_take_41 : decode cX2_take 41 = .ok (.goto 58, 3) := by decide +kernel
theorem dX2_take_44 : decode cX2_take 44 = .ok (.aload_n 1, 1) := by decide +kernel
theorem dX2_take_45 : decode cX2_take 45 = .ok (.iload_n 2, 1) := by decide +kernel
theorem dX2_take_46 : decode cX2_take 46 = .ok (.baload, 1) := by decide +kernel
theorem dX2_take_47 : decode cX2_take 47 = .ok (.bipush 59, 2) := by decide +kernel
theorem dX2_take_49 : decode cX2_take 49 = .ok (.if_icmp .ne 44, 3) := by decide +kernel
theorem dX2_take_52 : decode cX2_take 52 = .ok (.aload_n 0, 1) := by decide +kernel
theorem dX2_take_53 : decode cX2_take 53 = .ok (.getfield 18, 3) := by decide +kernel
theorem dX2_take_56 : decode cX2_take 56 = .ok (.iconst (-1), 1) := by decide +kernel
theorem dX2_take_57 : decode cX2_take 57 = .ok (.if_icmp .eq 36, 3) := by decide +kernel
theorem dX2_take_60 : decode cX2_take 60 = .ok (.aload_n 0, 1) := by decide +kernel
theorem dX2_take_61 : decode cX2_take 61 = .ok (.getfield 21, 3) := by decide +kernel
theorem dX2_take_64 : decode cX2_take 64 = .ok (.aload_n 0, 1) := by decide +kernel
theorem dX2_take_65 : decode cX2_take 65 = .ok (.getfield 18, 3) := by decide +kernel
theorem dX2_take_68 : decode cX2_take 68 = .ok (.invokestatic 58, 3) := by decide +kernel
theorem dX2_take_71 : decode cX2_take 71 = .ok (.if_icmp .ne 22, 3) := by decide +kernel
theorem dX2_take_74 : decode cX2_take 74 = .ok (.aload_n 0, 1) := by decide +kernel
theorem dX2_take_75 : decode cX2_take 75 = .ok (.iconst (-1), 1) := by decide +kernel
theorem dX2_take_76 : decode cX2_take 76 = .ok (.putfield 18, 3) := by decide +kernel
theorem dX2_take_79 : decode cX2_take 79 = .ok (.aload 5, 2) := by decide +kernel
theorem dX2_take_81 : decode cX2_take 81 = .ok (.dup, 1) := by decide +kernel
theorem dX2_take_82 : decode cX2_take 82 = .ok (.getfield 24, 3) := by decide +kernel
theorem dX2_take_85 : decode cX2_take 85 = .ok (.iconst 1, 1) := by decide +kernel
theorem dX2_take_86 : decode cX2_take 86 = .ok (.iadd, 1) := by decide +kernel
theorem dX2_take_87 : decode cX2_take 87 = .ok (.putfield 24, 3) := by decide +kernel
theorem dX2_take_90 : decode cX2_take 90 = .ok (.goto 9, 3) := by decide +kernel
theorem dX2_take_93 : decode cX2_take 93 = .ok (.aload_n 0, 1) := by decide +kernel
theorem dX2_take_94 : decode cX2_take 94 = .ok (.iconst 1, 1) := by decide +kernel
theorem dX2_take_95 : decode cX2_take 95 = .ok (.iload_n 2, 1) := by decide +kernel
theorem dX2_take_96 : decode cX2_take 96 = .ok (.invokevirtual 41, 3) := by decide +kernel
theorem dX2_take_99 : decode cX2_take 99 = .ok (.return_, 1) := by decide +kernel
set_option maxRecDepth 20000 in
theorem ggX2_takeName_X2_sortNamed : GoodIn wsX2_takeName wsX2_sortNamed := goodIn_r _ [8, 9, 10, 11, 12, 13, 14, 7, 15, 16, 17, 18, 19, 20, 21, 22, 23, 24, 25, 26, 27, 28, 29, 30, 31, 32, 33, 34, 35, 36, 37, 38, 39, 40, 41, 42, 43, 44, 45, 46, 47, 48, 49, 50, 51, 52, 53, 54, 55, 56, 57, 58, 59, 60, 61, 62, 63, 64] (by decide +kernel) (by decide +kernel)
set_option maxRecDepth 20000 in
theorem gX2_takeName_X2_sortNamed : GoodIn wsX2_takeName (va_wsS RX2 62 yX2_sortNamed wsX2_sortNamed) := goodIn_app (goodIn_of _ (by decide +kernel)) ggX2_takeName_X2_sortNamed
set_option maxRecDepth 20000 in
theorem ggX2_takeName_X2_refuse : GoodIn wsX2_takeName wsX2_refuse := goodIn_r _ [68, 69, 70, 71, 72, 73, 74] (by decide +kernel) (by decide +kernel)
set_option maxRecDepth 20000 in
theorem gX2_takeName_X2_refuse : GoodIn wsX2_takeName (wsV RX2 41 RX2 yX2_refuse wsX2_refuse) := goodIn_app (goodIn_of _ (by decide +kernel)) ggX2_takeName_X2_refuse
theorem dX2_takeName_0 : decode cX2_takeName 0 = .ok (.aload_n 0, 1) := by decide +kernel
theorem dX2_takeName_1 : decode cX2_takeName 1 = .ok (.getfield 18, 3) := by decide +kernel
theorem dX2_takeName_4 : decode cX2_takeName 4 = .ok (.iconst (-1), 1) := by decide +kernel
theorem dX2_takeName_5 : decode cX2_takeName 5 = .ok (.if_icmp .ne 12, 3) := by decide +kernel
theorem dX2_takeName_8 : decode cX2_takeName 8 = .ok (.aload_n 1, 1) := by decide +kernel
theorem dX2_takeName_9 : decode cX2_takeName 9 = .ok (.iload_n 2, 1) := by decide +kernel
theorem dX2_takeName_10 : decode cX2_takeName 10 = .ok (.iload_n 3, 1) := by decide +kernel
theorem dX2_takeName_11 : decode cX2_takeName 11 = .ok (.invokestatic 62, 3) := by decide +kernel
theorem dX2_takeName_14 : decode cX2_takeName 14 = .ok (.goto 4, 3) := by decide +kernel
theorem dX2_takeName_17 : decode cX2_takeName 17 = .ok (.iconst (-1), 1) := by decide +kernel
theorem dX2_takeName_18 : decode cX2_takeName 18 = .ok (.istore 5, 2) := by decide +kernel
theorem dX2_takeName_20 : decode cX2_takeName 20 = .ok (.iload 5, 2) := by decide +kernel
theorem dX2_takeName_22 : decode cX2_takeName 22 = .ok (.iconst (-1), 1) := by decide +kernel
theorem dX2_takeName_23 : decode cX2_takeName 23 = .ok (.if_icmp .ne 12, 3) := by decide +kernel
theorem dX2_takeName_26 : decode cX2_takeName 26 = .ok (.aload_n 0, 1) := by decide +kernel
theorem dX2_takeName_27 : decode cX2_takeName 27 = .ok (.iconst 1, 1) := by decide +kernel
theorem dX2_takeName_28 : decode cX2_takeName 28 = .ok (.iload_n 2, 1) := by decide +kernel
theorem dX2_takeName_29 : decode cX2_takeName 29 = .ok (.invokevirtual 41, 3) := by decide +kernel
theorem dX2_takeName_32 : decode cX2_takeName 32 = .ok (.goto 46, 3) := by decide +kernel
theorem dX2_takeName_35 : decode cX2_takeName 35 = .ok (.aload 4, 2) := by decide +kernel
theorem dX2_takeName_37 : decode cX2_takeName 37 = .ok (.getfield 24, 3) := by decide +kernel
theorem dX2_takeName_40 : decode cX2_takeName 40 = .ok (.bipush 7, 2) := by decide +kernel
theorem dX2_takeName_42 : decode cX2_takeName 42 = .ok (.if_icmp .lt 12, 3) := by decide +kernel
theorem dX2_takeName_45 : decode cX2_takeName 45 = .ok (.aload_n 0, 1) := by decide +kernel
theorem dX2_takeName_46 : decode cX2_takeName 46 = .ok (.iconst 3, 1) := by decide +kernel
theorem dX2_takeName_47 : decode cX2_takeName 47 = .ok (.iload_n 2, 1) := by decide +kernel
theorem dX2_takeName_48 : decode cX2_takeName 48 = .ok (.invokevirtual 41, 3) := by decide +kernel
theorem dX2_takeName_51 : decode cX2_takeName 51 = .ok (.goto 27, 3) := by decide +kernel
theorem dX2_takeName_54 : decode cX2_takeName 54 = .ok (.aload_n 0, 1) := by decide +kernel
theorem dX2_takeName_55 : decode cX2_takeName 55 = .ok (.iload 5, 2) := by decide +kernel
theorem dX2_takeName_57 : decode cX2_takeName 57 = .ok (.putfield 18, 3) := by decide +kernel
theorem dX2_takeName_60 : decode cX2_takeName 60 = .ok (.aload_n 0, 1) := by decide +kernel
theorem dX2_takeName_61 : decode cX2_takeName 61 = .ok (.iconst 0, 1) := by decide +kernel
theorem dX2_takeName_62 : decode cX2_takeName 62 = .ok (.putfield 21, 3) := by decide +kernel
theorem dX2_takeName_65 : decode cX2_takeName 65 = .ok (.aload 4, 2) := by decide +kernel
theorem dX2_takeName_67 : decode cX2_takeName 67 = .ok (.getfield 65, 3) := by decide +kernel
theorem dX2_takeName_70 : decode cX2_takeName 70 = .ok (.aload 4, 2) := by decide +kernel
theorem dX2_takeName_72 : decode cX2_takeName 72 = .ok (.getfield 24, 3) := by decide +kernel
theorem dX2_takeName_75 : decode cX2_takeName 75 = .ok (.iload 5, 2) := by decide +kernel
theorem dX2_takeName_77 : decode cX2_takeName 77 = .ok (.iastore, 1) := by decide +kernel
theorem dX2_takeName_78 : decode cX2_takeName 78 = .ok (.return_, 1) := by decide +kernel
set_option maxRecDepth 20000 in
theorem ggX2_takeNumber_X1_kindOf : GoodIn wsX2_takeNumber wsX1_kindOf := goodIn_r _ [7, 8] (by decide +kernel) (by decide +kernel)
set_option maxRecDepth 20000 in
theorem gX2_takeNumber_X1_kindOf : GoodIn wsX2_takeNumber (va_wsS RX2 69 yX1_kindOf wsX1_kindOf) := goodIn_app (goodIn_of _ (by decide +kernel)) ggX2_takeNumber_X1_kindOf
set_option maxRecDepth 20000 in
theorem ggX2_takeNumber_X2_numberOf : GoodIn wsX2_takeNumber wsX2_numberOf := goodIn_r _ [12, 13, 14, 15, 16] (by decide +kernel) (by decide +kernel)
set_option maxRecDepth 20000 in
theorem gX2_takeNumber_X2_numberOf : GoodIn wsX2_takeNumber (va_wsS RX2 73 yX2_numberOf wsX2_numberOf) := goodIn_app (goodIn_of _ (by decide +kernel)) ggX2_takeNumber_X2_numberOf
set_option maxRecDepth 20000 in
theorem ggX2_takeNumber_X2_refuse : GoodIn wsX2_takeNumber wsX2_refuse := goodIn_r _ [20, 21, 22, 31, 32, 33, 34] (by decide +kernel) (by decide +kernel)
set_option maxRecDepth 20000 in
theorem gX2_takeNumber_X2_refuse : GoodIn wsX2_takeNumber (wsV RX2 41 RX2 yX2_refuse wsX2_refuse) := goodIn_app (goodIn_of _ (by decide +kernel)) ggX2_takeNumber_X2_refuse
set_option maxRecDepth 20000 in
theorem ggX2_takeNumber_X1_isNumberOf : GoodIn wsX2_takeNumber wsX1_isNumberOf := goodIn_r _ [25] (by decide +kernel) (by decide +kernel)
set_option maxRecDepth 20000 in
theorem gX2_takeNumber_X1_isNumberOf : GoodIn wsX2_takeNumber (va_wsS RX2 76 yX1_isNumberOf wsX1_isNumberOf) := goodIn_app (goodIn_of _ (by decide +kernel)) ggX2_takeNumber_X1_isNumberOf
set_option maxRecDepth 20000 in
theorem ggX2_takeNumber_X1_setNumber : GoodIn wsX2_takeNumber wsX1_setNumber := goodIn_r _ [29, 30, 35, 36, 37] (by decide +kernel) (by decide +kernel)
set_option maxRecDepth 20000 in
theorem gX2_takeNumber_X1_setNumber : GoodIn wsX2_takeNumber (wsV RX2 80 RX1 yX1_setNumber wsX1_setNumber) := goodIn_app (goodIn_of _ (by decide +kernel)) ggX2_takeNumber_X1_setNumber
theorem dX2_takeNumber_0 : decode cX2_takeNumber 0 = .ok (.aload_n 0, 1) := by decide +kernel
theorem dX2_takeNumber_1 : decode cX2_takeNumber 1 = .ok (.getfield 18, 3) := by decide +kernel
theorem dX2_takeNumber_4 : decode cX2_takeNumber 4 = .ok (.aload_n 0, 1) := by decide +kernel
theorem dX2_takeNumber_5 : decode cX2_takeNumber 5 = .ok (.getfield 21, 3) := by decide +kernel
theorem dX2_takeNumber_8 : decode cX2_takeNumber 8 = .ok (.invokestatic 69, 3) := by decide +kernel
theorem dX2_takeNumber_11 : decode cX2_takeNumber 11 = .ok (.istore 6, 2) := by decide +kernel
theorem dX2_takeNumber_13 : decode cX2_takeNumber 13 = .ok (.aload_n 1, 1) := by decide +kernel
theorem dX2_takeNumber_14 : decode cX2_takeNumber 14 = .ok (.iload_n 2, 1) := by decide +kernel
theorem dX2_takeNumber_15 : decode cX2_takeNumber 15 = .ok (.iload_n 3, 1) := by decide +kernel
theorem dX2_takeNumber_16 : decode cX2_takeNumber 16 = .ok (.invokestatic 73, 3) := by decide +kernel
theorem dX2_takeNumber_19 : decode cX2_takeNumber 19 = .ok (.istore 7, 2) := by decide +kernel
theorem dX2_takeNumber_21 : decode cX2_takeNumber 21 = .ok (.iload 6, 2) := by decide +kernel
theorem dX2_takeNumber_23 : decode cX2_takeNumber 23 = .ok (.ifCond .ne 12, 3) := by decide +kernel
theorem dX2_takeNumber_26 : decode cX2_takeNumber 26 = .ok (.aload_n 0, 1) := by decide +kernel
theorem dX2_takeNumber_27 : decode cX2_takeNumber 27 = .ok (.iconst 1, 1) := by decide +kernel
theorem dX2_takeNumber_28 : decode cX2_takeNumber 28 = .ok (.iload_n 2, 1) := by decide +kernel
theorem dX2_takeNumber_29 : decode cX2_takeNumber 29 = .ok (.invokevirtual 41, 3) := by decide +kernel
theorem dX2_takeNumber_32 : decode cX2_takeNumber 32 = .ok (.goto 50, 3) := by decide +kernel
theorem dX2_takeNumber_35 : decode cX2_takeNumber 35 = .ok (.iload 6, 2) := by decide +kernel
theorem dX2_takeNumber_37 : decode cX2_takeNumber 37 = .ok (.iload 7, 2) := by decide +kernel
theorem dX2_takeNumber_39 : decode cX2_takeNumber 39 = .ok (.iload 4, 2) := by decide +kernel
theorem dX2_takeNumber_41 : decode cX2_takeNumber 41 = .ok (.invokestatic 76, 3) := by decide +kernel
theorem dX2_takeNumber_44 : decode cX2_takeNumber 44 = .ok (.ifCond .ne 12, 3) := by decide +kernel
theorem dX2_takeNumber_47 : decode cX2_takeNumber 47 = .ok (.aload_n 0, 1) := by decide +kernel
theorem dX2_takeNumber_48 : decode cX2_takeNumber 48 = .ok (.iconst 2, 1) := by decide +kernel
theorem dX2_takeNumber_49 : decode cX2_takeNumber 49 = .ok (.iload_n 2, 1) := by decide +kernel
theorem dX2_takeNumber_50 : decode cX2_takeNumber 50 = .ok (.invokevirtual 41, 3) := by decide +kernel
theorem dX2_takeNumber_53 : decode cX2_takeNumber 53 = .ok (.goto 29, 3) := by decide +kernel
theorem dX2_takeNumber_56 : decode cX2_takeNumber 56 = .ok (.aload 5, 2) := by decide +kernel
theorem dX2_takeNumber_58 : decode cX2_takeNumber 58 = .ok (.aload 5, 2) := by decide +kernel
theorem dX2_takeNumber_60 : decode cX2_takeNumber 60 = .ok (.getfield 24, 3) := by decide +kernel
theorem dX2_takeNumber_63 : decode cX2_takeNumber 63 = .ok (.aload_n 0, 1) := by decide +kernel
theorem dX2_takeNumber_64 : decode cX2_takeNumber 64 = .ok (.getfield 21, 3) := by decide +kernel
theorem dX2_takeNumber_67 : decode cX2_takeNumber 67 = .ok (.iload 7, 2) := by decide +kernel
theorem dX2_takeNumber_69 : decode cX2_takeNumber 69 = .ok (.invokevirtual 80, 3) := by decide +kernel
theorem dX2_takeNumber_72 : decode cX2_takeNumber 72 = .ok (.aload_n 0, 1) := by decide +kernel
