theorem dX2_takeNumber_73 : decode cX2_takeNumber 73 = .ok (.dup, 1) := by decide +kernel
theorem dX2_takeNumber_74 : decode cX2_takeNumber 74 = .ok (.getfield 21, 3) := by decide +kernel
theorem dX2_takeNumber_77 : decode cX2_takeNumber 77 = .ok (.iconst 1, 1) := by decide +kernel
theorem dX2_takeNumber_78 : decode cX2_takeNumber 78 = .ok (.iadd, 1) := by decide +kernel
theorem dX2_takeNumber_79 : decode cX2_takeNumber 79 = .ok (.putfield 21, 3) := by decide +kernel
theorem dX2_takeNumber_82 : decode cX2_takeNumber 82 = .ok (.return_, 1) := by decide +kernel
set_option maxRecDepth 20000 in
theorem ggX2_sortNamed_X1_nameOf : GoodIn wsX2_sortNamed wsX1_nameOf := goodIn_r _ [4] (by decide +kernel) (by decide +kernel)
set_option maxRecDepth 20000 in
theorem gX2_sortNamed_X1_nameOf : GoodIn wsX2_sortNamed (va_wsS RX2 84 yX1_nameOf wsX1_nameOf) := goodIn_app (goodIn_of _ (by decide +kernel)) ggX2_sortNamed_X1_nameOf
set_option maxRecDepth 20000 in
theorem ggX2_sortNamed_X2_isName : GoodIn wsX2_sortNamed wsX2_isName := goodIn_r _ [8, 9, 10, 11, 12, 13, 14, 15, 16, 17, 18, 19, 20, 21, 22, 23, 24, 25, 26, 27, 28, 29, 30, 31, 32, 33, 34, 35, 36, 37, 38, 39, 40, 41, 42, 43, 44, 45, 46, 47, 48, 49, 50, 51, 52, 53, 54, 55, 56, 57] (by decide +kernel) (by decide +kernel)
set_option maxRecDepth 20000 in
theorem gX2_sortNamed_X2_isName : GoodIn wsX2_sortNamed (va_wsS RX2 88 yX2_isName wsX2_isName) := goodIn_app (goodIn_of _ (by decide +kernel)) ggX2_sortNamed_X2_isName
theorem dX2_sortNamed_0 : decode cX2_sortNamed 0 = .ok (.iconst 0, 1) := by decide +kernel
theorem dX2_sortNamed_1 : decode cX2_sortNamed 1 = .ok (.istore_n 3, 1) := by decide +kernel
theorem dX2_sortNamed_2 : decode cX2_sortNamed 2 = .ok (.iload_n 3, 1) := by decide +kernel
theorem dX2_sortNamed_3 : decode cX2_sortNamed 3 = .ok (.bipush 9, 2) := by decide +kernel
theorem dX2_sortNamed_5 : decode cX2_sortNamed 5 = .ok (.if_icmp .ge 24, 3) := by decide +kernel
theorem dX2_sortNamed_8 : decode cX2_sortNamed 8 = .ok (.aload_n 0, 1) := by decide +kernel
theorem dX2_sortNamed_9 : decode cX2_sortNamed 9 = .ok (.iload_n 1, 1) := by decide +kernel
theorem dX2_sortNamed_10 : decode cX2_sortNamed 10 = .ok (.iload_n 2, 1) := by decide +kernel
theorem dX2_sortNamed_11 : decode cX2_sortNamed 11 = .ok (.iload_n 3, 1) := by decide +kernel
theorem dX2_sortNamed_12 : decode cX2_sortNamed 12 = .ok (.invokestatic 84, 3) := by decide +kernel
theorem dX2_sortNamed_15 : decode cX2_sortNamed 15 = .ok (.invokestatic 88, 3) := by decide +kernel
theorem dX2_sortNamed_18 : decode cX2_sortNamed 18 = .ok (.ifCond .eq 5, 3) := by decide +kernel
theorem dX2_sortNamed_21 : decode cX2_sortNamed 21 = .ok (.iload_n 3, 1) := by decide +kernel
theorem dX2_sortNamed_22 : decode cX2_sortNamed 22 = .ok (.ireturn, 1) := by decide +kernel
theorem dX2_sortNamed_23 : decode cX2_sortNamed 23 = .ok (.iinc 3 1, 3) := by decide +kernel
theorem dX2_sortNamed_26 : decode cX2_sortNamed 26 = .ok (.goto (-24), 3) := by decide +kernel
theorem dX2_sortNamed_29 : decode cX2_sortNamed 29 = .ok (.iconst (-1), 1) := by decide +kernel
theorem dX2_sortNamed_30 : decode cX2_sortNamed 30 = .ok (.ireturn, 1) := by decide +kernel
set_option maxRecDepth 20000 in
theorem ggX2_isName_J0_length_8abf5 : GoodIn wsX2_isName wsJ0_length_8abf5 := goodIn_r _ [5, 6, 7, 8, 9, 4, 10, 11, 12] (by decide +kernel) (by decide +kernel)
set_option maxRecDepth 20000 in
theorem gX2_isName_J0_length_8abf5 : GoodIn wsX2_isName (wsV RX2 92 RJ0 yJ0_length_8abf5 wsJ0_length_8abf5) := goodIn_app (goodIn_of _ (by decide +kernel)) ggX2_isName_J0_length_8abf5
set_option maxRecDepth 20000 in
theorem ggX2_isName_J0_charAt_5068e : GoodIn wsX2_isName wsJ0_charAt_5068e := goodIn_r _ [16, 6, 17, 18, 19, 4, 20, 11, 12, 21, 22, 23, 24, 25, 26, 27, 28, 29, 30, 31, 32, 33, 34, 35, 36, 37, 38, 39, 40, 41, 42, 43, 44, 45, 46, 47, 48, 49] (by decide +kernel) (by decide +kernel)
set_option maxRecDepth 20000 in
theorem gX2_isName_J0_charAt_5068e : GoodIn wsX2_isName (wsV RX2 98 RJ0 yJ0_charAt_5068e wsJ0_charAt_5068e) := goodIn_app (goodIn_of _ (by decide +kernel)) ggX2_isName_J0_charAt_5068e
theorem dX2_isName_0 : decode cX2_isName 0 = .ok (.iload_n 2, 1) := by decide +kernel
theorem dX2_isName_1 : decode cX2_isName 1 = .ok (.iload_n 1, 1) := by decide +kernel
theorem dX2_isName_2 : decode cX2_isName 2 = .ok (.isub, 1) := by decide +kernel
theorem dX2_isName_3 : decode cX2_isName 3 = .ok (.aload_n 3, 1) := by decide +kernel
theorem dX2_isName_4 : decode cX2_isName 4 = .ok (.invokevirtual 92, 3) := by decide +kernel
theorem dX2_isName_7 : decode cX2_isName 7 = .ok (.if_icmp .eq 5, 3) := by decide +kernel
theorem dX2_isName_10 : decode cX2_isName 10 = .ok (.iconst 0, 1) := by decide +kernel
theorem dX2_isName_11 : decode cX2_isName 11 = .ok (.ireturn, 1) := by decide +kernel
theorem dX2_isName_12 : decode cX2_isName 12 = .ok (.iload_n 1, 1) := by decide +kernel
theorem dX2_isName_13 : decode cX2_isName 13 = .ok (.istore 4, 2) := by decide +kernel
theorem dX2_isName_15 : decode cX2_isName 15 = .ok (.iload 4, 2) := by decide +kernel
theorem dX2_isName_17 : decode cX2_isName 17 = .ok (.iload_n 2, 1) := by decide +kernel
theorem dX2_isName_18 : decode cX2_isName 18 = .ok (.if_icmp .ge 26, 3) := by decide +kernel
theorem dX2_isName_21 : decode cX2_isName 21 = .ok (.aload_n 0, 1) := by decide +kernel
theorem dX2_isName_22 : decode cX2_isName 22 = .ok (.iload 4, 2) := by decide +kernel
theorem dX2_isName_24 : decode cX2_isName 24 = .ok (.baload, 1) := by decide +kernel
theorem dX2_isName_25 : decode cX2_isName 25 = .ok (.aload_n 3, 1) := by decide +kernel
theorem dX2_isName_26 : decode cX2_isName 26 = .ok (.iload 4, 2) := by decide +kernel
theorem dX2_isName_28 : decode cX2_isName 28 = .ok (.iload_n 1, 1) := by decide +kernel
theorem dX2_isName_29 : decode cX2_isName 29 = .ok (.isub, 1) := by decide +kernel
theorem dX2_isName_30 : decode cX2_isName 30 = .ok (.invokevirtual 98, 3) := by decide +kernel
theorem dX2_isName_33 : decode cX2_isName 33 = .ok (.if_icmp .eq 5, 3) := by decide +kernel
theorem dX2_isName_36 : decode cX2_isName 36 = .ok (.iconst 0, 1) := by decide +kernel
theorem dX2_isName_37 : decode cX2_isName 37 = .ok (.ireturn, 1) := by decide +kernel
theorem dX2_isName_38 : decode cX2_isName 38 = .ok (.iinc 4 1, 3) := by decide +kernel
theorem dX2_isName_41 : decode cX2_isName 41 = .ok (.goto (-26), 3) := by decide +kernel
theorem dX2_isName_44 : decode cX2_isName 44 = .ok (.iconst 1, 1) := by decide +kernel
theorem dX2_isName_45 : decode cX2_isName 45 = .ok (.ireturn, 1) := by decide +kernel
theorem dX2_numberOf_0 : decode cX2_numberOf 0 = .ok (.iconst 0, 1) := by decide +kernel
theorem dX2_numberOf_1 : decode cX2_numberOf 1 = .ok (.istore_n 3, 1) := by decide +kernel
theorem dX2_numberOf_2 : decode cX2_numberOf 2 = .ok (.iload_n 1, 1) := by decide +kernel
theorem dX2_numberOf_3 : decode cX2_numberOf 3 = .ok (.istore 4, 2) := by decide +kernel
theorem dX2_numberOf_5 : decode cX2_numberOf 5 = .ok (.iload 4, 2) := by decide +kernel
theorem dX2_numberOf_7 : decode cX2_numberOf 7 = .ok (.iload_n 2, 1) := by decide +kernel
theorem dX2_numberOf_8 : decode cX2_numberOf 8 = .ok (.if_icmp .ge 28, 3) := by decide +kernel
theorem dX2_numberOf_11 : decode cX2_numberOf 11 = .ok (.iload_n 3, 1) := by decide +kernel
theorem dX2_numberOf_12 : decode cX2_numberOf 12 = .ok (.bipush 10, 2) := by decide +kernel
theorem dX2_numberOf_14 : decode cX2_numberOf 14 = .ok (.imul, 1) := by decide +kernel
theorem dX2_numberOf_15 : decode cX2_numberOf 15 = .ok (.aload_n 0, 1) := by decide +kernel
theorem dX2_numberOf_16 : decode cX2_numberOf 16 = .ok (.iload 4, 2) := by decide +kernel
theorem dX2_numberOf_18 : decode cX2_numberOf 18 = .ok (.baload, 1) := by decide +kernel
theorem dX2_numberOf_19 : decode cX2_numberOf 19 = .ok (.iadd, 1) := by decide +kernel
theorem dX2_numberOf_20 : decode cX2_numberOf 20 = .ok (.bipush 48, 2) := by decide +kernel
theorem dX2_numberOf_22 : decode cX2_numberOf 22 = .ok (.isub, 1) := by decide +kernel
theorem dX2_numberOf_23 : decode cX2_numberOf 23 = .ok (.sipush 1000, 3) := by decide +kernel
theorem dX2_numberOf_26 : decode cX2_numberOf 26 = .ok (.invokestatic 102, 3) := by decide +kernel
theorem dX2_numberOf_29 : decode cX2_numberOf 29 = .ok (.istore_n 3, 1) := by decide +kernel
theorem dX2_numberOf_30 : decode cX2_numberOf 30 = .ok (.iinc 4 1, 3) := by decide +kernel
theorem dX2_numberOf_33 : decode cX2_numberOf 33 = .ok (.goto (-28), 3) := by decide +kernel
theorem dX2_numberOf_36 : decode cX2_numberOf 36 = .ok (.iload_n 3, 1) := by decide +kernel
theorem dX2_numberOf_37 : decode cX2_numberOf 37 = .ok (.ireturn, 1) := by decide +kernel
set_option maxRecDepth 20000 in
theorem ggX2_tokenEnd_X2_isLetter : GoodIn wsX2_tokenEnd wsX2_isLetter := goodIn_r _ [4] (by decide +kernel) (by decide +kernel)
set_option maxRecDepth 20000 in
theorem gX2_tokenEnd_X2_isLetter : GoodIn wsX2_tokenEnd (va_wsS RX2 45 yX2_isLetter wsX2_isLetter) := goodIn_app (goodIn_of _ (by decide +kernel)) ggX2_tokenEnd_X2_isLetter
set_option maxRecDepth 20000 in
theorem ggX2_tokenEnd_X2_isDigit : GoodIn wsX2_tokenEnd wsX2_isDigit := goodIn_r _ [7] (by decide +kernel) (by decide +kernel)
set_option maxRecDepth 20000 in
theorem gX2_tokenEnd_X2_isDigit : GoodIn wsX2_tokenEnd (va_wsS RX2 52 yX2_isDigit wsX2_isDigit) := goodIn_app (goodIn_of _ (by decide +kernel)) ggX2_tokenEnd_X2_isDigit
theorem dX2_tokenEnd_0 : decode cX2_tokenEnd 0 = .ok (.iload_n 1, 1) := by decide +kernel
theorem dX2_tokenEnd_1 : decode cX2_tokenEnd 1 = .ok (.iconst 1, 1) := by decide +kernel
theorem dX2_tokenEnd_2 : decode cX2_tokenEnd 2 = .ok (.iadd, 1) := by decide +kernel
theorem dX2_tokenEnd_3 : decode cX2_tokenEnd 3 = .ok (.istore_n 3, 1) := by decide +kernel
theorem dX2_tokenEnd_4 : decode cX2_tokenEnd 4 = .ok (.aload_n 0, 1) := by decide +kernel
theorem dX2_tokenEnd_5 : decode cX2_tokenEnd 5 = .ok (.iload_n 1, 1) := by decide +kernel
theorem dX2_tokenEnd_6 : decode cX2_tokenEnd 6 = .ok (.baload, 1) := by decide +kernel
theorem dX2_tokenEnd_7 : decode cX2_tokenEnd 7 = .ok (.invokestatic 45, 3) := by decide +kernel
theorem dX2_tokenEnd_10 : decode cX2_tokenEnd 10 = .ok (.ifCond .eq 23, 3) := by decide +kernel
theorem dX2_tokenEnd_13 : decode cX2_tokenEnd 13 = .ok (.iload_n 3, 1) := by decide +kernel
theorem dX2_tokenEnd_14 : decode cX2_tokenEnd 14 = .ok (.iload_n 2, 1) := by decide +kernel
theorem dX2_tokenEnd_15 : decode cX2_tokenEnd 15 = .ok (.if_icmp .ge 47, 3) := by decide +kernel
theorem dX2_tokenEnd_18 : decode cX2_tokenEnd 18 = .ok (.aload_n 0, 1) := by decide +kernel
theorem dX2_tokenEnd_19 : decode cX2_tokenEnd 19 = .ok (.iload_n 3, 1) := by decide +kernel
theorem dX2_tokenEnd_20 : decode cX2_tokenEnd 20 = .ok (.baload, 1) := by decide +kernel
theorem dX2_tokenEnd_21 : decode cX2_tokenEnd 21 = .ok (.invokestatic 45, 3) := by decide +kernel
theorem dX2_tokenEnd_24 : decode cX2_tokenEnd 24 = .ok (.ifCond .eq 38, 3) := by decide +kernel
theorem dX2_tokenEnd_27 : decode cX2_tokenEnd 27 = .ok (.iinc 3 1, 3) := by decide +kernel
theorem dX2_tokenEnd_30 : decode cX2_tokenEnd 30 = .ok (.goto (-17), 3) := by decide +kernel
theorem dX2_tokenEnd_33 : decode cX2_tokenEnd 33 = .ok (.aload_n 0, 1) := by decide +kernel
theorem dX2_tokenEnd_34 : decode cX2_tokenEnd 34 = .ok (.iload_n 1, 1) := by decide +kernel
theorem dX2_tokenEnd_35 : decode cX2_tokenEnd 35 = .ok (.baload, 1) := by decide +kernel
theorem dX2_tokenEnd_36 : decode cX2_tokenEnd 36 = .ok (.invokestatic 52, 3) := by decide +kernel
theorem dX2_tokenEnd_39 : decode cX2_tokenEnd 39 = .ok (.ifCond .eq 23, 3) := by decide +kernel
theorem dX2_tokenEnd_42 : decode cX2_tokenEnd 42 = .ok (.iload_n 3, 1) := by decide +kernel
theorem dX2_tokenEnd_43 : decode cX2_tokenEnd 43 = .ok (.iload_n 2, 1) := by decide +kernel
theorem dX2_tokenEnd_44 : decode cX2_tokenEnd 44 = .ok (.if_icmp .ge 18, 3) := by decide +kernel
theorem dX2_tokenEnd_47 : decode cX2_tokenEnd 47 = .ok (.aload_n 0, 1) := by decide +kernel
theorem dX2_tokenEnd_48 : decode cX2_tokenEnd 48 = .ok (.iload_n 3, 1) := by decide +kernel
theorem dX2_tokenEnd_49 : decode cX2_tokenEnd 49 = .ok (.baload, 1) := by decide +kernel
theorem dX2_tokenEnd_50 : decode cX2_tokenEnd 50 = .ok (.invokestatic 52, 3) := by decide +kernel
theorem dX2_tokenEnd_53 : decode cX2_tokenEnd 53 = .ok (.ifCond .eq 9, 3) := by decide +kernel
theorem dX2_tokenEnd_56 : decode cX2_tokenEnd 56 = .ok (.iinc 3 1, 3) := by decide +kernel
theorem dX2_tokenEnd_59 : decode cX2_tokenEnd 59 = .ok (.goto (-17), 3) := by decide +kernel
theorem dX2_tokenEnd_62 : decode cX2_tokenEnd 62 = .ok (.iload_n 3, 1) := by decide +kernel
theorem dX2_tokenEnd_63 : decode cX2_tokenEnd 63 = .ok (.ireturn, 1) := by decide +kernel
theorem dX2_isBlank_0 : decode cX2_isBlank 0 = .ok (.iload_n 0, 1) := by decide +kernel
theorem dX2_isBlank_1 : decode cX2_isBlank 1 = .ok (.bipush 32, 2) := by decide +kernel
theorem dX2_isBlank_3 : decode cX2_isBlank 3 = .ok (.if_icmp .eq 9, 3) := by decide +kernel
theorem dX2_isBlank_6 : decode cX2_isBlank 6 = .ok (.iload_n 0, 1) := by decide +kernel
theorem dX2_isBlank_7 : decode cX2_isBlank 7 = .ok (.bipush 10, 2) := by decide +kernel
theorem dX2_isBlank_9 : decode cX2_isBlank 9 = .ok (.if_icmp .ne 7, 3) := by decide +kernel
theorem dX2_isBlank_12 : decode cX2_isBlank 12 = .ok (.iconst 1, 1) := by decide +kernel
theorem dX2_isBlank_13 : decode cX2_isBlank 13 = .ok (.goto 4, 3) := by decide +kernel
theorem dX2_isBlank_16 : decode cX2_isBlank 16 = .ok (.iconst 0, 1) := by decide +kernel
theorem dX2_isBlank_17 : decode cX2_isBlank 17 = .ok (.ireturn, 1) := by decide +kernel
theorem dX2_isLetter_0 : decode cX2_isLetter 0 = .ok (.iload_n 0, 1) := by decide +kernel
theorem dX2_isLetter_1 : decode cX2_isLetter 1 = .ok (.bipush 97, 2) := by decide +kernel
theorem dX2_isLetter_3 : decode cX2_isLetter 3 = .ok (.if_icmp .lt 9, 3) := by decide +kernel
theorem dX2_isLetter_6 : decode cX2_isLetter 6 = .ok (.iload_n 0, 1) := by decide +kernel
theorem dX2_isLetter_7 : decode cX2_isLetter 7 = .ok (.bipush 122, 2) := by decide +kernel
theorem dX2_isLetter_9 : decode cX2_isLetter 9 = .ok (.if_icmp .le 15, 3) := by decide +kernel
theorem dX2_isLetter_12 : decode cX2_isLetter 12 = .ok (.iload_n 0, 1) := by decide +kernel
theorem dX2_isLetter_13 : decode cX2_isLetter 13 = .ok (.bipush 65, 2) := by decide +kernel
theorem dX2_isLetter_15 : decode cX2_isLetter 15 = .ok (.if_icmp .lt 13, 3) := by decide +kernel
theorem dX2_isLetter_18 : decode cX2_isLetter 18 = .ok (.iload_n 0, 1) := by decide +kernel
theorem dX2_isLetter_19 : decode cX2_isLetter 19 = .ok (.bipush 90, 2) := by decide +kernel
theorem dX2_isLetter_21 : decode cX2_isLetter 21 = .ok (.if_icmp .gt 7, 3) := by decide +kernel
theorem dX2_isLetter_24 : decode cX2_isLetter 24 = .ok (.iconst 1, 1) := by decide +kernel
theorem dX2_isLetter_25 : decode cX2_isLetter 25 = .ok (.goto 4, 3) := by decide +kernel
theorem dX2_isLetter_28 : decode cX2_isLetter 28 = .ok (.iconst 0, 1) := by decide +kernel
theorem dX2_isLetter_29 : decode cX2_isLetter 29 = .ok (.ireturn, 1) := by decide +kernel
theorem dX2_isDigit_0 : decode cX2_isDigit 0 = .ok (.iload_n 0, 1) := by decide +kernel
theorem dX2_isDigit_1 : decode cX2_isDigit 1 = .ok (.bipush 48, 2) := by decide +kernel
theorem dX2_isDigit_3 : decode cX2_isDigit 3 = .ok (.if_icmp .lt 13, 3) := by decide +kernel
theorem dX2_isDigit_6 : decode cX2_isDigit 6 = .ok (.iload_n 0, 1) := by decide +kernel
theorem dX2_isDigit_7 : decode cX2_isDigit 7 = .ok (.bipush 57, 2) := by decide +kernel
theorem dX2_isDigit_9 : decode cX2_isDigit 9 = .ok (.if_icmp .gt 7, 3) := by decide +kernel
theorem dX2_isDigit_12 : decode cX2_isDigit 12 = .ok (.iconst 1, 1) := by decide +kernel
theorem dX2_isDigit_13 : decode cX2_isDigit 13 = .ok (.goto 4, 3) := by decide +kernel
theorem dX2_isDigit_16 : decode cX2_isDigit 16 = .ok (.iconst 0, 1) := by decide +kernel
theorem dX2_isDigit_17 : decode cX2_isDigit 17 = .ok (.ireturn, 1) := by decide +kernel
theorem dX3_init_0 : decode cX3_init 0 = .ok (.aload_n 0, 1) := by decide +kernel
theorem dX3_init_1 : decode cX3_init 1 = .ok (.invokespecial 3, 3) := by decide +kernel
theorem dX3_init_4 : decode cX3_init 4 = .ok (.aload_n 0, 1) := by decide +kernel
theorem dX3_init_5 : decode cX3_init 5 = .ok (.sipush 700, 3) := by decide +kernel
theorem dX3_init_8 : decode cX3_init 8 = .ok (.newarray .long, 2) := by decide +kernel
theorem dX3_init_10 : decode cX3_init 10 = .ok (.putfield 11, 3) := by decide +kernel
theorem dX3_init_13 : decode cX3_init 13 = .ok (.aload_n 0, 1) := by decide +kernel
theorem dX3_init_14 : decode cX3_init 14 = .ok (.sipush 700, 3) := by decide +kernel
theorem dX3_init_17 : decode cX3_init 17 = .ok (.newarray .int, 2) := by decide +kernel
theorem dX3_init_19 : decode cX3_init 19 = .ok (.putfield 15, 3) := by decide +kernel
theorem dX3_init_22 : decode cX3_init 22 = .ok (.aload_n 0, 1) := by decide +kernel
theorem dX3_init_23 : decode cX3_init 23 = .ok (.sipush 1024, 3) := by decide +kernel
theorem dX3_init_26 : decode cX3_init 26 = .ok (.newarray .int, 2) := by decide +kernel
theorem dX3_init_28 : decode cX3_init 28 = .ok (.putfield 19, 3) := by decide +kernel
theorem dX3_init_31 : decode cX3_init 31 = .ok (.aload_n 0, 1) := by decide +kernel
theorem dX3_init_32 : decode cX3_init 32 = .ok (.iconst 0, 1) := by decide +kernel
theorem dX3_init_33 : decode cX3_init 33 = .ok (.putfield 22, 3) := by decide +kernel
theorem dX3_init_36 : decode cX3_init 36 = .ok (.aload_n 0, 1) := by decide +kernel
theorem dX3_init_37 : decode cX3_init 37 = .ok (.iconst 0, 1) := by decide +kernel
theorem dX3_init_38 : decode cX3_init 38 = .ok (.putfield 26, 3) := by decide +kernel
theorem dX3_init_41 : decode cX3_init 41 = .ok (.aload_n 0, 1) := by decide +kernel
theorem dX3_init_42 : decode cX3_init 42 = .ok (.iconst 0, 1) := by decide +kernel
theorem dX3_init_43 : decode cX3_init 43 = .ok (.putfield 29, 3) := by decide +kernel
theorem dX3_init_46 : decode cX3_init 46 = .ok (.aload_n 0, 1) := by decide +kernel
theorem dX3_init_47 : decode cX3_init 47 = .ok (.iconst 0, 1) := by decide +kernel
theorem dX3_init_48 : decode cX3_init 48 = .ok (.putfield 32, 3) := by decide +kernel
theorem dX3_init_51 : decode cX3_init 51 = .ok (.aload_n 0, 1) := by decide +kernel
theorem dX3_init_52 : decode cX3_init 52 = .ok (.iconst 0, 1) := by decide +kernel
theorem dX3_init_53 : decode cX3_init 53 = .ok (.putfield 35, 3) := by decide +kernel
theorem dX3_init_56 : decode cX3_init 56 = .ok (.aload_n 0, 1) := by decide +kernel
theorem dX3_init_57 : decode cX3_init 57 = .ok (.iconst 0, 1) := by decide +kernel
theorem dX3_init_58 : decode cX3_init 58 = .ok (.putfield 38, 3) := by decide +kernel
theorem dX3_init_61 : decode cX3_init 61 = .ok (.return_, 1) := by decide +kernel
set_option maxRecDepth 20000 in
theorem ggX3_go_X3_clear : GoodIn wsX3_go wsX3_clear := goodIn_r _ [9, 10, 11, 12, 1, 13, 14, 15, 4, 16, 17, 18, 19, 152, 153, 154, 155, 156, 157, 158, 159, 160] (by decide +kernel) (by decide +kernel)
set_option maxRecDepth 20000 in
theorem gX3_go_X3_clear : GoodIn wsX3_go (wsV RX3 42 RX3 yX3_clear wsX3_clear) := goodIn_app (goodIn_of _ (by decide +kernel)) ggX3_go_X3_clear
set_option maxRecDepth 20000 in
theorem ggX3_go_X0_beginning : GoodIn wsX3_go wsX0_beginning := goodIn_r _ [24, 25, 161, 162, 163, 164] (by decide +kernel) (by decide +kernel)
set_option maxRecDepth 20000 in
theorem gX3_go_X0_beginning : GoodIn wsX3_go (wsV RX3 45 RX0 yX0_beginning wsX0_beginning) := goodIn_app (goodIn_of _ (by decide +kernel)) ggX3_go_X0_beginning
set_option maxRecDepth 20000 in
theorem ggX3_go_X3_take : GoodIn wsX3_go wsX3_take := goodIn_r _ [29, 1, 2, 30, 12, 10, 31, 32, 33, 8, 34, 35, 36, 37, 38, 39, 40, 41, 42, 43, 44, 45, 46, 18, 47, 48, 49, 50, 51, 52, 53, 54, 55, 56, 57, 58, 59, 60, 61, 62, 63, 64, 65, 66, 67, 68, 69, 152, 153, 154, 155, 156, 157, 158, 159, 160] (by decide +kernel) (by decide +kernel)
set_option maxRecDepth 20000 in
theorem gX3_go_X3_take : GoodIn wsX3_go (wsV RX3 51 RX3 yX3_take wsX3_take) := goodIn_app (goodIn_of _ (by decide +kernel)) ggX3_go_X3_take
set_option maxRecDepth 20000 in
theorem ggX3_go_X0_after : GoodIn wsX3_go wsX0_after := goodIn_r _ [73, 74, 75, 76, 77, 78, 23, 79, 80, 81, 82, 83, 84, 85, 86, 87, 88, 89, 90, 91, 92, 93, 94, 95, 96, 97, 98, 99, 100, 101, 102, 103, 104, 105, 106, 107, 108, 109, 110, 111, 112, 113, 114, 115, 116, 117, 118, 56, 57, 58, 119, 120, 121, 122, 123, 124, 125, 126, 127, 128, 129, 130, 131, 132, 133, 134, 135, 136, 137, 138, 161, 162, 163, 164, 165, 166, 167] (by decide +kernel) (by decide +kernel)
set_option maxRecDepth 20000 in
theorem gX3_go_X0_after : GoodIn wsX3_go (wsV RX3 55 RX0 yX0_after wsX0_after) := goodIn_app (goodIn_of _ (by decide +kernel)) ggX3_go_X0_after
set_option maxRecDepth 20000 in
theorem ggX3_go_X0_goodEnd : GoodIn wsX3_go wsX0_goodEnd := goodIn_r _ [142, 80, 81, 143, 144, 23, 145, 161, 162, 163, 164, 165, 166, 167] (by decide +kernel) (by decide +kernel)
set_option maxRecDepth 20000 in
theorem gX3_go_X0_goodEnd : GoodIn wsX3_go (wsV RX3 61 RX0 yX0_goodEnd wsX0_goodEnd) := goodIn_app (goodIn_of _ (by decide +kernel)) ggX3_go_X0_goodEnd
set_option maxRecDepth 20000 in
theorem ggX3_go_X3_countEnd : GoodIn wsX3_go wsX3_countEnd := goodIn_r _ [149, 13, 150, 14, 151, 15, 152, 153, 154, 155, 156, 157, 158, 159, 160] (by decide +kernel) (by decide +kernel)
set_option maxRecDepth 20000 in
theorem gX3_go_X3_countEnd : GoodIn wsX3_go (wsV RX3 64 RX3 yX3_countEnd wsX3_countEnd) := goodIn_app (goodIn_of _ (by decide +kernel)) ggX3_go_X3_countEnd
theorem dX3_go_0 : decode cX3_go 0 = .ok (.aload_n 0, 1) := by decide +kernel
theorem dX3_go_1 : decode cX3_go 1 = .ok (.invokevirtual 42, 3) := by decide +kernel
theorem dX3_go_4 : decode cX3_go 4 = .ok (.aload_n 0, 1) := by decide +kernel
theorem dX3_go_5 : decode cX3_go 5 = .ok (.aload_n 1, 1) := by decide +kernel
theorem dX3_go_6 : decode cX3_go 6 = .ok (.invokevirtual 45, 3) := by decide +kernel
theorem dX3_go_9 : decode cX3_go 9 = .ok (.iconst 0, 1) := by decide +kernel
theorem dX3_go_10 : decode cX3_go 10 = .ok (.invokevirtual 51, 3) := by decide +kernel
theorem dX3_go_13 : decode cX3_go 13 = .ok (.pop, 1) := by decide +kernel
theorem dX3_go_14 : decode cX3_go 14 = .ok (.iconst 0, 1) := by decide +kernel
theorem dX3_go_15 : decode cX3_go 15 = .ok (.istore_n 2, 1) := by decide +kernel
theorem dX3_go_16 : decode cX3_go 16 = .ok (.iload_n 2, 1) := by decide +kernel
theorem dX3_go_17 : decode cX3_go 17 = .ok (.sipush 12000, 3) := by decide +kernel
theorem dX3_go_20 : decode cX3_go 20 = .ok (.if_icmp .ge 113, 3) := by decide +kernel
theorem dX3_go_23 : decode cX3_go 23 = .ok (.iload_n 2, 1) := by decide +kernel
theorem dX3_go_24 : decode cX3_go 24 = .ok (.aload_n 0, 1) := by decide +kernel
theorem dX3_go_25 : decode cX3_go 25 = .ok (.getfield 26, 3) := by decide +kernel
theorem dX3_go_28 : decode cX3_go 28 = .ok (.if_icmp .ge 105, 3) := by decide +kernel
theorem dX3_go_31 : decode cX3_go 31 = .ok (.aload_n 0, 1) := by decide +kernel
theorem dX3_go_32 : decode cX3_go 32 = .ok (.getfield 11, 3) := by decide +kernel
theorem dX3_go_35 : decode cX3_go 35 = .ok (.iload_n 2, 1) := by decide +kernel
theorem dX3_go_36 : decode cX3_go 36 = .ok (.laload, 1) := by decide +kernel
theorem dX3_go_37 : decode cX3_go 37 = .ok (.lstore_n 3, 1) := by decide +kernel
theorem dX3_go_38 : decode cX3_go 38 = .ok (.iconst 1, 1) := by decide +kernel
theorem dX3_go_39 : decode cX3_go 39 = .ok (.istore 5, 2) := by decide +kernel
theorem dX3_go_41 : decode cX3_go 41 = .ok (.iconst 0, 1) := by decide +kernel
theorem dX3_go_42 : decode cX3_go 42 = .ok (.istore 6, 2) := by decide +kernel
theorem dX3_go_44 : decode cX3_go 44 = .ok (.iload 6, 2) := by decide +kernel
theorem dX3_go_46 : decode cX3_go 46 = .ok (.bipush 10, 2) := by decide +kernel
theorem dX3_go_48 : decode cX3_go 48 = .ok (.if_icmp .ge 65, 3) := by decide +kernel
theorem dX3_go_51 : decode cX3_go 51 = .ok (.aload_n 1, 1) := by decide +kernel
theorem dX3_go_52 : decode cX3_go 52 = .ok (.lload_n 3, 1) := by decide +kernel
theorem dX3_go_53 : decode cX3_go 53 = .ok (.iload 6, 2) := by decide +kernel
theorem dX3_go_55 : decode cX3_go 55 = .ok (.invokevirtual 55, 3) := by decide +kernel
theorem dX3_go_58 : decode cX3_go 58 = .ok (.lstore 7, 2) := by decide +kernel
theorem dX3_go_60 : decode cX3_go 60 = .ok (.lload 7, 2) := by decide +kernel
theorem dX3_go_62 : decode cX3_go 62 = .ok (.ldc2_w 59, 3) := by decide +kernel
theorem dX3_go_65 : decode cX3_go 65 = .ok (.lcmp, 1) := by decide +kernel
theorem dX3_go_66 : decode cX3_go 66 = .ok (.ifCond .ne 6, 3) := by decide +kernel
theorem dX3_go_69 : decode cX3_go 69 = .ok (.goto 38, 3) := by decide +kernel
theorem dX3_go_72 : decode cX3_go 72 = .ok (.aload_n 0, 1) := by decide +kernel
theorem dX3_go_73 : decode cX3_go 73 = .ok (.lload 7, 2) := by decide +kernel
theorem dX3_go_75 : decode cX3_go 75 = .ok (.iload_n 2, 1) := by decide +kernel
theorem dX3_go_76 : decode cX3_go 76 = .ok (.iconst 4, 1) := by decide +kernel
theorem dX3_go_77 : decode cX3_go 77 = .ok (.ishl, 1) := by decide +kernel
