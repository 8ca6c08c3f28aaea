theorem dX5_program_22 : decode cX5_program 22 = .ok (.getfield 28, 3) := by decide +kernel
theorem dX5_program_25 : decode cX5_program 25 = .ok (.ifCond .ne 7, 3) := by decide +kernel
theorem dX5_program_28 : decode cX5_program 28 = .ok (.iconst (-1), 1) := by decide +kernel
theorem dX5_program_29 : decode cX5_program 29 = .ok (.goto 7, 3) := by decide +kernel
theorem dX5_program_32 : decode cX5_program 32 = .ok (.aload_n 0, 1) := by decide +kernel
theorem dX5_program_33 : decode cX5_program 33 = .ok (.getfield 89, 3) := by decide +kernel
theorem dX5_program_36 : decode cX5_program 36 = .ok (.putfield 32, 3) := by decide +kernel
theorem dX5_program_39 : decode cX5_program 39 = .ok (.aload_n 0, 1) := by decide +kernel
theorem dX5_program_40 : decode cX5_program 40 = .ok (.iconst 0, 1) := by decide +kernel
theorem dX5_program_41 : decode cX5_program 41 = .ok (.putfield 57, 3) := by decide +kernel
theorem dX5_program_44 : decode cX5_program 44 = .ok (.aload_n 0, 1) := by decide +kernel
theorem dX5_program_45 : decode cX5_program 45 = .ok (.getfield 28, 3) := by decide +kernel
theorem dX5_program_48 : decode cX5_program 48 = .ok (.ifCond .eq 5, 3) := by decide +kernel
theorem dX5_program_51 : decode cX5_program 51 = .ok (.iconst (-1), 1) := by decide +kernel
theorem dX5_program_52 : decode cX5_program 52 = .ok (.ireturn, 1) := by decide +kernel
theorem dX5_program_53 : decode cX5_program 53 = .ok (.aload_n 0, 1) := by decide +kernel
theorem dX5_program_54 : decode cX5_program 54 = .ok (.getfield 7, 3) := by decide +kernel
theorem dX5_program_57 : decode cX5_program 57 = .ok (.iload_n 1, 1) := by decide +kernel
theorem dX5_program_58 : decode cX5_program 58 = .ok (.aload_n 0, 1) := by decide +kernel
theorem dX5_program_59 : decode cX5_program 59 = .ok (.getfield 7, 3) := by decide +kernel
theorem dX5_program_62 : decode cX5_program 62 = .ok (.iconst 4, 1) := by decide +kernel
theorem dX5_program_63 : decode cX5_program 63 = .ok (.iaload, 1) := by decide +kernel
theorem dX5_program_64 : decode cX5_program 64 = .ok (.iastore, 1) := by decide +kernel
theorem dX5_program_65 : decode cX5_program 65 = .ok (.iconst 0, 1) := by decide +kernel
theorem dX5_program_66 : decode cX5_program 66 = .ok (.istore_n 2, 1) := by decide +kernel
theorem dX5_program_67 : decode cX5_program 67 = .ok (.iload_n 2, 1) := by decide +kernel
theorem dX5_program_68 : decode cX5_program 68 = .ok (.aload_n 0, 1) := by decide +kernel
theorem dX5_program_69 : decode cX5_program 69 = .ok (.getfield 7, 3) := by decide +kernel
theorem dX5_program_72 : decode cX5_program 72 = .ok (.iconst 4, 1) := by decide +kernel
theorem dX5_program_73 : decode cX5_program 73 = .ok (.iaload, 1) := by decide +kernel
theorem dX5_program_74 : decode cX5_program 74 = .ok (.if_icmp .ge 23, 3) := by decide +kernel
theorem dX5_program_77 : decode cX5_program 77 = .ok (.aload_n 0, 1) := by decide +kernel
theorem dX5_program_78 : decode cX5_program 78 = .ok (.bipush 32, 2) := by decide +kernel
theorem dX5_program_80 : decode cX5_program 80 = .ok (.iload_n 2, 1) := by decide +kernel
theorem dX5_program_81 : decode cX5_program 81 = .ok (.iadd, 1) := by decide +kernel
theorem dX5_program_82 : decode cX5_program 82 = .ok (.bipush 8, 2) := by decide +kernel
theorem dX5_program_84 : decode cX5_program 84 = .ok (.iload_n 1, 1) := by decide +kernel
theorem dX5_program_85 : decode cX5_program 85 = .ok (.imul, 1) := by decide +kernel
theorem dX5_program_86 : decode cX5_program 86 = .ok (.iload_n 2, 1) := by decide +kernel
theorem dX5_program_87 : decode cX5_program 87 = .ok (.iadd, 1) := by decide +kernel
theorem dX5_program_88 : decode cX5_program 88 = .ok (.invokevirtual 121, 3) := by decide +kernel
theorem dX5_program_91 : decode cX5_program 91 = .ok (.iinc 2 1, 3) := by decide +kernel
theorem dX5_program_94 : decode cX5_program 94 = .ok (.goto (-27), 3) := by decide +kernel
theorem dX5_program_97 : decode cX5_program 97 = .ok (.aload_n 0, 1) := by decide +kernel
theorem dX5_program_98 : decode cX5_program 98 = .ok (.iconst 0, 1) := by decide +kernel
theorem dX5_program_99 : decode cX5_program 99 = .ok (.putfield 125, 3) := by decide +kernel
theorem dX5_program_102 : decode cX5_program 102 = .ok (.aload_n 0, 1) := by decide +kernel
theorem dX5_program_103 : decode cX5_program 103 = .ok (.getfield 7, 3) := by decide +kernel
theorem dX5_program_106 : decode cX5_program 106 = .ok (.iload_n 1, 1) := by decide +kernel
theorem dX5_program_107 : decode cX5_program 107 = .ok (.iaload, 1) := by decide +kernel
theorem dX5_program_108 : decode cX5_program 108 = .ok (.ireturn, 1) := by decide +kernel
theorem dX5_fault_0 : decode cX5_fault 0 = .ok (.iload_n 1, 1) := by decide +kernel
theorem dX5_fault_1 : decode cX5_fault 1 = .ok (.ifCond .ne 10, 3) := by decide +kernel
theorem dX5_fault_4 : decode cX5_fault 4 = .ok (.aload_n 0, 1) := by decide +kernel
theorem dX5_fault_5 : decode cX5_fault 5 = .ok (.getfield 28, 3) := by decide +kernel
theorem dX5_fault_8 : decode cX5_fault 8 = .ok (.goto 16, 3) := by decide +kernel
theorem dX5_fault_11 : decode cX5_fault 11 = .ok (.iload_n 1, 1) := by decide +kernel
theorem dX5_fault_12 : decode cX5_fault 12 = .ok (.iconst 1, 1) := by decide +kernel
theorem dX5_fault_13 : decode cX5_fault 13 = .ok (.if_icmp .ne 10, 3) := by decide +kernel
theorem dX5_fault_16 : decode cX5_fault 16 = .ok (.aload_n 0, 1) := by decide +kernel
theorem dX5_fault_17 : decode cX5_fault 17 = .ok (.getfield 32, 3) := by decide +kernel
theorem dX5_fault_20 : decode cX5_fault 20 = .ok (.goto 4, 3) := by decide +kernel
theorem dX5_fault_23 : decode cX5_fault 23 = .ok (.iconst (-1), 1) := by decide +kernel
theorem dX5_fault_24 : decode cX5_fault 24 = .ok (.ireturn, 1) := by decide +kernel
set_option maxRecDepth 20000 in
theorem ggX5_word_X5_isIn : GoodIn wsX5_word wsX5_isIn := goodIn_r _ [7] (by decide +kernel) (by decide +kernel)
set_option maxRecDepth 20000 in
theorem gX5_word_X5_isIn : GoodIn wsX5_word (va_wsS RX5 64 yX5_isIn wsX5_isIn) := goodIn_app (goodIn_of _ (by decide +kernel)) ggX5_word_X5_isIn
theorem dX5_word_0 : decode cX5_word 0 = .ok (.iload_n 1, 1) := by decide +kernel
theorem dX5_word_1 : decode cX5_word 1 = .ok (.iconst 0, 1) := by decide +kernel
theorem dX5_word_2 : decode cX5_word 2 = .ok (.iconst 3, 1) := by decide +kernel
theorem dX5_word_3 : decode cX5_word 3 = .ok (.invokestatic 64, 3) := by decide +kernel
theorem dX5_word_6 : decode cX5_word 6 = .ok (.ifCond .eq 22, 3) := by decide +kernel
theorem dX5_word_9 : decode cX5_word 9 = .ok (.iload_n 2, 1) := by decide +kernel
theorem dX5_word_10 : decode cX5_word 10 = .ok (.iconst 0, 1) := by decide +kernel
theorem dX5_word_11 : decode cX5_word 11 = .ok (.iconst 3, 1) := by decide +kernel
theorem dX5_word_12 : decode cX5_word 12 = .ok (.invokestatic 64, 3) := by decide +kernel
theorem dX5_word_15 : decode cX5_word 15 = .ok (.ifCond .eq 13, 3) := by decide +kernel
theorem dX5_word_18 : decode cX5_word 18 = .ok (.iload_n 3, 1) := by decide +kernel
theorem dX5_word_19 : decode cX5_word 19 = .ok (.iconst 0, 1) := by decide +kernel
theorem dX5_word_20 : decode cX5_word 20 = .ok (.bipush 7, 2) := by decide +kernel
theorem dX5_word_22 : decode cX5_word 22 = .ok (.invokestatic 64, 3) := by decide +kernel
theorem dX5_word_25 : decode cX5_word 25 = .ok (.ifCond .ne 5, 3) := by decide +kernel
theorem dX5_word_28 : decode cX5_word 28 = .ok (.iconst 0, 1) := by decide +kernel
theorem dX5_word_29 : decode cX5_word 29 = .ok (.ireturn, 1) := by decide +kernel
theorem dX5_word_30 : decode cX5_word 30 = .ok (.aload_n 0, 1) := by decide +kernel
theorem dX5_word_31 : decode cX5_word 31 = .ok (.getfield 19, 3) := by decide +kernel
theorem dX5_word_34 : decode cX5_word 34 = .ok (.iload_n 1, 1) := by decide +kernel
theorem dX5_word_35 : decode cX5_word 35 = .ok (.iload_n 2, 1) := by decide +kernel
theorem dX5_word_36 : decode cX5_word 36 = .ok (.iastore, 1) := by decide +kernel
theorem dX5_word_37 : decode cX5_word 37 = .ok (.aload_n 0, 1) := by decide +kernel
theorem dX5_word_38 : decode cX5_word 38 = .ok (.getfield 22, 3) := by decide +kernel
theorem dX5_word_41 : decode cX5_word 41 = .ok (.iload_n 1, 1) := by decide +kernel
theorem dX5_word_42 : decode cX5_word 42 = .ok (.iload_n 3, 1) := by decide +kernel
theorem dX5_word_43 : decode cX5_word 43 = .ok (.iastore, 1) := by decide +kernel
theorem dX5_word_44 : decode cX5_word 44 = .ok (.aload_n 0, 1) := by decide +kernel
theorem dX5_word_45 : decode cX5_word 45 = .ok (.iconst 0, 1) := by decide +kernel
theorem dX5_word_46 : decode cX5_word 46 = .ok (.putfield 125, 3) := by decide +kernel
theorem dX5_word_49 : decode cX5_word 49 = .ok (.iconst 1, 1) := by decide +kernel
theorem dX5_word_50 : decode cX5_word 50 = .ok (.ireturn, 1) := by decide +kernel
theorem dX5_falls_0 : decode cX5_falls 0 = .ok (.aload_n 0, 1) := by decide +kernel
theorem dX5_falls_1 : decode cX5_falls 1 = .ok (.iload_n 1, 1) := by decide +kernel
theorem dX5_falls_2 : decode cX5_falls 2 = .ok (.putfield 129, 3) := by decide +kernel
theorem dX5_falls_5 : decode cX5_falls 5 = .ok (.aload_n 0, 1) := by decide +kernel
theorem dX5_falls_6 : decode cX5_falls 6 = .ok (.iconst 0, 1) := by decide +kernel
theorem dX5_falls_7 : decode cX5_falls 7 = .ok (.putfield 125, 3) := by decide +kernel
theorem dX5_falls_10 : decode cX5_falls 10 = .ok (.return_, 1) := by decide +kernel
theorem dX5_bits_0 : decode cX5_bits 0 = .ok (.lload_n 0, 1) := by decide +kernel
theorem dX5_bits_1 : decode cX5_bits 1 = .ok (.iload_n 2, 1) := by decide +kernel
theorem dX5_bits_2 : decode cX5_bits 2 = .ok (.lshr, 1) := by decide +kernel
theorem dX5_bits_3 : decode cX5_bits 3 = .ok (.l2i, 1) := by decide +kernel
theorem dX5_bits_4 : decode cX5_bits 4 = .ok (.iconst 1, 1) := by decide +kernel
theorem dX5_bits_5 : decode cX5_bits 5 = .ok (.iload_n 3, 1) := by decide +kernel
theorem dX5_bits_6 : decode cX5_bits 6 = .ok (.ishl, 1) := by decide +kernel
theorem dX5_bits_7 : decode cX5_bits 7 = .ok (.iconst 1, 1) := by decide +kernel
theorem dX5_bits_8 : decode cX5_bits 8 = .ok (.isub, 1) := by decide +kernel
theorem dX5_bits_9 : decode cX5_bits 9 = .ok (.iand, 1) := by decide +kernel
theorem dX5_bits_10 : decode cX5_bits 10 = .ok (.ireturn, 1) := by decide +kernel
theorem dX5_with_0 : decode cX5_with 0 = .ok (.lload_n 0, 1) := by decide +kernel
theorem dX5_with_1 : decode cX5_with 1 = .ok (.lconst 1, 1) := by decide +kernel
theorem dX5_with_2 : decode cX5_with 2 = .ok (.iload_n 3, 1) := by decide +kernel
theorem dX5_with_3 : decode cX5_with 3 = .ok (.lshl, 1) := by decide +kernel
theorem dX5_with_4 : decode cX5_with 4 = .ok (.lconst 1, 1) := by decide +kernel
theorem dX5_with_5 : decode cX5_with 5 = .ok (.lsub, 1) := by decide +kernel
theorem dX5_with_6 : decode cX5_with 6 = .ok (.iload_n 2, 1) := by decide +kernel
theorem dX5_with_7 : decode cX5_with 7 = .ok (.lshl, 1) := by decide +kernel
theorem dX5_with_8 : decode cX5_with 8 = .ok (.ldc2_w 132, 3) := by decide +kernel
theorem dX5_with_11 : decode cX5_with 11 = .ok (.lxor, 1) := by decide +kernel
theorem dX5_with_12 : decode cX5_with 12 = .ok (.land, 1) := by decide +kernel
theorem dX5_with_13 : decode cX5_with 13 = .ok (.iload 4, 2) := by decide +kernel
theorem dX5_with_15 : decode cX5_with 15 = .ok (.i2l, 1) := by decide +kernel
theorem dX5_with_16 : decode cX5_with 16 = .ok (.iload_n 2, 1) := by decide +kernel
theorem dX5_with_17 : decode cX5_with 17 = .ok (.lshl, 1) := by decide +kernel
theorem dX5_with_18 : decode cX5_with 18 = .ok (.lor, 1) := by decide +kernel
theorem dX5_with_19 : decode cX5_with 19 = .ok (.lreturn, 1) := by decide +kernel
set_option maxRecDepth 20000 in
theorem ggX5_atOf_X5_bits : GoodIn wsX5_atOf wsX5_bits := goodIn_r _ [4] (by decide +kernel) (by decide +kernel)
set_option maxRecDepth 20000 in
theorem gX5_atOf_X5_bits : GoodIn wsX5_atOf (va_wsS RX5 134 yX5_bits wsX5_bits) := goodIn_app (goodIn_of _ (by decide +kernel)) ggX5_atOf_X5_bits
theorem dX5_atOf_0 : decode cX5_atOf 0 = .ok (.lload_n 0, 1) := by decide +kernel
theorem dX5_atOf_1 : decode cX5_atOf 1 = .ok (.bipush 16, 2) := by decide +kernel
theorem dX5_atOf_3 : decode cX5_atOf 3 = .ok (.iconst 3, 1) := by decide +kernel
theorem dX5_atOf_4 : decode cX5_atOf 4 = .ok (.iload_n 2, 1) := by decide +kernel
theorem dX5_atOf_5 : decode cX5_atOf 5 = .ok (.imul, 1) := by decide +kernel
theorem dX5_atOf_6 : decode cX5_atOf 6 = .ok (.iadd, 1) := by decide +kernel
theorem dX5_atOf_7 : decode cX5_atOf 7 = .ok (.iconst 3, 1) := by decide +kernel
theorem dX5_atOf_8 : decode cX5_atOf 8 = .ok (.invokestatic 134, 3) := by decide +kernel
theorem dX5_atOf_11 : decode cX5_atOf 11 = .ok (.ireturn, 1) := by decide +kernel
set_option maxRecDepth 20000 in
theorem ggX5_wishes_X5_bits : GoodIn wsX5_wishes wsX5_bits := goodIn_r _ [4] (by decide +kernel) (by decide +kernel)
set_option maxRecDepth 20000 in
theorem gX5_wishes_X5_bits : GoodIn wsX5_wishes (va_wsS RX5 134 yX5_bits wsX5_bits) := goodIn_app (goodIn_of _ (by decide +kernel)) ggX5_wishes_X5_bits
theorem dX5_wishes_0 : decode cX5_wishes 0 = .ok (.lload_n 0, 1) := by decide +kernel
theorem dX5_wishes_1 : decode cX5_wishes 1 = .ok (.bipush 22, 2) := by decide +kernel
theorem dX5_wishes_3 : decode cX5_wishes 3 = .ok (.iconst 2, 1) := by decide +kernel
theorem dX5_wishes_4 : decode cX5_wishes 4 = .ok (.iload_n 2, 1) := by decide +kernel
theorem dX5_wishes_5 : decode cX5_wishes 5 = .ok (.imul, 1) := by decide +kernel
theorem dX5_wishes_6 : decode cX5_wishes 6 = .ok (.iadd, 1) := by decide +kernel
theorem dX5_wishes_7 : decode cX5_wishes 7 = .ok (.iconst 2, 1) := by decide +kernel
theorem dX5_wishes_8 : decode cX5_wishes 8 = .ok (.invokestatic 134, 3) := by decide +kernel
theorem dX5_wishes_11 : decode cX5_wishes 11 = .ok (.ireturn, 1) := by decide +kernel
set_option maxRecDepth 20000 in
theorem ggX5_sortOf_X5_bits : GoodIn wsX5_sortOf wsX5_bits := goodIn_r _ [5] (by decide +kernel) (by decide +kernel)
set_option maxRecDepth 20000 in
theorem gX5_sortOf_X5_bits : GoodIn wsX5_sortOf (va_wsS RX5 134 yX5_bits wsX5_bits) := goodIn_app (goodIn_of _ (by decide +kernel)) ggX5_sortOf_X5_bits
theorem dX5_sortOf_0 : decode cX5_sortOf 0 = .ok (.aload_n 0, 1) := by decide +kernel
theorem dX5_sortOf_1 : decode cX5_sortOf 1 = .ok (.getfield 13, 3) := by decide +kernel
theorem dX5_sortOf_4 : decode cX5_sortOf 4 = .ok (.bipush 16, 2) := by decide +kernel
theorem dX5_sortOf_6 : decode cX5_sortOf 6 = .ok (.bipush 8, 2) := by decide +kernel
theorem dX5_sortOf_8 : decode cX5_sortOf 8 = .ok (.iload_n 3, 1) := by decide +kernel
theorem dX5_sortOf_9 : decode cX5_sortOf 9 = .ok (.imul, 1) := by decide +kernel
theorem dX5_sortOf_10 : decode cX5_sortOf 10 = .ok (.iadd, 1) := by decide +kernel
theorem dX5_sortOf_11 : decode cX5_sortOf 11 = .ok (.lload_n 1, 1) := by decide +kernel
theorem dX5_sortOf_12 : decode cX5_sortOf 12 = .ok (.bipush 26, 2) := by decide +kernel
theorem dX5_sortOf_14 : decode cX5_sortOf 14 = .ok (.bipush 9, 2) := by decide +kernel
theorem dX5_sortOf_16 : decode cX5_sortOf 16 = .ok (.iload_n 3, 1) := by decide +kernel
theorem dX5_sortOf_17 : decode cX5_sortOf 17 = .ok (.imul, 1) := by decide +kernel
theorem dX5_sortOf_18 : decode cX5_sortOf 18 = .ok (.iadd, 1) := by decide +kernel
theorem dX5_sortOf_19 : decode cX5_sortOf 19 = .ok (.iconst 3, 1) := by decide +kernel
theorem dX5_sortOf_20 : decode cX5_sortOf 20 = .ok (.iload 4, 2) := by decide +kernel
theorem dX5_sortOf_22 : decode cX5_sortOf 22 = .ok (.imul, 1) := by decide +kernel
theorem dX5_sortOf_23 : decode cX5_sortOf 23 = .ok (.iadd, 1) := by decide +kernel
theorem dX5_sortOf_24 : decode cX5_sortOf 24 = .ok (.iconst 3, 1) := by decide +kernel
theorem dX5_sortOf_25 : decode cX5_sortOf 25 = .ok (.invokestatic 134, 3) := by decide +kernel
theorem dX5_sortOf_28 : decode cX5_sortOf 28 = .ok (.iadd, 1) := by decide +kernel
theorem dX5_sortOf_29 : decode cX5_sortOf 29 = .ok (.iaload, 1) := by decide +kernel
theorem dX5_sortOf_30 : decode cX5_sortOf 30 = .ok (.ireturn, 1) := by decide +kernel
set_option maxRecDepth 20000 in
theorem ggX5_hasGet_X5_wishes : GoodIn wsX5_hasGet wsX5_wishes := goodIn_r _ [4, 5, 6, 3, 7] (by decide +kernel) (by decide +kernel)
set_option maxRecDepth 20000 in
theorem gX5_hasGet_X5_wishes : GoodIn wsX5_hasGet (va_wsS RX5 138 yX5_wishes wsX5_wishes) := goodIn_app (goodIn_of _ (by decide +kernel)) ggX5_hasGet_X5_wishes
set_option maxRecDepth 20000 in
theorem ggX5_hasGet_X5_sortOf : GoodIn wsX5_hasGet wsX5_sortOf := goodIn_r _ [11, 12, 5, 6, 3, 7, 13, 14, 15, 16, 17, 18, 19, 20, 21, 22, 23, 24, 25, 26, 27, 28, 29, 30, 31, 32, 33, 34, 35] (by decide +kernel) (by decide +kernel)
set_option maxRecDepth 20000 in
theorem gX5_hasGet_X5_sortOf : GoodIn wsX5_hasGet (wsV RX5 142 RX5 yX5_sortOf wsX5_sortOf) := goodIn_app (goodIn_of _ (by decide +kernel)) ggX5_hasGet_X5_sortOf
theorem dX5_hasGet_0 : decode cX5_hasGet 0 = .ok (.iconst 0, 1) := by decide +kernel
theorem dX5_hasGet_1 : decode cX5_hasGet 1 = .ok (.istore 4, 2) := by decide +kernel
theorem dX5_hasGet_3 : decode cX5_hasGet 3 = .ok (.iload 4, 2) := by decide +kernel
theorem dX5_hasGet_5 : decode cX5_hasGet 5 = .ok (.lload_n 1, 1) := by decide +kernel
theorem dX5_hasGet_6 : decode cX5_hasGet 6 = .ok (.iload_n 3, 1) := by decide +kernel
theorem dX5_hasGet_7 : decode cX5_hasGet 7 = .ok (.invokestatic 138, 3) := by decide +kernel
theorem dX5_hasGet_10 : decode cX5_hasGet 10 = .ok (.if_icmp .ge 23, 3) := by decide +kernel
theorem dX5_hasGet_13 : decode cX5_hasGet 13 = .ok (.aload_n 0, 1) := by decide +kernel
theorem dX5_hasGet_14 : decode cX5_hasGet 14 = .ok (.lload_n 1, 1) := by decide +kernel
theorem dX5_hasGet_15 : decode cX5_hasGet 15 = .ok (.iload_n 3, 1) := by decide +kernel
theorem dX5_hasGet_16 : decode cX5_hasGet 16 = .ok (.iload 4, 2) := by decide +kernel
theorem dX5_hasGet_18 : decode cX5_hasGet 18 = .ok (.invokevirtual 142, 3) := by decide +kernel
theorem dX5_hasGet_21 : decode cX5_hasGet 21 = .ok (.iconst 1, 1) := by decide +kernel
theorem dX5_hasGet_22 : decode cX5_hasGet 22 = .ok (.if_icmp .ne 5, 3) := by decide +kernel
theorem dX5_hasGet_25 : decode cX5_hasGet 25 = .ok (.iconst 1, 1) := by decide +kernel
theorem dX5_hasGet_26 : decode cX5_hasGet 26 = .ok (.ireturn, 1) := by decide +kernel
theorem dX5_hasGet_27 : decode cX5_hasGet 27 = .ok (.iinc 4 1, 3) := by decide +kernel
theorem dX5_hasGet_30 : decode cX5_hasGet 30 = .ok (.goto (-27), 3) := by decide +kernel
theorem dX5_hasGet_33 : decode cX5_hasGet 33 = .ok (.iconst 0, 1) := by decide +kernel
theorem dX5_hasGet_34 : decode cX5_hasGet 34 = .ok (.ireturn, 1) := by decide +kernel
set_option maxRecDepth 20000 in
theorem ggX5_does_X5_atOf : GoodIn wsX5_does wsX5_atOf := goodIn_r _ [8, 9, 10, 7, 11] (by decide +kernel) (by decide +kernel)
set_option maxRecDepth 20000 in
theorem gX5_does_X5_atOf : GoodIn wsX5_does (va_wsS RX5 145 yX5_atOf wsX5_atOf) := goodIn_app (goodIn_of _ (by decide +kernel)) ggX5_does_X5_atOf
set_option maxRecDepth 20000 in
theorem ggX5_does_X5_wishes : GoodIn wsX5_does wsX5_wishes := goodIn_r _ [14, 9, 10, 7, 11] (by decide +kernel) (by decide +kernel)
set_option maxRecDepth 20000 in
theorem gX5_does_X5_wishes : GoodIn wsX5_does (va_wsS RX5 138 yX5_wishes wsX5_wishes) := goodIn_app (goodIn_of _ (by decide +kernel)) ggX5_does_X5_wishes
set_option maxRecDepth 20000 in
theorem ggX5_does_X5_bits : GoodIn wsX5_does wsX5_bits := goodIn_r _ [11] (by decide +kernel) (by decide +kernel)
set_option maxRecDepth 20000 in
theorem gX5_does_X5_bits : GoodIn wsX5_does (va_wsS RX5 134 yX5_bits wsX5_bits) := goodIn_app (goodIn_of _ (by decide +kernel)) ggX5_does_X5_bits
set_option maxRecDepth 20000 in
theorem ggX5_does_X5_with : GoodIn wsX5_does wsX5_with := goodIn_r _ [17, 2] (by decide +kernel) (by decide +kernel)
set_option maxRecDepth 20000 in
theorem gX5_does_X5_with : GoodIn wsX5_does (va_wsS RX5 148 yX5_with wsX5_with) := goodIn_app (goodIn_of _ (by decide +kernel)) ggX5_does_X5_with
set_option maxRecDepth 20000 in
theorem ggX5_does_X5_hasGet : GoodIn wsX5_does wsX5_hasGet := goodIn_r _ [21, 12, 13, 7, 14, 9, 10, 11, 22, 23, 24, 25, 4, 26, 27, 28, 29, 30, 31, 32, 33, 34, 35, 36, 37, 38, 39, 40, 41, 42, 43, 44, 45, 46, 47, 48] (by decide +kernel) (by decide +kernel)
set_option maxRecDepth 20000 in
theorem gX5_does_X5_hasGet : GoodIn wsX5_does (wsV RX5 152 RX5 yX5_hasGet wsX5_hasGet) := goodIn_app (goodIn_of _ (by decide +kernel)) ggX5_does_X5_hasGet
theorem dX5_does_0 : decode cX5_does 0 = .ok (.lload_n 1, 1) := by decide +kernel
theorem dX5_does_1 : decode cX5_does 1 = .ok (.iload_n 3, 1) := by decide +kernel
theorem dX5_does_2 : decode cX5_does 2 = .ok (.invokestatic 145, 3) := by decide +kernel
theorem dX5_does_5 : decode cX5_does 5 = .ok (.istore 4, 2) := by decide +kernel
theorem dX5_does_7 : decode cX5_does 7 = .ok (.lload_n 1, 1) := by decide +kernel
theorem dX5_does_8 : decode cX5_does 8 = .ok (.iload_n 3, 1) := by decide +kernel
theorem dX5_does_9 : decode cX5_does 9 = .ok (.invokestatic 138, 3) := by decide +kernel
theorem dX5_does_12 : decode cX5_does 12 = .ok (.istore 5, 2) := by decide +kernel
theorem dX5_does_14 : decode cX5_does 14 = .ok (.lload_n 1, 1) := by decide +kernel
theorem dX5_does_15 : decode cX5_does 15 = .ok (.bipush 44, 2) := by decide +kernel
theorem dX5_does_17 : decode cX5_does 17 = .ok (.iload_n 3, 1) := by decide +kernel
theorem dX5_does_18 : decode cX5_does 18 = .ok (.iadd, 1) := by decide +kernel
theorem dX5_does_19 : decode cX5_does 19 = .ok (.iconst 1, 1) := by decide +kernel
theorem dX5_does_20 : decode cX5_does 20 = .ok (.invokestatic 134, 3) := by decide +kernel
theorem dX5_does_23 : decode cX5_does 23 = .ok (.iconst 1, 1) := by decide +kernel
theorem dX5_does_24 : decode cX5_does 24 = .ok (.if_icmp .eq 29, 3) := by decide +kernel
theorem dX5_does_27 : decode cX5_does 27 = .ok (.lload_n 1, 1) := by decide +kernel
theorem dX5_does_28 : decode cX5_does 28 = .ok (.bipush 46, 2) := by decide +kernel
theorem dX5_does_30 : decode cX5_does 30 = .ok (.iconst 2, 1) := by decide +kernel
theorem dX5_does_31 : decode cX5_does 31 = .ok (.invokestatic 134, 3) := by decide +kernel
theorem dX5_does_34 : decode cX5_does 34 = .ok (.iload_n 3, 1) := by decide +kernel
theorem dX5_does_35 : decode cX5_does 35 = .ok (.iconst 1, 1) := by decide +kernel
theorem dX5_does_36 : decode cX5_does 36 = .ok (.iadd, 1) := by decide +kernel
theorem dX5_does_37 : decode cX5_does 37 = .ok (.if_icmp .eq 16, 3) := by decide +kernel
theorem dX5_does_40 : decode cX5_does 40 = .ok (.iload 4, 2) := by decide +kernel
theorem dX5_does_42 : decode cX5_does 42 = .ok (.aload_n 0, 1) := by decide +kernel
theorem dX5_does_43 : decode cX5_does 43 = .ok (.getfield 7, 3) := by decide +kernel
theorem dX5_does_46 : decode cX5_does 46 = .ok (.iconst 2, 1) := by decide +kernel
theorem dX5_does_47 : decode cX5_does 47 = .ok (.iload_n 3, 1) := by decide +kernel
theorem dX5_does_48 : decode cX5_does 48 = .ok (.iadd, 1) := by decide +kernel
theorem dX5_does_49 : decode cX5_does 49 = .ok (.iaload, 1) := by decide +kernel
theorem dX5_does_50 : decode cX5_does 50 = .ok (.if_icmp .ne 7, 3) := by decide +kernel
theorem dX5_does_53 : decode cX5_does 53 = .ok (.ldc2_w 132, 3) := by decide +kernel
theorem dX5_does_56 : decode cX5_does 56 = .ok (.lreturn, 1) := by decide +kernel
theorem dX5_does_57 : decode cX5_does 57 = .ok (.bipush 16, 2) := by decide +kernel
theorem dX5_does_59 : decode cX5_does 59 = .ok (.bipush 8, 2) := by decide +kernel
theorem dX5_does_61 : decode cX5_does 61 = .ok (.iload_n 3, 1) := by decide +kernel
theorem dX5_does_62 : decode cX5_does 62 = .ok (.imul, 1) := by decide +kernel
theorem dX5_does_63 : decode cX5_does 63 = .ok (.iadd, 1) := by decide +kernel
theorem dX5_does_64 : decode cX5_does 64 = .ok (.iload 4, 2) := by decide +kernel
theorem dX5_does_66 : decode cX5_does 66 = .ok (.iadd, 1) := by decide +kernel
theorem dX5_does_67 : decode cX5_does 67 = .ok (.istore 6, 2) := by decide +kernel
theorem dX5_does_69 : decode cX5_does 69 = .ok (.aload_n 0, 1) := by decide +kernel
theorem dX5_does_70 : decode cX5_does 70 = .ok (.getfield 16, 3) := by decide +kernel
theorem dX5_does_73 : decode cX5_does 73 = .ok (.iconst 4, 1) := by decide +kernel
theorem dX5_does_74 : decode cX5_does 74 = .ok (.iload 6, 2) := by decide +kernel
theorem dX5_does_76 : decode cX5_does 76 = .ok (.imul, 1) := by decide +kernel
theorem dX5_does_77 : decode cX5_does 77 = .ok (.iaload, 1) := by decide +kernel
theorem dX5_does_78 : decode cX5_does 78 = .ok (.istore 7, 2) := by decide +kernel
theorem dX5_does_80 : decode cX5_does 80 = .ok (.aload_n 0, 1) := by decide +kernel
theorem dX5_does_81 : decode cX5_does 81 = .ok (.getfield 16, 3) := by decide +kernel
theorem dX5_does_84 : decode cX5_does 84 = .ok (.iconst 4, 1) := by decide +kernel
theorem dX5_does_85 : decode cX5_does 85 = .ok (.iload 6, 2) := by decide +kernel
theorem dX5_does_87 : decode cX5_does 87 = .ok (.imul, 1) := by decide +kernel
theorem dX5_does_88 : decode cX5_does 88 = .ok (.iconst 1, 1) := by decide +kernel
theorem dX5_does_89 : decode cX5_does 89 = .ok (.iadd, 1) := by decide +kernel
theorem dX5_does_90 : decode cX5_does 90 = .ok (.iaload, 1) := by decide +kernel
theorem dX5_does_91 : decode cX5_does 91 = .ok (.istore 8, 2) := by decide +kernel
theorem dX5_does_93 : decode cX5_does 93 = .ok (.lload_n 1, 1) := by decide +kernel
theorem dX5_does_94 : decode cX5_does 94 = .ok (.bipush 16, 2) := by decide +kernel
theorem dX5_does_96 : decode cX5_does 96 = .ok (.iconst 3, 1) := by decide +kernel
theorem dX5_does_97 : decode cX5_does 97 = .ok (.iload_n 3, 1) := by decide +kernel
theorem dX5_does_98 : decode cX5_does 98 = .ok (.imul, 1) := by decide +kernel
theorem dX5_does_99 : decode cX5_does 99 = .ok (.iadd, 1) := by decide +kernel
theorem dX5_does_100 : decode cX5_does 100 = .ok (.iconst 3, 1) := by decide +kernel
theorem dX5_does_101 : decode cX5_does 101 = .ok (.iload 4, 2) := by decide +kernel
theorem dX5_does_103 : decode cX5_does 103 = .ok (.iconst 1, 1) := by decide +kernel
theorem dX5_does_104 : decode cX5_does 104 = .ok (.iadd, 1) := by decide +kernel
theorem dX5_does_105 : decode cX5_does 105 = .ok (.invokestatic 148, 3) := by decide +kernel
theorem dX5_does_108 : decode cX5_does 108 = .ok (.lstore 9, 2) := by decide +kernel
theorem dX5_does_110 : decode cX5_does 110 = .ok (.aload_n 0, 1) := by decide +kernel
theorem dX5_does_111 : decode cX5_does 111 = .ok (.getfield 13, 3) := by decide +kernel
theorem dX5_does_114 : decode cX5_does 114 = .ok (.iload 6, 2) := by decide +kernel
theorem dX5_does_116 : decode cX5_does 116 = .ok (.iaload, 1) := by decide +kernel
theorem dX5_does_117 : decode cX5_does 117 = .ok (.tableswitch 191 4 8 #[35, 53, 67, 80, 107], 35) := by decide +kernel
theorem dX5_does_152 : decode cX5_does 152 = .ok (.aload_n 0, 1) := by decide +kernel
theorem dX5_does_153 : decode cX5_does 153 = .ok (.lload_n 1, 1) := by decide +kernel
theorem dX5_does_154 : decode cX5_does 154 = .ok (.iload_n 3, 1) := by decide +kernel
theorem dX5_does_155 : decode cX5_does 155 = .ok (.invokevirtual 152, 3) := by decide +kernel
theorem dX5_does_158 : decode cX5_does 158 = .ok (.ifCond .eq 9, 3) := by decide +kernel
theorem dX5_does_161 : decode cX5_does 161 = .ok (.ldc2_w 132, 3) := by decide +kernel
theorem dX5_does_164 : decode cX5_does 164 = .ok (.goto 5, 3) := by decide +kernel
theorem dX5_does_167 : decode cX5_does 167 = .ok (.lload 9, 2) := by decide +kernel
theorem dX5_does_169 : decode cX5_does 169 = .ok (.lreturn, 1) := by decide +kernel
theorem dX5_does_170 : decode cX5_does 170 = .ok (.iload 5, 2) := by decide +kernel
theorem dX5_does_172 : decode cX5_does 172 = .ok (.ifCond .le 9, 3) := by decide +kernel
theorem dX5_does_175 : decode cX5_does 175 = .ok (.ldc2_w 132, 3) := by decide +kernel
theorem dX5_does_178 : decode cX5_does 178 = .ok (.goto 5, 3) := by decide +kernel
theorem dX5_does_181 : decode cX5_does 181 = .ok (.lload 9, 2) := by decide +kernel
theorem dX5_does_183 : decode cX5_does 183 = .ok (.lreturn, 1) := by decide +kernel
theorem dX5_does_184 : decode cX5_does 184 = .ok (.lload 9, 2) := by decide +kernel
theorem dX5_does_186 : decode cX5_does 186 = .ok (.iconst 2, 1) := by decide +kernel
theorem dX5_does_187 : decode cX5_does 187 = .ok (.iload 7, 2) := by decide +kernel
theorem dX5_does_189 : decode cX5_does 189 = .ok (.imul, 1) := by decide +kernel
theorem dX5_does_190 : decode cX5_does 190 = .ok (.iconst 2, 1) := by decide +kernel
theorem dX5_does_191 : decode cX5_does 191 = .ok (.iload 8, 2) := by decide +kernel
theorem dX5_does_193 : decode cX5_does 193 = .ok (.invokestatic 148, 3) := by decide +kernel
theorem dX5_does_196 : decode cX5_does 196 = .ok (.lreturn, 1) := by decide +kernel
theorem dX5_does_197 : decode cX5_does 197 = .ok (.lload 9, 2) := by decide +kernel
theorem dX5_does_199 : decode cX5_does 199 = .ok (.bipush 8, 2) := by decide +kernel
theorem dX5_does_201 : decode cX5_does 201 = .ok (.iconst 4, 1) := by decide +kernel
theorem dX5_does_202 : decode cX5_does 202 = .ok (.iload_n 3, 1) := by decide +kernel
theorem dX5_does_203 : decode cX5_does 203 = .ok (.imul, 1) := by decide +kernel
theorem dX5_does_204 : decode cX5_does 204 = .ok (.iadd, 1) := by decide +kernel
theorem dX5_does_205 : decode cX5_does 205 = .ok (.iconst 2, 1) := by decide +kernel
theorem dX5_does_206 : decode cX5_does 206 = .ok (.iload 8, 2) := by decide +kernel
theorem dX5_does_208 : decode cX5_does 208 = .ok (.imul, 1) := by decide +kernel
theorem dX5_does_209 : decode cX5_does 209 = .ok (.iadd, 1) := by decide +kernel
theorem dX5_does_210 : decode cX5_does 210 = .ok (.iconst 2, 1) := by decide +kernel
theorem dX5_does_211 : decode cX5_does 211 = .ok (.lload_n 1, 1) := by decide +kernel
theorem dX5_does_212 : decode cX5_does 212 = .ok (.iconst 2, 1) := by decide +kernel
theorem dX5_does_213 : decode cX5_does 213 = .ok (.iload 7, 2) := by decide +kernel
theorem dX5_does_215 : decode cX5_does 215 = .ok (.imul, 1) := by decide +kernel
theorem dX5_does_216 : decode cX5_does 216 = .ok (.iconst 2, 1) := by decide +kernel
theorem dX5_does_217 : decode cX5_does 217 = .ok (.invokestatic 134, 3) := by decide +kernel
theorem dX5_does_220 : decode cX5_does 220 = .ok (.invokestatic 148, 3) := by decide +kernel
theorem dX5_does_223 : decode cX5_does 223 = .ok (.lreturn, 1) := by decide +kernel
theorem dX5_does_224 : decode cX5_does 224 = .ok (.lload_n 1, 1) := by decide +kernel
theorem dX5_does_225 : decode cX5_does 225 = .ok (.bipush 8, 2) := by decide +kernel
theorem dX5_does_227 : decode cX5_does 227 = .ok (.iconst 4, 1) := by decide +kernel
theorem dX5_does_228 : decode cX5_does 228 = .ok (.iload_n 3, 1) := by decide +kernel
theorem dX5_does_229 : decode cX5_does 229 = .ok (.imul, 1) := by decide +kernel
theorem dX5_does_230 : decode cX5_does 230 = .ok (.iadd, 1) := by decide +kernel
theorem dX5_does_231 : decode cX5_does 231 = .ok (.iconst 2, 1) := by decide +kernel
theorem dX5_does_232 : decode cX5_does 232 = .ok (.iload 7, 2) := by decide +kernel
theorem dX5_does_234 : decode cX5_does 234 = .ok (.imul, 1) := by decide +kernel
theorem dX5_does_235 : decode cX5_does 235 = .ok (.iadd, 1) := by decide +kernel
theorem dX5_does_236 : decode cX5_does 236 = .ok (.iconst 2, 1) := by decide +kernel
theorem dX5_does_237 : decode cX5_does 237 = .ok (.invokestatic 134, 3) := by decide +kernel
theorem dX5_does_240 : decode cX5_does 240 = .ok (.iload 8, 2) := by decide +kernel
theorem dX5_does_242 : decode cX5_does 242 = .ok (.if_icmp .ne 22, 3) := by decide +kernel
theorem dX5_does_245 : decode cX5_does 245 = .ok (.iload 4, 2) := by decide +kernel
theorem dX5_does_247 : decode cX5_does 247 = .ok (.iconst 1, 1) := by decide +kernel
theorem dX5_does_248 : decode cX5_does 248 = .ok (.iadd, 1) := by decide +kernel
theorem dX5_does_249 : decode cX5_does 249 = .ok (.aload_n 0, 1) := by decide +kernel
theorem dX5_does_250 : decode cX5_does 250 = .ok (.getfield 16, 3) := by decide +kernel
theorem dX5_does_253 : decode cX5_does 253 = .ok (.iconst 4, 1) := by decide +kernel
theorem dX5_does_254 : decode cX5_does 254 = .ok (.iload 6, 2) := by decide +kernel
theorem dX5_does_256 : decode cX5_does 256 = .ok (.imul, 1) := by decide +kernel
theorem dX5_does_257 : decode cX5_does 257 = .ok (.iconst 2, 1) := by decide +kernel
theorem dX5_does_258 : decode cX5_does 258 = .ok (.iadd, 1) := by decide +kernel
theorem dX5_does_259 : decode cX5_does 259 = .ok (.iaload, 1) := by decide +kernel
theorem dX5_does_260 : decode cX5_does 260 = .ok (.iadd, 1) := by decide +kernel
theorem dX5_does_261 : decode cX5_does 261 = .ok (.goto 7, 3) := by decide +kernel
theorem dX5_does_264 : decode cX5_does 264 = .ok (.iload 4, 2) := by decide +kernel
theorem dX5_does_266 : decode cX5_does 266 = .ok (.iconst 1, 1) := by decide +kernel
theorem dX5_does_267 : decode cX5_does 267 = .ok (.iadd, 1) := by decide +kernel
theorem dX5_does_268 : decode cX5_does 268 = .ok (.istore 11, 2) := by decide +kernel
theorem dX5_does_270 : decode cX5_does 270 = .ok (.lload_n 1, 1) := by decide +kernel
theorem dX5_does_271 : decode cX5_does 271 = .ok (.bipush 16, 2) := by decide +kernel
theorem dX5_does_273 : decode cX5_does 273 = .ok (.iconst 3, 1) := by decide +kernel
theorem dX5_does_274 : decode cX5_does 274 = .ok (.iload_n 3, 1) := by decide +kernel
theorem dX5_does_275 : decode cX5_does 275 = .ok (.imul, 1) := by decide +kernel
theorem dX5_does_276 : decode cX5_does 276 = .ok (.iadd, 1) := by decide +kernel
theorem dX5_does_277 : decode cX5_does 277 = .ok (.iconst 3, 1) := by decide +kernel
theorem dX5_does_278 : decode cX5_does 278 = .ok (.iload 11, 2) := by decide +kernel
theorem dX5_does_280 : decode cX5_does 280 = .ok (.aload_n 0, 1) := by decide +kernel
theorem dX5_does_281 : decode cX5_does 281 = .ok (.getfield 7, 3) := by decide +kernel
theorem dX5_does_284 : decode cX5_does 284 = .ok (.iconst 2, 1) := by decide +kernel
theorem dX5_does_285 : decode cX5_does 285 = .ok (.iload_n 3, 1) := by decide +kernel
theorem dX5_does_286 : decode cX5_does 286 = .ok (.iadd, 1) := by decide +kernel
theorem dX5_does_287 : decode cX5_does 287 = .ok (.iaload, 1) := by decide +kernel
theorem dX5_does_288 : decode cX5_does 288 = .ok (.if_icmp .le 14, 3) := by decide +kernel
theorem dX5_does_291 : decode cX5_does 291 = .ok (.aload_n 0, 1) := by decide +kernel
theorem dX5_does_292 : decode cX5_does 292 = .ok (.getfield 7, 3) := by decide +kernel
theorem dX5_does_295 : decode cX5_does 295 = .ok (.iconst 2, 1) := by decide +kernel
theorem dX5_does_296 : decode cX5_does 296 = .ok (.iload_n 3, 1) := by decide +kernel
theorem dX5_does_297 : decode cX5_does 297 = .ok (.iadd, 1) := by decide +kernel
theorem dX5_does_298 : decode cX5_does 298 = .ok (.iaload, 1) := by decide +kernel
theorem dX5_does_299 : decode cX5_does 299 = .ok (.goto 5, 3) := by decide +kernel
theorem dX5_does_302 : decode cX5_does 302 = .ok (.iload 11, 2) := by decide +kernel
theorem dX5_does_304 : decode cX5_does 304 = .ok (.invokestatic 148, 3) := by decide +kernel
theorem dX5_does_307 : decode cX5_does 307 = .ok (.lreturn, 1) := by decide +kernel
theorem dX5_does_308 : decode cX5_does 308 = .ok (.iload 5, 2) := by decide +kernel
theorem dX5_does_310 : decode cX5_does 310 = .ok (.iconst 3, 1) := by decide +kernel
theorem dX5_does_311 : decode cX5_does 311 = .ok (.if_icmp .ne 9, 3) := by decide +kernel
theorem dX5_does_314 : decode cX5_does 314 = .ok (.ldc2_w 132, 3) := by decide +kernel
theorem dX5_does_317 : decode cX5_does 317 = .ok (.goto 37, 3) := by decide +kernel
theorem dX5_does_320 : decode cX5_does 320 = .ok (.lload 9, 2) := by decide +kernel
theorem dX5_does_322 : decode cX5_does 322 = .ok (.bipush 26, 2) := by decide +kernel
theorem dX5_does_324 : decode cX5_does 324 = .ok (.bipush 9, 2) := by decide +kernel
theorem dX5_does_326 : decode cX5_does 326 = .ok (.iload_n 3, 1) := by decide +kernel
theorem dX5_does_327 : decode cX5_does 327 = .ok (.imul, 1) := by decide +kernel
theorem dX5_does_328 : decode cX5_does 328 = .ok (.iadd, 1) := by decide +kernel
theorem dX5_does_329 : decode cX5_does 329 = .ok (.iconst 3, 1) := by decide +kernel
theorem dX5_does_330 : decode cX5_does 330 = .ok (.iload 5, 2) := by decide +kernel
theorem dX5_does_332 : decode cX5_does 332 = .ok (.imul, 1) := by decide +kernel
theorem dX5_does_333 : decode cX5_does 333 = .ok (.iadd, 1) := by decide +kernel
theorem dX5_does_334 : decode cX5_does 334 = .ok (.iconst 3, 1) := by decide +kernel
theorem dX5_does_335 : decode cX5_does 335 = .ok (.iload 4, 2) := by decide +kernel
theorem dX5_does_337 : decode cX5_does 337 = .ok (.invokestatic 148, 3) := by decide +kernel
theorem dX5_does_340 : decode cX5_does 340 = .ok (.bipush 22, 2) := by decide +kernel
theorem dX5_does_342 : decode cX5_does 342 = .ok (.iconst 2, 1) := by decide +kernel
theorem dX5_does_343 : decode cX5_does 343 = .ok (.iload_n 3, 1) := by decide +kernel
theorem dX5_does_344 : decode cX5_does 344 = .ok (.imul, 1) := by decide +kernel
theorem dX5_does_345 : decode cX5_does 345 = .ok (.iadd, 1) := by decide +kernel
theorem dX5_does_346 : decode cX5_does 346 = .ok (.iconst 2, 1) := by decide +kernel
theorem dX5_does_347 : decode cX5_does 347 = .ok (.iload 5, 2) := by decide +kernel
theorem dX5_does_349 : decode cX5_does 349 = .ok (.iconst 1, 1) := by decide +kernel
theorem dX5_does_350 : decode cX5_does 350 = .ok (.iadd, 1) := by decide +kernel
theorem dX5_does_351 : decode cX5_does 351 = .ok (.invokestatic 148, 3) := by decide +kernel
theorem dX5_does_354 : decode cX5_does 354 = .ok (.lreturn, 1) := by decide +kernel
set_option maxRecDepth 20000 in
theorem ggX5_broken_X5_with : GoodIn wsX5_broken wsX5_with := goodIn_r _ [4, 5] (by decide +kernel) (by decide +kernel)
set_option maxRecDepth 20000 in
theorem gX5_broken_X5_with : GoodIn wsX5_broken (va_wsS RX5 148 yX5_with wsX5_with) := goodIn_app (goodIn_of _ (by decide +kernel)) ggX5_broken_X5_with
theorem dX5_broken_0 : decode cX5_broken 0 = .ok (.lload_n 0, 1) := by decide +kernel
theorem dX5_broken_1 : decode cX5_broken 1 = .ok (.bipush 26, 2) := by decide +kernel
theorem dX5_broken_3 : decode cX5_broken 3 = .ok (.bipush 9, 2) := by decide +kernel
theorem dX5_broken_5 : decode cX5_broken 5 = .ok (.iload_n 2, 1) := by decide +kernel
theorem dX5_broken_6 : decode cX5_broken 6 = .ok (.imul, 1) := by decide +kernel
theorem dX5_broken_7 : decode cX5_broken 7 = .ok (.iadd, 1) := by decide +kernel
theorem dX5_broken_8 : decode cX5_broken 8 = .ok (.bipush 9, 2) := by decide +kernel
theorem dX5_broken_10 : decode cX5_broken 10 = .ok (.iconst 0, 1) := by decide +kernel
theorem dX5_broken_11 : decode cX5_broken 11 = .ok (.invokestatic 148, 3) := by decide +kernel
theorem dX5_broken_14 : decode cX5_broken 14 = .ok (.bipush 22, 2) := by decide +kernel
theorem dX5_broken_16 : decode cX5_broken 16 = .ok (.iconst 2, 1) := by decide +kernel
theorem dX5_broken_17 : decode cX5_broken 17 = .ok (.iload_n 2, 1) := by decide +kernel
theorem dX5_broken_18 : decode cX5_broken 18 = .ok (.imul, 1) := by decide +kernel
theorem dX5_broken_19 : decode cX5_broken 19 = .ok (.iadd, 1) := by decide +kernel
theorem dX5_broken_20 : decode cX5_broken 20 = .ok (.iconst 2, 1) := by decide +kernel
theorem dX5_broken_21 : decode cX5_broken 21 = .ok (.iconst 0, 1) := by decide +kernel
theorem dX5_broken_22 : decode cX5_broken 22 = .ok (.invokestatic 148, 3) := by decide +kernel
theorem dX5_broken_25 : decode cX5_broken 25 = .ok (.bipush 44, 2) := by decide +kernel
theorem dX5_broken_27 : decode cX5_broken 27 = .ok (.iload_n 2, 1) := by decide +kernel
theorem dX5_broken_28 : decode cX5_broken 28 = .ok (.iadd, 1) := by decide +kernel
theorem dX5_broken_29 : decode cX5_broken 29 = .ok (.iconst 1, 1) := by decide +kernel
theorem dX5_broken_30 : decode cX5_broken 30 = .ok (.iconst 1, 1) := by decide +kernel
theorem dX5_broken_31 : decode cX5_broken 31 = .ok (.invokestatic 148, 3) := by decide +kernel
theorem dX5_broken_34 : decode cX5_broken 34 = .ok (.lreturn, 1) := by decide +kernel
set_option maxRecDepth 20000 in
theorem ggX5_wish_X5_wishes : GoodIn wsX5_wish wsX5_wishes := goodIn_r _ [7, 8, 9, 6, 10] (by decide +kernel) (by decide +kernel)
set_option maxRecDepth 20000 in
theorem gX5_wish_X5_wishes : GoodIn wsX5_wish (va_wsS RX5 138 yX5_wishes wsX5_wishes) := goodIn_app (goodIn_of _ (by decide +kernel)) ggX5_wish_X5_wishes
set_option maxRecDepth 20000 in
theorem ggX5_wish_X5_sortOf : GoodIn wsX5_wish wsX5_sortOf := goodIn_r _ [14, 15, 8, 9, 6, 10, 26, 27, 28, 29, 30, 31, 32, 33, 34, 35, 36, 37, 38, 39, 40, 41, 42, 43, 44, 45, 46, 47, 48] (by decide +kernel) (by decide +kernel)
set_option maxRecDepth 20000 in
theorem gX5_wish_X5_sortOf : GoodIn wsX5_wish (wsV RX5 142 RX5 yX5_sortOf wsX5_sortOf) := goodIn_app (goodIn_of _ (by decide +kernel)) ggX5_wish_X5_sortOf
set_option maxRecDepth 20000 in
theorem ggX5_wish_X5_bits : GoodIn wsX5_wish wsX5_bits := goodIn_r _ [10] (by decide +kernel) (by decide +kernel)
set_option maxRecDepth 20000 in
theorem gX5_wish_X5_bits : GoodIn wsX5_wish (va_wsS RX5 134 yX5_bits wsX5_bits) := goodIn_app (goodIn_of _ (by decide +kernel)) ggX5_wish_X5_bits
set_option maxRecDepth 20000 in
theorem ggX5_wish_X5_broken : GoodIn wsX5_wish wsX5_broken := goodIn_r _ [18, 19, 20, 6, 21, 1] (by decide +kernel) (by decide +kernel)
set_option maxRecDepth 20000 in
theorem gX5_wish_X5_broken : GoodIn wsX5_wish (va_wsS RX5 156 yX5_broken wsX5_broken) := goodIn_app (goodIn_of _ (by decide +kernel)) ggX5_wish_X5_broken
set_option maxRecDepth 20000 in
theorem ggX5_wish_X5_with : GoodIn wsX5_wish wsX5_with := goodIn_r _ [21, 1] (by decide +kernel) (by decide +kernel)
set_option maxRecDepth 20000 in
theorem gX5_wish_X5_with : GoodIn wsX5_wish (va_wsS RX5 148 yX5_with wsX5_with) := goodIn_app (goodIn_of _ (by decide +kernel)) ggX5_wish_X5_with
set_option maxRecDepth 20000 in
theorem ggX5_wish_X5_act : GoodIn wsX5_wish wsX5_act := goodIn_r _ [25, 2, 8, 9, 6, 10, 19, 20, 21, 1, 26, 27, 28, 29, 30, 31, 32, 33, 34, 35, 36, 37, 38, 39, 40, 41, 42, 43, 44, 45, 46, 47, 48] (by decide +kernel) (by decide +kernel)
set_option maxRecDepth 20000 in
theorem gX5_wish_X5_act : GoodIn wsX5_wish (wsV RX5 160 RX5 yX5_act wsX5_act) := goodIn_app (goodIn_of _ (by decide +kernel)) ggX5_wish_X5_act
theorem dX5_wish_0 : decode cX5_wish 0 = .ok (.lload_n 1, 1) := by decide +kernel
theorem dX5_wish_1 : decode cX5_wish 1 = .ok (.iload_n 3, 1) := by decide +kernel
theorem dX5_wish_2 : decode cX5_wish 2 = .ok (.invokestatic 138, 3) := by decide +kernel
theorem dX5_wish_5 : decode cX5_wish 5 = .ok (.istore 5, 2) := by decide +kernel
theorem dX5_wish_7 : decode cX5_wish 7 = .ok (.iload 4, 2) := by decide +kernel
theorem dX5_wish_9 : decode cX5_wish 9 = .ok (.iload 5, 2) := by decide +kernel
theorem dX5_wish_11 : decode cX5_wish 11 = .ok (.if_icmp .lt 7, 3) := by decide +kernel
theorem dX5_wish_14 : decode cX5_wish 14 = .ok (.ldc2_w 132, 3) := by decide +kernel
theorem dX5_wish_17 : decode cX5_wish 17 = .ok (.lreturn, 1) := by decide +kernel
theorem dX5_wish_18 : decode cX5_wish 18 = .ok (.aload_n 0, 1) := by decide +kernel
theorem dX5_wish_19 : decode cX5_wish 19 = .ok (.lload_n 1, 1) := by decide +kernel
theorem dX5_wish_20 : decode cX5_wish 20 = .ok (.iload_n 3, 1) := by decide +kernel
theorem dX5_wish_21 : decode cX5_wish 21 = .ok (.iload 4, 2) := by decide +kernel
theorem dX5_wish_23 : decode cX5_wish 23 = .ok (.invokevirtual 142, 3) := by decide +kernel
theorem dX5_wish_26 : decode cX5_wish 26 = .ok (.istore 6, 2) := by decide +kernel
theorem dX5_wish_28 : decode cX5_wish 28 = .ok (.iload 4, 2) := by decide +kernel
theorem dX5_wish_30 : decode cX5_wish 30 = .ok (.ifCond .le 13, 3) := by decide +kernel
theorem dX5_wish_33 : decode cX5_wish 33 = .ok (.iload 6, 2) := by decide +kernel
theorem dX5_wish_35 : decode cX5_wish 35 = .ok (.iconst 1, 1) := by decide +kernel
theorem dX5_wish_36 : decode cX5_wish 36 = .ok (.if_icmp .ne 7, 3) := by decide +kernel
theorem dX5_wish_39 : decode cX5_wish 39 = .ok (.ldc2_w 132, 3) := by decide +kernel
theorem dX5_wish_42 : decode cX5_wish 42 = .ok (.lreturn, 1) := by decide +kernel
theorem dX5_wish_43 : decode cX5_wish 43 = .ok (.iconst 0, 1) := by decide +kernel
theorem dX5_wish_44 : decode cX5_wish 44 = .ok (.istore 7, 2) := by decide +kernel
theorem dX5_wish_46 : decode cX5_wish 46 = .ok (.iload 7, 2) := by decide +kernel
theorem dX5_wish_48 : decode cX5_wish 48 = .ok (.iload 4, 2) := by decide +kernel
theorem dX5_wish_50 : decode cX5_wish 50 = .ok (.if_icmp .ge 25, 3) := by decide +kernel
theorem dX5_wish_53 : decode cX5_wish 53 = .ok (.aload_n 0, 1) := by decide +kernel
theorem dX5_wish_54 : decode cX5_wish 54 = .ok (.lload_n 1, 1) := by decide +kernel
theorem dX5_wish_55 : decode cX5_wish 55 = .ok (.iload_n 3, 1) := by decide +kernel
theorem dX5_wish_56 : decode cX5_wish 56 = .ok (.iload 7, 2) := by decide +kernel
theorem dX5_wish_58 : decode cX5_wish 58 = .ok (.invokevirtual 142, 3) := by decide +kernel
theorem dX5_wish_61 : decode cX5_wish 61 = .ok (.iconst 1, 1) := by decide +kernel
theorem dX5_wish_62 : decode cX5_wish 62 = .ok (.if_icmp .eq 7, 3) := by decide +kernel
theorem dX5_wish_65 : decode cX5_wish 65 = .ok (.ldc2_w 132, 3) := by decide +kernel
theorem dX5_wish_68 : decode cX5_wish 68 = .ok (.lreturn, 1) := by decide +kernel
theorem dX5_wish_69 : decode cX5_wish 69 = .ok (.iinc 7 1, 3) := by decide +kernel
theorem dX5_wish_72 : decode cX5_wish 72 = .ok (.goto (-26), 3) := by decide +kernel
theorem dX5_wish_75 : decode cX5_wish 75 = .ok (.bipush 16, 2) := by decide +kernel
theorem dX5_wish_77 : decode cX5_wish 77 = .ok (.bipush 8, 2) := by decide +kernel
theorem dX5_wish_79 : decode cX5_wish 79 = .ok (.iload_n 3, 1) := by decide +kernel
theorem dX5_wish_80 : decode cX5_wish 80 = .ok (.imul, 1) := by decide +kernel
theorem dX5_wish_81 : decode cX5_wish 81 = .ok (.iadd, 1) := by decide +kernel
theorem dX5_wish_82 : decode cX5_wish 82 = .ok (.lload_n 1, 1) := by decide +kernel
theorem dX5_wish_83 : decode cX5_wish 83 = .ok (.bipush 26, 2) := by decide +kernel
theorem dX5_wish_85 : decode cX5_wish 85 = .ok (.bipush 9, 2) := by decide +kernel
theorem dX5_wish_87 : decode cX5_wish 87 = .ok (.iload_n 3, 1) := by decide +kernel
theorem dX5_wish_88 : decode cX5_wish 88 = .ok (.imul, 1) := by decide +kernel
theorem dX5_wish_89 : decode cX5_wish 89 = .ok (.iadd, 1) := by decide +kernel
theorem dX5_wish_90 : decode cX5_wish 90 = .ok (.iconst 3, 1) := by decide +kernel
theorem dX5_wish_91 : decode cX5_wish 91 = .ok (.iload 4, 2) := by decide +kernel
theorem dX5_wish_93 : decode cX5_wish 93 = .ok (.imul, 1) := by decide +kernel
theorem dX5_wish_94 : decode cX5_wish 94 = .ok (.iadd, 1) := by decide +kernel
theorem dX5_wish_95 : decode cX5_wish 95 = .ok (.iconst 3, 1) := by decide +kernel
theorem dX5_wish_96 : decode cX5_wish 96 = .ok (.invokestatic 134, 3) := by decide +kernel
theorem dX5_wish_99 : decode cX5_wish 99 = .ok (.iadd, 1) := by decide +kernel
theorem dX5_wish_100 : decode cX5_wish 100 = .ok (.istore 7, 2) := by decide +kernel
theorem dX5_wish_102 : decode cX5_wish 102 = .ok (.aload_n 0, 1) := by decide +kernel
theorem dX5_wish_103 : decode cX5_wish 103 = .ok (.getfield 16, 3) := by decide +kernel
theorem dX5_wish_106 : decode cX5_wish 106 = .ok (.iconst 4, 1) := by decide +kernel
theorem dX5_wish_107 : decode cX5_wish 107 = .ok (.iload 7, 2) := by decide +kernel
theorem dX5_wish_109 : decode cX5_wish 109 = .ok (.imul, 1) := by decide +kernel
theorem dX5_wish_110 : decode cX5_wish 110 = .ok (.iaload, 1) := by decide +kernel
theorem dX5_wish_111 : decode cX5_wish 111 = .ok (.istore 8, 2) := by decide +kernel
theorem dX5_wish_113 : decode cX5_wish 113 = .ok (.iload 6, 2) := by decide +kernel
theorem dX5_wish_115 : decode cX5_wish 115 = .ok (.iconst 1, 1) := by decide +kernel
theorem dX5_wish_116 : decode cX5_wish 116 = .ok (.if_icmp .ne 7, 3) := by decide +kernel
theorem dX5_wish_119 : decode cX5_wish 119 = .ok (.iconst 1, 1) := by decide +kernel
theorem dX5_wish_120 : decode cX5_wish 120 = .ok (.goto 13, 3) := by decide +kernel
theorem dX5_wish_123 : decode cX5_wish 123 = .ok (.iload 6, 2) := by decide +kernel
theorem dX5_wish_125 : decode cX5_wish 125 = .ok (.ifCond .ne 7, 3) := by decide +kernel
theorem dX5_wish_128 : decode cX5_wish 128 = .ok (.iconst 2, 1) := by decide +kernel
theorem dX5_wish_129 : decode cX5_wish 129 = .ok (.goto 4, 3) := by decide +kernel
theorem dX5_wish_132 : decode cX5_wish 132 = .ok (.iconst 4, 1) := by decide +kernel
theorem dX5_wish_133 : decode cX5_wish 133 = .ok (.istore 9, 2) := by decide +kernel
theorem dX5_wish_135 : decode cX5_wish 135 = .ok (.lload_n 1, 1) := by decide +kernel
theorem dX5_wish_136 : decode cX5_wish 136 = .ok (.bipush 46, 2) := by decide +kernel
theorem dX5_wish_138 : decode cX5_wish 138 = .ok (.iconst 2, 1) := by decide +kernel
theorem dX5_wish_139 : decode cX5_wish 139 = .ok (.invokestatic 134, 3) := by decide +kernel
theorem dX5_wish_142 : decode cX5_wish 142 = .ok (.iconst 2, 1) := by decide +kernel
theorem dX5_wish_143 : decode cX5_wish 143 = .ok (.iload_n 3, 1) := by decide +kernel
theorem dX5_wish_144 : decode cX5_wish 144 = .ok (.isub, 1) := by decide +kernel
theorem dX5_wish_145 : decode cX5_wish 145 = .ok (.if_icmp .eq 16, 3) := by decide +kernel
theorem dX5_wish_148 : decode cX5_wish 148 = .ok (.aload_n 0, 1) := by decide +kernel
theorem dX5_wish_149 : decode cX5_wish 149 = .ok (.getfield 22, 3) := by decide +kernel
theorem dX5_wish_152 : decode cX5_wish 152 = .ok (.iload 8, 2) := by decide +kernel
theorem dX5_wish_154 : decode cX5_wish 154 = .ok (.iaload, 1) := by decide +kernel
theorem dX5_wish_155 : decode cX5_wish 155 = .ok (.iload 9, 2) := by decide +kernel
theorem dX5_wish_157 : decode cX5_wish 157 = .ok (.iand, 1) := by decide +kernel
theorem dX5_wish_158 : decode cX5_wish 158 = .ok (.ifCond .ne 9, 3) := by decide +kernel
theorem dX5_wish_161 : decode cX5_wish 161 = .ok (.lload_n 1, 1) := by decide +kernel
theorem dX5_wish_162 : decode cX5_wish 162 = .ok (.iload_n 3, 1) := by decide +kernel
theorem dX5_wish_163 : decode cX5_wish 163 = .ok (.invokestatic 156, 3) := by decide +kernel
theorem dX5_wish_166 : decode cX5_wish 166 = .ok (.lreturn, 1) := by decide +kernel
theorem dX5_wish_167 : decode cX5_wish 167 = .ok (.lload_n 1, 1) := by decide +kernel
theorem dX5_wish_168 : decode cX5_wish 168 = .ok (.bipush 22, 2) := by decide +kernel
theorem dX5_wish_170 : decode cX5_wish 170 = .ok (.iconst 2, 1) := by decide +kernel
theorem dX5_wish_171 : decode cX5_wish 171 = .ok (.iload_n 3, 1) := by decide +kernel
theorem dX5_wish_172 : decode cX5_wish 172 = .ok (.imul, 1) := by decide +kernel
theorem dX5_wish_173 : decode cX5_wish 173 = .ok (.iadd, 1) := by decide +kernel
theorem dX5_wish_174 : decode cX5_wish 174 = .ok (.iconst 2, 1) := by decide +kernel
theorem dX5_wish_175 : decode cX5_wish 175 = .ok (.iload 5, 2) := by decide +kernel
theorem dX5_wish_177 : decode cX5_wish 177 = .ok (.iconst 1, 1) := by decide +kernel
theorem dX5_wish_178 : decode cX5_wish 178 = .ok (.isub, 1) := by decide +kernel
theorem dX5_wish_179 : decode cX5_wish 179 = .ok (.invokestatic 148, 3) := by decide +kernel
theorem dX5_wish_182 : decode cX5_wish 182 = .ok (.lstore 10, 2) := by decide +kernel
theorem dX5_wish_184 : decode cX5_wish 184 = .ok (.iload 4, 2) := by decide +kernel
theorem dX5_wish_186 : decode cX5_wish 186 = .ok (.istore 12, 2) := by decide +kernel
theorem dX5_wish_188 : decode cX5_wish 188 = .ok (.iload 12, 2) := by decide +kernel
theorem dX5_wish_190 : decode cX5_wish 190 = .ok (.iconst 3, 1) := by decide +kernel
theorem dX5_wish_191 : decode cX5_wish 191 = .ok (.if_icmp .ge 58, 3) := by decide +kernel
theorem dX5_wish_194 : decode cX5_wish 194 = .ok (.lload 10, 2) := by decide +kernel
theorem dX5_wish_196 : decode cX5_wish 196 = .ok (.bipush 26, 2) := by decide +kernel
theorem dX5_wish_198 : decode cX5_wish 198 = .ok (.bipush 9, 2) := by decide +kernel
theorem dX5_wish_200 : decode cX5_wish 200 = .ok (.iload_n 3, 1) := by decide +kernel
theorem dX5_wish_201 : decode cX5_wish 201 = .ok (.imul, 1) := by decide +kernel
theorem dX5_wish_202 : decode cX5_wish 202 = .ok (.iadd, 1) := by decide +kernel
theorem dX5_wish_203 : decode cX5_wish 203 = .ok (.iconst 3, 1) := by decide +kernel
theorem dX5_wish_204 : decode cX5_wish 204 = .ok (.iload 12, 2) := by decide +kernel
theorem dX5_wish_206 : decode cX5_wish 206 = .ok (.imul, 1) := by decide +kernel
theorem dX5_wish_207 : decode cX5_wish 207 = .ok (.iadd, 1) := by decide +kernel
theorem dX5_wish_208 : decode cX5_wish 208 = .ok (.iconst 3, 1) := by decide +kernel
theorem dX5_wish_209 : decode cX5_wish 209 = .ok (.iload 12, 2) := by decide +kernel
theorem dX5_wish_211 : decode cX5_wish 211 = .ok (.iconst 2, 1) := by decide +kernel
theorem dX5_wish_212 : decode cX5_wish 212 = .ok (.if_icmp .ge 25, 3) := by decide +kernel
theorem dX5_wish_215 : decode cX5_wish 215 = .ok (.lload_n 1, 1) := by decide +kernel
theorem dX5_wish_216 : decode cX5_wish 216 = .ok (.bipush 26, 2) := by decide +kernel
theorem dX5_wish_218 : decode cX5_wish 218 = .ok (.bipush 9, 2) := by decide +kernel
theorem dX5_wish_220 : decode cX5_wish 220 = .ok (.iload_n 3, 1) := by decide +kernel
theorem dX5_wish_221 : decode cX5_wish 221 = .ok (.imul, 1) := by decide +kernel
theorem dX5_wish_222 : decode cX5_wish 222 = .ok (.iadd, 1) := by decide +kernel
theorem dX5_wish_223 : decode cX5_wish 223 = .ok (.iconst 3, 1) := by decide +kernel
theorem dX5_wish_224 : decode cX5_wish 224 = .ok (.iload 12, 2) := by decide +kernel
theorem dX5_wish_226 : decode cX5_wish 226 = .ok (.imul, 1) := by decide +kernel
theorem dX5_wish_227 : decode cX5_wish 227 = .ok (.iadd, 1) := by decide +kernel
theorem dX5_wish_228 : decode cX5_wish 228 = .ok (.iconst 3, 1) := by decide +kernel
theorem dX5_wish_229 : decode cX5_wish 229 = .ok (.iadd, 1) := by decide +kernel
theorem dX5_wish_230 : decode cX5_wish 230 = .ok (.iconst 3, 1) := by decide +kernel
theorem dX5_wish_231 : decode cX5_wish 231 = .ok (.invokestatic 134, 3) := by decide +kernel
theorem dX5_wish_234 : decode cX5_wish 234 = .ok (.goto 4, 3) := by decide +kernel
theorem dX5_wish_237 : decode cX5_wish 237 = .ok (.iconst 0, 1) := by decide +kernel
theorem dX5_wish_238 : decode cX5_wish 238 = .ok (.invokestatic 148, 3) := by decide +kernel
theorem dX5_wish_241 : decode cX5_wish 241 = .ok (.lstore 10, 2) := by decide +kernel
theorem dX5_wish_243 : decode cX5_wish 243 = .ok (.iinc 12 1, 3) := by decide +kernel
theorem dX5_wish_246 : decode cX5_wish 246 = .ok (.goto (-58), 3) := by decide +kernel
theorem dX5_wish_249 : decode cX5_wish 249 = .ok (.aload_n 0, 1) := by decide +kernel
theorem dX5_wish_250 : decode cX5_wish 250 = .ok (.lload 10, 2) := by decide +kernel
theorem dX5_wish_252 : decode cX5_wish 252 = .ok (.iload_n 3, 1) := by decide +kernel
theorem dX5_wish_253 : decode cX5_wish 253 = .ok (.iload 6, 2) := by decide +kernel
theorem dX5_wish_255 : decode cX5_wish 255 = .ok (.iload 7, 2) := by decide +kernel
theorem dX5_wish_257 : decode cX5_wish 257 = .ok (.invokevirtual 160, 3) := by decide +kernel
theorem dX5_wish_260 : decode cX5_wish 260 = .ok (.lreturn, 1) := by decide +kernel
set_option maxRecDepth 20000 in
theorem ggX5_act_X5_bits : GoodIn wsX5_act wsX5_bits := goodIn_r _ [5] (by decide +kernel) (by decide +kernel)
set_option maxRecDepth 20000 in
theorem gX5_act_X5_bits : GoodIn wsX5_act (va_wsS RX5 134 yX5_bits wsX5_bits) := goodIn_app (goodIn_of _ (by decide +kernel)) ggX5_act_X5_bits
set_option maxRecDepth 20000 in
theorem ggX5_act_X5_with : GoodIn wsX5_act wsX5_with := goodIn_r _ [8, 9] (by decide +kernel) (by decide +kernel)
set_option maxRecDepth 20000 in
theorem gX5_act_X5_with : GoodIn wsX5_act (va_wsS RX5 148 yX5_with wsX5_with) := goodIn_app (goodIn_of _ (by decide +kernel)) ggX5_act_X5_with
theorem dX5_act_0 : decode cX5_act 0 = .ok (.aload_n 0, 1) := by decide +kernel
theorem dX5_act_1 : decode cX5_act 1 = .ok (.getfield 16, 3) := by decide +kernel
theorem dX5_act_4 : decode cX5_act 4 = .ok (.iconst 4, 1) := by decide +kernel
theorem dX5_act_5 : decode cX5_act 5 = .ok (.iload 5, 2) := by decide +kernel
theorem dX5_act_7 : decode cX5_act 7 = .ok (.imul, 1) := by decide +kernel
theorem dX5_act_8 : decode cX5_act 8 = .ok (.iaload, 1) := by decide +kernel
theorem dX5_act_9 : decode cX5_act 9 = .ok (.istore 6, 2) := by decide +kernel
theorem dX5_act_11 : decode cX5_act 11 = .ok (.aload_n 0, 1) := by decide +kernel
theorem dX5_act_12 : decode cX5_act 12 = .ok (.getfield 16, 3) := by decide +kernel
theorem dX5_act_15 : decode cX5_act 15 = .ok (.iconst 4, 1) := by decide +kernel
theorem dX5_act_16 : decode cX5_act 16 = .ok (.iload 5, 2) := by decide +kernel
theorem dX5_act_18 : decode cX5_act 18 = .ok (.imul, 1) := by decide +kernel
theorem dX5_act_19 : decode cX5_act 19 = .ok (.iconst 1, 1) := by decide +kernel
theorem dX5_act_20 : decode cX5_act 20 = .ok (.iadd, 1) := by decide +kernel
theorem dX5_act_21 : decode cX5_act 21 = .ok (.iaload, 1) := by decide +kernel
theorem dX5_act_22 : decode cX5_act 22 = .ok (.istore 7, 2) := by decide +kernel
theorem dX5_act_24 : decode cX5_act 24 = .ok (.aload_n 0, 1) := by decide +kernel
theorem dX5_act_25 : decode cX5_act 25 = .ok (.getfield 16, 3) := by decide +kernel
theorem dX5_act_28 : decode cX5_act 28 = .ok (.iconst 4, 1) := by decide +kernel
theorem dX5_act_29 : decode cX5_act 29 = .ok (.iload 5, 2) := by decide +kernel
theorem dX5_act_31 : decode cX5_act 31 = .ok (.imul, 1) := by decide +kernel
theorem dX5_act_32 : decode cX5_act 32 = .ok (.iconst 2, 1) := by decide +kernel
theorem dX5_act_33 : decode cX5_act 33 = .ok (.iadd, 1) := by decide +kernel
theorem dX5_act_34 : decode cX5_act 34 = .ok (.iaload, 1) := by decide +kernel
theorem dX5_act_35 : decode cX5_act 35 = .ok (.istore 8, 2) := by decide +kernel
theorem dX5_act_37 : decode cX5_act 37 = .ok (.lload_n 1, 1) := by decide +kernel
theorem dX5_act_38 : decode cX5_act 38 = .ok (.iconst 2, 1) := by decide +kernel
theorem dX5_act_39 : decode cX5_act 39 = .ok (.iload 6, 2) := by decide +kernel
theorem dX5_act_41 : decode cX5_act 41 = .ok (.imul, 1) := by decide +kernel
theorem dX5_act_42 : decode cX5_act 42 = .ok (.iconst 2, 1) := by decide +kernel
theorem dX5_act_43 : decode cX5_act 43 = .ok (.invokestatic 134, 3) := by decide +kernel
theorem dX5_act_46 : decode cX5_act 46 = .ok (.istore 9, 2) := by decide +kernel
theorem dX5_act_48 : decode cX5_act 48 = .ok (.iload 4, 2) := by decide +kernel
theorem dX5_act_50 : decode cX5_act 50 = .ok (.ifCond .ne 15, 3) := by decide +kernel
theorem dX5_act_53 : decode cX5_act 53 = .ok (.lload_n 1, 1) := by decide +kernel
theorem dX5_act_54 : decode cX5_act 54 = .ok (.iconst 2, 1) := by decide +kernel
theorem dX5_act_55 : decode cX5_act 55 = .ok (.iload 6, 2) := by decide +kernel
theorem dX5_act_57 : decode cX5_act 57 = .ok (.imul, 1) := by decide +kernel
theorem dX5_act_58 : decode cX5_act 58 = .ok (.iconst 2, 1) := by decide +kernel
theorem dX5_act_59 : decode cX5_act 59 = .ok (.iload 7, 2) := by decide +kernel
theorem dX5_act_61 : decode cX5_act 61 = .ok (.invokestatic 148, 3) := by decide +kernel
theorem dX5_act_64 : decode cX5_act 64 = .ok (.lreturn, 1) := by decide +kernel
theorem dX5_act_65 : decode cX5_act 65 = .ok (.iload 4, 2) := by decide +kernel
theorem dX5_act_67 : decode cX5_act 67 = .ok (.iconst 1, 1) := by decide +kernel
theorem dX5_act_68 : decode cX5_act 68 = .ok (.if_icmp .ne 8, 3) := by decide +kernel
theorem dX5_act_71 : decode cX5_act 71 = .ok (.iload 7, 2) := by decide +kernel
theorem dX5_act_73 : decode cX5_act 73 = .ok (.goto 25, 3) := by decide +kernel
theorem dX5_act_76 : decode cX5_act 76 = .ok (.iload 4, 2) := by decide +kernel
theorem dX5_act_78 : decode cX5_act 78 = .ok (.iconst 3, 1) := by decide +kernel
theorem dX5_act_79 : decode cX5_act 79 = .ok (.if_icmp .ne 8, 3) := by decide +kernel
theorem dX5_act_82 : decode cX5_act 82 = .ok (.iload 8, 2) := by decide +kernel
theorem dX5_act_84 : decode cX5_act 84 = .ok (.goto 14, 3) := by decide +kernel
theorem dX5_act_87 : decode cX5_act 87 = .ok (.aload_n 0, 1) := by decide +kernel
theorem dX5_act_88 : decode cX5_act 88 = .ok (.getfield 16, 3) := by decide +kernel
theorem dX5_act_91 : decode cX5_act 91 = .ok (.iconst 4, 1) := by decide +kernel
