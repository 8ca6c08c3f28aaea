theorem dX3_go_78 : decode cX3_go 78 = .ok (.iload 6, 2) := by decide +kernel
theorem dX3_go_80 : decode cX3_go 80 = .ok (.ior, 1) := by decide +kernel
theorem dX3_go_81 : decode cX3_go 81 = .ok (.invokevirtual 51, 3) := by decide +kernel
theorem dX3_go_84 : decode cX3_go 84 = .ok (.ifCond .ne 4, 3) := by decide +kernel
theorem dX3_go_87 : decode cX3_go 87 = .ok (.return_, 1) := by decide +kernel
theorem dX3_go_88 : decode cX3_go 88 = .ok (.iload 5, 2) := by decide +kernel
theorem dX3_go_90 : decode cX3_go 90 = .ok (.ifCond .eq 14, 3) := by decide +kernel
theorem dX3_go_93 : decode cX3_go 93 = .ok (.iload 6, 2) := by decide +kernel
theorem dX3_go_95 : decode cX3_go 95 = .ok (.bipush 8, 2) := by decide +kernel
theorem dX3_go_97 : decode cX3_go 97 = .ok (.if_icmp .lt 7, 3) := by decide +kernel
theorem dX3_go_100 : decode cX3_go 100 = .ok (.iconst 1, 1) := by decide +kernel
theorem dX3_go_101 : decode cX3_go 101 = .ok (.goto 4, 3) := by decide +kernel
theorem dX3_go_104 : decode cX3_go 104 = .ok (.iconst 0, 1) := by decide +kernel
theorem dX3_go_105 : decode cX3_go 105 = .ok (.istore 5, 2) := by decide +kernel
theorem dX3_go_107 : decode cX3_go 107 = .ok (.iinc 6 1, 3) := by decide +kernel
theorem dX3_go_110 : decode cX3_go 110 = .ok (.goto (-66), 3) := by decide +kernel
theorem dX3_go_113 : decode cX3_go 113 = .ok (.iload 5, 2) := by decide +kernel
theorem dX3_go_115 : decode cX3_go 115 = .ok (.ifCond .eq 12, 3) := by decide +kernel
theorem dX3_go_118 : decode cX3_go 118 = .ok (.aload_n 0, 1) := by decide +kernel
theorem dX3_go_119 : decode cX3_go 119 = .ok (.lload_n 3, 1) := by decide +kernel
theorem dX3_go_120 : decode cX3_go 120 = .ok (.aload_n 1, 1) := by decide +kernel
theorem dX3_go_121 : decode cX3_go 121 = .ok (.invokevirtual 61, 3) := by decide +kernel
theorem dX3_go_124 : decode cX3_go 124 = .ok (.invokevirtual 64, 3) := by decide +kernel
theorem dX3_go_127 : decode cX3_go 127 = .ok (.iinc 2 1, 3) := by decide +kernel
theorem dX3_go_130 : decode cX3_go 130 = .ok (.goto (-114), 3) := by decide +kernel
theorem dX3_go_133 : decode cX3_go 133 = .ok (.aload_n 0, 1) := by decide +kernel
theorem dX3_go_134 : decode cX3_go 134 = .ok (.iconst 1, 1) := by decide +kernel
theorem dX3_go_135 : decode cX3_go 135 = .ok (.putfield 38, 3) := by decide +kernel
theorem dX3_go_138 : decode cX3_go 138 = .ok (.return_, 1) := by decide +kernel
set_option maxRecDepth 20000 in
theorem ggX3_clear_J7_fill_53178 : GoodIn wsX3_clear wsJ7_fill_53178 := goodIn_r _ [12] (by decide +kernel) (by decide +kernel)
set_option maxRecDepth 20000 in
theorem gX3_clear_J7_fill_53178 : GoodIn wsX3_clear (va_wsS RX3 69 yJ7_fill_53178 wsJ7_fill_53178) := goodIn_app (goodIn_of _ (by decide +kernel)) ggX3_clear_J7_fill_53178
theorem dX3_clear_0 : decode cX3_clear 0 = .ok (.aload_n 0, 1) := by decide +kernel
theorem dX3_clear_1 : decode cX3_clear 1 = .ok (.getfield 22, 3) := by decide +kernel
theorem dX3_clear_4 : decode cX3_clear 4 = .ok (.ldc 68, 2) := by decide +kernel
theorem dX3_clear_6 : decode cX3_clear 6 = .ok (.if_icmp .lt 16, 3) := by decide +kernel
theorem dX3_clear_9 : decode cX3_clear 9 = .ok (.aload_n 0, 1) := by decide +kernel
theorem dX3_clear_10 : decode cX3_clear 10 = .ok (.getfield 19, 3) := by decide +kernel
theorem dX3_clear_13 : decode cX3_clear 13 = .ok (.iconst 0, 1) := by decide +kernel
theorem dX3_clear_14 : decode cX3_clear 14 = .ok (.invokestatic 69, 3) := by decide +kernel
theorem dX3_clear_17 : decode cX3_clear 17 = .ok (.aload_n 0, 1) := by decide +kernel
theorem dX3_clear_18 : decode cX3_clear 18 = .ok (.iconst 0, 1) := by decide +kernel
theorem dX3_clear_19 : decode cX3_clear 19 = .ok (.putfield 22, 3) := by decide +kernel
theorem dX3_clear_22 : decode cX3_clear 22 = .ok (.aload_n 0, 1) := by decide +kernel
theorem dX3_clear_23 : decode cX3_clear 23 = .ok (.dup, 1) := by decide +kernel
theorem dX3_clear_24 : decode cX3_clear 24 = .ok (.getfield 22, 3) := by decide +kernel
theorem dX3_clear_27 : decode cX3_clear 27 = .ok (.iconst 1, 1) := by decide +kernel
theorem dX3_clear_28 : decode cX3_clear 28 = .ok (.iadd, 1) := by decide +kernel
theorem dX3_clear_29 : decode cX3_clear 29 = .ok (.putfield 22, 3) := by decide +kernel
theorem dX3_clear_32 : decode cX3_clear 32 = .ok (.aload_n 0, 1) := by decide +kernel
theorem dX3_clear_33 : decode cX3_clear 33 = .ok (.iconst 0, 1) := by decide +kernel
theorem dX3_clear_34 : decode cX3_clear 34 = .ok (.putfield 26, 3) := by decide +kernel
theorem dX3_clear_37 : decode cX3_clear 37 = .ok (.aload_n 0, 1) := by decide +kernel
theorem dX3_clear_38 : decode cX3_clear 38 = .ok (.iconst 0, 1) := by decide +kernel
theorem dX3_clear_39 : decode cX3_clear 39 = .ok (.putfield 29, 3) := by decide +kernel
theorem dX3_clear_42 : decode cX3_clear 42 = .ok (.aload_n 0, 1) := by decide +kernel
theorem dX3_clear_43 : decode cX3_clear 43 = .ok (.iconst 0, 1) := by decide +kernel
theorem dX3_clear_44 : decode cX3_clear 44 = .ok (.putfield 32, 3) := by decide +kernel
theorem dX3_clear_47 : decode cX3_clear 47 = .ok (.aload_n 0, 1) := by decide +kernel
theorem dX3_clear_48 : decode cX3_clear 48 = .ok (.iconst 0, 1) := by decide +kernel
theorem dX3_clear_49 : decode cX3_clear 49 = .ok (.putfield 35, 3) := by decide +kernel
theorem dX3_clear_52 : decode cX3_clear 52 = .ok (.aload_n 0, 1) := by decide +kernel
theorem dX3_clear_53 : decode cX3_clear 53 = .ok (.iconst 0, 1) := by decide +kernel
theorem dX3_clear_54 : decode cX3_clear 54 = .ok (.putfield 38, 3) := by decide +kernel
theorem dX3_clear_57 : decode cX3_clear 57 = .ok (.return_, 1) := by decide +kernel
theorem dX3_countEnd_0 : decode cX3_countEnd 0 = .ok (.aload_n 0, 1) := by decide +kernel
theorem dX3_countEnd_1 : decode cX3_countEnd 1 = .ok (.dup, 1) := by decide +kernel
theorem dX3_countEnd_2 : decode cX3_countEnd 2 = .ok (.getfield 29, 3) := by decide +kernel
theorem dX3_countEnd_5 : decode cX3_countEnd 5 = .ok (.iconst 1, 1) := by decide +kernel
theorem dX3_countEnd_6 : decode cX3_countEnd 6 = .ok (.iadd, 1) := by decide +kernel
theorem dX3_countEnd_7 : decode cX3_countEnd 7 = .ok (.putfield 29, 3) := by decide +kernel
theorem dX3_countEnd_10 : decode cX3_countEnd 10 = .ok (.lload_n 1, 1) := by decide +kernel
theorem dX3_countEnd_11 : decode cX3_countEnd 11 = .ok (.ldc2_w 75, 3) := by decide +kernel
theorem dX3_countEnd_14 : decode cX3_countEnd 14 = .ok (.land, 1) := by decide +kernel
theorem dX3_countEnd_15 : decode cX3_countEnd 15 = .ok (.lload_n 3, 1) := by decide +kernel
theorem dX3_countEnd_16 : decode cX3_countEnd 16 = .ok (.lcmp, 1) := by decide +kernel
theorem dX3_countEnd_17 : decode cX3_countEnd 17 = .ok (.ifCond .ne 13, 3) := by decide +kernel
theorem dX3_countEnd_20 : decode cX3_countEnd 20 = .ok (.aload_n 0, 1) := by decide +kernel
theorem dX3_countEnd_21 : decode cX3_countEnd 21 = .ok (.dup, 1) := by decide +kernel
theorem dX3_countEnd_22 : decode cX3_countEnd 22 = .ok (.getfield 32, 3) := by decide +kernel
theorem dX3_countEnd_25 : decode cX3_countEnd 25 = .ok (.iconst 1, 1) := by decide +kernel
theorem dX3_countEnd_26 : decode cX3_countEnd 26 = .ok (.iadd, 1) := by decide +kernel
theorem dX3_countEnd_27 : decode cX3_countEnd 27 = .ok (.putfield 32, 3) := by decide +kernel
theorem dX3_countEnd_30 : decode cX3_countEnd 30 = .ok (.lload_n 1, 1) := by decide +kernel
theorem dX3_countEnd_31 : decode cX3_countEnd 31 = .ok (.bipush 40, 2) := by decide +kernel
theorem dX3_countEnd_33 : decode cX3_countEnd 33 = .ok (.lushr, 1) := by decide +kernel
theorem dX3_countEnd_34 : decode cX3_countEnd 34 = .ok (.ldc2_w 77, 3) := by decide +kernel
theorem dX3_countEnd_37 : decode cX3_countEnd 37 = .ok (.land, 1) := by decide +kernel
theorem dX3_countEnd_38 : decode cX3_countEnd 38 = .ok (.lconst 0, 1) := by decide +kernel
theorem dX3_countEnd_39 : decode cX3_countEnd 39 = .ok (.lcmp, 1) := by decide +kernel
theorem dX3_countEnd_40 : decode cX3_countEnd 40 = .ok (.ifCond .eq 13, 3) := by decide +kernel
theorem dX3_countEnd_43 : decode cX3_countEnd 43 = .ok (.aload_n 0, 1) := by decide +kernel
theorem dX3_countEnd_44 : decode cX3_countEnd 44 = .ok (.dup, 1) := by decide +kernel
theorem dX3_countEnd_45 : decode cX3_countEnd 45 = .ok (.getfield 35, 3) := by decide +kernel
theorem dX3_countEnd_48 : decode cX3_countEnd 48 = .ok (.iconst 1, 1) := by decide +kernel
theorem dX3_countEnd_49 : decode cX3_countEnd 49 = .ok (.iadd, 1) := by decide +kernel
theorem dX3_countEnd_50 : decode cX3_countEnd 50 = .ok (.putfield 35, 3) := by decide +kernel
theorem dX3_countEnd_53 : decode cX3_countEnd 53 = .ok (.return_, 1) := by decide +kernel
set_option maxRecDepth 20000 in
theorem ggX3_take_X3_slotOf : GoodIn wsX3_take wsX3_slotOf := goodIn_r _ [10, 4, 11, 2, 12, 13, 14, 9, 15, 5, 47, 48, 49, 50, 51, 52, 53, 54, 55] (by decide +kernel) (by decide +kernel)
set_option maxRecDepth 20000 in
theorem gX3_take_X3_slotOf : GoodIn wsX3_take (wsV RX3 79 RX3 yX3_slotOf wsX3_slotOf) := goodIn_app (goodIn_of _ (by decide +kernel)) ggX3_take_X3_slotOf
set_option maxRecDepth 20000 in
theorem ggX3_take_X3_isTaken : GoodIn wsX3_take wsX3_isTaken := goodIn_r _ [15, 4, 5, 47, 48, 49, 50, 51, 52, 53, 54, 55] (by decide +kernel) (by decide +kernel)
set_option maxRecDepth 20000 in
theorem gX3_take_X3_isTaken : GoodIn wsX3_take (wsV RX3 83 RX3 yX3_isTaken wsX3_isTaken) := goodIn_app (goodIn_of _ (by decide +kernel)) ggX3_take_X3_isTaken
set_option maxRecDepth 20000 in
theorem ggX3_take_X3_makeLongRows : GoodIn wsX3_take wsX3_makeLongRows := goodIn_r _ [19, 2, 3, 20, 4, 1, 5, 21, 22, 23, 24, 25, 26, 27, 28, 29, 30, 31, 32, 33, 34, 35, 36, 37, 38, 39, 40, 41, 42, 43, 44, 45, 46, 6, 7, 8, 9, 10, 11, 12, 13, 14, 15, 47, 48, 49, 50, 51, 52, 53, 54, 55] (by decide +kernel) (by decide +kernel)
set_option maxRecDepth 20000 in
theorem gX3_take_X3_makeLongRows : GoodIn wsX3_take (wsV RX3 87 RX3 yX3_makeLongRows wsX3_makeLongRows) := goodIn_app (goodIn_of _ (by decide +kernel)) ggX3_take_X3_makeLongRows
theorem dX3_take_0 : decode cX3_take 0 = .ok (.aload_n 0, 1) := by decide +kernel
theorem dX3_take_1 : decode cX3_take 1 = .ok (.lload_n 1, 1) := by decide +kernel
theorem dX3_take_2 : decode cX3_take 2 = .ok (.invokevirtual 79, 3) := by decide +kernel
theorem dX3_take_5 : decode cX3_take 5 = .ok (.istore 4, 2) := by decide +kernel
theorem dX3_take_7 : decode cX3_take 7 = .ok (.aload_n 0, 1) := by decide +kernel
theorem dX3_take_8 : decode cX3_take 8 = .ok (.iload 4, 2) := by decide +kernel
theorem dX3_take_10 : decode cX3_take 10 = .ok (.invokevirtual 83, 3) := by decide +kernel
theorem dX3_take_13 : decode cX3_take 13 = .ok (.ifCond .eq 5, 3) := by decide +kernel
theorem dX3_take_16 : decode cX3_take 16 = .ok (.iconst 1, 1) := by decide +kernel
theorem dX3_take_17 : decode cX3_take 17 = .ok (.ireturn, 1) := by decide +kernel
theorem dX3_take_18 : decode cX3_take 18 = .ok (.aload_n 0, 1) := by decide +kernel
theorem dX3_take_19 : decode cX3_take 19 = .ok (.getfield 26, 3) := by decide +kernel
theorem dX3_take_22 : decode cX3_take 22 = .ok (.sipush 12000, 3) := by decide +kernel
theorem dX3_take_25 : decode cX3_take 25 = .ok (.if_icmp .lt 5, 3) := by decide +kernel
theorem dX3_take_28 : decode cX3_take 28 = .ok (.iconst 0, 1) := by decide +kernel
theorem dX3_take_29 : decode cX3_take 29 = .ok (.ireturn, 1) := by decide +kernel
theorem dX3_take_30 : decode cX3_take 30 = .ok (.aload_n 0, 1) := by decide +kernel
theorem dX3_take_31 : decode cX3_take 31 = .ok (.getfield 26, 3) := by decide +kernel
theorem dX3_take_34 : decode cX3_take 34 = .ok (.aload_n 0, 1) := by decide +kernel
theorem dX3_take_35 : decode cX3_take 35 = .ok (.getfield 11, 3) := by decide +kernel
theorem dX3_take_38 : decode cX3_take 38 = .ok (.arraylength, 1) := by decide +kernel
theorem dX3_take_39 : decode cX3_take 39 = .ok (.if_icmp .lt 14, 3) := by decide +kernel
theorem dX3_take_42 : decode cX3_take 42 = .ok (.aload_n 0, 1) := by decide +kernel
theorem dX3_take_43 : decode cX3_take 43 = .ok (.invokevirtual 87, 3) := by decide +kernel
theorem dX3_take_46 : decode cX3_take 46 = .ok (.aload_n 0, 1) := by decide +kernel
theorem dX3_take_47 : decode cX3_take 47 = .ok (.lload_n 1, 1) := by decide +kernel
theorem dX3_take_48 : decode cX3_take 48 = .ok (.invokevirtual 79, 3) := by decide +kernel
theorem dX3_take_51 : decode cX3_take 51 = .ok (.istore 4, 2) := by decide +kernel
theorem dX3_take_53 : decode cX3_take 53 = .ok (.aload_n 0, 1) := by decide +kernel
theorem dX3_take_54 : decode cX3_take 54 = .ok (.getfield 11, 3) := by decide +kernel
theorem dX3_take_57 : decode cX3_take 57 = .ok (.aload_n 0, 1) := by decide +kernel
theorem dX3_take_58 : decode cX3_take 58 = .ok (.getfield 26, 3) := by decide +kernel
theorem dX3_take_61 : decode cX3_take 61 = .ok (.lload_n 1, 1) := by decide +kernel
theorem dX3_take_62 : decode cX3_take 62 = .ok (.lastore, 1) := by decide +kernel
theorem dX3_take_63 : decode cX3_take 63 = .ok (.aload_n 0, 1) := by decide +kernel
theorem dX3_take_64 : decode cX3_take 64 = .ok (.getfield 15, 3) := by decide +kernel
theorem dX3_take_67 : decode cX3_take 67 = .ok (.aload_n 0, 1) := by decide +kernel
theorem dX3_take_68 : decode cX3_take 68 = .ok (.getfield 26, 3) := by decide +kernel
theorem dX3_take_71 : decode cX3_take 71 = .ok (.iload_n 3, 1) := by decide +kernel
theorem dX3_take_72 : decode cX3_take 72 = .ok (.iastore, 1) := by decide +kernel
theorem dX3_take_73 : decode cX3_take 73 = .ok (.aload_n 0, 1) := by decide +kernel
theorem dX3_take_74 : decode cX3_take 74 = .ok (.getfield 19, 3) := by decide +kernel
theorem dX3_take_77 : decode cX3_take 77 = .ok (.iload 4, 2) := by decide +kernel
theorem dX3_take_79 : decode cX3_take 79 = .ok (.aload_n 0, 1) := by decide +kernel
theorem dX3_take_80 : decode cX3_take 80 = .ok (.getfield 22, 3) := by decide +kernel
theorem dX3_take_83 : decode cX3_take 83 = .ok (.bipush 14, 2) := by decide +kernel
theorem dX3_take_85 : decode cX3_take 85 = .ok (.ishl, 1) := by decide +kernel
theorem dX3_take_86 : decode cX3_take 86 = .ok (.aload_n 0, 1) := by decide +kernel
theorem dX3_take_87 : decode cX3_take 87 = .ok (.getfield 26, 3) := by decide +kernel
theorem dX3_take_90 : decode cX3_take 90 = .ok (.ior, 1) := by decide +kernel
theorem dX3_take_91 : decode cX3_take 91 = .ok (.iastore, 1) := by decide +kernel
theorem dX3_take_92 : decode cX3_take 92 = .ok (.aload_n 0, 1) := by decide +kernel
theorem dX3_take_93 : decode cX3_take 93 = .ok (.dup, 1) := by decide +kernel
theorem dX3_take_94 : decode cX3_take 94 = .ok (.getfield 26, 3) := by decide +kernel
theorem dX3_take_97 : decode cX3_take 97 = .ok (.iconst 1, 1) := by decide +kernel
theorem dX3_take_98 : decode cX3_take 98 = .ok (.iadd, 1) := by decide +kernel
theorem dX3_take_99 : decode cX3_take 99 = .ok (.putfield 26, 3) := by decide +kernel
theorem dX3_take_102 : decode cX3_take 102 = .ok (.iconst 1, 1) := by decide +kernel
theorem dX3_take_103 : decode cX3_take 103 = .ok (.ireturn, 1) := by decide +kernel
set_option maxRecDepth 20000 in
theorem ggX3_makeLongRows_J7_copyOf_c38d5 : GoodIn wsX3_makeLongRows wsJ7_copyOf_c38d5 := goodIn_r _ [10, 11, 12, 13, 14, 15, 16, 17, 18, 19, 20, 21, 22, 23, 24, 25] (by decide +kernel) (by decide +kernel)
set_option maxRecDepth 20000 in
theorem gX3_makeLongRows_J7_copyOf_c38d5 : GoodIn wsX3_makeLongRows (va_wsS RX3 90 yJ7_copyOf_c38d5 wsJ7_copyOf_c38d5) := goodIn_app (goodIn_of _ (by decide +kernel)) ggX3_makeLongRows_J7_copyOf_c38d5
set_option maxRecDepth 20000 in
theorem ggX3_makeLongRows_J7_copyOf_59c91 : GoodIn wsX3_makeLongRows wsJ7_copyOf_59c91 := goodIn_r _ [28, 29, 30, 13, 14, 31, 32, 3, 18, 19, 20, 21, 22, 23, 24, 25] (by decide +kernel) (by decide +kernel)
set_option maxRecDepth 20000 in
theorem gX3_makeLongRows_J7_copyOf_59c91 : GoodIn wsX3_makeLongRows (va_wsS RX3 94 yJ7_copyOf_59c91 wsJ7_copyOf_59c91) := goodIn_app (goodIn_of _ (by decide +kernel)) ggX3_makeLongRows_J7_copyOf_59c91
set_option maxRecDepth 20000 in
theorem ggX3_makeLongRows_X3_slotOf : GoodIn wsX3_makeLongRows wsX3_slotOf := goodIn_r _ [37, 4, 38, 1, 39, 40, 41, 36, 42, 6, 43, 44, 45, 46, 47, 48, 49, 50, 51] (by decide +kernel) (by decide +kernel)
set_option maxRecDepth 20000 in
theorem gX3_makeLongRows_X3_slotOf : GoodIn wsX3_makeLongRows (wsV RX3 79 RX3 yX3_slotOf wsX3_slotOf) := goodIn_app (goodIn_of _ (by decide +kernel)) ggX3_makeLongRows_X3_slotOf
theorem dX3_makeLongRows_0 : decode cX3_makeLongRows 0 = .ok (.aload_n 0, 1) := by decide +kernel
theorem dX3_makeLongRows_1 : decode cX3_makeLongRows 1 = .ok (.aload_n 0, 1) := by decide +kernel
theorem dX3_makeLongRows_2 : decode cX3_makeLongRows 2 = .ok (.getfield 11, 3) := by decide +kernel
theorem dX3_makeLongRows_5 : decode cX3_makeLongRows 5 = .ok (.sipush 12000, 3) := by decide +kernel
theorem dX3_makeLongRows_8 : decode cX3_makeLongRows 8 = .ok (.invokestatic 90, 3) := by decide +kernel
theorem dX3_makeLongRows_11 : decode cX3_makeLongRows 11 = .ok (.putfield 11, 3) := by decide +kernel
theorem dX3_makeLongRows_14 : decode cX3_makeLongRows 14 = .ok (.aload_n 0, 1) := by decide +kernel
theorem dX3_makeLongRows_15 : decode cX3_makeLongRows 15 = .ok (.aload_n 0, 1) := by decide +kernel
theorem dX3_makeLongRows_16 : decode cX3_makeLongRows 16 = .ok (.getfield 15, 3) := by decide +kernel
theorem dX3_makeLongRows_19 : decode cX3_makeLongRows 19 = .ok (.sipush 12000, 3) := by decide +kernel
theorem dX3_makeLongRows_22 : decode cX3_makeLongRows 22 = .ok (.invokestatic 94, 3) := by decide +kernel
theorem dX3_makeLongRows_25 : decode cX3_makeLongRows 25 = .ok (.putfield 15, 3) := by decide +kernel
theorem dX3_makeLongRows_28 : decode cX3_makeLongRows 28 = .ok (.aload_n 0, 1) := by decide +kernel
theorem dX3_makeLongRows_29 : decode cX3_makeLongRows 29 = .ok (.sipush 16384, 3) := by decide +kernel
theorem dX3_makeLongRows_32 : decode cX3_makeLongRows 32 = .ok (.newarray .int, 2) := by decide +kernel
theorem dX3_makeLongRows_34 : decode cX3_makeLongRows 34 = .ok (.putfield 19, 3) := by decide +kernel
theorem dX3_makeLongRows_37 : decode cX3_makeLongRows 37 = .ok (.iconst 0, 1) := by decide +kernel
theorem dX3_makeLongRows_38 : decode cX3_makeLongRows 38 = .ok (.istore_n 1, 1) := by decide +kernel
theorem dX3_makeLongRows_39 : decode cX3_makeLongRows 39 = .ok (.iload_n 1, 1) := by decide +kernel
theorem dX3_makeLongRows_40 : decode cX3_makeLongRows 40 = .ok (.aload_n 0, 1) := by decide +kernel
theorem dX3_makeLongRows_41 : decode cX3_makeLongRows 41 = .ok (.getfield 26, 3) := by decide +kernel
theorem dX3_makeLongRows_44 : decode cX3_makeLongRows 44 = .ok (.if_icmp .ge 33, 3) := by decide +kernel
theorem dX3_makeLongRows_47 : decode cX3_makeLongRows 47 = .ok (.aload_n 0, 1) := by decide +kernel
theorem dX3_makeLongRows_48 : decode cX3_makeLongRows 48 = .ok (.getfield 19, 3) := by decide +kernel
theorem dX3_makeLongRows_51 : decode cX3_makeLongRows 51 = .ok (.aload_n 0, 1) := by decide +kernel
theorem dX3_makeLongRows_52 : decode cX3_makeLongRows 52 = .ok (.aload_n 0, 1) := by decide +kernel
theorem dX3_makeLongRows_53 : decode cX3_makeLongRows 53 = .ok (.getfield 11, 3) := by decide +kernel
theorem dX3_makeLongRows_56 : decode cX3_makeLongRows 56 = .ok (.iload_n 1, 1) := by decide +kernel
theorem dX3_makeLongRows_57 : decode cX3_makeLongRows 57 = .ok (.laload, 1) := by decide +kernel
theorem dX3_makeLongRows_58 : decode cX3_makeLongRows 58 = .ok (.invokevirtual 79, 3) := by decide +kernel
theorem dX3_makeLongRows_61 : decode cX3_makeLongRows 61 = .ok (.aload_n 0, 1) := by decide +kernel
theorem dX3_makeLongRows_62 : decode cX3_makeLongRows 62 = .ok (.getfield 22, 3) := by decide +kernel
theorem dX3_makeLongRows_65 : decode cX3_makeLongRows 65 = .ok (.bipush 14, 2) := by decide +kernel
theorem dX3_makeLongRows_67 : decode cX3_makeLongRows 67 = .ok (.ishl, 1) := by decide +kernel
theorem dX3_makeLongRows_68 : decode cX3_makeLongRows 68 = .ok (.iload_n 1, 1) := by decide +kernel
theorem dX3_makeLongRows_69 : decode cX3_makeLongRows 69 = .ok (.ior, 1) := by decide +kernel
theorem dX3_makeLongRows_70 : decode cX3_makeLongRows 70 = .ok (.iastore, 1) := by decide +kernel
theorem dX3_makeLongRows_71 : decode cX3_makeLongRows 71 = .ok (.iinc 1 1, 3) := by decide +kernel
theorem dX3_makeLongRows_74 : decode cX3_makeLongRows 74 = .ok (.goto (-35), 3) := by decide +kernel
theorem dX3_makeLongRows_77 : decode cX3_makeLongRows 77 = .ok (.return_, 1) := by decide +kernel
set_option maxRecDepth 20000 in
theorem ggX3_slotOf_X3_isTaken : GoodIn wsX3_slotOf wsX3_isTaken := goodIn_r _ [8, 1, 9, 10, 11, 12, 13, 14, 15, 16, 17, 18] (by decide +kernel) (by decide +kernel)
set_option maxRecDepth 20000 in
theorem gX3_slotOf_X3_isTaken : GoodIn wsX3_slotOf (wsV RX3 83 RX3 yX3_isTaken wsX3_isTaken) := goodIn_app (goodIn_of _ (by decide +kernel)) ggX3_slotOf_X3_isTaken
theorem dX3_slotOf_0 : decode cX3_slotOf 0 = .ok (.aload_n 0, 1) := by decide +kernel
theorem dX3_slotOf_1 : decode cX3_slotOf 1 = .ok (.getfield 19, 3) := by decide +kernel
theorem dX3_slotOf_4 : decode cX3_slotOf 4 = .ok (.arraylength, 1) := by decide +kernel
theorem dX3_slotOf_5 : decode cX3_slotOf 5 = .ok (.iconst 1, 1) := by decide +kernel
theorem dX3_slotOf_6 : decode cX3_slotOf 6 = .ok (.isub, 1) := by decide +kernel
theorem dX3_slotOf_7 : decode cX3_slotOf 7 = .ok (.istore_n 3, 1) := by decide +kernel
theorem dX3_slotOf_8 : decode cX3_slotOf 8 = .ok (.lload_n 1, 1) := by decide +kernel
theorem dX3_slotOf_9 : decode cX3_slotOf 9 = .ok (.ldc2_w 97, 3) := by decide +kernel
theorem dX3_slotOf_12 : decode cX3_slotOf 12 = .ok (.lmul, 1) := by decide +kernel
theorem dX3_slotOf_13 : decode cX3_slotOf 13 = .ok (.bipush 40, 2) := by decide +kernel
theorem dX3_slotOf_15 : decode cX3_slotOf 15 = .ok (.lushr, 1) := by decide +kernel
theorem dX3_slotOf_16 : decode cX3_slotOf 16 = .ok (.l2i, 1) := by decide +kernel
theorem dX3_slotOf_17 : decode cX3_slotOf 17 = .ok (.iload_n 3, 1) := by decide +kernel
theorem dX3_slotOf_18 : decode cX3_slotOf 18 = .ok (.iand, 1) := by decide +kernel
theorem dX3_slotOf_19 : decode cX3_slotOf 19 = .ok (.istore 4, 2) := by decide +kernel
theorem dX3_slotOf_21 : decode cX3_slotOf 21 = .ok (.iconst 0, 1) := by decide +kernel
theorem dX3_slotOf_22 : decode cX3_slotOf 22 = .ok (.istore 5, 2) := by decide +kernel
theorem dX3_slotOf_24 : decode cX3_slotOf 24 = .ok (.iload 5, 2) := by decide +kernel
theorem dX3_slotOf_26 : decode cX3_slotOf 26 = .ok (.iload_n 3, 1) := by decide +kernel
theorem dX3_slotOf_27 : decode cX3_slotOf 27 = .ok (.if_icmp .ge 50, 3) := by decide +kernel
theorem dX3_slotOf_30 : decode cX3_slotOf 30 = .ok (.aload_n 0, 1) := by decide +kernel
theorem dX3_slotOf_31 : decode cX3_slotOf 31 = .ok (.iload 4, 2) := by decide +kernel
theorem dX3_slotOf_33 : decode cX3_slotOf 33 = .ok (.invokevirtual 83, 3) := by decide +kernel
theorem dX3_slotOf_36 : decode cX3_slotOf 36 = .ok (.ifCond .eq 24, 3) := by decide +kernel
theorem dX3_slotOf_39 : decode cX3_slotOf 39 = .ok (.aload_n 0, 1) := by decide +kernel
theorem dX3_slotOf_40 : decode cX3_slotOf 40 = .ok (.getfield 11, 3) := by decide +kernel
theorem dX3_slotOf_43 : decode cX3_slotOf 43 = .ok (.aload_n 0, 1) := by decide +kernel
theorem dX3_slotOf_44 : decode cX3_slotOf 44 = .ok (.getfield 19, 3) := by decide +kernel
theorem dX3_slotOf_47 : decode cX3_slotOf 47 = .ok (.iload 4, 2) := by decide +kernel
theorem dX3_slotOf_49 : decode cX3_slotOf 49 = .ok (.iaload, 1) := by decide +kernel
theorem dX3_slotOf_50 : decode cX3_slotOf 50 = .ok (.sipush 16383, 3) := by decide +kernel
theorem dX3_slotOf_53 : decode cX3_slotOf 53 = .ok (.iand, 1) := by decide +kernel
theorem dX3_slotOf_54 : decode cX3_slotOf 54 = .ok (.laload, 1) := by decide +kernel
theorem dX3_slotOf_55 : decode cX3_slotOf 55 = .ok (.lload_n 1, 1) := by decide +kernel
theorem dX3_slotOf_56 : decode cX3_slotOf 56 = .ok (.lcmp, 1) := by decide +kernel
theorem dX3_slotOf_57 : decode cX3_slotOf 57 = .ok (.ifCond .ne 6, 3) := by decide +kernel
theorem dX3_slotOf_60 : decode cX3_slotOf 60 = .ok (.iload 4, 2) := by decide +kernel
theorem dX3_slotOf_62 : decode cX3_slotOf 62 = .ok (.ireturn, 1) := by decide +kernel
theorem dX3_slotOf_63 : decode cX3_slotOf 63 = .ok (.iload 4, 2) := by decide +kernel
theorem dX3_slotOf_65 : decode cX3_slotOf 65 = .ok (.iconst 1, 1) := by decide +kernel
theorem dX3_slotOf_66 : decode cX3_slotOf 66 = .ok (.iadd, 1) := by decide +kernel
theorem dX3_slotOf_67 : decode cX3_slotOf 67 = .ok (.iload_n 3, 1) := by decide +kernel
theorem dX3_slotOf_68 : decode cX3_slotOf 68 = .ok (.iand, 1) := by decide +kernel
theorem dX3_slotOf_69 : decode cX3_slotOf 69 = .ok (.istore 4, 2) := by decide +kernel
theorem dX3_slotOf_71 : decode cX3_slotOf 71 = .ok (.iinc 5 1, 3) := by decide +kernel
theorem dX3_slotOf_74 : decode cX3_slotOf 74 = .ok (.goto (-50), 3) := by decide +kernel
theorem dX3_slotOf_77 : decode cX3_slotOf 77 = .ok (.iload 4, 2) := by decide +kernel
theorem dX3_slotOf_79 : decode cX3_slotOf 79 = .ok (.ireturn, 1) := by decide +kernel
theorem dX3_isTaken_0 : decode cX3_isTaken 0 = .ok (.aload_n 0, 1) := by decide +kernel
theorem dX3_isTaken_1 : decode cX3_isTaken 1 = .ok (.getfield 19, 3) := by decide +kernel
