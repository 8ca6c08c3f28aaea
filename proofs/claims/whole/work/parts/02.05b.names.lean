theorem dX5_act_92 : decode cX5_act 92 = .ok (.iload 5, 2) := by decide +kernel
theorem dX5_act_94 : decode cX5_act 94 = .ok (.imul, 1) := by decide +kernel
theorem dX5_act_95 : decode cX5_act 95 = .ok (.iconst 3, 1) := by decide +kernel
theorem dX5_act_96 : decode cX5_act 96 = .ok (.iadd, 1) := by decide +kernel
theorem dX5_act_97 : decode cX5_act 97 = .ok (.iaload, 1) := by decide +kernel
theorem dX5_act_98 : decode cX5_act 98 = .ok (.istore 10, 2) := by decide +kernel
theorem dX5_act_100 : decode cX5_act 100 = .ok (.lload_n 1, 1) := by decide +kernel
theorem dX5_act_101 : decode cX5_act 101 = .ok (.bipush 8, 2) := by decide +kernel
theorem dX5_act_103 : decode cX5_act 103 = .ok (.iconst 4, 1) := by decide +kernel
theorem dX5_act_104 : decode cX5_act 104 = .ok (.iload_n 3, 1) := by decide +kernel
theorem dX5_act_105 : decode cX5_act 105 = .ok (.imul, 1) := by decide +kernel
theorem dX5_act_106 : decode cX5_act 106 = .ok (.iadd, 1) := by decide +kernel
theorem dX5_act_107 : decode cX5_act 107 = .ok (.iconst 2, 1) := by decide +kernel
theorem dX5_act_108 : decode cX5_act 108 = .ok (.iload 10, 2) := by decide +kernel
theorem dX5_act_110 : decode cX5_act 110 = .ok (.imul, 1) := by decide +kernel
theorem dX5_act_111 : decode cX5_act 111 = .ok (.iadd, 1) := by decide +kernel
theorem dX5_act_112 : decode cX5_act 112 = .ok (.iconst 2, 1) := by decide +kernel
theorem dX5_act_113 : decode cX5_act 113 = .ok (.iload 9, 2) := by decide +kernel
theorem dX5_act_115 : decode cX5_act 115 = .ok (.invokestatic 148, 3) := by decide +kernel
theorem dX5_act_118 : decode cX5_act 118 = .ok (.lstore 11, 2) := by decide +kernel
theorem dX5_act_120 : decode cX5_act 120 = .ok (.iload 4, 2) := by decide +kernel
theorem dX5_act_122 : decode cX5_act 122 = .ok (.iconst 1, 1) := by decide +kernel
theorem dX5_act_123 : decode cX5_act 123 = .ok (.if_icmp .ne 6, 3) := by decide +kernel
theorem dX5_act_126 : decode cX5_act 126 = .ok (.lload 11, 2) := by decide +kernel
theorem dX5_act_128 : decode cX5_act 128 = .ok (.lreturn, 1) := by decide +kernel
theorem dX5_act_129 : decode cX5_act 129 = .ok (.iload 4, 2) := by decide +kernel
theorem dX5_act_131 : decode cX5_act 131 = .ok (.iconst 3, 1) := by decide +kernel
theorem dX5_act_132 : decode cX5_act 132 = .ok (.if_icmp .ne 21, 3) := by decide +kernel
theorem dX5_act_135 : decode cX5_act 135 = .ok (.lload 11, 2) := by decide +kernel
theorem dX5_act_137 : decode cX5_act 137 = .ok (.iconst 2, 1) := by decide +kernel
theorem dX5_act_138 : decode cX5_act 138 = .ok (.iload 6, 2) := by decide +kernel
theorem dX5_act_140 : decode cX5_act 140 = .ok (.imul, 1) := by decide +kernel
theorem dX5_act_141 : decode cX5_act 141 = .ok (.iconst 2, 1) := by decide +kernel
theorem dX5_act_142 : decode cX5_act 142 = .ok (.iload 9, 2) := by decide +kernel
theorem dX5_act_144 : decode cX5_act 144 = .ok (.iload 7, 2) := by decide +kernel
theorem dX5_act_146 : decode cX5_act 146 = .ok (.iadd, 1) := by decide +kernel
theorem dX5_act_147 : decode cX5_act 147 = .ok (.iconst 4, 1) := by decide +kernel
theorem dX5_act_148 : decode cX5_act 148 = .ok (.irem, 1) := by decide +kernel
theorem dX5_act_149 : decode cX5_act 149 = .ok (.invokestatic 148, 3) := by decide +kernel
theorem dX5_act_152 : decode cX5_act 152 = .ok (.lreturn, 1) := by decide +kernel
theorem dX5_act_153 : decode cX5_act 153 = .ok (.iload 9, 2) := by decide +kernel
theorem dX5_act_155 : decode cX5_act 155 = .ok (.iload 7, 2) := by decide +kernel
theorem dX5_act_157 : decode cX5_act 157 = .ok (.if_icmp .ne 18, 3) := by decide +kernel
theorem dX5_act_160 : decode cX5_act 160 = .ok (.lload 11, 2) := by decide +kernel
theorem dX5_act_162 : decode cX5_act 162 = .ok (.iconst 2, 1) := by decide +kernel
theorem dX5_act_163 : decode cX5_act 163 = .ok (.iload 6, 2) := by decide +kernel
theorem dX5_act_165 : decode cX5_act 165 = .ok (.imul, 1) := by decide +kernel
theorem dX5_act_166 : decode cX5_act 166 = .ok (.iconst 2, 1) := by decide +kernel
theorem dX5_act_167 : decode cX5_act 167 = .ok (.iload 8, 2) := by decide +kernel
theorem dX5_act_169 : decode cX5_act 169 = .ok (.invokestatic 148, 3) := by decide +kernel
theorem dX5_act_172 : decode cX5_act 172 = .ok (.goto 5, 3) := by decide +kernel
theorem dX5_act_175 : decode cX5_act 175 = .ok (.lload 11, 2) := by decide +kernel
theorem dX5_act_177 : decode cX5_act 177 = .ok (.lreturn, 1) := by decide +kernel
set_option maxRecDepth 20000 in
theorem ggX5_stepOf_X5_does : GoodIn wsX5_stepOf wsX5_does := goodIn_r _ [7, 8, 2, 9, 10, 11, 12, 6, 13, 14, 15, 16, 17, 18, 19, 20, 21, 22, 23, 24, 25, 26, 27, 28, 29, 30, 43, 44, 45, 46, 47, 48, 49, 50, 51, 52, 53, 54, 55, 56, 57, 58, 59, 60, 61, 62, 63, 64, 65] (by decide +kernel) (by decide +kernel)
set_option maxRecDepth 20000 in
theorem gX5_stepOf_X5_does : GoodIn wsX5_stepOf (wsV RX5 163 RX5 yX5_does wsX5_does) := goodIn_app (goodIn_of _ (by decide +kernel)) ggX5_stepOf_X5_does
set_option maxRecDepth 20000 in
theorem ggX5_stepOf_X5_wish : GoodIn wsX5_stepOf wsX5_wish := goodIn_r _ [34, 2, 9, 35, 17, 18, 6, 19, 14, 15, 16, 27, 28, 29, 30, 10, 36, 37, 38, 20, 21, 22, 39, 40, 41, 42, 43, 44, 45, 46, 47, 48, 49, 50, 51, 52, 53, 54, 55, 56, 57, 58, 59, 60, 61, 62, 63, 64, 65] (by decide +kernel) (by decide +kernel)
set_option maxRecDepth 20000 in
theorem gX5_stepOf_X5_wish : GoodIn wsX5_stepOf (wsV RX5 166 RX5 yX5_wish wsX5_wish) := goodIn_app (goodIn_of _ (by decide +kernel)) ggX5_stepOf_X5_wish
set_option maxRecDepth 20000 in
theorem ggX5_stepOf_X5_bits : GoodIn wsX5_stepOf wsX5_bits := goodIn_r _ [16] (by decide +kernel) (by decide +kernel)
set_option maxRecDepth 20000 in
theorem gX5_stepOf_X5_bits : GoodIn wsX5_stepOf (va_wsS RX5 134 yX5_bits wsX5_bits) := goodIn_app (goodIn_of _ (by decide +kernel)) ggX5_stepOf_X5_bits
set_option maxRecDepth 20000 in
theorem ggX5_stepOf_X5_with : GoodIn wsX5_stepOf wsX5_with := goodIn_r _ [22, 2] (by decide +kernel) (by decide +kernel)
set_option maxRecDepth 20000 in
theorem gX5_stepOf_X5_with : GoodIn wsX5_stepOf (va_wsS RX5 148 yX5_with wsX5_with) := goodIn_app (goodIn_of _ (by decide +kernel)) ggX5_stepOf_X5_with
theorem dX5_stepOf_0 : decode cX5_stepOf 0 = .ok (.iload_n 3, 1) := by decide +kernel
theorem dX5_stepOf_1 : decode cX5_stepOf 1 = .ok (.iconst 2, 1) := by decide +kernel
theorem dX5_stepOf_2 : decode cX5_stepOf 2 = .ok (.if_icmp .ge 10, 3) := by decide +kernel
theorem dX5_stepOf_5 : decode cX5_stepOf 5 = .ok (.aload_n 0, 1) := by decide +kernel
theorem dX5_stepOf_6 : decode cX5_stepOf 6 = .ok (.lload_n 1, 1) := by decide +kernel
theorem dX5_stepOf_7 : decode cX5_stepOf 7 = .ok (.iload_n 3, 1) := by decide +kernel
theorem dX5_stepOf_8 : decode cX5_stepOf 8 = .ok (.invokevirtual 163, 3) := by decide +kernel
theorem dX5_stepOf_11 : decode cX5_stepOf 11 = .ok (.lreturn, 1) := by decide +kernel
theorem dX5_stepOf_12 : decode cX5_stepOf 12 = .ok (.iload_n 3, 1) := by decide +kernel
theorem dX5_stepOf_13 : decode cX5_stepOf 13 = .ok (.iconst 5, 1) := by decide +kernel
theorem dX5_stepOf_14 : decode cX5_stepOf 14 = .ok (.if_icmp .ge 13, 3) := by decide +kernel
theorem dX5_stepOf_17 : decode cX5_stepOf 17 = .ok (.aload_n 0, 1) := by decide +kernel
theorem dX5_stepOf_18 : decode cX5_stepOf 18 = .ok (.lload_n 1, 1) := by decide +kernel
theorem dX5_stepOf_19 : decode cX5_stepOf 19 = .ok (.iconst 0, 1) := by decide +kernel
theorem dX5_stepOf_20 : decode cX5_stepOf 20 = .ok (.iload_n 3, 1) := by decide +kernel
theorem dX5_stepOf_21 : decode cX5_stepOf 21 = .ok (.iconst 2, 1) := by decide +kernel
theorem dX5_stepOf_22 : decode cX5_stepOf 22 = .ok (.isub, 1) := by decide +kernel
theorem dX5_stepOf_23 : decode cX5_stepOf 23 = .ok (.invokevirtual 166, 3) := by decide +kernel
theorem dX5_stepOf_26 : decode cX5_stepOf 26 = .ok (.lreturn, 1) := by decide +kernel
theorem dX5_stepOf_27 : decode cX5_stepOf 27 = .ok (.iload_n 3, 1) := by decide +kernel
theorem dX5_stepOf_28 : decode cX5_stepOf 28 = .ok (.bipush 8, 2) := by decide +kernel
theorem dX5_stepOf_30 : decode cX5_stepOf 30 = .ok (.if_icmp .ge 13, 3) := by decide +kernel
theorem dX5_stepOf_33 : decode cX5_stepOf 33 = .ok (.aload_n 0, 1) := by decide +kernel
theorem dX5_stepOf_34 : decode cX5_stepOf 34 = .ok (.lload_n 1, 1) := by decide +kernel
theorem dX5_stepOf_35 : decode cX5_stepOf 35 = .ok (.iconst 1, 1) := by decide +kernel
theorem dX5_stepOf_36 : decode cX5_stepOf 36 = .ok (.iload_n 3, 1) := by decide +kernel
theorem dX5_stepOf_37 : decode cX5_stepOf 37 = .ok (.iconst 5, 1) := by decide +kernel
theorem dX5_stepOf_38 : decode cX5_stepOf 38 = .ok (.isub, 1) := by decide +kernel
theorem dX5_stepOf_39 : decode cX5_stepOf 39 = .ok (.invokevirtual 166, 3) := by decide +kernel
theorem dX5_stepOf_42 : decode cX5_stepOf 42 = .ok (.lreturn, 1) := by decide +kernel
theorem dX5_stepOf_43 : decode cX5_stepOf 43 = .ok (.aload_n 0, 1) := by decide +kernel
theorem dX5_stepOf_44 : decode cX5_stepOf 44 = .ok (.getfield 129, 3) := by decide +kernel
theorem dX5_stepOf_47 : decode cX5_stepOf 47 = .ok (.ifCond .eq 27, 3) := by decide +kernel
theorem dX5_stepOf_50 : decode cX5_stepOf 50 = .ok (.lload_n 1, 1) := by decide +kernel
theorem dX5_stepOf_51 : decode cX5_stepOf 51 = .ok (.bipush 46, 2) := by decide +kernel
theorem dX5_stepOf_53 : decode cX5_stepOf 53 = .ok (.iconst 2, 1) := by decide +kernel
theorem dX5_stepOf_54 : decode cX5_stepOf 54 = .ok (.invokestatic 134, 3) := by decide +kernel
theorem dX5_stepOf_57 : decode cX5_stepOf 57 = .ok (.ifCond .ne 17, 3) := by decide +kernel
theorem dX5_stepOf_60 : decode cX5_stepOf 60 = .ok (.lload_n 1, 1) := by decide +kernel
theorem dX5_stepOf_61 : decode cX5_stepOf 61 = .ok (.bipush 46, 2) := by decide +kernel
theorem dX5_stepOf_63 : decode cX5_stepOf 63 = .ok (.iconst 2, 1) := by decide +kernel
theorem dX5_stepOf_64 : decode cX5_stepOf 64 = .ok (.iload_n 3, 1) := by decide +kernel
theorem dX5_stepOf_65 : decode cX5_stepOf 65 = .ok (.bipush 7, 2) := by decide +kernel
theorem dX5_stepOf_67 : decode cX5_stepOf 67 = .ok (.isub, 1) := by decide +kernel
theorem dX5_stepOf_68 : decode cX5_stepOf 68 = .ok (.invokestatic 148, 3) := by decide +kernel
theorem dX5_stepOf_71 : decode cX5_stepOf 71 = .ok (.goto 6, 3) := by decide +kernel
theorem dX5_stepOf_74 : decode cX5_stepOf 74 = .ok (.ldc2_w 132, 3) := by decide +kernel
theorem dX5_stepOf_77 : decode cX5_stepOf 77 = .ok (.lreturn, 1) := by decide +kernel
theorem dX5_placeOf_0 : decode cX5_placeOf 0 = .ok (.lload_n 0, 1) := by decide +kernel
theorem dX5_placeOf_1 : decode cX5_placeOf 1 = .ok (.ldc2_w 169, 3) := by decide +kernel
theorem dX5_placeOf_4 : decode cX5_placeOf 4 = .ok (.lmul, 1) := by decide +kernel
theorem dX5_placeOf_5 : decode cX5_placeOf 5 = .ok (.lstore_n 2, 1) := by decide +kernel
theorem dX5_placeOf_6 : decode cX5_placeOf 6 = .ok (.lload_n 2, 1) := by decide +kernel
theorem dX5_placeOf_7 : decode cX5_placeOf 7 = .ok (.bipush 20, 2) := by decide +kernel
theorem dX5_placeOf_9 : decode cX5_placeOf 9 = .ok (.lshr, 1) := by decide +kernel
theorem dX5_placeOf_10 : decode cX5_placeOf 10 = .ok (.lload_n 2, 1) := by decide +kernel
theorem dX5_placeOf_11 : decode cX5_placeOf 11 = .ok (.bipush 37, 2) := by decide +kernel
theorem dX5_placeOf_13 : decode cX5_placeOf 13 = .ok (.lshr, 1) := by decide +kernel
theorem dX5_placeOf_14 : decode cX5_placeOf 14 = .ok (.lxor, 1) := by decide +kernel
theorem dX5_placeOf_15 : decode cX5_placeOf 15 = .ok (.l2i, 1) := by decide +kernel
theorem dX5_placeOf_16 : decode cX5_placeOf 16 = .ok (.sipush 32767, 3) := by decide +kernel
theorem dX5_placeOf_19 : decode cX5_placeOf 19 = .ok (.iand, 1) := by decide +kernel
theorem dX5_placeOf_20 : decode cX5_placeOf 20 = .ok (.ireturn, 1) := by decide +kernel
set_option maxRecDepth 20000 in
theorem ggX5_come_X5_placeOf : GoodIn wsX5_come wsX5_placeOf := goodIn_r _ [10, 11] (by decide +kernel) (by decide +kernel)
set_option maxRecDepth 20000 in
theorem gX5_come_X5_placeOf : GoodIn wsX5_come (va_wsS RX5 171 yX5_placeOf wsX5_placeOf) := goodIn_app (goodIn_of _ (by decide +kernel)) ggX5_come_X5_placeOf
theorem dX5_come_0 : decode cX5_come 0 = .ok (.lload_n 1, 1) := by decide +kernel
theorem dX5_come_1 : decode cX5_come 1 = .ok (.invokestatic 171, 3) := by decide +kernel
theorem dX5_come_4 : decode cX5_come 4 = .ok (.istore 5, 2) := by decide +kernel
theorem dX5_come_6 : decode cX5_come 6 = .ok (.aload_n 0, 1) := by decide +kernel
theorem dX5_come_7 : decode cX5_come 7 = .ok (.getfield 51, 3) := by decide +kernel
theorem dX5_come_10 : decode cX5_come 10 = .ok (.iload 5, 2) := by decide +kernel
theorem dX5_come_12 : decode cX5_come 12 = .ok (.iaload, 1) := by decide +kernel
theorem dX5_come_13 : decode cX5_come 13 = .ok (.ifCond .eq 36, 3) := by decide +kernel
theorem dX5_come_16 : decode cX5_come 16 = .ok (.aload_n 0, 1) := by decide +kernel
theorem dX5_come_17 : decode cX5_come 17 = .ok (.getfield 35, 3) := by decide +kernel
theorem dX5_come_20 : decode cX5_come 20 = .ok (.aload_n 0, 1) := by decide +kernel
theorem dX5_come_21 : decode cX5_come 21 = .ok (.getfield 51, 3) := by decide +kernel
theorem dX5_come_24 : decode cX5_come 24 = .ok (.iload 5, 2) := by decide +kernel
theorem dX5_come_26 : decode cX5_come 26 = .ok (.iaload, 1) := by decide +kernel
theorem dX5_come_27 : decode cX5_come 27 = .ok (.iconst 1, 1) := by decide +kernel
theorem dX5_come_28 : decode cX5_come 28 = .ok (.isub, 1) := by decide +kernel
theorem dX5_come_29 : decode cX5_come 29 = .ok (.laload, 1) := by decide +kernel
theorem dX5_come_30 : decode cX5_come 30 = .ok (.lload_n 1, 1) := by decide +kernel
theorem dX5_come_31 : decode cX5_come 31 = .ok (.lcmp, 1) := by decide +kernel
theorem dX5_come_32 : decode cX5_come 32 = .ok (.ifCond .ne 4, 3) := by decide +kernel
theorem dX5_come_35 : decode cX5_come 35 = .ok (.return_, 1) := by decide +kernel
theorem dX5_come_36 : decode cX5_come 36 = .ok (.iload 5, 2) := by decide +kernel
theorem dX5_come_38 : decode cX5_come 38 = .ok (.iconst 1, 1) := by decide +kernel
theorem dX5_come_39 : decode cX5_come 39 = .ok (.iadd, 1) := by decide +kernel
theorem dX5_come_40 : decode cX5_come 40 = .ok (.sipush 32767, 3) := by decide +kernel
theorem dX5_come_43 : decode cX5_come 43 = .ok (.iand, 1) := by decide +kernel
theorem dX5_come_44 : decode cX5_come 44 = .ok (.istore 5, 2) := by decide +kernel
theorem dX5_come_46 : decode cX5_come 46 = .ok (.goto (-40), 3) := by decide +kernel
theorem dX5_come_49 : decode cX5_come 49 = .ok (.aload_n 0, 1) := by decide +kernel
theorem dX5_come_50 : decode cX5_come 50 = .ok (.getfield 174, 3) := by decide +kernel
theorem dX5_come_53 : decode cX5_come 53 = .ok (.sipush 12000, 3) := by decide +kernel
theorem dX5_come_56 : decode cX5_come 56 = .ok (.if_icmp .le 4, 3) := by decide +kernel
theorem dX5_come_59 : decode cX5_come 59 = .ok (.return_, 1) := by decide +kernel
theorem dX5_come_60 : decode cX5_come 60 = .ok (.aload_n 0, 1) := by decide +kernel
theorem dX5_come_61 : decode cX5_come 61 = .ok (.getfield 35, 3) := by decide +kernel
theorem dX5_come_64 : decode cX5_come 64 = .ok (.aload_n 0, 1) := by decide +kernel
theorem dX5_come_65 : decode cX5_come 65 = .ok (.getfield 174, 3) := by decide +kernel
theorem dX5_come_68 : decode cX5_come 68 = .ok (.lload_n 1, 1) := by decide +kernel
theorem dX5_come_69 : decode cX5_come 69 = .ok (.lastore, 1) := by decide +kernel
theorem dX5_come_70 : decode cX5_come 70 = .ok (.aload_n 0, 1) := by decide +kernel
theorem dX5_come_71 : decode cX5_come 71 = .ok (.getfield 39, 3) := by decide +kernel
theorem dX5_come_74 : decode cX5_come 74 = .ok (.aload_n 0, 1) := by decide +kernel
theorem dX5_come_75 : decode cX5_come 75 = .ok (.getfield 174, 3) := by decide +kernel
theorem dX5_come_78 : decode cX5_come 78 = .ok (.iload_n 3, 1) := by decide +kernel
theorem dX5_come_79 : decode cX5_come 79 = .ok (.iastore, 1) := by decide +kernel
theorem dX5_come_80 : decode cX5_come 80 = .ok (.aload_n 0, 1) := by decide +kernel
theorem dX5_come_81 : decode cX5_come 81 = .ok (.getfield 42, 3) := by decide +kernel
theorem dX5_come_84 : decode cX5_come 84 = .ok (.aload_n 0, 1) := by decide +kernel
theorem dX5_come_85 : decode cX5_come 85 = .ok (.getfield 174, 3) := by decide +kernel
theorem dX5_come_88 : decode cX5_come 88 = .ok (.iload 4, 2) := by decide +kernel
theorem dX5_come_90 : decode cX5_come 90 = .ok (.i2b, 1) := by decide +kernel
theorem dX5_come_91 : decode cX5_come 91 = .ok (.bastore, 1) := by decide +kernel
theorem dX5_come_92 : decode cX5_come 92 = .ok (.aload_n 0, 1) := by decide +kernel
theorem dX5_come_93 : decode cX5_come 93 = .ok (.getfield 46, 3) := by decide +kernel
theorem dX5_come_96 : decode cX5_come 96 = .ok (.aload_n 0, 1) := by decide +kernel
theorem dX5_come_97 : decode cX5_come 97 = .ok (.getfield 174, 3) := by decide +kernel
theorem dX5_come_100 : decode cX5_come 100 = .ok (.iload_n 3, 1) := by decide +kernel
theorem dX5_come_101 : decode cX5_come 101 = .ok (.ifCond .ge 7, 3) := by decide +kernel
theorem dX5_come_104 : decode cX5_come 104 = .ok (.iconst 0, 1) := by decide +kernel
theorem dX5_come_105 : decode cX5_come 105 = .ok (.goto 11, 3) := by decide +kernel
theorem dX5_come_108 : decode cX5_come 108 = .ok (.aload_n 0, 1) := by decide +kernel
theorem dX5_come_109 : decode cX5_come 109 = .ok (.getfield 46, 3) := by decide +kernel
theorem dX5_come_112 : decode cX5_come 112 = .ok (.iload_n 3, 1) := by decide +kernel
theorem dX5_come_113 : decode cX5_come 113 = .ok (.saload, 1) := by decide +kernel
theorem dX5_come_114 : decode cX5_come 114 = .ok (.iconst 1, 1) := by decide +kernel
theorem dX5_come_115 : decode cX5_come 115 = .ok (.iadd, 1) := by decide +kernel
theorem dX5_come_116 : decode cX5_come 116 = .ok (.i2s, 1) := by decide +kernel
theorem dX5_come_117 : decode cX5_come 117 = .ok (.sastore, 1) := by decide +kernel
theorem dX5_come_118 : decode cX5_come 118 = .ok (.aload_n 0, 1) := by decide +kernel
theorem dX5_come_119 : decode cX5_come 119 = .ok (.dup, 1) := by decide +kernel
theorem dX5_come_120 : decode cX5_come 120 = .ok (.getfield 174, 3) := by decide +kernel
theorem dX5_come_123 : decode cX5_come 123 = .ok (.iconst 1, 1) := by decide +kernel
theorem dX5_come_124 : decode cX5_come 124 = .ok (.iadd, 1) := by decide +kernel
theorem dX5_come_125 : decode cX5_come 125 = .ok (.putfield 174, 3) := by decide +kernel
theorem dX5_come_128 : decode cX5_come 128 = .ok (.aload_n 0, 1) := by decide +kernel
theorem dX5_come_129 : decode cX5_come 129 = .ok (.getfield 51, 3) := by decide +kernel
theorem dX5_come_132 : decode cX5_come 132 = .ok (.iload 5, 2) := by decide +kernel
theorem dX5_come_134 : decode cX5_come 134 = .ok (.aload_n 0, 1) := by decide +kernel
theorem dX5_come_135 : decode cX5_come 135 = .ok (.getfield 174, 3) := by decide +kernel
theorem dX5_come_138 : decode cX5_come 138 = .ok (.iastore, 1) := by decide +kernel
theorem dX5_come_139 : decode cX5_come 139 = .ok (.return_, 1) := by decide +kernel
set_option maxRecDepth 20000 in
theorem ggX5_walkOn_X5_with : GoodIn wsX5_walkOn wsX5_with := goodIn_r _ [9, 10] (by decide +kernel) (by decide +kernel)
set_option maxRecDepth 20000 in
theorem gX5_walkOn_X5_with : GoodIn wsX5_walkOn (va_wsS RX5 148 yX5_with wsX5_with) := goodIn_app (goodIn_of _ (by decide +kernel)) ggX5_walkOn_X5_with
set_option maxRecDepth 20000 in
theorem ggX5_walkOn_X5_come : GoodIn wsX5_walkOn wsX5_come := goodIn_r _ [14, 2, 5, 3, 15, 16, 17, 18, 19, 8, 20, 21, 63, 64, 65, 66, 67, 68, 69, 70, 71, 72, 73, 74, 75, 76, 77, 78, 79, 80, 81, 82, 83, 84, 85] (by decide +kernel) (by decide +kernel)
set_option maxRecDepth 20000 in
theorem gX5_walkOn_X5_come : GoodIn wsX5_walkOn (wsV RX5 177 RX5 yX5_come wsX5_come) := goodIn_app (goodIn_of _ (by decide +kernel)) ggX5_walkOn_X5_come
set_option maxRecDepth 20000 in
theorem ggX5_walkOn_X5_stepOf : GoodIn wsX5_walkOn wsX5_stepOf := goodIn_r _ [25, 26, 10, 27, 28, 29, 8, 30, 31, 32, 33, 34, 35, 36, 37, 38, 39, 40, 41, 42, 6, 7, 9, 43, 44, 45, 46, 47, 48, 49, 50, 51, 52, 53, 54, 55, 56, 57, 58, 59, 60, 61, 62, 63, 64, 65, 66, 67, 68, 69, 70, 71, 72, 73, 74, 75, 76, 77, 78, 79, 80, 81, 82, 83, 84, 85] (by decide +kernel) (by decide +kernel)
set_option maxRecDepth 20000 in
theorem gX5_walkOn_X5_stepOf : GoodIn wsX5_walkOn (wsV RX5 181 RX5 yX5_stepOf wsX5_stepOf) := goodIn_app (goodIn_of _ (by decide +kernel)) ggX5_walkOn_X5_stepOf
theorem dX5_walkOn_0 : decode cX5_walkOn 0 = .ok (.iconst 0, 1) := by decide +kernel
theorem dX5_walkOn_1 : decode cX5_walkOn 1 = .ok (.istore_n 1, 1) := by decide +kernel
theorem dX5_walkOn_2 : decode cX5_walkOn 2 = .ok (.iload_n 1, 1) := by decide +kernel
theorem dX5_walkOn_3 : decode cX5_walkOn 3 = .ok (.ldc 50, 2) := by decide +kernel
theorem dX5_walkOn_5 : decode cX5_walkOn 5 = .ok (.if_icmp .ge 16, 3) := by decide +kernel
theorem dX5_walkOn_8 : decode cX5_walkOn 8 = .ok (.aload_n 0, 1) := by decide +kernel
theorem dX5_walkOn_9 : decode cX5_walkOn 9 = .ok (.getfield 51, 3) := by decide +kernel
theorem dX5_walkOn_12 : decode cX5_walkOn 12 = .ok (.iload_n 1, 1) := by decide +kernel
theorem dX5_walkOn_13 : decode cX5_walkOn 13 = .ok (.iconst 0, 1) := by decide +kernel
theorem dX5_walkOn_14 : decode cX5_walkOn 14 = .ok (.iastore, 1) := by decide +kernel
theorem dX5_walkOn_15 : decode cX5_walkOn 15 = .ok (.iinc 1 1, 3) := by decide +kernel
theorem dX5_walkOn_18 : decode cX5_walkOn 18 = .ok (.goto (-16), 3) := by decide +kernel
theorem dX5_walkOn_21 : decode cX5_walkOn 21 = .ok (.aload_n 0, 1) := by decide +kernel
theorem dX5_walkOn_22 : decode cX5_walkOn 22 = .ok (.iconst 0, 1) := by decide +kernel
theorem dX5_walkOn_23 : decode cX5_walkOn 23 = .ok (.putfield 174, 3) := by decide +kernel
theorem dX5_walkOn_26 : decode cX5_walkOn 26 = .ok (.lconst 0, 1) := by decide +kernel
theorem dX5_walkOn_27 : decode cX5_walkOn 27 = .ok (.lstore_n 1, 1) := by decide +kernel
theorem dX5_walkOn_28 : decode cX5_walkOn 28 = .ok (.iconst 0, 1) := by decide +kernel
theorem dX5_walkOn_29 : decode cX5_walkOn 29 = .ok (.istore_n 3, 1) := by decide +kernel
theorem dX5_walkOn_30 : decode cX5_walkOn 30 = .ok (.iload_n 3, 1) := by decide +kernel
theorem dX5_walkOn_31 : decode cX5_walkOn 31 = .ok (.iconst 4, 1) := by decide +kernel
theorem dX5_walkOn_32 : decode cX5_walkOn 32 = .ok (.if_icmp .ge 24, 3) := by decide +kernel
theorem dX5_walkOn_35 : decode cX5_walkOn 35 = .ok (.lload_n 1, 1) := by decide +kernel
theorem dX5_walkOn_36 : decode cX5_walkOn 36 = .ok (.iconst 2, 1) := by decide +kernel
theorem dX5_walkOn_37 : decode cX5_walkOn 37 = .ok (.iload_n 3, 1) := by decide +kernel
theorem dX5_walkOn_38 : decode cX5_walkOn 38 = .ok (.imul, 1) := by decide +kernel
theorem dX5_walkOn_39 : decode cX5_walkOn 39 = .ok (.iconst 2, 1) := by decide +kernel
theorem dX5_walkOn_40 : decode cX5_walkOn 40 = .ok (.aload_n 0, 1) := by decide +kernel
theorem dX5_walkOn_41 : decode cX5_walkOn 41 = .ok (.getfield 19, 3) := by decide +kernel
theorem dX5_walkOn_44 : decode cX5_walkOn 44 = .ok (.iload_n 3, 1) := by decide +kernel
theorem dX5_walkOn_45 : decode cX5_walkOn 45 = .ok (.iaload, 1) := by decide +kernel
theorem dX5_walkOn_46 : decode cX5_walkOn 46 = .ok (.invokestatic 148, 3) := by decide +kernel
theorem dX5_walkOn_49 : decode cX5_walkOn 49 = .ok (.lstore_n 1, 1) := by decide +kernel
theorem dX5_walkOn_50 : decode cX5_walkOn 50 = .ok (.iinc 3 1, 3) := by decide +kernel
theorem dX5_walkOn_53 : decode cX5_walkOn 53 = .ok (.goto (-23), 3) := by decide +kernel
theorem dX5_walkOn_56 : decode cX5_walkOn 56 = .ok (.aload_n 0, 1) := by decide +kernel
theorem dX5_walkOn_57 : decode cX5_walkOn 57 = .ok (.lload_n 1, 1) := by decide +kernel
theorem dX5_walkOn_58 : decode cX5_walkOn 58 = .ok (.iconst (-1), 1) := by decide +kernel
theorem dX5_walkOn_59 : decode cX5_walkOn 59 = .ok (.iconst 0, 1) := by decide +kernel
theorem dX5_walkOn_60 : decode cX5_walkOn 60 = .ok (.invokevirtual 177, 3) := by decide +kernel
theorem dX5_walkOn_63 : decode cX5_walkOn 63 = .ok (.iconst 0, 1) := by decide +kernel
theorem dX5_walkOn_64 : decode cX5_walkOn 64 = .ok (.istore_n 3, 1) := by decide +kernel
theorem dX5_walkOn_65 : decode cX5_walkOn 65 = .ok (.iload_n 3, 1) := by decide +kernel
theorem dX5_walkOn_66 : decode cX5_walkOn 66 = .ok (.aload_n 0, 1) := by decide +kernel
theorem dX5_walkOn_67 : decode cX5_walkOn 67 = .ok (.getfield 174, 3) := by decide +kernel
theorem dX5_walkOn_70 : decode cX5_walkOn 70 = .ok (.if_icmp .ge 65, 3) := by decide +kernel
theorem dX5_walkOn_73 : decode cX5_walkOn 73 = .ok (.aload_n 0, 1) := by decide +kernel
theorem dX5_walkOn_74 : decode cX5_walkOn 74 = .ok (.getfield 174, 3) := by decide +kernel
theorem dX5_walkOn_77 : decode cX5_walkOn 77 = .ok (.sipush 12000, 3) := by decide +kernel
theorem dX5_walkOn_80 : decode cX5_walkOn 80 = .ok (.if_icmp .gt 55, 3) := by decide +kernel
theorem dX5_walkOn_83 : decode cX5_walkOn 83 = .ok (.iconst 0, 1) := by decide +kernel
theorem dX5_walkOn_84 : decode cX5_walkOn 84 = .ok (.istore 4, 2) := by decide +kernel
theorem dX5_walkOn_86 : decode cX5_walkOn 86 = .ok (.iload 4, 2) := by decide +kernel
theorem dX5_walkOn_88 : decode cX5_walkOn 88 = .ok (.bipush 10, 2) := by decide +kernel
theorem dX5_walkOn_90 : decode cX5_walkOn 90 = .ok (.if_icmp .ge 39, 3) := by decide +kernel
theorem dX5_walkOn_93 : decode cX5_walkOn 93 = .ok (.aload_n 0, 1) := by decide +kernel
theorem dX5_walkOn_94 : decode cX5_walkOn 94 = .ok (.aload_n 0, 1) := by decide +kernel
theorem dX5_walkOn_95 : decode cX5_walkOn 95 = .ok (.getfield 35, 3) := by decide +kernel
theorem dX5_walkOn_98 : decode cX5_walkOn 98 = .ok (.iload_n 3, 1) := by decide +kernel
theorem dX5_walkOn_99 : decode cX5_walkOn 99 = .ok (.laload, 1) := by decide +kernel
theorem dX5_walkOn_100 : decode cX5_walkOn 100 = .ok (.iload 4, 2) := by decide +kernel
theorem dX5_walkOn_102 : decode cX5_walkOn 102 = .ok (.invokevirtual 181, 3) := by decide +kernel
theorem dX5_walkOn_105 : decode cX5_walkOn 105 = .ok (.lstore 5, 2) := by decide +kernel
theorem dX5_walkOn_107 : decode cX5_walkOn 107 = .ok (.lload 5, 2) := by decide +kernel
theorem dX5_walkOn_109 : decode cX5_walkOn 109 = .ok (.lconst 0, 1) := by decide +kernel
theorem dX5_walkOn_110 : decode cX5_walkOn 110 = .ok (.lcmp, 1) := by decide +kernel
theorem dX5_walkOn_111 : decode cX5_walkOn 111 = .ok (.ifCond .lt 12, 3) := by decide +kernel
theorem dX5_walkOn_114 : decode cX5_walkOn 114 = .ok (.aload_n 0, 1) := by decide +kernel
theorem dX5_walkOn_115 : decode cX5_walkOn 115 = .ok (.lload 5, 2) := by decide +kernel
theorem dX5_walkOn_117 : decode cX5_walkOn 117 = .ok (.iload_n 3, 1) := by decide +kernel
theorem dX5_walkOn_118 : decode cX5_walkOn 118 = .ok (.iload 4, 2) := by decide +kernel
theorem dX5_walkOn_120 : decode cX5_walkOn 120 = .ok (.invokevirtual 177, 3) := by decide +kernel
theorem dX5_walkOn_123 : decode cX5_walkOn 123 = .ok (.iinc 4 1, 3) := by decide +kernel
theorem dX5_walkOn_126 : decode cX5_walkOn 126 = .ok (.goto (-40), 3) := by decide +kernel
theorem dX5_walkOn_129 : decode cX5_walkOn 129 = .ok (.iinc 3 1, 3) := by decide +kernel
theorem dX5_walkOn_132 : decode cX5_walkOn 132 = .ok (.goto (-67), 3) := by decide +kernel
theorem dX5_walkOn_135 : decode cX5_walkOn 135 = .ok (.return_, 1) := by decide +kernel
set_option maxRecDepth 20000 in
theorem ggX5_lay_X5_copyTo : GoodIn wsX5_lay wsX5_copyTo := goodIn_r _ [8, 2, 3, 9, 10, 11, 12, 13, 14, 15, 16, 17, 18, 19, 20, 21, 22, 23, 24, 25, 26, 27, 28, 29, 30, 31] (by decide +kernel) (by decide +kernel)
set_option maxRecDepth 20000 in
theorem gX5_lay_X5_copyTo : GoodIn wsX5_lay (wsV RX5 121 RX5 yX5_copyTo wsX5_copyTo) := goodIn_app (goodIn_of _ (by decide +kernel)) ggX5_lay_X5_copyTo
theorem dX5_lay_0 : decode cX5_lay 0 = .ok (.iconst 0, 1) := by decide +kernel
theorem dX5_lay_1 : decode cX5_lay 1 = .ok (.istore_n 2, 1) := by decide +kernel
theorem dX5_lay_2 : decode cX5_lay 2 = .ok (.iload_n 2, 1) := by decide +kernel
theorem dX5_lay_3 : decode cX5_lay 3 = .ok (.iconst 2, 1) := by decide +kernel
theorem dX5_lay_4 : decode cX5_lay 4 = .ok (.if_icmp .ge 169, 3) := by decide +kernel
theorem dX5_lay_7 : decode cX5_lay 7 = .ok (.iconst 0, 1) := by decide +kernel
theorem dX5_lay_8 : decode cX5_lay 8 = .ok (.istore_n 3, 1) := by decide +kernel
theorem dX5_lay_9 : decode cX5_lay 9 = .ok (.iconst 0, 1) := by decide +kernel
theorem dX5_lay_10 : decode cX5_lay 10 = .ok (.istore 4, 2) := by decide +kernel
theorem dX5_lay_12 : decode cX5_lay 12 = .ok (.iload 4, 2) := by decide +kernel
theorem dX5_lay_14 : decode cX5_lay 14 = .ok (.aload_n 0, 1) := by decide +kernel
theorem dX5_lay_15 : decode cX5_lay 15 = .ok (.getfield 7, 3) := by decide +kernel
theorem dX5_lay_18 : decode cX5_lay 18 = .ok (.iload_n 2, 1) := by decide +kernel
theorem dX5_lay_19 : decode cX5_lay 19 = .ok (.iaload, 1) := by decide +kernel
theorem dX5_lay_20 : decode cX5_lay 20 = .ok (.if_icmp .ge 138, 3) := by decide +kernel
theorem dX5_lay_23 : decode cX5_lay 23 = .ok (.iload_n 1, 1) := by decide +kernel
theorem dX5_lay_24 : decode cX5_lay 24 = .ok (.bipush 8, 2) := by decide +kernel
theorem dX5_lay_26 : decode cX5_lay 26 = .ok (.iload_n 2, 1) := by decide +kernel
theorem dX5_lay_27 : decode cX5_lay 27 = .ok (.imul, 1) := by decide +kernel
theorem dX5_lay_28 : decode cX5_lay 28 = .ok (.iload 4, 2) := by decide +kernel
theorem dX5_lay_30 : decode cX5_lay 30 = .ok (.iadd, 1) := by decide +kernel
theorem dX5_lay_31 : decode cX5_lay 31 = .ok (.if_icmp .ne 21, 3) := by decide +kernel
theorem dX5_lay_34 : decode cX5_lay 34 = .ok (.aload_n 0, 1) := by decide +kernel
theorem dX5_lay_35 : decode cX5_lay 35 = .ok (.getfield 13, 3) := by decide +kernel
theorem dX5_lay_38 : decode cX5_lay 38 = .ok (.bipush 16, 2) := by decide +kernel
theorem dX5_lay_40 : decode cX5_lay 40 = .ok (.bipush 8, 2) := by decide +kernel
theorem dX5_lay_42 : decode cX5_lay 42 = .ok (.iload_n 2, 1) := by decide +kernel
theorem dX5_lay_43 : decode cX5_lay 43 = .ok (.imul, 1) := by decide +kernel
theorem dX5_lay_44 : decode cX5_lay 44 = .ok (.iadd, 1) := by decide +kernel
theorem dX5_lay_45 : decode cX5_lay 45 = .ok (.iload_n 3, 1) := by decide +kernel
theorem dX5_lay_46 : decode cX5_lay 46 = .ok (.iadd, 1) := by decide +kernel
theorem dX5_lay_47 : decode cX5_lay 47 = .ok (.iconst 4, 1) := by decide +kernel
theorem dX5_lay_48 : decode cX5_lay 48 = .ok (.iastore, 1) := by decide +kernel
theorem dX5_lay_49 : decode cX5_lay 49 = .ok (.iinc 3 1, 3) := by decide +kernel
theorem dX5_lay_52 : decode cX5_lay 52 = .ok (.bipush 16, 2) := by decide +kernel
theorem dX5_lay_54 : decode cX5_lay 54 = .ok (.bipush 8, 2) := by decide +kernel
theorem dX5_lay_56 : decode cX5_lay 56 = .ok (.iload_n 2, 1) := by decide +kernel
theorem dX5_lay_57 : decode cX5_lay 57 = .ok (.imul, 1) := by decide +kernel
theorem dX5_lay_58 : decode cX5_lay 58 = .ok (.iadd, 1) := by decide +kernel
theorem dX5_lay_59 : decode cX5_lay 59 = .ok (.iload_n 3, 1) := by decide +kernel
theorem dX5_lay_60 : decode cX5_lay 60 = .ok (.iadd, 1) := by decide +kernel
theorem dX5_lay_61 : decode cX5_lay 61 = .ok (.istore 5, 2) := by decide +kernel
theorem dX5_lay_63 : decode cX5_lay 63 = .ok (.aload_n 0, 1) := by decide +kernel
theorem dX5_lay_64 : decode cX5_lay 64 = .ok (.bipush 8, 2) := by decide +kernel
theorem dX5_lay_66 : decode cX5_lay 66 = .ok (.iload_n 2, 1) := by decide +kernel
theorem dX5_lay_67 : decode cX5_lay 67 = .ok (.imul, 1) := by decide +kernel
theorem dX5_lay_68 : decode cX5_lay 68 = .ok (.iload 4, 2) := by decide +kernel
theorem dX5_lay_70 : decode cX5_lay 70 = .ok (.iadd, 1) := by decide +kernel
theorem dX5_lay_71 : decode cX5_lay 71 = .ok (.iload 5, 2) := by decide +kernel
theorem dX5_lay_73 : decode cX5_lay 73 = .ok (.invokevirtual 121, 3) := by decide +kernel
theorem dX5_lay_76 : decode cX5_lay 76 = .ok (.aload_n 0, 1) := by decide +kernel
theorem dX5_lay_77 : decode cX5_lay 77 = .ok (.getfield 16, 3) := by decide +kernel
theorem dX5_lay_80 : decode cX5_lay 80 = .ok (.iconst 4, 1) := by decide +kernel
theorem dX5_lay_81 : decode cX5_lay 81 = .ok (.iload 5, 2) := by decide +kernel
theorem dX5_lay_83 : decode cX5_lay 83 = .ok (.imul, 1) := by decide +kernel
theorem dX5_lay_84 : decode cX5_lay 84 = .ok (.iconst 2, 1) := by decide +kernel
theorem dX5_lay_85 : decode cX5_lay 85 = .ok (.iadd, 1) := by decide +kernel
theorem dX5_lay_86 : decode cX5_lay 86 = .ok (.iaload, 1) := by decide +kernel
theorem dX5_lay_87 : decode cX5_lay 87 = .ok (.istore 6, 2) := by decide +kernel
theorem dX5_lay_89 : decode cX5_lay 89 = .ok (.aload_n 0, 1) := by decide +kernel
theorem dX5_lay_90 : decode cX5_lay 90 = .ok (.getfield 13, 3) := by decide +kernel
theorem dX5_lay_93 : decode cX5_lay 93 = .ok (.iload 5, 2) := by decide +kernel
theorem dX5_lay_95 : decode cX5_lay 95 = .ok (.iaload, 1) := by decide +kernel
theorem dX5_lay_96 : decode cX5_lay 96 = .ok (.bipush 8, 2) := by decide +kernel
theorem dX5_lay_98 : decode cX5_lay 98 = .ok (.if_icmp .ne 51, 3) := by decide +kernel
theorem dX5_lay_101 : decode cX5_lay 101 = .ok (.iload_n 1, 1) := by decide +kernel
theorem dX5_lay_102 : decode cX5_lay 102 = .ok (.bipush 8, 2) := by decide +kernel
theorem dX5_lay_104 : decode cX5_lay 104 = .ok (.iload_n 2, 1) := by decide +kernel
theorem dX5_lay_105 : decode cX5_lay 105 = .ok (.imul, 1) := by decide +kernel
theorem dX5_lay_106 : decode cX5_lay 106 = .ok (.iload 4, 2) := by decide +kernel
theorem dX5_lay_108 : decode cX5_lay 108 = .ok (.iadd, 1) := by decide +kernel
theorem dX5_lay_109 : decode cX5_lay 109 = .ok (.if_icmp .le 40, 3) := by decide +kernel
theorem dX5_lay_112 : decode cX5_lay 112 = .ok (.iload_n 1, 1) := by decide +kernel
theorem dX5_lay_113 : decode cX5_lay 113 = .ok (.bipush 8, 2) := by decide +kernel
theorem dX5_lay_115 : decode cX5_lay 115 = .ok (.iload_n 2, 1) := by decide +kernel
theorem dX5_lay_116 : decode cX5_lay 116 = .ok (.imul, 1) := by decide +kernel
theorem dX5_lay_117 : decode cX5_lay 117 = .ok (.iload 4, 2) := by decide +kernel
theorem dX5_lay_119 : decode cX5_lay 119 = .ok (.iadd, 1) := by decide +kernel
theorem dX5_lay_120 : decode cX5_lay 120 = .ok (.iload 6, 2) := by decide +kernel
theorem dX5_lay_122 : decode cX5_lay 122 = .ok (.iadd, 1) := by decide +kernel
theorem dX5_lay_123 : decode cX5_lay 123 = .ok (.if_icmp .gt 26, 3) := by decide +kernel
theorem dX5_lay_126 : decode cX5_lay 126 = .ok (.iload_n 1, 1) := by decide +kernel
theorem dX5_lay_127 : decode cX5_lay 127 = .ok (.bipush 8, 2) := by decide +kernel
theorem dX5_lay_129 : decode cX5_lay 129 = .ok (.idiv, 1) := by decide +kernel
theorem dX5_lay_130 : decode cX5_lay 130 = .ok (.iload_n 2, 1) := by decide +kernel
theorem dX5_lay_131 : decode cX5_lay 131 = .ok (.if_icmp .ne 18, 3) := by decide +kernel
theorem dX5_lay_134 : decode cX5_lay 134 = .ok (.aload_n 0, 1) := by decide +kernel
theorem dX5_lay_135 : decode cX5_lay 135 = .ok (.getfield 16, 3) := by decide +kernel
theorem dX5_lay_138 : decode cX5_lay 138 = .ok (.iconst 4, 1) := by decide +kernel
theorem dX5_lay_139 : decode cX5_lay 139 = .ok (.iload 5, 2) := by decide +kernel
theorem dX5_lay_141 : decode cX5_lay 141 = .ok (.imul, 1) := by decide +kernel
theorem dX5_lay_142 : decode cX5_lay 142 = .ok (.iconst 2, 1) := by decide +kernel
theorem dX5_lay_143 : decode cX5_lay 143 = .ok (.iadd, 1) := by decide +kernel
theorem dX5_lay_144 : decode cX5_lay 144 = .ok (.iload 6, 2) := by decide +kernel
theorem dX5_lay_146 : decode cX5_lay 146 = .ok (.iconst 1, 1) := by decide +kernel
theorem dX5_lay_147 : decode cX5_lay 147 = .ok (.iadd, 1) := by decide +kernel
theorem dX5_lay_148 : decode cX5_lay 148 = .ok (.iastore, 1) := by decide +kernel
theorem dX5_lay_149 : decode cX5_lay 149 = .ok (.iinc 3 1, 3) := by decide +kernel
theorem dX5_lay_152 : decode cX5_lay 152 = .ok (.iinc 4 1, 3) := by decide +kernel
theorem dX5_lay_155 : decode cX5_lay 155 = .ok (.goto (-143), 3) := by decide +kernel
theorem dX5_lay_158 : decode cX5_lay 158 = .ok (.aload_n 0, 1) := by decide +kernel
theorem dX5_lay_159 : decode cX5_lay 159 = .ok (.getfield 7, 3) := by decide +kernel
theorem dX5_lay_162 : decode cX5_lay 162 = .ok (.iconst 2, 1) := by decide +kernel
theorem dX5_lay_163 : decode cX5_lay 163 = .ok (.iload_n 2, 1) := by decide +kernel
theorem dX5_lay_164 : decode cX5_lay 164 = .ok (.iadd, 1) := by decide +kernel
theorem dX5_lay_165 : decode cX5_lay 165 = .ok (.iload_n 3, 1) := by decide +kernel
theorem dX5_lay_166 : decode cX5_lay 166 = .ok (.iastore, 1) := by decide +kernel
theorem dX5_lay_167 : decode cX5_lay 167 = .ok (.iinc 2 1, 3) := by decide +kernel
theorem dX5_lay_170 : decode cX5_lay 170 = .ok (.goto (-168), 3) := by decide +kernel
theorem dX5_lay_173 : decode cX5_lay 173 = .ok (.return_, 1) := by decide +kernel
set_option maxRecDepth 20000 in
theorem ggX5_isWalked_X5_lay : GoodIn wsX5_isWalked wsX5_lay := goodIn_r _ [7, 8, 9, 10, 11, 12, 13, 6, 14, 76, 77, 78, 79, 80, 81, 82, 83, 84, 85, 86, 87, 88, 89, 90, 91, 92, 93, 94, 95, 96, 97, 98] (by decide +kernel) (by decide +kernel)
set_option maxRecDepth 20000 in
theorem gX5_isWalked_X5_lay : GoodIn wsX5_isWalked (wsV RX5 184 RX5 yX5_lay wsX5_lay) := goodIn_app (goodIn_of _ (by decide +kernel)) ggX5_isWalked_X5_lay
set_option maxRecDepth 20000 in
theorem ggX5_isWalked_X5_walkOn : GoodIn wsX5_isWalked wsX5_walkOn := goodIn_r _ [18, 19, 20, 2, 21, 22, 23, 24, 6, 25, 26, 27, 28, 29, 30, 31, 32, 33, 34, 35, 36, 37, 38, 39, 40, 41, 42, 43, 44, 45, 46, 8, 10, 9, 47, 48, 49, 50, 51, 52, 53, 54, 55, 56, 57, 58, 59, 60, 61, 62, 63, 64, 65, 66, 67, 68, 69, 70, 71, 72, 73, 74, 75, 76, 77, 78, 79, 80, 81, 82, 83, 84, 85, 86, 87, 88, 89, 90, 91, 92, 93, 94, 95, 96, 97, 98] (by decide +kernel) (by decide +kernel)
set_option maxRecDepth 20000 in
theorem gX5_isWalked_X5_walkOn : GoodIn wsX5_isWalked (wsV RX5 187 RX5 yX5_walkOn wsX5_walkOn) := goodIn_app (goodIn_of _ (by decide +kernel)) ggX5_isWalked_X5_walkOn
theorem dX5_isWalked_0 : decode cX5_isWalked 0 = .ok (.aload_n 0, 1) := by decide +kernel
theorem dX5_isWalked_1 : decode cX5_isWalked 1 = .ok (.getfield 125, 3) := by decide +kernel
theorem dX5_isWalked_4 : decode cX5_isWalked 4 = .ok (.ifCond .ne 17, 3) := by decide +kernel
theorem dX5_isWalked_7 : decode cX5_isWalked 7 = .ok (.aload_n 0, 1) := by decide +kernel
theorem dX5_isWalked_8 : decode cX5_isWalked 8 = .ok (.iconst (-1), 1) := by decide +kernel
theorem dX5_isWalked_9 : decode cX5_isWalked 9 = .ok (.invokevirtual 184, 3) := by decide +kernel
theorem dX5_isWalked_12 : decode cX5_isWalked 12 = .ok (.aload_n 0, 1) := by decide +kernel
theorem dX5_isWalked_13 : decode cX5_isWalked 13 = .ok (.invokevirtual 187, 3) := by decide +kernel
theorem dX5_isWalked_16 : decode cX5_isWalked 16 = .ok (.aload_n 0, 1) := by decide +kernel
theorem dX5_isWalked_17 : decode cX5_isWalked 17 = .ok (.iconst 1, 1) := by decide +kernel
theorem dX5_isWalked_18 : decode cX5_isWalked 18 = .ok (.putfield 125, 3) := by decide +kernel
theorem dX5_isWalked_21 : decode cX5_isWalked 21 = .ok (.aload_n 0, 1) := by decide +kernel
theorem dX5_isWalked_22 : decode cX5_isWalked 22 = .ok (.getfield 174, 3) := by decide +kernel
theorem dX5_isWalked_25 : decode cX5_isWalked 25 = .ok (.sipush 12000, 3) := by decide +kernel
theorem dX5_isWalked_28 : decode cX5_isWalked 28 = .ok (.if_icmp .gt 7, 3) := by decide +kernel
theorem dX5_isWalked_31 : decode cX5_isWalked 31 = .ok (.iconst 1, 1) := by decide +kernel
theorem dX5_isWalked_32 : decode cX5_isWalked 32 = .ok (.goto 4, 3) := by decide +kernel
theorem dX5_isWalked_35 : decode cX5_isWalked 35 = .ok (.iconst 0, 1) := by decide +kernel
theorem dX5_isWalked_36 : decode cX5_isWalked 36 = .ok (.ireturn, 1) := by decide +kernel
set_option maxRecDepth 20000 in
theorem ggX5_walk_X5_isWalked : GoodIn wsX5_walk wsX5_isWalked := goodIn_r _ [6, 7, 1, 8, 9, 10, 5, 11, 12, 13, 14, 15, 16, 17, 18, 19, 20, 21, 22, 23, 24, 25, 26, 27, 28, 29, 30, 31, 32, 33, 34, 35, 36, 37, 38, 39, 40, 41, 42, 43, 44, 45, 46, 47, 48, 49, 50, 51, 52, 53, 54, 55, 56, 57, 58, 59, 60, 61, 62, 63, 64, 65, 66, 67, 68, 69, 70, 71, 72, 73, 74, 75, 76, 77, 78, 79, 80, 81, 82, 83, 84, 85, 86, 87, 88, 89, 90, 91, 92, 93, 94, 95, 96, 97, 98, 99, 100, 101, 102] (by decide +kernel) (by decide +kernel)
set_option maxRecDepth 20000 in
theorem gX5_walk_X5_isWalked : GoodIn wsX5_walk (wsV RX5 190 RX5 yX5_isWalked wsX5_isWalked) := goodIn_app (goodIn_of _ (by decide +kernel)) ggX5_walk_X5_isWalked
theorem dX5_walk_0 : decode cX5_walk 0 = .ok (.aload_n 0, 1) := by decide +kernel
theorem dX5_walk_1 : decode cX5_walk 1 = .ok (.invokevirtual 190, 3) := by decide +kernel
theorem dX5_walk_4 : decode cX5_walk 4 = .ok (.ifCond .eq 10, 3) := by decide +kernel
theorem dX5_walk_7 : decode cX5_walk 7 = .ok (.aload_n 0, 1) := by decide +kernel
theorem dX5_walk_8 : decode cX5_walk 8 = .ok (.getfield 174, 3) := by decide +kernel
theorem dX5_walk_11 : decode cX5_walk 11 = .ok (.goto 5, 3) := by decide +kernel
theorem dX5_walk_14 : decode cX5_walk 14 = .ok (.bipush (-2), 2) := by decide +kernel
theorem dX5_walk_16 : decode cX5_walk 16 = .ok (.ireturn, 1) := by decide +kernel
set_option maxRecDepth 20000 in
theorem ggX5_isEnd_X5_stepOf : GoodIn wsX5_isEnd wsX5_stepOf := goodIn_r _ [5, 6, 7, 8, 9, 10, 4, 11, 12, 13, 14, 15, 16, 17, 18, 19, 20, 21, 22, 23, 24, 25, 26, 27, 28, 29, 30, 31, 32, 33, 34, 35, 36, 37, 38, 39, 40, 41, 42, 43, 44, 45, 46, 47, 48, 49, 50, 51, 52, 53, 54, 55, 56, 57, 58, 59, 60, 61, 62, 63, 64, 65, 66, 67, 68, 69] (by decide +kernel) (by decide +kernel)
set_option maxRecDepth 20000 in
theorem gX5_isEnd_X5_stepOf : GoodIn wsX5_isEnd (wsV RX5 181 RX5 yX5_stepOf wsX5_stepOf) := goodIn_app (goodIn_of _ (by decide +kernel)) ggX5_isEnd_X5_stepOf
theorem dX5_isEnd_0 : decode cX5_isEnd 0 = .ok (.iconst 0, 1) := by decide +kernel
theorem dX5_isEnd_1 : decode cX5_isEnd 1 = .ok (.istore_n 3, 1) := by decide +kernel
theorem dX5_isEnd_2 : decode cX5_isEnd 2 = .ok (.iload_n 3, 1) := by decide +kernel
theorem dX5_isEnd_3 : decode cX5_isEnd 3 = .ok (.bipush 8, 2) := by decide +kernel
theorem dX5_isEnd_5 : decode cX5_isEnd 5 = .ok (.if_icmp .ge 22, 3) := by decide +kernel
theorem dX5_isEnd_8 : decode cX5_isEnd 8 = .ok (.aload_n 0, 1) := by decide +kernel
theorem dX5_isEnd_9 : decode cX5_isEnd 9 = .ok (.lload_n 1, 1) := by decide +kernel
theorem dX5_isEnd_10 : decode cX5_isEnd 10 = .ok (.iload_n 3, 1) := by decide +kernel
theorem dX5_isEnd_11 : decode cX5_isEnd 11 = .ok (.invokevirtual 181, 3) := by decide +kernel
theorem dX5_isEnd_14 : decode cX5_isEnd 14 = .ok (.lconst 0, 1) := by decide +kernel
theorem dX5_isEnd_15 : decode cX5_isEnd 15 = .ok (.lcmp, 1) := by decide +kernel
theorem dX5_isEnd_16 : decode cX5_isEnd 16 = .ok (.ifCond .lt 5, 3) := by decide +kernel
theorem dX5_isEnd_19 : decode cX5_isEnd 19 = .ok (.iconst 0, 1) := by decide +kernel
theorem dX5_isEnd_20 : decode cX5_isEnd 20 = .ok (.ireturn, 1) := by decide +kernel
theorem dX5_isEnd_21 : decode cX5_isEnd 21 = .ok (.iinc 3 1, 3) := by decide +kernel
theorem dX5_isEnd_24 : decode cX5_isEnd 24 = .ok (.goto (-22), 3) := by decide +kernel
theorem dX5_isEnd_27 : decode cX5_isEnd 27 = .ok (.iconst 1, 1) := by decide +kernel
theorem dX5_isEnd_28 : decode cX5_isEnd 28 = .ok (.ireturn, 1) := by decide +kernel
set_option maxRecDepth 20000 in
theorem ggX5_isGood_X5_bits : GoodIn wsX5_isGood wsX5_bits := goodIn_r _ [5] (by decide +kernel) (by decide +kernel)
set_option maxRecDepth 20000 in
theorem gX5_isGood_X5_bits : GoodIn wsX5_isGood (va_wsS RX5 134 yX5_bits wsX5_bits) := goodIn_app (goodIn_of _ (by decide +kernel)) ggX5_isGood_X5_bits
set_option maxRecDepth 20000 in
theorem ggX5_isGood_X5_atOf : GoodIn wsX5_isGood wsX5_atOf := goodIn_r _ [8, 2, 3, 4, 5] (by decide +kernel) (by decide +kernel)
set_option maxRecDepth 20000 in
theorem gX5_isGood_X5_atOf : GoodIn wsX5_isGood (va_wsS RX5 145 yX5_atOf wsX5_atOf) := goodIn_app (goodIn_of _ (by decide +kernel)) ggX5_isGood_X5_atOf
set_option maxRecDepth 20000 in
theorem ggX5_isGood_X5_isEnd : GoodIn wsX5_isGood wsX5_isEnd := goodIn_r _ [12, 13, 14, 15, 4, 16, 17, 18, 19, 20, 21, 22, 1, 23, 24, 6, 7, 8, 2, 3, 5, 25, 26, 27, 28, 29, 30, 31, 32, 33, 34, 35, 36, 37, 38, 39, 40, 41, 42, 43, 44, 45, 46, 47, 48, 49, 50, 51, 52, 53, 54, 55, 56, 57, 58, 59, 60, 61, 62, 63, 64, 65, 66, 67, 68, 69, 70, 71, 72, 73] (by decide +kernel) (by decide +kernel)
set_option maxRecDepth 20000 in
theorem gX5_isGood_X5_isEnd : GoodIn wsX5_isGood (wsV RX5 194 RX5 yX5_isEnd wsX5_isEnd) := goodIn_app (goodIn_of _ (by decide +kernel)) ggX5_isGood_X5_isEnd
theorem dX5_isGood_0 : decode cX5_isGood 0 = .ok (.lload_n 1, 1) := by decide +kernel
theorem dX5_isGood_1 : decode cX5_isGood 1 = .ok (.bipush 44, 2) := by decide +kernel
theorem dX5_isGood_3 : decode cX5_isGood 3 = .ok (.iconst 4, 1) := by decide +kernel
theorem dX5_isGood_4 : decode cX5_isGood 4 = .ok (.invokestatic 134, 3) := by decide +kernel
theorem dX5_isGood_7 : decode cX5_isGood 7 = .ok (.ifCond .ne 43, 3) := by decide +kernel
theorem dX5_isGood_10 : decode cX5_isGood 10 = .ok (.lload_n 1, 1) := by decide +kernel
theorem dX5_isGood_11 : decode cX5_isGood 11 = .ok (.iconst 0, 1) := by decide +kernel
theorem dX5_isGood_12 : decode cX5_isGood 12 = .ok (.invokestatic 145, 3) := by decide +kernel
theorem dX5_isGood_15 : decode cX5_isGood 15 = .ok (.aload_n 0, 1) := by decide +kernel
theorem dX5_isGood_16 : decode cX5_isGood 16 = .ok (.getfield 7, 3) := by decide +kernel
theorem dX5_isGood_19 : decode cX5_isGood 19 = .ok (.iconst 2, 1) := by decide +kernel
theorem dX5_isGood_20 : decode cX5_isGood 20 = .ok (.iaload, 1) := by decide +kernel
theorem dX5_isGood_21 : decode cX5_isGood 21 = .ok (.if_icmp .ne 29, 3) := by decide +kernel
theorem dX5_isGood_24 : decode cX5_isGood 24 = .ok (.lload_n 1, 1) := by decide +kernel
theorem dX5_isGood_25 : decode cX5_isGood 25 = .ok (.iconst 1, 1) := by decide +kernel
theorem dX5_isGood_26 : decode cX5_isGood 26 = .ok (.invokestatic 145, 3) := by decide +kernel
theorem dX5_isGood_29 : decode cX5_isGood 29 = .ok (.aload_n 0, 1) := by decide +kernel
theorem dX5_isGood_30 : decode cX5_isGood 30 = .ok (.getfield 7, 3) := by decide +kernel
theorem dX5_isGood_33 : decode cX5_isGood 33 = .ok (.iconst 3, 1) := by decide +kernel
theorem dX5_isGood_34 : decode cX5_isGood 34 = .ok (.iaload, 1) := by decide +kernel
theorem dX5_isGood_35 : decode cX5_isGood 35 = .ok (.if_icmp .ne 15, 3) := by decide +kernel
theorem dX5_isGood_38 : decode cX5_isGood 38 = .ok (.aload_n 0, 1) := by decide +kernel
theorem dX5_isGood_39 : decode cX5_isGood 39 = .ok (.lload_n 1, 1) := by decide +kernel
theorem dX5_isGood_40 : decode cX5_isGood 40 = .ok (.invokevirtual 194, 3) := by decide +kernel
theorem dX5_isGood_43 : decode cX5_isGood 43 = .ok (.ifCond .eq 7, 3) := by decide +kernel
theorem dX5_isGood_46 : decode cX5_isGood 46 = .ok (.iconst 1, 1) := by decide +kernel
theorem dX5_isGood_47 : decode cX5_isGood 47 = .ok (.goto 4, 3) := by decide +kernel
theorem dX5_isGood_50 : decode cX5_isGood 50 = .ok (.iconst 0, 1) := by decide +kernel
theorem dX5_isGood_51 : decode cX5_isGood 51 = .ok (.ireturn, 1) := by decide +kernel
set_option maxRecDepth 20000 in
theorem ggX5_ends_X5_isIn : GoodIn wsX5_ends wsX5_isIn := goodIn_r _ [7] (by decide +kernel) (by decide +kernel)
set_option maxRecDepth 20000 in
theorem gX5_ends_X5_isIn : GoodIn wsX5_ends (va_wsS RX5 64 yX5_isIn wsX5_isIn) := goodIn_app (goodIn_of _ (by decide +kernel)) ggX5_ends_X5_isIn
set_option maxRecDepth 20000 in
theorem ggX5_ends_X5_isWalked : GoodIn wsX5_ends wsX5_isWalked := goodIn_r _ [11, 12, 2, 13, 14, 15, 6, 16, 17, 18, 19, 20, 21, 22, 23, 24, 25, 26, 27, 28, 29, 30, 3, 31, 32, 33, 34, 35, 36, 37, 38, 39, 40, 1, 41, 42, 43, 44, 45, 46, 47, 48, 49, 50, 51, 52, 53, 54, 55, 56, 57, 58, 59, 60, 61, 62, 63, 64, 65, 66, 67, 68, 69, 70, 71, 72, 73, 74, 75, 76, 77, 78, 79, 80, 81, 82, 91, 92, 93, 94, 95, 96, 97, 98, 99, 100, 101, 102, 103, 104, 105, 106, 107, 108, 109, 110, 111, 112, 113] (by decide +kernel) (by decide +kernel)
set_option maxRecDepth 20000 in
theorem gX5_ends_X5_isWalked : GoodIn wsX5_ends (wsV RX5 190 RX5 yX5_isWalked wsX5_isWalked) := goodIn_app (goodIn_of _ (by decide +kernel)) ggX5_ends_X5_isWalked
set_option maxRecDepth 20000 in
theorem ggX5_ends_X5_isEnd : GoodIn wsX5_ends wsX5_isEnd := goodIn_r _ [86, 45, 46, 47, 6, 48, 49, 34, 50, 51, 52, 53, 17, 19, 18, 54, 55, 56, 57, 58, 59, 60, 61, 62, 31, 32, 33, 63, 64, 65, 66, 67, 68, 69, 70, 71, 72, 73, 74, 75, 76, 77, 78, 79, 80, 81, 82, 91, 92, 93, 94, 95, 96, 97, 98, 99, 100, 101, 102, 103, 104, 105, 106, 107, 108, 109, 110, 111, 112, 113] (by decide +kernel) (by decide +kernel)
set_option maxRecDepth 20000 in
theorem gX5_ends_X5_isEnd : GoodIn wsX5_ends (wsV RX5 194 RX5 yX5_isEnd wsX5_isEnd) := goodIn_app (goodIn_of _ (by decide +kernel)) ggX5_ends_X5_isEnd
set_option maxRecDepth 20000 in
theorem ggX5_ends_X5_isGood : GoodIn wsX5_ends wsX5_isGood := goodIn_r _ [90, 17, 57, 58, 6, 59, 54, 55, 56, 83, 84, 85, 86, 45, 46, 47, 48, 49, 34, 50, 51, 52, 53, 19, 18, 60, 61, 62, 31, 32, 33, 63, 64, 65, 66, 67, 68, 69, 70, 71, 72, 73, 74, 75, 76, 77, 78, 79, 80, 81, 82, 91, 92, 93, 94, 95, 96, 97, 98, 99, 100, 101, 102, 103, 104, 105, 106, 107, 108, 109, 110, 111, 112, 113] (by decide +kernel) (by decide +kernel)
set_option maxRecDepth 20000 in
theorem gX5_ends_X5_isGood : GoodIn wsX5_ends (wsV RX5 198 RX5 yX5_isGood wsX5_isGood) := goodIn_app (goodIn_of _ (by decide +kernel)) ggX5_ends_X5_isGood
set_option maxRecDepth 20000 in
theorem ggX5_ends_X5_bits : GoodIn wsX5_ends wsX5_bits := goodIn_r _ [59] (by decide +kernel) (by decide +kernel)
set_option maxRecDepth 20000 in
theorem gX5_ends_X5_bits : GoodIn wsX5_ends (va_wsS RX5 134 yX5_bits wsX5_bits) := goodIn_app (goodIn_of _ (by decide +kernel)) ggX5_ends_X5_bits
theorem dX5_ends_0 : decode cX5_ends 0 = .ok (.iload_n 1, 1) := by decide +kernel
theorem dX5_ends_1 : decode cX5_ends 1 = .ok (.iconst 0, 1) := by decide +kernel
theorem dX5_ends_2 : decode cX5_ends 2 = .ok (.iconst 3, 1) := by decide +kernel
theorem dX5_ends_3 : decode cX5_ends 3 = .ok (.invokestatic 64, 3) := by decide +kernel
theorem dX5_ends_6 : decode cX5_ends 6 = .ok (.ifCond .ne 5, 3) := by decide +kernel
theorem dX5_ends_9 : decode cX5_ends 9 = .ok (.iconst (-1), 1) := by decide +kernel
theorem dX5_ends_10 : decode cX5_ends 10 = .ok (.ireturn, 1) := by decide +kernel
theorem dX5_ends_11 : decode cX5_ends 11 = .ok (.aload_n 0, 1) := by decide +kernel
theorem dX5_ends_12 : decode cX5_ends 12 = .ok (.invokevirtual 190, 3) := by decide +kernel
theorem dX5_ends_15 : decode cX5_ends 15 = .ok (.ifCond .ne 6, 3) := by decide +kernel
theorem dX5_ends_18 : decode cX5_ends 18 = .ok (.bipush (-2), 2) := by decide +kernel
theorem dX5_ends_20 : decode cX5_ends 20 = .ok (.ireturn, 1) := by decide +kernel
theorem dX5_ends_21 : decode cX5_ends 21 = .ok (.iload_n 1, 1) := by decide +kernel
theorem dX5_ends_22 : decode cX5_ends 22 = .ok (.iconst 3, 1) := by decide +kernel
theorem dX5_ends_23 : decode cX5_ends 23 = .ok (.if_icmp .ne 15, 3) := by decide +kernel
theorem dX5_ends_26 : decode cX5_ends 26 = .ok (.aload_n 0, 1) := by decide +kernel
theorem dX5_ends_27 : decode cX5_ends 27 = .ok (.getfield 46, 3) := by decide +kernel
theorem dX5_ends_30 : decode cX5_ends 30 = .ok (.aload_n 0, 1) := by decide +kernel
theorem dX5_ends_31 : decode cX5_ends 31 = .ok (.getfield 174, 3) := by decide +kernel
theorem dX5_ends_34 : decode cX5_ends 34 = .ok (.iconst 1, 1) := by decide +kernel
theorem dX5_ends_35 : decode cX5_ends 35 = .ok (.isub, 1) := by decide +kernel
theorem dX5_ends_36 : decode cX5_ends 36 = .ok (.saload, 1) := by decide +kernel
theorem dX5_ends_37 : decode cX5_ends 37 = .ok (.ireturn, 1) := by decide +kernel
theorem dX5_ends_38 : decode cX5_ends 38 = .ok (.iconst 0, 1) := by decide +kernel
theorem dX5_ends_39 : decode cX5_ends 39 = .ok (.istore_n 2, 1) := by decide +kernel
theorem dX5_ends_40 : decode cX5_ends 40 = .ok (.iconst 0, 1) := by decide +kernel
theorem dX5_ends_41 : decode cX5_ends 41 = .ok (.istore_n 3, 1) := by decide +kernel
theorem dX5_ends_42 : decode cX5_ends 42 = .ok (.iload_n 3, 1) := by decide +kernel
theorem dX5_ends_43 : decode cX5_ends 43 = .ok (.aload_n 0, 1) := by decide +kernel
theorem dX5_ends_44 : decode cX5_ends 44 = .ok (.getfield 174, 3) := by decide +kernel
theorem dX5_ends_47 : decode cX5_ends 47 = .ok (.if_icmp .ge 66, 3) := by decide +kernel
theorem dX5_ends_50 : decode cX5_ends 50 = .ok (.aload_n 0, 1) := by decide +kernel
theorem dX5_ends_51 : decode cX5_ends 51 = .ok (.getfield 35, 3) := by decide +kernel
theorem dX5_ends_54 : decode cX5_ends 54 = .ok (.iload_n 3, 1) := by decide +kernel
theorem dX5_ends_55 : decode cX5_ends 55 = .ok (.laload, 1) := by decide +kernel
theorem dX5_ends_56 : decode cX5_ends 56 = .ok (.lstore 4, 2) := by decide +kernel
theorem dX5_ends_58 : decode cX5_ends 58 = .ok (.iload_n 2, 1) := by decide +kernel
theorem dX5_ends_59 : decode cX5_ends 59 = .ok (.aload_n 0, 1) := by decide +kernel
theorem dX5_ends_60 : decode cX5_ends 60 = .ok (.lload 4, 2) := by decide +kernel
theorem dX5_ends_62 : decode cX5_ends 62 = .ok (.invokevirtual 194, 3) := by decide +kernel
theorem dX5_ends_65 : decode cX5_ends 65 = .ok (.ifCond .eq 39, 3) := by decide +kernel
theorem dX5_ends_68 : decode cX5_ends 68 = .ok (.iload_n 1, 1) := by decide +kernel
theorem dX5_ends_69 : decode cX5_ends 69 = .ok (.ifCond .eq 31, 3) := by decide +kernel
theorem dX5_ends_72 : decode cX5_ends 72 = .ok (.iload_n 1, 1) := by decide +kernel
theorem dX5_ends_73 : decode cX5_ends 73 = .ok (.iconst 1, 1) := by decide +kernel
theorem dX5_ends_74 : decode cX5_ends 74 = .ok (.if_icmp .ne 15, 3) := by decide +kernel
theorem dX5_ends_77 : decode cX5_ends 77 = .ok (.aload_n 0, 1) := by decide +kernel
theorem dX5_ends_78 : decode cX5_ends 78 = .ok (.lload 4, 2) := by decide +kernel
theorem dX5_ends_80 : decode cX5_ends 80 = .ok (.invokevirtual 198, 3) := by decide +kernel
theorem dX5_ends_83 : decode cX5_ends 83 = .ok (.ifCond .eq 21, 3) := by decide +kernel
theorem dX5_ends_86 : decode cX5_ends 86 = .ok (.goto 14, 3) := by decide +kernel
theorem dX5_ends_89 : decode cX5_ends 89 = .ok (.lload 4, 2) := by decide +kernel
theorem dX5_ends_91 : decode cX5_ends 91 = .ok (.bipush 44, 2) := by decide +kernel
theorem dX5_ends_93 : decode cX5_ends 93 = .ok (.iconst 2, 1) := by decide +kernel
theorem dX5_ends_94 : decode cX5_ends 94 = .ok (.invokestatic 134, 3) := by decide +kernel
theorem dX5_ends_97 : decode cX5_ends 97 = .ok (.ifCond .eq 7, 3) := by decide +kernel
theorem dX5_ends_100 : decode cX5_ends 100 = .ok (.iconst 1, 1) := by decide +kernel
theorem dX5_ends_101 : decode cX5_ends 101 = .ok (.goto 4, 3) := by decide +kernel
theorem dX5_ends_104 : decode cX5_ends 104 = .ok (.iconst 0, 1) := by decide +kernel
theorem dX5_ends_105 : decode cX5_ends 105 = .ok (.iadd, 1) := by decide +kernel
theorem dX5_ends_106 : decode cX5_ends 106 = .ok (.istore_n 2, 1) := by decide +kernel
theorem dX5_ends_107 : decode cX5_ends 107 = .ok (.iinc 3 1, 3) := by decide +kernel
theorem dX5_ends_110 : decode cX5_ends 110 = .ok (.goto (-68), 3) := by decide +kernel
theorem dX5_ends_113 : decode cX5_ends 113 = .ok (.iload_n 2, 1) := by decide +kernel
theorem dX5_ends_114 : decode cX5_ends 114 = .ok (.ireturn, 1) := by decide +kernel
set_option maxRecDepth 20000 in
theorem ggX5_findBoth_X5_atOf : GoodIn wsX5_findBoth wsX5_atOf := goodIn_r _ [6, 7, 8, 5, 9] (by decide +kernel) (by decide +kernel)
set_option maxRecDepth 20000 in
theorem gX5_findBoth_X5_atOf : GoodIn wsX5_findBoth (va_wsS RX5 145 yX5_atOf wsX5_atOf) := goodIn_app (goodIn_of _ (by decide +kernel)) ggX5_findBoth_X5_atOf
theorem dX5_findBoth_0 : decode cX5_findBoth 0 = .ok (.iconst 0, 1) := by decide +kernel
theorem dX5_findBoth_1 : decode cX5_findBoth 1 = .ok (.istore_n 3, 1) := by decide +kernel
theorem dX5_findBoth_2 : decode cX5_findBoth 2 = .ok (.iload_n 3, 1) := by decide +kernel
theorem dX5_findBoth_3 : decode cX5_findBoth 3 = .ok (.aload_n 0, 1) := by decide +kernel
theorem dX5_findBoth_4 : decode cX5_findBoth 4 = .ok (.getfield 174, 3) := by decide +kernel
theorem dX5_findBoth_7 : decode cX5_findBoth 7 = .ok (.if_icmp .ge 39, 3) := by decide +kernel
theorem dX5_findBoth_10 : decode cX5_findBoth 10 = .ok (.aload_n 0, 1) := by decide +kernel
theorem dX5_findBoth_11 : decode cX5_findBoth 11 = .ok (.getfield 35, 3) := by decide +kernel
theorem dX5_findBoth_14 : decode cX5_findBoth 14 = .ok (.iload_n 3, 1) := by decide +kernel
theorem dX5_findBoth_15 : decode cX5_findBoth 15 = .ok (.laload, 1) := by decide +kernel
theorem dX5_findBoth_16 : decode cX5_findBoth 16 = .ok (.iconst 0, 1) := by decide +kernel
theorem dX5_findBoth_17 : decode cX5_findBoth 17 = .ok (.invokestatic 145, 3) := by decide +kernel
theorem dX5_findBoth_20 : decode cX5_findBoth 20 = .ok (.iload_n 1, 1) := by decide +kernel
theorem dX5_findBoth_21 : decode cX5_findBoth 21 = .ok (.if_icmp .ne 19, 3) := by decide +kernel
theorem dX5_findBoth_24 : decode cX5_findBoth 24 = .ok (.aload_n 0, 1) := by decide +kernel
theorem dX5_findBoth_25 : decode cX5_findBoth 25 = .ok (.getfield 35, 3) := by decide +kernel
theorem dX5_findBoth_28 : decode cX5_findBoth 28 = .ok (.iload_n 3, 1) := by decide +kernel
theorem dX5_findBoth_29 : decode cX5_findBoth 29 = .ok (.laload, 1) := by decide +kernel
theorem dX5_findBoth_30 : decode cX5_findBoth 30 = .ok (.iconst 1, 1) := by decide +kernel
theorem dX5_findBoth_31 : decode cX5_findBoth 31 = .ok (.invokestatic 145, 3) := by decide +kernel
theorem dX5_findBoth_34 : decode cX5_findBoth 34 = .ok (.iload_n 2, 1) := by decide +kernel
theorem dX5_findBoth_35 : decode cX5_findBoth 35 = .ok (.if_icmp .ne 5, 3) := by decide +kernel
theorem dX5_findBoth_38 : decode cX5_findBoth 38 = .ok (.iload_n 3, 1) := by decide +kernel
theorem dX5_findBoth_39 : decode cX5_findBoth 39 = .ok (.ireturn, 1) := by decide +kernel
theorem dX5_findBoth_40 : decode cX5_findBoth 40 = .ok (.iinc 3 1, 3) := by decide +kernel
theorem dX5_findBoth_43 : decode cX5_findBoth 43 = .ok (.goto (-41), 3) := by decide +kernel
theorem dX5_findBoth_46 : decode cX5_findBoth 46 = .ok (.iconst (-1), 1) := by decide +kernel
theorem dX5_findBoth_47 : decode cX5_findBoth 47 = .ok (.ireturn, 1) := by decide +kernel
set_option maxRecDepth 20000 in
theorem ggX5_findEnd_X5_isGood : GoodIn wsX5_findEnd wsX5_isGood := goodIn_r _ [7, 8, 9, 10, 6, 11, 12, 13, 14, 15, 16, 17, 18, 19, 20, 21, 22, 23, 24, 25, 26, 27, 28, 29, 30, 31, 32, 33, 34, 35, 36, 37, 38, 39, 40, 41, 42, 43, 44, 45, 46, 47, 48, 49, 50, 51, 52, 53, 54, 55, 56, 57, 58, 59, 60, 61, 62, 63, 64, 65, 66, 67, 68, 69, 70, 71, 72, 73, 74, 75, 76, 77, 78, 79] (by decide +kernel) (by decide +kernel)
set_option maxRecDepth 20000 in
theorem gX5_findEnd_X5_isGood : GoodIn wsX5_findEnd (wsV RX5 198 RX5 yX5_isGood wsX5_isGood) := goodIn_app (goodIn_of _ (by decide +kernel)) ggX5_findEnd_X5_isGood
set_option maxRecDepth 20000 in
theorem ggX5_findEnd_X5_bits : GoodIn wsX5_findEnd wsX5_bits := goodIn_r _ [11] (by decide +kernel) (by decide +kernel)
set_option maxRecDepth 20000 in
theorem gX5_findEnd_X5_bits : GoodIn wsX5_findEnd (va_wsS RX5 134 yX5_bits wsX5_bits) := goodIn_app (goodIn_of _ (by decide +kernel)) ggX5_findEnd_X5_bits
theorem dX5_findEnd_0 : decode cX5_findEnd 0 = .ok (.iconst 0, 1) := by decide +kernel
theorem dX5_findEnd_1 : decode cX5_findEnd 1 = .ok (.istore_n 3, 1) := by decide +kernel
theorem dX5_findEnd_2 : decode cX5_findEnd 2 = .ok (.iload_n 3, 1) := by decide +kernel
theorem dX5_findEnd_3 : decode cX5_findEnd 3 = .ok (.aload_n 0, 1) := by decide +kernel
theorem dX5_findEnd_4 : decode cX5_findEnd 4 = .ok (.getfield 174, 3) := by decide +kernel
theorem dX5_findEnd_7 : decode cX5_findEnd 7 = .ok (.if_icmp .ge 89, 3) := by decide +kernel
theorem dX5_findEnd_10 : decode cX5_findEnd 10 = .ok (.aload_n 0, 1) := by decide +kernel
theorem dX5_findEnd_11 : decode cX5_findEnd 11 = .ok (.aload_n 0, 1) := by decide +kernel
theorem dX5_findEnd_12 : decode cX5_findEnd 12 = .ok (.getfield 35, 3) := by decide +kernel
theorem dX5_findEnd_15 : decode cX5_findEnd 15 = .ok (.iload_n 3, 1) := by decide +kernel
theorem dX5_findEnd_16 : decode cX5_findEnd 16 = .ok (.laload, 1) := by decide +kernel
theorem dX5_findEnd_17 : decode cX5_findEnd 17 = .ok (.invokevirtual 198, 3) := by decide +kernel
theorem dX5_findEnd_20 : decode cX5_findEnd 20 = .ok (.istore 4, 2) := by decide +kernel
