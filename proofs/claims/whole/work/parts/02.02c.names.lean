theorem dX0_afterStatement_269 : decode cX0_afterStatement 269 = .ok (.invokestatic 81, 3) := by decide +kernel
theorem dX0_afterStatement_272 : decode cX0_afterStatement 272 = .ok (.lreturn, 1) := by decide +kernel
set_option maxRecDepth 20000 in
theorem ggX0_afterWish_X0_queueOf : GoodIn wsX0_afterWish wsX0_queueOf := goodIn_r _ [6, 7, 8, 5, 9] (by decide +kernel) (by decide +kernel)
set_option maxRecDepth 20000 in
theorem gX0_afterWish_X0_queueOf : GoodIn wsX0_afterWish (va_wsS RX0 55 yX0_queueOf wsX0_queueOf) := goodIn_app (goodIn_of _ (by decide +kernel)) ggX0_afterWish_X0_queueOf
set_option maxRecDepth 20000 in
theorem ggX0_afterWish_X0_wishAt : GoodIn wsX0_afterWish wsX0_wishAt := goodIn_r _ [12] (by decide +kernel) (by decide +kernel)
set_option maxRecDepth 20000 in
theorem gX0_afterWish_X0_wishAt : GoodIn wsX0_afterWish (va_wsS RX0 84 yX0_wishAt wsX0_wishAt) := goodIn_app (goodIn_of _ (by decide +kernel)) ggX0_afterWish_X0_wishAt
set_option maxRecDepth 20000 in
theorem ggX0_afterWish_X0_mayBeDone : GoodIn wsX0_afterWish wsX0_mayBeDone := goodIn_r _ [15, 16, 17, 5, 18, 19, 10, 11, 12, 45, 46, 47] (by decide +kernel) (by decide +kernel)
set_option maxRecDepth 20000 in
theorem gX0_afterWish_X0_mayBeDone : GoodIn wsX0_afterWish (va_wsS RX0 87 yX0_mayBeDone wsX0_mayBeDone) := goodIn_app (goodIn_of _ (by decide +kernel)) ggX0_afterWish_X0_mayBeDone
set_option maxRecDepth 20000 in
theorem ggX0_afterWish_X0_bits : GoodIn wsX0_afterWish wsX0_bits := goodIn_r _ [9] (by decide +kernel) (by decide +kernel)
set_option maxRecDepth 20000 in
theorem gX0_afterWish_X0_bits : GoodIn wsX0_afterWish (va_wsS RX0 45 yX0_bits wsX0_bits) := goodIn_app (goodIn_of _ (by decide +kernel)) ggX0_afterWish_X0_bits
set_option maxRecDepth 20000 in
theorem ggX0_afterWish_X0_hasRight : GoodIn wsX0_afterWish wsX0_hasRight := goodIn_r _ [23, 19, 24, 25, 26, 27, 28, 29, 30, 45, 46, 47, 41, 42, 43, 44] (by decide +kernel) (by decide +kernel)
set_option maxRecDepth 20000 in
theorem gX0_afterWish_X0_hasRight : GoodIn wsX0_afterWish (wsV RX0 91 RX0 yX0_hasRight wsX0_hasRight) := goodIn_app (goodIn_of _ (by decide +kernel)) ggX0_afterWish_X0_hasRight
set_option maxRecDepth 20000 in
theorem ggX0_afterWish_X0_with : GoodIn wsX0_afterWish wsX0_with := goodIn_r _ [33, 2] (by decide +kernel) (by decide +kernel)
set_option maxRecDepth 20000 in
theorem gX0_afterWish_X0_with : GoodIn wsX0_afterWish (va_wsS RX0 70 yX0_with wsX0_with) := goodIn_app (goodIn_of _ (by decide +kernel)) ggX0_afterWish_X0_with
set_option maxRecDepth 20000 in
theorem ggX0_afterWish_X0_touched : GoodIn wsX0_afterWish wsX0_touched := goodIn_r _ [37, 1, 19, 25, 26, 27, 28, 29, 30, 7, 8, 5, 9, 31, 32, 33, 2, 38, 39, 40, 41, 42, 43, 44, 45, 46, 47] (by decide +kernel) (by decide +kernel)
set_option maxRecDepth 20000 in
theorem gX0_afterWish_X0_touched : GoodIn wsX0_afterWish (wsV RX0 94 RX0 yX0_touched wsX0_touched) := goodIn_app (goodIn_of _ (by decide +kernel)) ggX0_afterWish_X0_touched
theorem dX0_afterWish_0 : decode cX0_afterWish 0 = .ok (.lload_n 1, 1) := by decide +kernel
theorem dX0_afterWish_1 : decode cX0_afterWish 1 = .ok (.iload_n 3, 1) := by decide +kernel
theorem dX0_afterWish_2 : decode cX0_afterWish 2 = .ok (.invokestatic 55, 3) := by decide +kernel
theorem dX0_afterWish_5 : decode cX0_afterWish 5 = .ok (.istore 5, 2) := by decide +kernel
theorem dX0_afterWish_7 : decode cX0_afterWish 7 = .ok (.iload 5, 2) := by decide +kernel
theorem dX0_afterWish_9 : decode cX0_afterWish 9 = .ok (.iload 4, 2) := by decide +kernel
theorem dX0_afterWish_11 : decode cX0_afterWish 11 = .ok (.invokestatic 84, 3) := by decide +kernel
theorem dX0_afterWish_14 : decode cX0_afterWish 14 = .ok (.istore 6, 2) := by decide +kernel
theorem dX0_afterWish_16 : decode cX0_afterWish 16 = .ok (.iload 6, 2) := by decide +kernel
theorem dX0_afterWish_18 : decode cX0_afterWish 18 = .ok (.iconst (-1), 1) := by decide +kernel
theorem dX0_afterWish_19 : decode cX0_afterWish 19 = .ok (.if_icmp .eq 19, 3) := by decide +kernel
theorem dX0_afterWish_22 : decode cX0_afterWish 22 = .ok (.aload_n 0, 1) := by decide +kernel
theorem dX0_afterWish_23 : decode cX0_afterWish 23 = .ok (.getfield 12, 3) := by decide +kernel
theorem dX0_afterWish_26 : decode cX0_afterWish 26 = .ok (.iload_n 3, 1) := by decide +kernel
theorem dX0_afterWish_27 : decode cX0_afterWish 27 = .ok (.aaload, 1) := by decide +kernel
theorem dX0_afterWish_28 : decode cX0_afterWish 28 = .ok (.iload 5, 2) := by decide +kernel
theorem dX0_afterWish_30 : decode cX0_afterWish 30 = .ok (.iload 4, 2) := by decide +kernel
theorem dX0_afterWish_32 : decode cX0_afterWish 32 = .ok (.invokestatic 87, 3) := by decide +kernel
theorem dX0_afterWish_35 : decode cX0_afterWish 35 = .ok (.ifCond .ne 7, 3) := by decide +kernel
theorem dX0_afterWish_38 : decode cX0_afterWish 38 = .ok (.ldc2_w 49, 3) := by decide +kernel
theorem dX0_afterWish_41 : decode cX0_afterWish 41 = .ok (.lreturn, 1) := by decide +kernel
theorem dX0_afterWish_42 : decode cX0_afterWish 42 = .ok (.lload_n 1, 1) := by decide +kernel
theorem dX0_afterWish_43 : decode cX0_afterWish 43 = .ok (.bipush 43, 2) := by decide +kernel
theorem dX0_afterWish_45 : decode cX0_afterWish 45 = .ok (.iload_n 3, 1) := by decide +kernel
theorem dX0_afterWish_46 : decode cX0_afterWish 46 = .ok (.isub, 1) := by decide +kernel
theorem dX0_afterWish_47 : decode cX0_afterWish 47 = .ok (.iconst 1, 1) := by decide +kernel
theorem dX0_afterWish_48 : decode cX0_afterWish 48 = .ok (.invokestatic 45, 3) := by decide +kernel
theorem dX0_afterWish_51 : decode cX0_afterWish 51 = .ok (.ifCond .eq 7, 3) := by decide +kernel
theorem dX0_afterWish_54 : decode cX0_afterWish 54 = .ok (.iconst 1, 1) := by decide +kernel
theorem dX0_afterWish_55 : decode cX0_afterWish 55 = .ok (.goto 4, 3) := by decide +kernel
theorem dX0_afterWish_58 : decode cX0_afterWish 58 = .ok (.iconst 0, 1) := by decide +kernel
theorem dX0_afterWish_59 : decode cX0_afterWish 59 = .ok (.istore 7, 2) := by decide +kernel
theorem dX0_afterWish_61 : decode cX0_afterWish 61 = .ok (.iload 7, 2) := by decide +kernel
theorem dX0_afterWish_63 : decode cX0_afterWish 63 = .ok (.ifCond .ne 18, 3) := by decide +kernel
theorem dX0_afterWish_66 : decode cX0_afterWish 66 = .ok (.aload_n 0, 1) := by decide +kernel
theorem dX0_afterWish_67 : decode cX0_afterWish 67 = .ok (.aload_n 0, 1) := by decide +kernel
theorem dX0_afterWish_68 : decode cX0_afterWish 68 = .ok (.getfield 12, 3) := by decide +kernel
theorem dX0_afterWish_71 : decode cX0_afterWish 71 = .ok (.iload_n 3, 1) := by decide +kernel
theorem dX0_afterWish_72 : decode cX0_afterWish 72 = .ok (.aaload, 1) := by decide +kernel
theorem dX0_afterWish_73 : decode cX0_afterWish 73 = .ok (.iload 6, 2) := by decide +kernel
theorem dX0_afterWish_75 : decode cX0_afterWish 75 = .ok (.invokevirtual 91, 3) := by decide +kernel
theorem dX0_afterWish_78 : decode cX0_afterWish 78 = .ok (.ifCond .ne 26, 3) := by decide +kernel
theorem dX0_afterWish_81 : decode cX0_afterWish 81 = .ok (.lload_n 1, 1) := by decide +kernel
theorem dX0_afterWish_82 : decode cX0_afterWish 82 = .ok (.bipush 22, 2) := by decide +kernel
theorem dX0_afterWish_84 : decode cX0_afterWish 84 = .ok (.bipush 9, 2) := by decide +kernel
theorem dX0_afterWish_86 : decode cX0_afterWish 86 = .ok (.iload_n 3, 1) := by decide +kernel
theorem dX0_afterWish_87 : decode cX0_afterWish 87 = .ok (.imul, 1) := by decide +kernel
theorem dX0_afterWish_88 : decode cX0_afterWish 88 = .ok (.iadd, 1) := by decide +kernel
theorem dX0_afterWish_89 : decode cX0_afterWish 89 = .ok (.sipush 511, 3) := by decide +kernel
theorem dX0_afterWish_92 : decode cX0_afterWish 92 = .ok (.iconst 0, 1) := by decide +kernel
theorem dX0_afterWish_93 : decode cX0_afterWish 93 = .ok (.invokestatic 70, 3) := by decide +kernel
theorem dX0_afterWish_96 : decode cX0_afterWish 96 = .ok (.lconst 1, 1) := by decide +kernel
theorem dX0_afterWish_97 : decode cX0_afterWish 97 = .ok (.bipush 40, 2) := by decide +kernel
theorem dX0_afterWish_99 : decode cX0_afterWish 99 = .ok (.iload_n 3, 1) := by decide +kernel
theorem dX0_afterWish_100 : decode cX0_afterWish 100 = .ok (.iadd, 1) := by decide +kernel
theorem dX0_afterWish_101 : decode cX0_afterWish 101 = .ok (.lshl, 1) := by decide +kernel
theorem dX0_afterWish_102 : decode cX0_afterWish 102 = .ok (.lor, 1) := by decide +kernel
theorem dX0_afterWish_103 : decode cX0_afterWish 103 = .ok (.lreturn, 1) := by decide +kernel
theorem dX0_afterWish_104 : decode cX0_afterWish 104 = .ok (.iload 5, 2) := by decide +kernel
theorem dX0_afterWish_106 : decode cX0_afterWish 106 = .ok (.iconst 1, 1) := by decide +kernel
theorem dX0_afterWish_107 : decode cX0_afterWish 107 = .ok (.iconst 3, 1) := by decide +kernel
theorem dX0_afterWish_108 : decode cX0_afterWish 108 = .ok (.iload 4, 2) := by decide +kernel
theorem dX0_afterWish_110 : decode cX0_afterWish 110 = .ok (.imul, 1) := by decide +kernel
theorem dX0_afterWish_111 : decode cX0_afterWish 111 = .ok (.ishl, 1) := by decide +kernel
theorem dX0_afterWish_112 : decode cX0_afterWish 112 = .ok (.iconst 1, 1) := by decide +kernel
theorem dX0_afterWish_113 : decode cX0_afterWish 113 = .ok (.isub, 1) := by decide +kernel
theorem dX0_afterWish_114 : decode cX0_afterWish 114 = .ok (.iand, 1) := by decide +kernel
theorem dX0_afterWish_115 : decode cX0_afterWish 115 = .ok (.istore 8, 2) := by decide +kernel
theorem dX0_afterWish_117 : decode cX0_afterWish 117 = .ok (.iload 5, 2) := by decide +kernel
theorem dX0_afterWish_119 : decode cX0_afterWish 119 = .ok (.iconst 3, 1) := by decide +kernel
theorem dX0_afterWish_120 : decode cX0_afterWish 120 = .ok (.iload 4, 2) := by decide +kernel
theorem dX0_afterWish_122 : decode cX0_afterWish 122 = .ok (.imul, 1) := by decide +kernel
theorem dX0_afterWish_123 : decode cX0_afterWish 123 = .ok (.iconst 3, 1) := by decide +kernel
theorem dX0_afterWish_124 : decode cX0_afterWish 124 = .ok (.iadd, 1) := by decide +kernel
theorem dX0_afterWish_125 : decode cX0_afterWish 125 = .ok (.ishr, 1) := by decide +kernel
theorem dX0_afterWish_126 : decode cX0_afterWish 126 = .ok (.istore 9, 2) := by decide +kernel
theorem dX0_afterWish_128 : decode cX0_afterWish 128 = .ok (.iload 8, 2) := by decide +kernel
theorem dX0_afterWish_130 : decode cX0_afterWish 130 = .ok (.iload 9, 2) := by decide +kernel
theorem dX0_afterWish_132 : decode cX0_afterWish 132 = .ok (.iconst 3, 1) := by decide +kernel
theorem dX0_afterWish_133 : decode cX0_afterWish 133 = .ok (.iload 4, 2) := by decide +kernel
theorem dX0_afterWish_135 : decode cX0_afterWish 135 = .ok (.imul, 1) := by decide +kernel
theorem dX0_afterWish_136 : decode cX0_afterWish 136 = .ok (.ishl, 1) := by decide +kernel
theorem dX0_afterWish_137 : decode cX0_afterWish 137 = .ok (.ior, 1) := by decide +kernel
theorem dX0_afterWish_138 : decode cX0_afterWish 138 = .ok (.istore 10, 2) := by decide +kernel
theorem dX0_afterWish_140 : decode cX0_afterWish 140 = .ok (.aload_n 0, 1) := by decide +kernel
theorem dX0_afterWish_141 : decode cX0_afterWish 141 = .ok (.lload_n 1, 1) := by decide +kernel
theorem dX0_afterWish_142 : decode cX0_afterWish 142 = .ok (.bipush 22, 2) := by decide +kernel
theorem dX0_afterWish_144 : decode cX0_afterWish 144 = .ok (.bipush 9, 2) := by decide +kernel
theorem dX0_afterWish_146 : decode cX0_afterWish 146 = .ok (.iload_n 3, 1) := by decide +kernel
theorem dX0_afterWish_147 : decode cX0_afterWish 147 = .ok (.imul, 1) := by decide +kernel
theorem dX0_afterWish_148 : decode cX0_afterWish 148 = .ok (.iadd, 1) := by decide +kernel
theorem dX0_afterWish_149 : decode cX0_afterWish 149 = .ok (.sipush 511, 3) := by decide +kernel
theorem dX0_afterWish_152 : decode cX0_afterWish 152 = .ok (.iload 10, 2) := by decide +kernel
theorem dX0_afterWish_154 : decode cX0_afterWish 154 = .ok (.invokestatic 70, 3) := by decide +kernel
theorem dX0_afterWish_157 : decode cX0_afterWish 157 = .ok (.iload_n 3, 1) := by decide +kernel
theorem dX0_afterWish_158 : decode cX0_afterWish 158 = .ok (.iload 6, 2) := by decide +kernel
theorem dX0_afterWish_160 : decode cX0_afterWish 160 = .ok (.invokevirtual 94, 3) := by decide +kernel
theorem dX0_afterWish_163 : decode cX0_afterWish 163 = .ok (.lreturn, 1) := by decide +kernel
set_option maxRecDepth 20000 in
theorem ggX0_touched_X1_number : GoodIn wsX0_touched wsX1_number := goodIn_r _ [7, 8, 24, 25, 26] (by decide +kernel) (by decide +kernel)
set_option maxRecDepth 20000 in
theorem gX0_touched_X1_number : GoodIn wsX0_touched (wsV RX0 66 RX1 yX1_number wsX1_number) := goodIn_app (goodIn_of _ (by decide +kernel)) ggX0_touched_X1_number
set_option maxRecDepth 20000 in
theorem ggX0_touched_X0_bits : GoodIn wsX0_touched wsX0_bits := goodIn_r _ [12] (by decide +kernel) (by decide +kernel)
set_option maxRecDepth 20000 in
theorem gX0_touched_X0_bits : GoodIn wsX0_touched (va_wsS RX0 45 yX0_bits wsX0_bits) := goodIn_app (goodIn_of _ (by decide +kernel)) ggX0_touched_X0_bits
set_option maxRecDepth 20000 in
theorem ggX0_touched_X0_with : GoodIn wsX0_touched wsX0_with := goodIn_r _ [15, 16] (by decide +kernel) (by decide +kernel)
set_option maxRecDepth 20000 in
theorem gX0_touched_X0_with : GoodIn wsX0_touched (va_wsS RX0 70 yX0_with wsX0_with) := goodIn_app (goodIn_of _ (by decide +kernel)) ggX0_touched_X0_with
set_option maxRecDepth 20000 in
theorem ggX0_touched_X0_registerAt : GoodIn wsX0_touched wsX0_registerAt := goodIn_r _ [19] (by decide +kernel) (by decide +kernel)
set_option maxRecDepth 20000 in
theorem gX0_touched_X0_registerAt : GoodIn wsX0_touched (va_wsS RX0 74 yX0_registerAt wsX0_registerAt) := goodIn_app (goodIn_of _ (by decide +kernel)) ggX0_touched_X0_registerAt
theorem dX0_touched_0 : decode cX0_touched 0 = .ok (.aload_n 0, 1) := by decide +kernel
theorem dX0_touched_1 : decode cX0_touched 1 = .ok (.getfield 12, 3) := by decide +kernel
theorem dX0_touched_4 : decode cX0_touched 4 = .ok (.iload_n 3, 1) := by decide +kernel
theorem dX0_touched_5 : decode cX0_touched 5 = .ok (.aaload, 1) := by decide +kernel
theorem dX0_touched_6 : decode cX0_touched 6 = .ok (.astore 5, 2) := by decide +kernel
theorem dX0_touched_8 : decode cX0_touched 8 = .ok (.iconst 2, 1) := by decide +kernel
theorem dX0_touched_9 : decode cX0_touched 9 = .ok (.aload 5, 2) := by decide +kernel
theorem dX0_touched_11 : decode cX0_touched 11 = .ok (.iload 4, 2) := by decide +kernel
theorem dX0_touched_13 : decode cX0_touched 13 = .ok (.iconst 0, 1) := by decide +kernel
theorem dX0_touched_14 : decode cX0_touched 14 = .ok (.invokevirtual 66, 3) := by decide +kernel
theorem dX0_touched_17 : decode cX0_touched 17 = .ok (.imul, 1) := by decide +kernel
theorem dX0_touched_18 : decode cX0_touched 18 = .ok (.istore 6, 2) := by decide +kernel
theorem dX0_touched_20 : decode cX0_touched 20 = .ok (.lload_n 1, 1) := by decide +kernel
theorem dX0_touched_21 : decode cX0_touched 21 = .ok (.iload 6, 2) := by decide +kernel
theorem dX0_touched_23 : decode cX0_touched 23 = .ok (.iconst 3, 1) := by decide +kernel
theorem dX0_touched_24 : decode cX0_touched 24 = .ok (.invokestatic 45, 3) := by decide +kernel
theorem dX0_touched_27 : decode cX0_touched 27 = .ok (.istore 7, 2) := by decide +kernel
theorem dX0_touched_29 : decode cX0_touched 29 = .ok (.aload 5, 2) := by decide +kernel
theorem dX0_touched_31 : decode cX0_touched 31 = .ok (.getfield 59, 3) := by decide +kernel
theorem dX0_touched_34 : decode cX0_touched 34 = .ok (.iload 4, 2) := by decide +kernel
theorem dX0_touched_36 : decode cX0_touched 36 = .ok (.iaload, 1) := by decide +kernel
theorem dX0_touched_37 : decode cX0_touched 37 = .ok (.tableswitch 118 0 2 #[27, 43, 63], 27) := by decide +kernel
theorem dX0_touched_64 : decode cX0_touched 64 = .ok (.lload_n 1, 1) := by decide +kernel
theorem dX0_touched_65 : decode cX0_touched 65 = .ok (.iload 6, 2) := by decide +kernel
theorem dX0_touched_67 : decode cX0_touched 67 = .ok (.iconst 3, 1) := by decide +kernel
theorem dX0_touched_68 : decode cX0_touched 68 = .ok (.aload 5, 2) := by decide +kernel
theorem dX0_touched_70 : decode cX0_touched 70 = .ok (.iload 4, 2) := by decide +kernel
theorem dX0_touched_72 : decode cX0_touched 72 = .ok (.iconst 1, 1) := by decide +kernel
theorem dX0_touched_73 : decode cX0_touched 73 = .ok (.invokevirtual 66, 3) := by decide +kernel
theorem dX0_touched_76 : decode cX0_touched 76 = .ok (.invokestatic 70, 3) := by decide +kernel
theorem dX0_touched_79 : decode cX0_touched 79 = .ok (.lreturn, 1) := by decide +kernel
theorem dX0_touched_80 : decode cX0_touched 80 = .ok (.lload_n 1, 1) := by decide +kernel
theorem dX0_touched_81 : decode cX0_touched 81 = .ok (.iload_n 3, 1) := by decide +kernel
theorem dX0_touched_82 : decode cX0_touched 82 = .ok (.aload 5, 2) := by decide +kernel
theorem dX0_touched_84 : decode cX0_touched 84 = .ok (.iload 4, 2) := by decide +kernel
theorem dX0_touched_86 : decode cX0_touched 86 = .ok (.iconst 1, 1) := by decide +kernel
theorem dX0_touched_87 : decode cX0_touched 87 = .ok (.invokevirtual 66, 3) := by decide +kernel
theorem dX0_touched_90 : decode cX0_touched 90 = .ok (.invokestatic 74, 3) := by decide +kernel
theorem dX0_touched_93 : decode cX0_touched 93 = .ok (.iconst 3, 1) := by decide +kernel
theorem dX0_touched_94 : decode cX0_touched 94 = .ok (.iload 7, 2) := by decide +kernel
theorem dX0_touched_96 : decode cX0_touched 96 = .ok (.invokestatic 70, 3) := by decide +kernel
theorem dX0_touched_99 : decode cX0_touched 99 = .ok (.lreturn, 1) := by decide +kernel
theorem dX0_touched_100 : decode cX0_touched 100 = .ok (.iload 7, 2) := by decide +kernel
theorem dX0_touched_102 : decode cX0_touched 102 = .ok (.aload 5, 2) := by decide +kernel
theorem dX0_touched_104 : decode cX0_touched 104 = .ok (.iload 4, 2) := by decide +kernel
theorem dX0_touched_106 : decode cX0_touched 106 = .ok (.iconst 1, 1) := by decide +kernel
theorem dX0_touched_107 : decode cX0_touched 107 = .ok (.invokevirtual 66, 3) := by decide +kernel
theorem dX0_touched_110 : decode cX0_touched 110 = .ok (.if_icmp .ne 21, 3) := by decide +kernel
theorem dX0_touched_113 : decode cX0_touched 113 = .ok (.lload_n 1, 1) := by decide +kernel
theorem dX0_touched_114 : decode cX0_touched 114 = .ok (.iload 6, 2) := by decide +kernel
theorem dX0_touched_116 : decode cX0_touched 116 = .ok (.iconst 3, 1) := by decide +kernel
theorem dX0_touched_117 : decode cX0_touched 117 = .ok (.aload 5, 2) := by decide +kernel
theorem dX0_touched_119 : decode cX0_touched 119 = .ok (.iload 4, 2) := by decide +kernel
theorem dX0_touched_121 : decode cX0_touched 121 = .ok (.iconst 2, 1) := by decide +kernel
theorem dX0_touched_122 : decode cX0_touched 122 = .ok (.invokevirtual 66, 3) := by decide +kernel
theorem dX0_touched_125 : decode cX0_touched 125 = .ok (.invokestatic 70, 3) := by decide +kernel
theorem dX0_touched_128 : decode cX0_touched 128 = .ok (.goto 4, 3) := by decide +kernel
theorem dX0_touched_131 : decode cX0_touched 131 = .ok (.lload_n 1, 1) := by decide +kernel
theorem dX0_touched_132 : decode cX0_touched 132 = .ok (.lstore 8, 2) := by decide +kernel
theorem dX0_touched_134 : decode cX0_touched 134 = .ok (.lload 8, 2) := by decide +kernel
theorem dX0_touched_136 : decode cX0_touched 136 = .ok (.iload_n 3, 1) := by decide +kernel
theorem dX0_touched_137 : decode cX0_touched 137 = .ok (.aload 5, 2) := by decide +kernel
theorem dX0_touched_139 : decode cX0_touched 139 = .ok (.iload 4, 2) := by decide +kernel
theorem dX0_touched_141 : decode cX0_touched 141 = .ok (.iconst 3, 1) := by decide +kernel
theorem dX0_touched_142 : decode cX0_touched 142 = .ok (.invokevirtual 66, 3) := by decide +kernel
theorem dX0_touched_145 : decode cX0_touched 145 = .ok (.invokestatic 74, 3) := by decide +kernel
theorem dX0_touched_148 : decode cX0_touched 148 = .ok (.iconst 3, 1) := by decide +kernel
theorem dX0_touched_149 : decode cX0_touched 149 = .ok (.iload 7, 2) := by decide +kernel
theorem dX0_touched_151 : decode cX0_touched 151 = .ok (.invokestatic 70, 3) := by decide +kernel
theorem dX0_touched_154 : decode cX0_touched 154 = .ok (.lreturn, 1) := by decide +kernel
theorem dX0_touched_155 : decode cX0_touched 155 = .ok (.lload_n 1, 1) := by decide +kernel
theorem dX0_touched_156 : decode cX0_touched 156 = .ok (.iload 6, 2) := by decide +kernel
theorem dX0_touched_158 : decode cX0_touched 158 = .ok (.iconst 3, 1) := by decide +kernel
theorem dX0_touched_159 : decode cX0_touched 159 = .ok (.iload 7, 2) := by decide +kernel
theorem dX0_touched_161 : decode cX0_touched 161 = .ok (.aload 5, 2) := by decide +kernel
theorem dX0_touched_163 : decode cX0_touched 163 = .ok (.iload 4, 2) := by decide +kernel
theorem dX0_touched_165 : decode cX0_touched 165 = .ok (.iconst 1, 1) := by decide +kernel
theorem dX0_touched_166 : decode cX0_touched 166 = .ok (.invokevirtual 66, 3) := by decide +kernel
theorem dX0_touched_169 : decode cX0_touched 169 = .ok (.iadd, 1) := by decide +kernel
theorem dX0_touched_170 : decode cX0_touched 170 = .ok (.iconst 3, 1) := by decide +kernel
theorem dX0_touched_171 : decode cX0_touched 171 = .ok (.iand, 1) := by decide +kernel
theorem dX0_touched_172 : decode cX0_touched 172 = .ok (.invokestatic 70, 3) := by decide +kernel
theorem dX0_touched_175 : decode cX0_touched 175 = .ok (.lstore 10, 2) := by decide +kernel
theorem dX0_touched_177 : decode cX0_touched 177 = .ok (.lload 10, 2) := by decide +kernel
theorem dX0_touched_179 : decode cX0_touched 179 = .ok (.iload_n 3, 1) := by decide +kernel
theorem dX0_touched_180 : decode cX0_touched 180 = .ok (.aload 5, 2) := by decide +kernel
theorem dX0_touched_182 : decode cX0_touched 182 = .ok (.iload 4, 2) := by decide +kernel
theorem dX0_touched_184 : decode cX0_touched 184 = .ok (.iconst 2, 1) := by decide +kernel
theorem dX0_touched_185 : decode cX0_touched 185 = .ok (.invokevirtual 66, 3) := by decide +kernel
theorem dX0_touched_188 : decode cX0_touched 188 = .ok (.invokestatic 74, 3) := by decide +kernel
theorem dX0_touched_191 : decode cX0_touched 191 = .ok (.iconst 3, 1) := by decide +kernel
theorem dX0_touched_192 : decode cX0_touched 192 = .ok (.iload 7, 2) := by decide +kernel
theorem dX0_touched_194 : decode cX0_touched 194 = .ok (.invokestatic 70, 3) := by decide +kernel
theorem dX0_touched_197 : decode cX0_touched 197 = .ok (.lreturn, 1) := by decide +kernel
set_option maxRecDepth 20000 in
theorem ggX0_hasRight_X1_number : GoodIn wsX0_hasRight wsX1_number := goodIn_r _ [7, 8, 9, 10, 11] (by decide +kernel) (by decide +kernel)
set_option maxRecDepth 20000 in
theorem gX0_hasRight_X1_number : GoodIn wsX0_hasRight (wsV RX0 66 RX1 yX1_number wsX1_number) := goodIn_app (goodIn_of _ (by decide +kernel)) ggX0_hasRight_X1_number
theorem dX0_hasRight_0 : decode cX0_hasRight 0 = .ok (.aload_n 1, 1) := by decide +kernel
theorem dX0_hasRight_1 : decode cX0_hasRight 1 = .ok (.iload_n 2, 1) := by decide +kernel
theorem dX0_hasRight_2 : decode cX0_hasRight 2 = .ok (.iconst 0, 1) := by decide +kernel
theorem dX0_hasRight_3 : decode cX0_hasRight 3 = .ok (.invokevirtual 66, 3) := by decide +kernel
theorem dX0_hasRight_6 : decode cX0_hasRight 6 = .ok (.istore_n 3, 1) := by decide +kernel
theorem dX0_hasRight_7 : decode cX0_hasRight 7 = .ok (.iload_n 3, 1) := by decide +kernel
theorem dX0_hasRight_8 : decode cX0_hasRight 8 = .ok (.ifCond .lt 8, 3) := by decide +kernel
theorem dX0_hasRight_11 : decode cX0_hasRight 11 = .ok (.iload_n 3, 1) := by decide +kernel
theorem dX0_hasRight_12 : decode cX0_hasRight 12 = .ok (.iconst 4, 1) := by decide +kernel
theorem dX0_hasRight_13 : decode cX0_hasRight 13 = .ok (.if_icmp .lt 5, 3) := by decide +kernel
theorem dX0_hasRight_16 : decode cX0_hasRight 16 = .ok (.iconst 0, 1) := by decide +kernel
theorem dX0_hasRight_17 : decode cX0_hasRight 17 = .ok (.ireturn, 1) := by decide +kernel
theorem dX0_hasRight_18 : decode cX0_hasRight 18 = .ok (.aload_n 1, 1) := by decide +kernel
theorem dX0_hasRight_19 : decode cX0_hasRight 19 = .ok (.getfield 59, 3) := by decide +kernel
theorem dX0_hasRight_22 : decode cX0_hasRight 22 = .ok (.iload_n 2, 1) := by decide +kernel
theorem dX0_hasRight_23 : decode cX0_hasRight 23 = .ok (.iaload, 1) := by decide +kernel
theorem dX0_hasRight_24 : decode cX0_hasRight 24 = .ok (.lookupswitch 62 #[(0, 28), (1, 45)], 28) := by decide +kernel
theorem dX0_hasRight_52 : decode cX0_hasRight 52 = .ok (.aload_n 0, 1) := by decide +kernel
theorem dX0_hasRight_53 : decode cX0_hasRight 53 = .ok (.getfield 22, 3) := by decide +kernel
theorem dX0_hasRight_56 : decode cX0_hasRight 56 = .ok (.iload_n 3, 1) := by decide +kernel
theorem dX0_hasRight_57 : decode cX0_hasRight 57 = .ok (.iaload, 1) := by decide +kernel
theorem dX0_hasRight_58 : decode cX0_hasRight 58 = .ok (.iconst 2, 1) := by decide +kernel
theorem dX0_hasRight_59 : decode cX0_hasRight 59 = .ok (.iand, 1) := by decide +kernel
theorem dX0_hasRight_60 : decode cX0_hasRight 60 = .ok (.ifCond .eq 7, 3) := by decide +kernel
theorem dX0_hasRight_63 : decode cX0_hasRight 63 = .ok (.iconst 1, 1) := by decide +kernel
theorem dX0_hasRight_64 : decode cX0_hasRight 64 = .ok (.goto 4, 3) := by decide +kernel
theorem dX0_hasRight_67 : decode cX0_hasRight 67 = .ok (.iconst 0, 1) := by decide +kernel
