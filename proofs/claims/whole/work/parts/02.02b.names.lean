theorem dX0_beginning_20 : decode cX0_beginning 20 = .ok (.lshl, 1) := by decide +kernel
theorem dX0_beginning_21 : decode cX0_beginning 21 = .ok (.lor, 1) := by decide +kernel
theorem dX0_beginning_22 : decode cX0_beginning 22 = .ok (.lstore_n 1, 1) := by decide +kernel
theorem dX0_beginning_23 : decode cX0_beginning 23 = .ok (.iinc 3 1, 3) := by decide +kernel
theorem dX0_beginning_26 : decode cX0_beginning 26 = .ok (.goto (-22), 3) := by decide +kernel
theorem dX0_beginning_29 : decode cX0_beginning 29 = .ok (.lload_n 1, 1) := by decide +kernel
theorem dX0_beginning_30 : decode cX0_beginning 30 = .ok (.lreturn, 1) := by decide +kernel
set_option maxRecDepth 20000 in
theorem ggX0_goodEnd_X0_placesOf : GoodIn wsX0_goodEnd wsX0_placesOf := goodIn_r _ [6] (by decide +kernel) (by decide +kernel)
set_option maxRecDepth 20000 in
theorem gX0_goodEnd_X0_placesOf : GoodIn wsX0_goodEnd (va_wsS RX0 33 yX0_placesOf wsX0_placesOf) := goodIn_app (goodIn_of _ (by decide +kernel)) ggX0_goodEnd_X0_placesOf
theorem dX0_goodEnd_0 : decode cX0_goodEnd 0 = .ok (.aload_n 0, 1) := by decide +kernel
theorem dX0_goodEnd_1 : decode cX0_goodEnd 1 = .ok (.getfield 12, 3) := by decide +kernel
theorem dX0_goodEnd_4 : decode cX0_goodEnd 4 = .ok (.iconst 0, 1) := by decide +kernel
theorem dX0_goodEnd_5 : decode cX0_goodEnd 5 = .ok (.aaload, 1) := by decide +kernel
theorem dX0_goodEnd_6 : decode cX0_goodEnd 6 = .ok (.getfield 29, 3) := by decide +kernel
theorem dX0_goodEnd_9 : decode cX0_goodEnd 9 = .ok (.aload_n 0, 1) := by decide +kernel
theorem dX0_goodEnd_10 : decode cX0_goodEnd 10 = .ok (.getfield 12, 3) := by decide +kernel
theorem dX0_goodEnd_13 : decode cX0_goodEnd 13 = .ok (.iconst 1, 1) := by decide +kernel
theorem dX0_goodEnd_14 : decode cX0_goodEnd 14 = .ok (.aaload, 1) := by decide +kernel
theorem dX0_goodEnd_15 : decode cX0_goodEnd 15 = .ok (.getfield 29, 3) := by decide +kernel
theorem dX0_goodEnd_18 : decode cX0_goodEnd 18 = .ok (.invokestatic 33, 3) := by decide +kernel
theorem dX0_goodEnd_21 : decode cX0_goodEnd 21 = .ok (.lreturn, 1) := by decide +kernel
set_option maxRecDepth 20000 in
theorem ggX0_after_X0_afterStatement : GoodIn wsX0_after wsX0_afterStatement := goodIn_r _ [7, 8, 9, 2, 10, 11, 12, 6, 13, 14, 15, 16, 17, 18, 19, 20, 21, 22, 23, 24, 25, 26, 27, 28, 29, 30, 31, 32, 33, 34, 35, 36, 37, 38, 39, 40, 41, 42, 43, 44, 45, 46, 47, 48, 49, 50, 51, 52, 53, 70, 71, 72, 73, 74, 75, 76] (by decide +kernel) (by decide +kernel)
set_option maxRecDepth 20000 in
theorem gX0_after_X0_afterStatement : GoodIn wsX0_after (wsV RX0 37 RX0 yX0_afterStatement wsX0_afterStatement) := goodIn_app (goodIn_of _ (by decide +kernel)) ggX0_after_X0_afterStatement
set_option maxRecDepth 20000 in
theorem ggX0_after_X0_afterWish : GoodIn wsX0_after wsX0_afterWish := goodIn_r _ [57, 8, 2, 17, 18, 6, 19, 11, 12, 13, 26, 27, 28, 58, 59, 60, 23, 24, 25, 10, 61, 62, 63, 64, 65, 29, 30, 31, 32, 33, 34, 35, 36, 37, 66, 67, 68, 69, 38, 39, 40, 70, 71, 72, 73, 74, 75, 76] (by decide +kernel) (by decide +kernel)
set_option maxRecDepth 20000 in
theorem gX0_after_X0_afterWish : GoodIn wsX0_after (wsV RX0 41 RX0 yX0_afterWish wsX0_afterWish) := goodIn_app (goodIn_of _ (by decide +kernel)) ggX0_after_X0_afterWish
set_option maxRecDepth 20000 in
theorem ggX0_after_X0_bits : GoodIn wsX0_after wsX0_bits := goodIn_r _ [13] (by decide +kernel) (by decide +kernel)
set_option maxRecDepth 20000 in
theorem gX0_after_X0_bits : GoodIn wsX0_after (va_wsS RX0 45 yX0_bits wsX0_bits) := goodIn_app (goodIn_of _ (by decide +kernel)) ggX0_after_X0_bits
theorem dX0_after_0 : decode cX0_after 0 = .ok (.iload_n 3, 1) := by decide +kernel
theorem dX0_after_1 : decode cX0_after 1 = .ok (.iconst 2, 1) := by decide +kernel
theorem dX0_after_2 : decode cX0_after 2 = .ok (.if_icmp .ge 10, 3) := by decide +kernel
theorem dX0_after_5 : decode cX0_after 5 = .ok (.aload_n 0, 1) := by decide +kernel
theorem dX0_after_6 : decode cX0_after 6 = .ok (.lload_n 1, 1) := by decide +kernel
theorem dX0_after_7 : decode cX0_after 7 = .ok (.iload_n 3, 1) := by decide +kernel
theorem dX0_after_8 : decode cX0_after 8 = .ok (.invokevirtual 37, 3) := by decide +kernel
theorem dX0_after_11 : decode cX0_after 11 = .ok (.lreturn, 1) := by decide +kernel
theorem dX0_after_12 : decode cX0_after 12 = .ok (.iload_n 3, 1) := by decide +kernel
theorem dX0_after_13 : decode cX0_after 13 = .ok (.bipush 8, 2) := by decide +kernel
theorem dX0_after_15 : decode cX0_after 15 = .ok (.if_icmp .ge 31, 3) := by decide +kernel
theorem dX0_after_18 : decode cX0_after 18 = .ok (.iload_n 3, 1) := by decide +kernel
theorem dX0_after_19 : decode cX0_after 19 = .ok (.iconst 5, 1) := by decide +kernel
theorem dX0_after_20 : decode cX0_after 20 = .ok (.if_icmp .ge 7, 3) := by decide +kernel
theorem dX0_after_23 : decode cX0_after 23 = .ok (.iconst 0, 1) := by decide +kernel
theorem dX0_after_24 : decode cX0_after 24 = .ok (.goto 4, 3) := by decide +kernel
theorem dX0_after_27 : decode cX0_after 27 = .ok (.iconst 1, 1) := by decide +kernel
theorem dX0_after_28 : decode cX0_after 28 = .ok (.istore 4, 2) := by decide +kernel
theorem dX0_after_30 : decode cX0_after 30 = .ok (.aload_n 0, 1) := by decide +kernel
theorem dX0_after_31 : decode cX0_after 31 = .ok (.lload_n 1, 1) := by decide +kernel
theorem dX0_after_32 : decode cX0_after 32 = .ok (.iload 4, 2) := by decide +kernel
theorem dX0_after_34 : decode cX0_after 34 = .ok (.iload_n 3, 1) := by decide +kernel
theorem dX0_after_35 : decode cX0_after 35 = .ok (.iconst 2, 1) := by decide +kernel
theorem dX0_after_36 : decode cX0_after 36 = .ok (.isub, 1) := by decide +kernel
theorem dX0_after_37 : decode cX0_after 37 = .ok (.iload 4, 2) := by decide +kernel
theorem dX0_after_39 : decode cX0_after 39 = .ok (.iconst 3, 1) := by decide +kernel
theorem dX0_after_40 : decode cX0_after 40 = .ok (.imul, 1) := by decide +kernel
theorem dX0_after_41 : decode cX0_after 41 = .ok (.isub, 1) := by decide +kernel
theorem dX0_after_42 : decode cX0_after 42 = .ok (.invokevirtual 41, 3) := by decide +kernel
theorem dX0_after_45 : decode cX0_after 45 = .ok (.lreturn, 1) := by decide +kernel
theorem dX0_after_46 : decode cX0_after 46 = .ok (.aload_n 0, 1) := by decide +kernel
theorem dX0_after_47 : decode cX0_after 47 = .ok (.getfield 25, 3) := by decide +kernel
theorem dX0_after_50 : decode cX0_after 50 = .ok (.ifCond .eq 13, 3) := by decide +kernel
theorem dX0_after_53 : decode cX0_after 53 = .ok (.lload_n 1, 1) := by decide +kernel
theorem dX0_after_54 : decode cX0_after 54 = .ok (.bipush 42, 2) := by decide +kernel
theorem dX0_after_56 : decode cX0_after 56 = .ok (.iconst 3, 1) := by decide +kernel
theorem dX0_after_57 : decode cX0_after 57 = .ok (.invokestatic 45, 3) := by decide +kernel
theorem dX0_after_60 : decode cX0_after 60 = .ok (.ifCond .eq 7, 3) := by decide +kernel
theorem dX0_after_63 : decode cX0_after 63 = .ok (.ldc2_w 49, 3) := by decide +kernel
theorem dX0_after_66 : decode cX0_after 66 = .ok (.lreturn, 1) := by decide +kernel
theorem dX0_after_67 : decode cX0_after 67 = .ok (.lload_n 1, 1) := by decide +kernel
theorem dX0_after_68 : decode cX0_after 68 = .ok (.lconst 1, 1) := by decide +kernel
theorem dX0_after_69 : decode cX0_after 69 = .ok (.bipush 42, 2) := by decide +kernel
theorem dX0_after_71 : decode cX0_after 71 = .ok (.iload_n 3, 1) := by decide +kernel
theorem dX0_after_72 : decode cX0_after 72 = .ok (.iadd, 1) := by decide +kernel
theorem dX0_after_73 : decode cX0_after 73 = .ok (.bipush 8, 2) := by decide +kernel
theorem dX0_after_75 : decode cX0_after 75 = .ok (.isub, 1) := by decide +kernel
theorem dX0_after_76 : decode cX0_after 76 = .ok (.lshl, 1) := by decide +kernel
theorem dX0_after_77 : decode cX0_after 77 = .ok (.lor, 1) := by decide +kernel
theorem dX0_after_78 : decode cX0_after 78 = .ok (.lreturn, 1) := by decide +kernel
set_option maxRecDepth 20000 in
theorem ggX0_afterStatement_X0_bits : GoodIn wsX0_afterStatement wsX0_bits := goodIn_r _ [8] (by decide +kernel) (by decide +kernel)
set_option maxRecDepth 20000 in
theorem gX0_afterStatement_X0_bits : GoodIn wsX0_afterStatement (va_wsS RX0 45 yX0_bits wsX0_bits) := goodIn_app (goodIn_of _ (by decide +kernel)) ggX0_afterStatement_X0_bits
set_option maxRecDepth 20000 in
theorem ggX0_afterStatement_X0_isStopped : GoodIn wsX0_afterStatement wsX0_isStopped := goodIn_r _ [11, 5, 6, 7, 8] (by decide +kernel) (by decide +kernel)
set_option maxRecDepth 20000 in
theorem gX0_afterStatement_X0_isStopped : GoodIn wsX0_afterStatement (va_wsS RX0 51 yX0_isStopped wsX0_isStopped) := goodIn_app (goodIn_of _ (by decide +kernel)) ggX0_afterStatement_X0_isStopped
set_option maxRecDepth 20000 in
theorem ggX0_afterStatement_X0_queueOf : GoodIn wsX0_afterStatement wsX0_queueOf := goodIn_r _ [14, 5, 6, 7, 8] (by decide +kernel) (by decide +kernel)
set_option maxRecDepth 20000 in
theorem gX0_afterStatement_X0_queueOf : GoodIn wsX0_afterStatement (va_wsS RX0 55 yX0_queueOf wsX0_queueOf) := goodIn_app (goodIn_of _ (by decide +kernel)) ggX0_afterStatement_X0_queueOf
set_option maxRecDepth 20000 in
theorem ggX0_afterStatement_X0_hasGet : GoodIn wsX0_afterStatement wsX0_hasGet := goodIn_r _ [17, 18, 19, 7, 20, 4, 21, 22, 23, 53, 54, 55] (by decide +kernel) (by decide +kernel)
set_option maxRecDepth 20000 in
theorem gX0_afterStatement_X0_hasGet : GoodIn wsX0_afterStatement (va_wsS RX0 62 yX0_hasGet wsX0_hasGet) := goodIn_app (goodIn_of _ (by decide +kernel)) ggX0_afterStatement_X0_hasGet
set_option maxRecDepth 20000 in
theorem ggX0_afterStatement_X1_number : GoodIn wsX0_afterStatement wsX1_number := goodIn_r _ [28, 29, 53, 54, 55] (by decide +kernel) (by decide +kernel)
set_option maxRecDepth 20000 in
theorem gX0_afterStatement_X1_number : GoodIn wsX0_afterStatement (wsV RX0 66 RX1 yX1_number wsX1_number) := goodIn_app (goodIn_of _ (by decide +kernel)) ggX0_afterStatement_X1_number
set_option maxRecDepth 20000 in
theorem ggX0_afterStatement_X0_with : GoodIn wsX0_afterStatement wsX0_with := goodIn_r _ [32, 3] (by decide +kernel) (by decide +kernel)
set_option maxRecDepth 20000 in
theorem gX0_afterStatement_X0_with : GoodIn wsX0_afterStatement (va_wsS RX0 70 yX0_with wsX0_with) := goodIn_app (goodIn_of _ (by decide +kernel)) ggX0_afterStatement_X0_with
set_option maxRecDepth 20000 in
theorem ggX0_afterStatement_X0_registerAt : GoodIn wsX0_afterStatement wsX0_registerAt := goodIn_r _ [35] (by decide +kernel) (by decide +kernel)
set_option maxRecDepth 20000 in
theorem gX0_afterStatement_X0_registerAt : GoodIn wsX0_afterStatement (va_wsS RX0 74 yX0_registerAt wsX0_registerAt) := goodIn_app (goodIn_of _ (by decide +kernel)) ggX0_afterStatement_X0_registerAt
set_option maxRecDepth 20000 in
theorem ggX0_afterStatement_X1_placeBehindIf : GoodIn wsX0_afterStatement wsX1_placeBehindIf := goodIn_r _ [39, 40, 41, 42, 43, 44, 45, 25, 26, 27, 28, 29, 53, 54, 55] (by decide +kernel) (by decide +kernel)
set_option maxRecDepth 20000 in
theorem gX0_afterStatement_X1_placeBehindIf : GoodIn wsX0_afterStatement (wsV RX0 77 RX1 yX1_placeBehindIf wsX1_placeBehindIf) := goodIn_app (goodIn_of _ (by decide +kernel)) ggX0_afterStatement_X1_placeBehindIf
set_option maxRecDepth 20000 in
theorem ggX0_afterStatement_X0_withWish : GoodIn wsX0_afterStatement wsX0_withWish := goodIn_r _ [48, 3, 21, 22, 7, 23] (by decide +kernel) (by decide +kernel)
set_option maxRecDepth 20000 in
theorem gX0_afterStatement_X0_withWish : GoodIn wsX0_afterStatement (va_wsS RX0 81 yX0_withWish wsX0_withWish) := goodIn_app (goodIn_of _ (by decide +kernel)) ggX0_afterStatement_X0_withWish
theorem dX0_afterStatement_0 : decode cX0_afterStatement 0 = .ok (.lload_n 1, 1) := by decide +kernel
theorem dX0_afterStatement_1 : decode cX0_afterStatement 1 = .ok (.bipush 16, 2) := by decide +kernel
theorem dX0_afterStatement_3 : decode cX0_afterStatement 3 = .ok (.iconst 3, 1) := by decide +kernel
theorem dX0_afterStatement_4 : decode cX0_afterStatement 4 = .ok (.iload_n 3, 1) := by decide +kernel
theorem dX0_afterStatement_5 : decode cX0_afterStatement 5 = .ok (.imul, 1) := by decide +kernel
theorem dX0_afterStatement_6 : decode cX0_afterStatement 6 = .ok (.iadd, 1) := by decide +kernel
theorem dX0_afterStatement_7 : decode cX0_afterStatement 7 = .ok (.bipush 7, 2) := by decide +kernel
theorem dX0_afterStatement_9 : decode cX0_afterStatement 9 = .ok (.invokestatic 45, 3) := by decide +kernel
theorem dX0_afterStatement_12 : decode cX0_afterStatement 12 = .ok (.istore 4, 2) := by decide +kernel
theorem dX0_afterStatement_14 : decode cX0_afterStatement 14 = .ok (.aload_n 0, 1) := by decide +kernel
theorem dX0_afterStatement_15 : decode cX0_afterStatement 15 = .ok (.getfield 12, 3) := by decide +kernel
theorem dX0_afterStatement_18 : decode cX0_afterStatement 18 = .ok (.iload_n 3, 1) := by decide +kernel
theorem dX0_afterStatement_19 : decode cX0_afterStatement 19 = .ok (.aaload, 1) := by decide +kernel
theorem dX0_afterStatement_20 : decode cX0_afterStatement 20 = .ok (.astore 5, 2) := by decide +kernel
theorem dX0_afterStatement_22 : decode cX0_afterStatement 22 = .ok (.iload 4, 2) := by decide +kernel
theorem dX0_afterStatement_24 : decode cX0_afterStatement 24 = .ok (.aload 5, 2) := by decide +kernel
theorem dX0_afterStatement_26 : decode cX0_afterStatement 26 = .ok (.getfield 29, 3) := by decide +kernel
theorem dX0_afterStatement_29 : decode cX0_afterStatement 29 = .ok (.if_icmp .ge 11, 3) := by decide +kernel
theorem dX0_afterStatement_32 : decode cX0_afterStatement 32 = .ok (.lload_n 1, 1) := by decide +kernel
theorem dX0_afterStatement_33 : decode cX0_afterStatement 33 = .ok (.iload_n 3, 1) := by decide +kernel
theorem dX0_afterStatement_34 : decode cX0_afterStatement 34 = .ok (.invokestatic 51, 3) := by decide +kernel
theorem dX0_afterStatement_37 : decode cX0_afterStatement 37 = .ok (.ifCond .eq 7, 3) := by decide +kernel
theorem dX0_afterStatement_40 : decode cX0_afterStatement 40 = .ok (.ldc2_w 49, 3) := by decide +kernel
theorem dX0_afterStatement_43 : decode cX0_afterStatement 43 = .ok (.lreturn, 1) := by decide +kernel
theorem dX0_afterStatement_44 : decode cX0_afterStatement 44 = .ok (.lload_n 1, 1) := by decide +kernel
theorem dX0_afterStatement_45 : decode cX0_afterStatement 45 = .ok (.iload_n 3, 1) := by decide +kernel
theorem dX0_afterStatement_46 : decode cX0_afterStatement 46 = .ok (.invokestatic 55, 3) := by decide +kernel
theorem dX0_afterStatement_49 : decode cX0_afterStatement 49 = .ok (.istore 6, 2) := by decide +kernel
theorem dX0_afterStatement_51 : decode cX0_afterStatement 51 = .ok (.lload_n 1, 1) := by decide +kernel
theorem dX0_afterStatement_52 : decode cX0_afterStatement 52 = .ok (.lconst 1, 1) := by decide +kernel
theorem dX0_afterStatement_53 : decode cX0_afterStatement 53 = .ok (.bipush 16, 2) := by decide +kernel
theorem dX0_afterStatement_55 : decode cX0_afterStatement 55 = .ok (.iconst 3, 1) := by decide +kernel
theorem dX0_afterStatement_56 : decode cX0_afterStatement 56 = .ok (.iload_n 3, 1) := by decide +kernel
theorem dX0_afterStatement_57 : decode cX0_afterStatement 57 = .ok (.imul, 1) := by decide +kernel
theorem dX0_afterStatement_58 : decode cX0_afterStatement 58 = .ok (.iadd, 1) := by decide +kernel
theorem dX0_afterStatement_59 : decode cX0_afterStatement 59 = .ok (.lshl, 1) := by decide +kernel
theorem dX0_afterStatement_60 : decode cX0_afterStatement 60 = .ok (.ladd, 1) := by decide +kernel
theorem dX0_afterStatement_61 : decode cX0_afterStatement 61 = .ok (.lstore 7, 2) := by decide +kernel
theorem dX0_afterStatement_63 : decode cX0_afterStatement 63 = .ok (.aload 5, 2) := by decide +kernel
theorem dX0_afterStatement_65 : decode cX0_afterStatement 65 = .ok (.getfield 59, 3) := by decide +kernel
theorem dX0_afterStatement_68 : decode cX0_afterStatement 68 = .ok (.iload 4, 2) := by decide +kernel
theorem dX0_afterStatement_70 : decode cX0_afterStatement 70 = .ok (.iaload, 1) := by decide +kernel
theorem dX0_afterStatement_71 : decode cX0_afterStatement 71 = .ok (.tableswitch 191 4 8 #[33, 52, 66, 91, 125], 33) := by decide +kernel
theorem dX0_afterStatement_104 : decode cX0_afterStatement 104 = .ok (.aload 5, 2) := by decide +kernel
theorem dX0_afterStatement_106 : decode cX0_afterStatement 106 = .ok (.iload 6, 2) := by decide +kernel
theorem dX0_afterStatement_108 : decode cX0_afterStatement 108 = .ok (.invokestatic 62, 3) := by decide +kernel
theorem dX0_afterStatement_111 : decode cX0_afterStatement 111 = .ok (.ifCond .eq 9, 3) := by decide +kernel
theorem dX0_afterStatement_114 : decode cX0_afterStatement 114 = .ok (.ldc2_w 49, 3) := by decide +kernel
theorem dX0_afterStatement_117 : decode cX0_afterStatement 117 = .ok (.goto 5, 3) := by decide +kernel
theorem dX0_afterStatement_120 : decode cX0_afterStatement 120 = .ok (.lload 7, 2) := by decide +kernel
theorem dX0_afterStatement_122 : decode cX0_afterStatement 122 = .ok (.lreturn, 1) := by decide +kernel
theorem dX0_afterStatement_123 : decode cX0_afterStatement 123 = .ok (.iload 6, 2) := by decide +kernel
theorem dX0_afterStatement_125 : decode cX0_afterStatement 125 = .ok (.ifCond .ne 8, 3) := by decide +kernel
theorem dX0_afterStatement_128 : decode cX0_afterStatement 128 = .ok (.lload 7, 2) := by decide +kernel
theorem dX0_afterStatement_130 : decode cX0_afterStatement 130 = .ok (.goto 6, 3) := by decide +kernel
theorem dX0_afterStatement_133 : decode cX0_afterStatement 133 = .ok (.ldc2_w 49, 3) := by decide +kernel
theorem dX0_afterStatement_136 : decode cX0_afterStatement 136 = .ok (.lreturn, 1) := by decide +kernel
theorem dX0_afterStatement_137 : decode cX0_afterStatement 137 = .ok (.lload 7, 2) := by decide +kernel
theorem dX0_afterStatement_139 : decode cX0_afterStatement 139 = .ok (.iconst 2, 1) := by decide +kernel
theorem dX0_afterStatement_140 : decode cX0_afterStatement 140 = .ok (.aload 5, 2) := by decide +kernel
theorem dX0_afterStatement_142 : decode cX0_afterStatement 142 = .ok (.iload 4, 2) := by decide +kernel
theorem dX0_afterStatement_144 : decode cX0_afterStatement 144 = .ok (.iconst 0, 1) := by decide +kernel
theorem dX0_afterStatement_145 : decode cX0_afterStatement 145 = .ok (.invokevirtual 66, 3) := by decide +kernel
theorem dX0_afterStatement_148 : decode cX0_afterStatement 148 = .ok (.imul, 1) := by decide +kernel
theorem dX0_afterStatement_149 : decode cX0_afterStatement 149 = .ok (.iconst 3, 1) := by decide +kernel
theorem dX0_afterStatement_150 : decode cX0_afterStatement 150 = .ok (.aload 5, 2) := by decide +kernel
theorem dX0_afterStatement_152 : decode cX0_afterStatement 152 = .ok (.iload 4, 2) := by decide +kernel
theorem dX0_afterStatement_154 : decode cX0_afterStatement 154 = .ok (.iconst 1, 1) := by decide +kernel
theorem dX0_afterStatement_155 : decode cX0_afterStatement 155 = .ok (.invokevirtual 66, 3) := by decide +kernel
theorem dX0_afterStatement_158 : decode cX0_afterStatement 158 = .ok (.invokestatic 70, 3) := by decide +kernel
theorem dX0_afterStatement_161 : decode cX0_afterStatement 161 = .ok (.lreturn, 1) := by decide +kernel
theorem dX0_afterStatement_162 : decode cX0_afterStatement 162 = .ok (.lload 7, 2) := by decide +kernel
theorem dX0_afterStatement_164 : decode cX0_afterStatement 164 = .ok (.iload_n 3, 1) := by decide +kernel
theorem dX0_afterStatement_165 : decode cX0_afterStatement 165 = .ok (.aload 5, 2) := by decide +kernel
theorem dX0_afterStatement_167 : decode cX0_afterStatement 167 = .ok (.iload 4, 2) := by decide +kernel
theorem dX0_afterStatement_169 : decode cX0_afterStatement 169 = .ok (.iconst 1, 1) := by decide +kernel
theorem dX0_afterStatement_170 : decode cX0_afterStatement 170 = .ok (.invokevirtual 66, 3) := by decide +kernel
theorem dX0_afterStatement_173 : decode cX0_afterStatement 173 = .ok (.invokestatic 74, 3) := by decide +kernel
theorem dX0_afterStatement_176 : decode cX0_afterStatement 176 = .ok (.iconst 3, 1) := by decide +kernel
theorem dX0_afterStatement_177 : decode cX0_afterStatement 177 = .ok (.lload_n 1, 1) := by decide +kernel
theorem dX0_afterStatement_178 : decode cX0_afterStatement 178 = .ok (.iconst 2, 1) := by decide +kernel
theorem dX0_afterStatement_179 : decode cX0_afterStatement 179 = .ok (.aload 5, 2) := by decide +kernel
theorem dX0_afterStatement_181 : decode cX0_afterStatement 181 = .ok (.iload 4, 2) := by decide +kernel
theorem dX0_afterStatement_183 : decode cX0_afterStatement 183 = .ok (.iconst 0, 1) := by decide +kernel
theorem dX0_afterStatement_184 : decode cX0_afterStatement 184 = .ok (.invokevirtual 66, 3) := by decide +kernel
theorem dX0_afterStatement_187 : decode cX0_afterStatement 187 = .ok (.imul, 1) := by decide +kernel
theorem dX0_afterStatement_188 : decode cX0_afterStatement 188 = .ok (.iconst 3, 1) := by decide +kernel
theorem dX0_afterStatement_189 : decode cX0_afterStatement 189 = .ok (.invokestatic 45, 3) := by decide +kernel
theorem dX0_afterStatement_192 : decode cX0_afterStatement 192 = .ok (.invokestatic 70, 3) := by decide +kernel
theorem dX0_afterStatement_195 : decode cX0_afterStatement 195 = .ok (.lreturn, 1) := by decide +kernel
theorem dX0_afterStatement_196 : decode cX0_afterStatement 196 = .ok (.lload_n 1, 1) := by decide +kernel
theorem dX0_afterStatement_197 : decode cX0_afterStatement 197 = .ok (.iload_n 3, 1) := by decide +kernel
theorem dX0_afterStatement_198 : decode cX0_afterStatement 198 = .ok (.aload 5, 2) := by decide +kernel
theorem dX0_afterStatement_200 : decode cX0_afterStatement 200 = .ok (.iload 4, 2) := by decide +kernel
theorem dX0_afterStatement_202 : decode cX0_afterStatement 202 = .ok (.iconst 0, 1) := by decide +kernel
theorem dX0_afterStatement_203 : decode cX0_afterStatement 203 = .ok (.invokevirtual 66, 3) := by decide +kernel
theorem dX0_afterStatement_206 : decode cX0_afterStatement 206 = .ok (.invokestatic 74, 3) := by decide +kernel
theorem dX0_afterStatement_209 : decode cX0_afterStatement 209 = .ok (.iconst 3, 1) := by decide +kernel
theorem dX0_afterStatement_210 : decode cX0_afterStatement 210 = .ok (.invokestatic 45, 3) := by decide +kernel
theorem dX0_afterStatement_213 : decode cX0_afterStatement 213 = .ok (.aload 5, 2) := by decide +kernel
theorem dX0_afterStatement_215 : decode cX0_afterStatement 215 = .ok (.iload 4, 2) := by decide +kernel
theorem dX0_afterStatement_217 : decode cX0_afterStatement 217 = .ok (.iconst 1, 1) := by decide +kernel
theorem dX0_afterStatement_218 : decode cX0_afterStatement 218 = .ok (.invokevirtual 66, 3) := by decide +kernel
theorem dX0_afterStatement_221 : decode cX0_afterStatement 221 = .ok (.if_icmp .ne 7, 3) := by decide +kernel
theorem dX0_afterStatement_224 : decode cX0_afterStatement 224 = .ok (.iconst 1, 1) := by decide +kernel
theorem dX0_afterStatement_225 : decode cX0_afterStatement 225 = .ok (.goto 4, 3) := by decide +kernel
theorem dX0_afterStatement_228 : decode cX0_afterStatement 228 = .ok (.iconst 0, 1) := by decide +kernel
theorem dX0_afterStatement_229 : decode cX0_afterStatement 229 = .ok (.istore 9, 2) := by decide +kernel
theorem dX0_afterStatement_231 : decode cX0_afterStatement 231 = .ok (.iload 9, 2) := by decide +kernel
theorem dX0_afterStatement_233 : decode cX0_afterStatement 233 = .ok (.ifCond .eq 26, 3) := by decide +kernel
theorem dX0_afterStatement_236 : decode cX0_afterStatement 236 = .ok (.lload 7, 2) := by decide +kernel
theorem dX0_afterStatement_238 : decode cX0_afterStatement 238 = .ok (.bipush 16, 2) := by decide +kernel
theorem dX0_afterStatement_240 : decode cX0_afterStatement 240 = .ok (.iconst 3, 1) := by decide +kernel
theorem dX0_afterStatement_241 : decode cX0_afterStatement 241 = .ok (.iload_n 3, 1) := by decide +kernel
theorem dX0_afterStatement_242 : decode cX0_afterStatement 242 = .ok (.imul, 1) := by decide +kernel
theorem dX0_afterStatement_243 : decode cX0_afterStatement 243 = .ok (.iadd, 1) := by decide +kernel
theorem dX0_afterStatement_244 : decode cX0_afterStatement 244 = .ok (.bipush 7, 2) := by decide +kernel
theorem dX0_afterStatement_246 : decode cX0_afterStatement 246 = .ok (.aload 5, 2) := by decide +kernel
theorem dX0_afterStatement_248 : decode cX0_afterStatement 248 = .ok (.iload 4, 2) := by decide +kernel
theorem dX0_afterStatement_250 : decode cX0_afterStatement 250 = .ok (.invokevirtual 77, 3) := by decide +kernel
theorem dX0_afterStatement_253 : decode cX0_afterStatement 253 = .ok (.invokestatic 70, 3) := by decide +kernel
theorem dX0_afterStatement_256 : decode cX0_afterStatement 256 = .ok (.goto 5, 3) := by decide +kernel
theorem dX0_afterStatement_259 : decode cX0_afterStatement 259 = .ok (.lload 7, 2) := by decide +kernel
theorem dX0_afterStatement_261 : decode cX0_afterStatement 261 = .ok (.lreturn, 1) := by decide +kernel
theorem dX0_afterStatement_262 : decode cX0_afterStatement 262 = .ok (.lload 7, 2) := by decide +kernel
theorem dX0_afterStatement_264 : decode cX0_afterStatement 264 = .ok (.iload_n 3, 1) := by decide +kernel
theorem dX0_afterStatement_265 : decode cX0_afterStatement 265 = .ok (.iload 6, 2) := by decide +kernel
theorem dX0_afterStatement_267 : decode cX0_afterStatement 267 = .ok (.iload 4, 2) := by decide +kernel
