theorem dX0_hasRight_68 : decode cX0_hasRight 68 = .ok (.ireturn, 1) := by decide +kernel
theorem dX0_hasRight_69 : decode cX0_hasRight 69 = .ok (.aload_n 0, 1) := by decide +kernel
theorem dX0_hasRight_70 : decode cX0_hasRight 70 = .ok (.getfield 22, 3) := by decide +kernel
theorem dX0_hasRight_73 : decode cX0_hasRight 73 = .ok (.iload_n 3, 1) := by decide +kernel
theorem dX0_hasRight_74 : decode cX0_hasRight 74 = .ok (.iaload, 1) := by decide +kernel
theorem dX0_hasRight_75 : decode cX0_hasRight 75 = .ok (.iconst 1, 1) := by decide +kernel
theorem dX0_hasRight_76 : decode cX0_hasRight 76 = .ok (.iand, 1) := by decide +kernel
theorem dX0_hasRight_77 : decode cX0_hasRight 77 = .ok (.ifCond .eq 7, 3) := by decide +kernel
theorem dX0_hasRight_80 : decode cX0_hasRight 80 = .ok (.iconst 1, 1) := by decide +kernel
theorem dX0_hasRight_81 : decode cX0_hasRight 81 = .ok (.goto 4, 3) := by decide +kernel
theorem dX0_hasRight_84 : decode cX0_hasRight 84 = .ok (.iconst 0, 1) := by decide +kernel
theorem dX0_hasRight_85 : decode cX0_hasRight 85 = .ok (.ireturn, 1) := by decide +kernel
theorem dX0_hasRight_86 : decode cX0_hasRight 86 = .ok (.aload_n 0, 1) := by decide +kernel
theorem dX0_hasRight_87 : decode cX0_hasRight 87 = .ok (.getfield 22, 3) := by decide +kernel
theorem dX0_hasRight_90 : decode cX0_hasRight 90 = .ok (.iload_n 3, 1) := by decide +kernel
theorem dX0_hasRight_91 : decode cX0_hasRight 91 = .ok (.iaload, 1) := by decide +kernel
theorem dX0_hasRight_92 : decode cX0_hasRight 92 = .ok (.iconst 4, 1) := by decide +kernel
theorem dX0_hasRight_93 : decode cX0_hasRight 93 = .ok (.iand, 1) := by decide +kernel
theorem dX0_hasRight_94 : decode cX0_hasRight 94 = .ok (.ifCond .eq 7, 3) := by decide +kernel
theorem dX0_hasRight_97 : decode cX0_hasRight 97 = .ok (.iconst 1, 1) := by decide +kernel
theorem dX0_hasRight_98 : decode cX0_hasRight 98 = .ok (.goto 4, 3) := by decide +kernel
theorem dX0_hasRight_101 : decode cX0_hasRight 101 = .ok (.iconst 0, 1) := by decide +kernel
theorem dX0_hasRight_102 : decode cX0_hasRight 102 = .ok (.ireturn, 1) := by decide +kernel
set_option maxRecDepth 20000 in
theorem ggX0_isStopped_X0_bits : GoodIn wsX0_isStopped wsX0_bits := goodIn_r _ [4] (by decide +kernel) (by decide +kernel)
set_option maxRecDepth 20000 in
theorem gX0_isStopped_X0_bits : GoodIn wsX0_isStopped (va_wsS RX0 45 yX0_bits wsX0_bits) := goodIn_app (goodIn_of _ (by decide +kernel)) ggX0_isStopped_X0_bits
theorem dX0_isStopped_0 : decode cX0_isStopped 0 = .ok (.lload_n 0, 1) := by decide +kernel
theorem dX0_isStopped_1 : decode cX0_isStopped 1 = .ok (.bipush 40, 2) := by decide +kernel
theorem dX0_isStopped_3 : decode cX0_isStopped 3 = .ok (.iload_n 2, 1) := by decide +kernel
theorem dX0_isStopped_4 : decode cX0_isStopped 4 = .ok (.iadd, 1) := by decide +kernel
theorem dX0_isStopped_5 : decode cX0_isStopped 5 = .ok (.iconst 1, 1) := by decide +kernel
theorem dX0_isStopped_6 : decode cX0_isStopped 6 = .ok (.invokestatic 45, 3) := by decide +kernel
theorem dX0_isStopped_9 : decode cX0_isStopped 9 = .ok (.ifCond .ne 15, 3) := by decide +kernel
theorem dX0_isStopped_12 : decode cX0_isStopped 12 = .ok (.lload_n 0, 1) := by decide +kernel
theorem dX0_isStopped_13 : decode cX0_isStopped 13 = .ok (.bipush 42, 2) := by decide +kernel
theorem dX0_isStopped_15 : decode cX0_isStopped 15 = .ok (.iload_n 2, 1) := by decide +kernel
theorem dX0_isStopped_16 : decode cX0_isStopped 16 = .ok (.iadd, 1) := by decide +kernel
theorem dX0_isStopped_17 : decode cX0_isStopped 17 = .ok (.iconst 1, 1) := by decide +kernel
theorem dX0_isStopped_18 : decode cX0_isStopped 18 = .ok (.invokestatic 45, 3) := by decide +kernel
theorem dX0_isStopped_21 : decode cX0_isStopped 21 = .ok (.ifCond .eq 7, 3) := by decide +kernel
theorem dX0_isStopped_24 : decode cX0_isStopped 24 = .ok (.iconst 1, 1) := by decide +kernel
theorem dX0_isStopped_25 : decode cX0_isStopped 25 = .ok (.goto 4, 3) := by decide +kernel
theorem dX0_isStopped_28 : decode cX0_isStopped 28 = .ok (.iconst 0, 1) := by decide +kernel
theorem dX0_isStopped_29 : decode cX0_isStopped 29 = .ok (.ireturn, 1) := by decide +kernel
set_option maxRecDepth 20000 in
theorem ggX0_isGet_X0_wishAt : GoodIn wsX0_isGet wsX0_wishAt := goodIn_r _ [5] (by decide +kernel) (by decide +kernel)
set_option maxRecDepth 20000 in
theorem gX0_isGet_X0_wishAt : GoodIn wsX0_isGet (va_wsS RX0 84 yX0_wishAt wsX0_wishAt) := goodIn_app (goodIn_of _ (by decide +kernel)) ggX0_isGet_X0_wishAt
theorem dX0_isGet_0 : decode cX0_isGet 0 = .ok (.iload_n 1, 1) := by decide +kernel
theorem dX0_isGet_1 : decode cX0_isGet 1 = .ok (.iload_n 2, 1) := by decide +kernel
theorem dX0_isGet_2 : decode cX0_isGet 2 = .ok (.invokestatic 84, 3) := by decide +kernel
theorem dX0_isGet_5 : decode cX0_isGet 5 = .ok (.istore_n 3, 1) := by decide +kernel
theorem dX0_isGet_6 : decode cX0_isGet 6 = .ok (.iload_n 3, 1) := by decide +kernel
theorem dX0_isGet_7 : decode cX0_isGet 7 = .ok (.iconst (-1), 1) := by decide +kernel
theorem dX0_isGet_8 : decode cX0_isGet 8 = .ok (.if_icmp .eq 17, 3) := by decide +kernel
theorem dX0_isGet_11 : decode cX0_isGet 11 = .ok (.aload_n 0, 1) := by decide +kernel
theorem dX0_isGet_12 : decode cX0_isGet 12 = .ok (.getfield 59, 3) := by decide +kernel
theorem dX0_isGet_15 : decode cX0_isGet 15 = .ok (.iload_n 3, 1) := by decide +kernel
theorem dX0_isGet_16 : decode cX0_isGet 16 = .ok (.iaload, 1) := by decide +kernel
theorem dX0_isGet_17 : decode cX0_isGet 17 = .ok (.iconst 1, 1) := by decide +kernel
theorem dX0_isGet_18 : decode cX0_isGet 18 = .ok (.if_icmp .ne 7, 3) := by decide +kernel
theorem dX0_isGet_21 : decode cX0_isGet 21 = .ok (.iconst 1, 1) := by decide +kernel
theorem dX0_isGet_22 : decode cX0_isGet 22 = .ok (.goto 4, 3) := by decide +kernel
theorem dX0_isGet_25 : decode cX0_isGet 25 = .ok (.iconst 0, 1) := by decide +kernel
theorem dX0_isGet_26 : decode cX0_isGet 26 = .ok (.ireturn, 1) := by decide +kernel
set_option maxRecDepth 20000 in
theorem ggX0_hasGet_X0_isGet : GoodIn wsX0_hasGet wsX0_isGet := goodIn_r _ [4, 5, 6, 7, 3, 8, 9, 10, 11] (by decide +kernel) (by decide +kernel)
set_option maxRecDepth 20000 in
theorem gX0_hasGet_X0_isGet : GoodIn wsX0_hasGet (va_wsS RX0 97 yX0_isGet wsX0_isGet) := goodIn_app (goodIn_of _ (by decide +kernel)) ggX0_hasGet_X0_isGet
theorem dX0_hasGet_0 : decode cX0_hasGet 0 = .ok (.aload_n 0, 1) := by decide +kernel
theorem dX0_hasGet_1 : decode cX0_hasGet 1 = .ok (.iload_n 1, 1) := by decide +kernel
theorem dX0_hasGet_2 : decode cX0_hasGet 2 = .ok (.iconst 0, 1) := by decide +kernel
theorem dX0_hasGet_3 : decode cX0_hasGet 3 = .ok (.invokestatic 97, 3) := by decide +kernel
theorem dX0_hasGet_6 : decode cX0_hasGet 6 = .ok (.ifCond .ne 21, 3) := by decide +kernel
theorem dX0_hasGet_9 : decode cX0_hasGet 9 = .ok (.aload_n 0, 1) := by decide +kernel
theorem dX0_hasGet_10 : decode cX0_hasGet 10 = .ok (.iload_n 1, 1) := by decide +kernel
theorem dX0_hasGet_11 : decode cX0_hasGet 11 = .ok (.iconst 1, 1) := by decide +kernel
theorem dX0_hasGet_12 : decode cX0_hasGet 12 = .ok (.invokestatic 97, 3) := by decide +kernel
theorem dX0_hasGet_15 : decode cX0_hasGet 15 = .ok (.ifCond .ne 12, 3) := by decide +kernel
theorem dX0_hasGet_18 : decode cX0_hasGet 18 = .ok (.aload_n 0, 1) := by decide +kernel
theorem dX0_hasGet_19 : decode cX0_hasGet 19 = .ok (.iload_n 1, 1) := by decide +kernel
theorem dX0_hasGet_20 : decode cX0_hasGet 20 = .ok (.iconst 2, 1) := by decide +kernel
theorem dX0_hasGet_21 : decode cX0_hasGet 21 = .ok (.invokestatic 97, 3) := by decide +kernel
theorem dX0_hasGet_24 : decode cX0_hasGet 24 = .ok (.ifCond .eq 7, 3) := by decide +kernel
theorem dX0_hasGet_27 : decode cX0_hasGet 27 = .ok (.iconst 1, 1) := by decide +kernel
theorem dX0_hasGet_28 : decode cX0_hasGet 28 = .ok (.goto 4, 3) := by decide +kernel
theorem dX0_hasGet_31 : decode cX0_hasGet 31 = .ok (.iconst 0, 1) := by decide +kernel
theorem dX0_hasGet_32 : decode cX0_hasGet 32 = .ok (.ireturn, 1) := by decide +kernel
set_option maxRecDepth 20000 in
theorem ggX0_mayBeDone_X0_isGet : GoodIn wsX0_mayBeDone wsX0_isGet := goodIn_r _ [4, 5, 6, 7, 3, 8, 9, 10, 11] (by decide +kernel) (by decide +kernel)
set_option maxRecDepth 20000 in
theorem gX0_mayBeDone_X0_isGet : GoodIn wsX0_mayBeDone (va_wsS RX0 97 yX0_isGet wsX0_isGet) := goodIn_app (goodIn_of _ (by decide +kernel)) ggX0_mayBeDone_X0_isGet
theorem dX0_mayBeDone_0 : decode cX0_mayBeDone 0 = .ok (.iload_n 2, 1) := by decide +kernel
theorem dX0_mayBeDone_1 : decode cX0_mayBeDone 1 = .ok (.ifCond .le 14, 3) := by decide +kernel
theorem dX0_mayBeDone_4 : decode cX0_mayBeDone 4 = .ok (.aload_n 0, 1) := by decide +kernel
theorem dX0_mayBeDone_5 : decode cX0_mayBeDone 5 = .ok (.iload_n 1, 1) := by decide +kernel
theorem dX0_mayBeDone_6 : decode cX0_mayBeDone 6 = .ok (.iload_n 2, 1) := by decide +kernel
theorem dX0_mayBeDone_7 : decode cX0_mayBeDone 7 = .ok (.invokestatic 97, 3) := by decide +kernel
theorem dX0_mayBeDone_10 : decode cX0_mayBeDone 10 = .ok (.ifCond .eq 5, 3) := by decide +kernel
theorem dX0_mayBeDone_13 : decode cX0_mayBeDone 13 = .ok (.iconst 0, 1) := by decide +kernel
theorem dX0_mayBeDone_14 : decode cX0_mayBeDone 14 = .ok (.ireturn, 1) := by decide +kernel
theorem dX0_mayBeDone_15 : decode cX0_mayBeDone 15 = .ok (.iconst 0, 1) := by decide +kernel
theorem dX0_mayBeDone_16 : decode cX0_mayBeDone 16 = .ok (.istore_n 3, 1) := by decide +kernel
theorem dX0_mayBeDone_17 : decode cX0_mayBeDone 17 = .ok (.iload_n 3, 1) := by decide +kernel
theorem dX0_mayBeDone_18 : decode cX0_mayBeDone 18 = .ok (.iload_n 2, 1) := by decide +kernel
theorem dX0_mayBeDone_19 : decode cX0_mayBeDone 19 = .ok (.if_icmp .ge 20, 3) := by decide +kernel
theorem dX0_mayBeDone_22 : decode cX0_mayBeDone 22 = .ok (.aload_n 0, 1) := by decide +kernel
theorem dX0_mayBeDone_23 : decode cX0_mayBeDone 23 = .ok (.iload_n 1, 1) := by decide +kernel
theorem dX0_mayBeDone_24 : decode cX0_mayBeDone 24 = .ok (.iload_n 3, 1) := by decide +kernel
theorem dX0_mayBeDone_25 : decode cX0_mayBeDone 25 = .ok (.invokestatic 97, 3) := by decide +kernel
theorem dX0_mayBeDone_28 : decode cX0_mayBeDone 28 = .ok (.ifCond .ne 5, 3) := by decide +kernel
theorem dX0_mayBeDone_31 : decode cX0_mayBeDone 31 = .ok (.iconst 0, 1) := by decide +kernel
theorem dX0_mayBeDone_32 : decode cX0_mayBeDone 32 = .ok (.ireturn, 1) := by decide +kernel
theorem dX0_mayBeDone_33 : decode cX0_mayBeDone 33 = .ok (.iinc 3 1, 3) := by decide +kernel
theorem dX0_mayBeDone_36 : decode cX0_mayBeDone 36 = .ok (.goto (-19), 3) := by decide +kernel
theorem dX0_mayBeDone_39 : decode cX0_mayBeDone 39 = .ok (.iconst 1, 1) := by decide +kernel
theorem dX0_mayBeDone_40 : decode cX0_mayBeDone 40 = .ok (.ireturn, 1) := by decide +kernel
set_option maxRecDepth 20000 in
theorem ggX0_withWish_X0_wishAt : GoodIn wsX0_withWish wsX0_wishAt := goodIn_r _ [5] (by decide +kernel) (by decide +kernel)
set_option maxRecDepth 20000 in
theorem gX0_withWish_X0_wishAt : GoodIn wsX0_withWish (va_wsS RX0 84 yX0_wishAt wsX0_wishAt) := goodIn_app (goodIn_of _ (by decide +kernel)) ggX0_withWish_X0_wishAt
theorem dX0_withWish_0 : decode cX0_withWish 0 = .ok (.iconst 0, 1) := by decide +kernel
theorem dX0_withWish_1 : decode cX0_withWish 1 = .ok (.istore 5, 2) := by decide +kernel
theorem dX0_withWish_3 : decode cX0_withWish 3 = .ok (.iload 5, 2) := by decide +kernel
theorem dX0_withWish_5 : decode cX0_withWish 5 = .ok (.iconst 3, 1) := by decide +kernel
theorem dX0_withWish_6 : decode cX0_withWish 6 = .ok (.if_icmp .ge 40, 3) := by decide +kernel
theorem dX0_withWish_9 : decode cX0_withWish 9 = .ok (.iload_n 3, 1) := by decide +kernel
theorem dX0_withWish_10 : decode cX0_withWish 10 = .ok (.iload 5, 2) := by decide +kernel
theorem dX0_withWish_12 : decode cX0_withWish 12 = .ok (.invokestatic 84, 3) := by decide +kernel
theorem dX0_withWish_15 : decode cX0_withWish 15 = .ok (.iconst (-1), 1) := by decide +kernel
theorem dX0_withWish_16 : decode cX0_withWish 16 = .ok (.if_icmp .ne 24, 3) := by decide +kernel
theorem dX0_withWish_19 : decode cX0_withWish 19 = .ok (.lload_n 0, 1) := by decide +kernel
theorem dX0_withWish_20 : decode cX0_withWish 20 = .ok (.iload 4, 2) := by decide +kernel
theorem dX0_withWish_22 : decode cX0_withWish 22 = .ok (.iconst 1, 1) := by decide +kernel
theorem dX0_withWish_23 : decode cX0_withWish 23 = .ok (.iadd, 1) := by decide +kernel
theorem dX0_withWish_24 : decode cX0_withWish 24 = .ok (.i2l, 1) := by decide +kernel
theorem dX0_withWish_25 : decode cX0_withWish 25 = .ok (.bipush 22, 2) := by decide +kernel
theorem dX0_withWish_27 : decode cX0_withWish 27 = .ok (.bipush 9, 2) := by decide +kernel
theorem dX0_withWish_29 : decode cX0_withWish 29 = .ok (.iload_n 2, 1) := by decide +kernel
theorem dX0_withWish_30 : decode cX0_withWish 30 = .ok (.imul, 1) := by decide +kernel
theorem dX0_withWish_31 : decode cX0_withWish 31 = .ok (.iadd, 1) := by decide +kernel
theorem dX0_withWish_32 : decode cX0_withWish 32 = .ok (.iconst 3, 1) := by decide +kernel
theorem dX0_withWish_33 : decode cX0_withWish 33 = .ok (.iload 5, 2) := by decide +kernel
theorem dX0_withWish_35 : decode cX0_withWish 35 = .ok (.imul, 1) := by decide +kernel
theorem dX0_withWish_36 : decode cX0_withWish 36 = .ok (.iadd, 1) := by decide +kernel
theorem dX0_withWish_37 : decode cX0_withWish 37 = .ok (.lshl, 1) := by decide +kernel
theorem dX0_withWish_38 : decode cX0_withWish 38 = .ok (.lor, 1) := by decide +kernel
theorem dX0_withWish_39 : decode cX0_withWish 39 = .ok (.lreturn, 1) := by decide +kernel
theorem dX0_withWish_40 : decode cX0_withWish 40 = .ok (.iinc 5 1, 3) := by decide +kernel
theorem dX0_withWish_43 : decode cX0_withWish 43 = .ok (.goto (-40), 3) := by decide +kernel
theorem dX0_withWish_46 : decode cX0_withWish 46 = .ok (.ldc2_w 49, 3) := by decide +kernel
theorem dX0_withWish_49 : decode cX0_withWish 49 = .ok (.lreturn, 1) := by decide +kernel
set_option maxRecDepth 20000 in
theorem ggX0_queueOf_X0_bits : GoodIn wsX0_queueOf wsX0_bits := goodIn_r _ [4] (by decide +kernel) (by decide +kernel)
set_option maxRecDepth 20000 in
theorem gX0_queueOf_X0_bits : GoodIn wsX0_queueOf (va_wsS RX0 45 yX0_bits wsX0_bits) := goodIn_app (goodIn_of _ (by decide +kernel)) ggX0_queueOf_X0_bits
theorem dX0_queueOf_0 : decode cX0_queueOf 0 = .ok (.lload_n 0, 1) := by decide +kernel
theorem dX0_queueOf_1 : decode cX0_queueOf 1 = .ok (.bipush 22, 2) := by decide +kernel
theorem dX0_queueOf_3 : decode cX0_queueOf 3 = .ok (.bipush 9, 2) := by decide +kernel
theorem dX0_queueOf_5 : decode cX0_queueOf 5 = .ok (.iload_n 2, 1) := by decide +kernel
theorem dX0_queueOf_6 : decode cX0_queueOf 6 = .ok (.imul, 1) := by decide +kernel
theorem dX0_queueOf_7 : decode cX0_queueOf 7 = .ok (.iadd, 1) := by decide +kernel
theorem dX0_queueOf_8 : decode cX0_queueOf 8 = .ok (.sipush 511, 3) := by decide +kernel
theorem dX0_queueOf_11 : decode cX0_queueOf 11 = .ok (.invokestatic 45, 3) := by decide +kernel
theorem dX0_queueOf_14 : decode cX0_queueOf 14 = .ok (.ireturn, 1) := by decide +kernel
theorem dX0_wishAt_0 : decode cX0_wishAt 0 = .ok (.iload_n 0, 1) := by decide +kernel
theorem dX0_wishAt_1 : decode cX0_wishAt 1 = .ok (.iconst 3, 1) := by decide +kernel
theorem dX0_wishAt_2 : decode cX0_wishAt 2 = .ok (.iload_n 1, 1) := by decide +kernel
theorem dX0_wishAt_3 : decode cX0_wishAt 3 = .ok (.imul, 1) := by decide +kernel
theorem dX0_wishAt_4 : decode cX0_wishAt 4 = .ok (.ishr, 1) := by decide +kernel
theorem dX0_wishAt_5 : decode cX0_wishAt 5 = .ok (.bipush 7, 2) := by decide +kernel
theorem dX0_wishAt_7 : decode cX0_wishAt 7 = .ok (.iand, 1) := by decide +kernel
theorem dX0_wishAt_8 : decode cX0_wishAt 8 = .ok (.iconst 1, 1) := by decide +kernel
theorem dX0_wishAt_9 : decode cX0_wishAt 9 = .ok (.isub, 1) := by decide +kernel
theorem dX0_wishAt_10 : decode cX0_wishAt 10 = .ok (.ireturn, 1) := by decide +kernel
theorem dX0_registerAt_0 : decode cX0_registerAt 0 = .ok (.bipush 8, 2) := by decide +kernel
theorem dX0_registerAt_2 : decode cX0_registerAt 2 = .ok (.iconst 4, 1) := by decide +kernel
theorem dX0_registerAt_3 : decode cX0_registerAt 3 = .ok (.iload_n 0, 1) := by decide +kernel
theorem dX0_registerAt_4 : decode cX0_registerAt 4 = .ok (.imul, 1) := by decide +kernel
theorem dX0_registerAt_5 : decode cX0_registerAt 5 = .ok (.iadd, 1) := by decide +kernel
theorem dX0_registerAt_6 : decode cX0_registerAt 6 = .ok (.iconst 2, 1) := by decide +kernel
theorem dX0_registerAt_7 : decode cX0_registerAt 7 = .ok (.iload_n 1, 1) := by decide +kernel
theorem dX0_registerAt_8 : decode cX0_registerAt 8 = .ok (.imul, 1) := by decide +kernel
theorem dX0_registerAt_9 : decode cX0_registerAt 9 = .ok (.iadd, 1) := by decide +kernel
theorem dX0_registerAt_10 : decode cX0_registerAt 10 = .ok (.ireturn, 1) := by decide +kernel
theorem dX0_bits_0 : decode cX0_bits 0 = .ok (.lload_n 0, 1) := by decide +kernel
theorem dX0_bits_1 : decode cX0_bits 1 = .ok (.iload_n 2, 1) := by decide +kernel
theorem dX0_bits_2 : decode cX0_bits 2 = .ok (.lushr, 1) := by decide +kernel
theorem dX0_bits_3 : decode cX0_bits 3 = .ok (.l2i, 1) := by decide +kernel
theorem dX0_bits_4 : decode cX0_bits 4 = .ok (.iload_n 3, 1) := by decide +kernel
theorem dX0_bits_5 : decode cX0_bits 5 = .ok (.iand, 1) := by decide +kernel
theorem dX0_bits_6 : decode cX0_bits 6 = .ok (.ireturn, 1) := by decide +kernel
theorem dX0_with_0 : decode cX0_with 0 = .ok (.lload_n 0, 1) := by decide +kernel
theorem dX0_with_1 : decode cX0_with 1 = .ok (.iload_n 3, 1) := by decide +kernel
theorem dX0_with_2 : decode cX0_with 2 = .ok (.i2l, 1) := by decide +kernel
theorem dX0_with_3 : decode cX0_with 3 = .ok (.iload_n 2, 1) := by decide +kernel
theorem dX0_with_4 : decode cX0_with 4 = .ok (.lshl, 1) := by decide +kernel
theorem dX0_with_5 : decode cX0_with 5 = .ok (.ldc2_w 49, 3) := by decide +kernel
theorem dX0_with_8 : decode cX0_with 8 = .ok (.lxor, 1) := by decide +kernel
theorem dX0_with_9 : decode cX0_with 9 = .ok (.land, 1) := by decide +kernel
theorem dX0_with_10 : decode cX0_with 10 = .ok (.iload 4, 2) := by decide +kernel
theorem dX0_with_12 : decode cX0_with 12 = .ok (.i2l, 1) := by decide +kernel
theorem dX0_with_13 : decode cX0_with 13 = .ok (.iload_n 2, 1) := by decide +kernel
theorem dX0_with_14 : decode cX0_with 14 = .ok (.lshl, 1) := by decide +kernel
theorem dX0_with_15 : decode cX0_with 15 = .ok (.lor, 1) := by decide +kernel
theorem dX0_with_16 : decode cX0_with 16 = .ok (.lreturn, 1) := by decide +kernel
theorem dX1_init_0 : decode cX1_init 0 = .ok (.aload_n 0, 1) := by decide +kernel
theorem dX1_init_1 : decode cX1_init 1 = .ok (.invokespecial 3, 3) := by decide +kernel
theorem dX1_init_4 : decode cX1_init 4 = .ok (.aload_n 0, 1) := by decide +kernel
theorem dX1_init_5 : decode cX1_init 5 = .ok (.iconst 0, 1) := by decide +kernel
theorem dX1_init_6 : decode cX1_init 6 = .ok (.putfield 9, 3) := by decide +kernel
theorem dX1_init_9 : decode cX1_init 9 = .ok (.aload_n 0, 1) := by decide +kernel
theorem dX1_init_10 : decode cX1_init 10 = .ok (.bipush 8, 2) := by decide +kernel
theorem dX1_init_12 : decode cX1_init 12 = .ok (.newarray .int, 2) := by decide +kernel
theorem dX1_init_14 : decode cX1_init 14 = .ok (.putfield 15, 3) := by decide +kernel
theorem dX1_init_17 : decode cX1_init 17 = .ok (.aload_n 0, 1) := by decide +kernel
theorem dX1_init_18 : decode cX1_init 18 = .ok (.bipush 32, 2) := by decide +kernel
theorem dX1_init_20 : decode cX1_init 20 = .ok (.newarray .int, 2) := by decide +kernel
theorem dX1_init_22 : decode cX1_init 22 = .ok (.putfield 19, 3) := by decide +kernel
theorem dX1_init_25 : decode cX1_init 25 = .ok (.return_, 1) := by decide +kernel
theorem dX1_nameOf_0 : decode cX1_nameOf 0 = .ok (.iload_n 0, 1) := by decide +kernel
theorem dX1_nameOf_1 : decode cX1_nameOf 1 = .ok (.tableswitch 71 0 7 #[47, 50, 53, 56, 59, 62, 65, 68], 47) := by decide +kernel
theorem dX1_nameOf_48 : decode cX1_nameOf 48 = .ok (.ldc 22, 2) := by decide +kernel
theorem dX1_nameOf_50 : decode cX1_nameOf 50 = .ok (.areturn, 1) := by decide +kernel
theorem dX1_nameOf_51 : decode cX1_nameOf 51 = .ok (.ldc 24, 2) := by decide +kernel
theorem dX1_nameOf_53 : decode cX1_nameOf 53 = .ok (.areturn, 1) := by decide +kernel
theorem dX1_nameOf_54 : decode cX1_nameOf 54 = .ok (.ldc 26, 2) := by decide +kernel
theorem dX1_nameOf_56 : decode cX1_nameOf 56 = .ok (.areturn, 1) := by decide +kernel
theorem dX1_nameOf_57 : decode cX1_nameOf 57 = .ok (.ldc 28, 2) := by decide +kernel
theorem dX1_nameOf_59 : decode cX1_nameOf 59 = .ok (.areturn, 1) := by decide +kernel
theorem dX1_nameOf_60 : decode cX1_nameOf 60 = .ok (.ldc 30, 2) := by decide +kernel
theorem dX1_nameOf_62 : decode cX1_nameOf 62 = .ok (.areturn, 1) := by decide +kernel
theorem dX1_nameOf_63 : decode cX1_nameOf 63 = .ok (.ldc 32, 2) := by decide +kernel
theorem dX1_nameOf_65 : decode cX1_nameOf 65 = .ok (.areturn, 1) := by decide +kernel
theorem dX1_nameOf_66 : decode cX1_nameOf 66 = .ok (.ldc 34, 2) := by decide +kernel
theorem dX1_nameOf_68 : decode cX1_nameOf 68 = .ok (.areturn, 1) := by decide +kernel
theorem dX1_nameOf_69 : decode cX1_nameOf 69 = .ok (.ldc 36, 2) := by decide +kernel
theorem dX1_nameOf_71 : decode cX1_nameOf 71 = .ok (.areturn, 1) := by decide +kernel
theorem dX1_nameOf_72 : decode cX1_nameOf 72 = .ok (.ldc 38, 2) := by decide +kernel
theorem dX1_nameOf_74 : decode cX1_nameOf 74 = .ok (.areturn, 1) := by decide +kernel
theorem dX1_kindOf_0 : decode cX1_kindOf 0 = .ok (.iload_n 0, 1) := by decide +kernel
theorem dX1_kindOf_1 : decode cX1_kindOf 1 = .ok (.ifCond .lt 18, 3) := by decide +kernel
theorem dX1_kindOf_4 : decode cX1_kindOf 4 = .ok (.iload_n 0, 1) := by decide +kernel
theorem dX1_kindOf_5 : decode cX1_kindOf 5 = .ok (.bipush 9, 2) := by decide +kernel
theorem dX1_kindOf_7 : decode cX1_kindOf 7 = .ok (.if_icmp .ge 12, 3) := by decide +kernel
theorem dX1_kindOf_10 : decode cX1_kindOf 10 = .ok (.iload_n 1, 1) := by decide +kernel
theorem dX1_kindOf_11 : decode cX1_kindOf 11 = .ok (.ifCond .lt 8, 3) := by decide +kernel
theorem dX1_kindOf_14 : decode cX1_kindOf 14 = .ok (.iload_n 1, 1) := by decide +kernel
theorem dX1_kindOf_15 : decode cX1_kindOf 15 = .ok (.iconst 4, 1) := by decide +kernel
theorem dX1_kindOf_16 : decode cX1_kindOf 16 = .ok (.if_icmp .lt 5, 3) := by decide +kernel
theorem dX1_kindOf_19 : decode cX1_kindOf 19 = .ok (.iconst 0, 1) := by decide +kernel
theorem dX1_kindOf_20 : decode cX1_kindOf 20 = .ok (.ireturn, 1) := by decide +kernel
theorem dX1_kindOf_21 : decode cX1_kindOf 21 = .ok (.getstatic 40, 3) := by decide +kernel
theorem dX1_kindOf_24 : decode cX1_kindOf 24 = .ok (.iload_n 0, 1) := by decide +kernel
theorem dX1_kindOf_25 : decode cX1_kindOf 25 = .ok (.iconst 4, 1) := by decide +kernel
theorem dX1_kindOf_26 : decode cX1_kindOf 26 = .ok (.imul, 1) := by decide +kernel
theorem dX1_kindOf_27 : decode cX1_kindOf 27 = .ok (.iload_n 1, 1) := by decide +kernel
theorem dX1_kindOf_28 : decode cX1_kindOf 28 = .ok (.iadd, 1) := by decide +kernel
theorem dX1_kindOf_29 : decode cX1_kindOf 29 = .ok (.iaload, 1) := by decide +kernel
theorem dX1_kindOf_30 : decode cX1_kindOf 30 = .ok (.ireturn, 1) := by decide +kernel
set_option maxRecDepth 20000 in
theorem ggX1_numbersOf_X1_kindOf : GoodIn wsX1_numbersOf wsX1_kindOf := goodIn_r _ [4, 5] (by decide +kernel) (by decide +kernel)
set_option maxRecDepth 20000 in
theorem gX1_numbersOf_X1_kindOf : GoodIn wsX1_numbersOf (va_wsS RX1 43 yX1_kindOf wsX1_kindOf) := goodIn_app (goodIn_of _ (by decide +kernel)) ggX1_numbersOf_X1_kindOf
theorem dX1_numbersOf_0 : decode cX1_numbersOf 0 = .ok (.iconst 0, 1) := by decide +kernel
theorem dX1_numbersOf_1 : decode cX1_numbersOf 1 = .ok (.istore_n 1, 1) := by decide +kernel
theorem dX1_numbersOf_2 : decode cX1_numbersOf 2 = .ok (.iload_n 1, 1) := by decide +kernel
theorem dX1_numbersOf_3 : decode cX1_numbersOf 3 = .ok (.iconst 4, 1) := by decide +kernel
theorem dX1_numbersOf_4 : decode cX1_numbersOf 4 = .ok (.if_icmp .ge 17, 3) := by decide +kernel
theorem dX1_numbersOf_7 : decode cX1_numbersOf 7 = .ok (.iload_n 0, 1) := by decide +kernel
theorem dX1_numbersOf_8 : decode cX1_numbersOf 8 = .ok (.iload_n 1, 1) := by decide +kernel
theorem dX1_numbersOf_9 : decode cX1_numbersOf 9 = .ok (.invokestatic 43, 3) := by decide +kernel
theorem dX1_numbersOf_12 : decode cX1_numbersOf 12 = .ok (.ifCond .eq 9, 3) := by decide +kernel
theorem dX1_numbersOf_15 : decode cX1_numbersOf 15 = .ok (.iinc 1 1, 3) := by decide +kernel
theorem dX1_numbersOf_18 : decode cX1_numbersOf 18 = .ok (.goto (-16), 3) := by decide +kernel
theorem dX1_numbersOf_21 : decode cX1_numbersOf 21 = .ok (.iload_n 1, 1) := by decide +kernel
theorem dX1_numbersOf_22 : decode cX1_numbersOf 22 = .ok (.ireturn, 1) := by decide +kernel
theorem dX1_isNumberOf_0 : decode cX1_isNumberOf 0 = .ok (.iload_n 0, 1) := by decide +kernel
theorem dX1_isNumberOf_1 : decode cX1_isNumberOf 1 = .ok (.tableswitch 89 1 4 #[31, 49, 67, 78], 31) := by decide +kernel
theorem dX1_isNumberOf_32 : decode cX1_isNumberOf 32 = .ok (.iload_n 1, 1) := by decide +kernel
theorem dX1_isNumberOf_33 : decode cX1_isNumberOf 33 = .ok (.iconst 4, 1) := by decide +kernel
