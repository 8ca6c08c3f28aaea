theorem dX3_isTaken_4 : decode cX3_isTaken 4 = .ok (.iload_n 1, 1) := by decide +kernel
theorem dX3_isTaken_5 : decode cX3_isTaken 5 = .ok (.iaload, 1) := by decide +kernel
theorem dX3_isTaken_6 : decode cX3_isTaken 6 = .ok (.bipush 14, 2) := by decide +kernel
theorem dX3_isTaken_8 : decode cX3_isTaken 8 = .ok (.iushr, 1) := by decide +kernel
theorem dX3_isTaken_9 : decode cX3_isTaken 9 = .ok (.aload_n 0, 1) := by decide +kernel
theorem dX3_isTaken_10 : decode cX3_isTaken 10 = .ok (.getfield 22, 3) := by decide +kernel
theorem dX3_isTaken_13 : decode cX3_isTaken 13 = .ok (.if_icmp .ne 7, 3) := by decide +kernel
theorem dX3_isTaken_16 : decode cX3_isTaken 16 = .ok (.iconst 1, 1) := by decide +kernel
theorem dX3_isTaken_17 : decode cX3_isTaken 17 = .ok (.goto 4, 3) := by decide +kernel
theorem dX3_isTaken_20 : decode cX3_isTaken 20 = .ok (.iconst 0, 1) := by decide +kernel
theorem dX3_isTaken_21 : decode cX3_isTaken 21 = .ok (.ireturn, 1) := by decide +kernel
theorem dX3_first_0 : decode cX3_first 0 = .ok (.iconst 0, 1) := by decide +kernel
theorem dX3_first_1 : decode cX3_first 1 = .ok (.istore 5, 2) := by decide +kernel
theorem dX3_first_3 : decode cX3_first 3 = .ok (.iload 5, 2) := by decide +kernel
theorem dX3_first_5 : decode cX3_first 5 = .ok (.aload_n 0, 1) := by decide +kernel
theorem dX3_first_6 : decode cX3_first 6 = .ok (.getfield 26, 3) := by decide +kernel
theorem dX3_first_9 : decode cX3_first 9 = .ok (.if_icmp .ge 26, 3) := by decide +kernel
theorem dX3_first_12 : decode cX3_first 12 = .ok (.aload_n 0, 1) := by decide +kernel
theorem dX3_first_13 : decode cX3_first 13 = .ok (.getfield 11, 3) := by decide +kernel
theorem dX3_first_16 : decode cX3_first 16 = .ok (.iload 5, 2) := by decide +kernel
theorem dX3_first_18 : decode cX3_first 18 = .ok (.laload, 1) := by decide +kernel
theorem dX3_first_19 : decode cX3_first 19 = .ok (.lload_n 1, 1) := by decide +kernel
theorem dX3_first_20 : decode cX3_first 20 = .ok (.land, 1) := by decide +kernel
theorem dX3_first_21 : decode cX3_first 21 = .ok (.lload_n 3, 1) := by decide +kernel
theorem dX3_first_22 : decode cX3_first 22 = .ok (.lcmp, 1) := by decide +kernel
theorem dX3_first_23 : decode cX3_first 23 = .ok (.ifCond .ne 6, 3) := by decide +kernel
theorem dX3_first_26 : decode cX3_first 26 = .ok (.iload 5, 2) := by decide +kernel
theorem dX3_first_28 : decode cX3_first 28 = .ok (.ireturn, 1) := by decide +kernel
theorem dX3_first_29 : decode cX3_first 29 = .ok (.iinc 5 1, 3) := by decide +kernel
theorem dX3_first_32 : decode cX3_first 32 = .ok (.goto (-29), 3) := by decide +kernel
theorem dX3_first_35 : decode cX3_first 35 = .ok (.iconst (-1), 1) := by decide +kernel
theorem dX3_first_36 : decode cX3_first 36 = .ok (.ireturn, 1) := by decide +kernel
set_option maxRecDepth 20000 in
theorem ggX3_mostSteps_X3_stepsTo : GoodIn wsX3_mostSteps wsX3_stepsTo := goodIn_r _ [6, 7, 8, 9, 10, 11, 12, 13, 14, 15, 16] (by decide +kernel) (by decide +kernel)
set_option maxRecDepth 20000 in
theorem gX3_mostSteps_X3_stepsTo : GoodIn wsX3_mostSteps (wsV RX3 99 RX3 yX3_stepsTo wsX3_stepsTo) := goodIn_app (goodIn_of _ (by decide +kernel)) ggX3_mostSteps_X3_stepsTo
theorem dX3_mostSteps_0 : decode cX3_mostSteps 0 = .ok (.aload_n 0, 1) := by decide +kernel
theorem dX3_mostSteps_1 : decode cX3_mostSteps 1 = .ok (.aload_n 0, 1) := by decide +kernel
theorem dX3_mostSteps_2 : decode cX3_mostSteps 2 = .ok (.getfield 26, 3) := by decide +kernel
theorem dX3_mostSteps_5 : decode cX3_mostSteps 5 = .ok (.iconst 1, 1) := by decide +kernel
theorem dX3_mostSteps_6 : decode cX3_mostSteps 6 = .ok (.isub, 1) := by decide +kernel
theorem dX3_mostSteps_7 : decode cX3_mostSteps 7 = .ok (.invokevirtual 99, 3) := by decide +kernel
theorem dX3_mostSteps_10 : decode cX3_mostSteps 10 = .ok (.ireturn, 1) := by decide +kernel
theorem dX3_stepsTo_0 : decode cX3_stepsTo 0 = .ok (.iconst 0, 1) := by decide +kernel
theorem dX3_stepsTo_1 : decode cX3_stepsTo 1 = .ok (.istore_n 2, 1) := by decide +kernel
theorem dX3_stepsTo_2 : decode cX3_stepsTo 2 = .ok (.iload_n 1, 1) := by decide +kernel
theorem dX3_stepsTo_3 : decode cX3_stepsTo 3 = .ok (.istore_n 3, 1) := by decide +kernel
theorem dX3_stepsTo_4 : decode cX3_stepsTo 4 = .ok (.iload_n 3, 1) := by decide +kernel
theorem dX3_stepsTo_5 : decode cX3_stepsTo 5 = .ok (.ifCond .le 24, 3) := by decide +kernel
theorem dX3_stepsTo_8 : decode cX3_stepsTo 8 = .ok (.iload_n 2, 1) := by decide +kernel
theorem dX3_stepsTo_9 : decode cX3_stepsTo 9 = .ok (.bipush 32, 2) := by decide +kernel
theorem dX3_stepsTo_11 : decode cX3_stepsTo 11 = .ok (.if_icmp .ge 18, 3) := by decide +kernel
theorem dX3_stepsTo_14 : decode cX3_stepsTo 14 = .ok (.iinc 2 1, 3) := by decide +kernel
theorem dX3_stepsTo_17 : decode cX3_stepsTo 17 = .ok (.aload_n 0, 1) := by decide +kernel
theorem dX3_stepsTo_18 : decode cX3_stepsTo 18 = .ok (.getfield 15, 3) := by decide +kernel
theorem dX3_stepsTo_21 : decode cX3_stepsTo 21 = .ok (.iload_n 3, 1) := by decide +kernel
theorem dX3_stepsTo_22 : decode cX3_stepsTo 22 = .ok (.iaload, 1) := by decide +kernel
theorem dX3_stepsTo_23 : decode cX3_stepsTo 23 = .ok (.iconst 4, 1) := by decide +kernel
theorem dX3_stepsTo_24 : decode cX3_stepsTo 24 = .ok (.iushr, 1) := by decide +kernel
theorem dX3_stepsTo_25 : decode cX3_stepsTo 25 = .ok (.istore_n 3, 1) := by decide +kernel
theorem dX3_stepsTo_26 : decode cX3_stepsTo 26 = .ok (.goto (-22), 3) := by decide +kernel
theorem dX3_stepsTo_29 : decode cX3_stepsTo 29 = .ok (.iload_n 2, 1) := by decide +kernel
theorem dX3_stepsTo_30 : decode cX3_stepsTo 30 = .ok (.ireturn, 1) := by decide +kernel
set_option maxRecDepth 20000 in
theorem ggX3_writeRow_X3_stepsTo : GoodIn wsX3_writeRow wsX3_stepsTo := goodIn_r _ [10, 5, 11, 12, 13, 14, 15, 16, 17, 18, 19] (by decide +kernel) (by decide +kernel)
set_option maxRecDepth 20000 in
theorem gX3_writeRow_X3_stepsTo : GoodIn wsX3_writeRow (wsV RX3 99 RX3 yX3_stepsTo wsX3_stepsTo) := goodIn_app (goodIn_of _ (by decide +kernel)) ggX3_writeRow_X3_stepsTo
theorem dX3_writeRow_0 : decode cX3_writeRow 0 = .ok (.aload_n 0, 1) := by decide +kernel
theorem dX3_writeRow_1 : decode cX3_writeRow 1 = .ok (.iload_n 1, 1) := by decide +kernel
theorem dX3_writeRow_2 : decode cX3_writeRow 2 = .ok (.invokevirtual 99, 3) := by decide +kernel
theorem dX3_writeRow_5 : decode cX3_writeRow 5 = .ok (.istore_n 3, 1) := by decide +kernel
theorem dX3_writeRow_6 : decode cX3_writeRow 6 = .ok (.iload_n 1, 1) := by decide +kernel
theorem dX3_writeRow_7 : decode cX3_writeRow 7 = .ok (.istore 4, 2) := by decide +kernel
theorem dX3_writeRow_9 : decode cX3_writeRow 9 = .ok (.iload_n 3, 1) := by decide +kernel
theorem dX3_writeRow_10 : decode cX3_writeRow 10 = .ok (.aload_n 2, 1) := by decide +kernel
theorem dX3_writeRow_11 : decode cX3_writeRow 11 = .ok (.arraylength, 1) := by decide +kernel
theorem dX3_writeRow_12 : decode cX3_writeRow 12 = .ok (.invokestatic 103, 3) := by decide +kernel
theorem dX3_writeRow_15 : decode cX3_writeRow 15 = .ok (.iconst 1, 1) := by decide +kernel
theorem dX3_writeRow_16 : decode cX3_writeRow 16 = .ok (.isub, 1) := by decide +kernel
theorem dX3_writeRow_17 : decode cX3_writeRow 17 = .ok (.istore 5, 2) := by decide +kernel
theorem dX3_writeRow_19 : decode cX3_writeRow 19 = .ok (.iload 5, 2) := by decide +kernel
theorem dX3_writeRow_21 : decode cX3_writeRow 21 = .ok (.ifCond .lt 34, 3) := by decide +kernel
theorem dX3_writeRow_24 : decode cX3_writeRow 24 = .ok (.aload_n 2, 1) := by decide +kernel
theorem dX3_writeRow_25 : decode cX3_writeRow 25 = .ok (.iload 5, 2) := by decide +kernel
theorem dX3_writeRow_27 : decode cX3_writeRow 27 = .ok (.aload_n 0, 1) := by decide +kernel
theorem dX3_writeRow_28 : decode cX3_writeRow 28 = .ok (.getfield 15, 3) := by decide +kernel
theorem dX3_writeRow_31 : decode cX3_writeRow 31 = .ok (.iload 4, 2) := by decide +kernel
theorem dX3_writeRow_33 : decode cX3_writeRow 33 = .ok (.iaload, 1) := by decide +kernel
theorem dX3_writeRow_34 : decode cX3_writeRow 34 = .ok (.bipush 15, 2) := by decide +kernel
theorem dX3_writeRow_36 : decode cX3_writeRow 36 = .ok (.iand, 1) := by decide +kernel
theorem dX3_writeRow_37 : decode cX3_writeRow 37 = .ok (.iastore, 1) := by decide +kernel
theorem dX3_writeRow_38 : decode cX3_writeRow 38 = .ok (.aload_n 0, 1) := by decide +kernel
theorem dX3_writeRow_39 : decode cX3_writeRow 39 = .ok (.getfield 15, 3) := by decide +kernel
theorem dX3_writeRow_42 : decode cX3_writeRow 42 = .ok (.iload 4, 2) := by decide +kernel
theorem dX3_writeRow_44 : decode cX3_writeRow 44 = .ok (.iaload, 1) := by decide +kernel
theorem dX3_writeRow_45 : decode cX3_writeRow 45 = .ok (.iconst 4, 1) := by decide +kernel
theorem dX3_writeRow_46 : decode cX3_writeRow 46 = .ok (.iushr, 1) := by decide +kernel
theorem dX3_writeRow_47 : decode cX3_writeRow 47 = .ok (.istore 4, 2) := by decide +kernel
theorem dX3_writeRow_49 : decode cX3_writeRow 49 = .ok (.iinc 5 (-1), 3) := by decide +kernel
theorem dX3_writeRow_52 : decode cX3_writeRow 52 = .ok (.goto (-33), 3) := by decide +kernel
theorem dX3_writeRow_55 : decode cX3_writeRow 55 = .ok (.iload_n 3, 1) := by decide +kernel
theorem dX3_writeRow_56 : decode cX3_writeRow 56 = .ok (.ireturn, 1) := by decide +kernel
set_option maxRecDepth 20000 in
theorem ggX4_init_X2_init : GoodIn wsX4_init wsX2_init := goodIn_r _ [29, 30, 2, 3, 31, 32, 33, 34, 72, 73, 74, 75] (by decide +kernel) (by decide +kernel)
set_option maxRecDepth 20000 in
theorem gX4_init_X2_init_n19 : GoodIn wsX4_init (wsX2_init) := ggX4_init_X2_init
set_option maxRecDepth 20000 in
theorem ggX4_init_X1_init : GoodIn wsX4_init wsX1_init := goodIn_r _ [36, 37, 2, 3, 38, 25, 39, 40, 76, 77, 78] (by decide +kernel) (by decide +kernel)
set_option maxRecDepth 20000 in
theorem gX4_init_X1_init_n26 : GoodIn wsX4_init (wsX1_init) := ggX4_init_X1_init
set_option maxRecDepth 20000 in
theorem ggX4_init_X0_init : GoodIn wsX4_init wsX0_init := goodIn_r _ [42, 43, 2, 3, 44, 12, 13, 45, 25, 46, 47, 48, 35, 36, 37, 38, 39, 40, 76, 77, 78, 79, 80, 81, 82] (by decide +kernel) (by decide +kernel)
set_option maxRecDepth 20000 in
theorem gX4_init_X0_init_n36 : GoodIn wsX4_init (wsX0_init) := ggX4_init_X0_init
set_option maxRecDepth 20000 in
theorem ggX4_init_X3_init : GoodIn wsX4_init wsX3_init := goodIn_r _ [50, 51, 2, 3, 52, 53, 25, 54, 55, 56, 57, 58, 59, 60, 61, 83, 84, 85, 86, 87, 88, 89, 90, 91] (by decide +kernel) (by decide +kernel)
set_option maxRecDepth 20000 in
theorem gX4_init_X3_init_n43 : GoodIn wsX4_init (wsX3_init) := ggX4_init_X3_init
theorem dX4_init_0 : decode cX4_init 0 = .ok (.aload_n 0, 1) := by decide +kernel
theorem dX4_init_1 : decode cX4_init 1 = .ok (.invokespecial 1, 3) := by decide +kernel
theorem dX4_init_4 : decode cX4_init 4 = .ok (.aload_n 0, 1) := by decide +kernel
theorem dX4_init_5 : decode cX4_init 5 = .ok (.sipush 200, 3) := by decide +kernel
theorem dX4_init_8 : decode cX4_init 8 = .ok (.newarray .byte, 2) := by decide +kernel
theorem dX4_init_10 : decode cX4_init 10 = .ok (.putfield 9, 3) := by decide +kernel
theorem dX4_init_13 : decode cX4_init 13 = .ok (.aload_n 0, 1) := by decide +kernel
theorem dX4_init_14 : decode cX4_init 14 = .ok (.iconst 0, 1) := by decide +kernel
theorem dX4_init_15 : decode cX4_init 15 = .ok (.putfield 13, 3) := by decide +kernel
theorem dX4_init_18 : decode cX4_init 18 = .ok (.aload_n 0, 1) := by decide +kernel
theorem dX4_init_19 : decode cX4_init 19 = .ok (.new 17, 3) := by decide +kernel
theorem dX4_init_22 : decode cX4_init 22 = .ok (.dup, 1) := by decide +kernel
theorem dX4_init_23 : decode cX4_init 23 = .ok (.invokespecial 19, 3) := by decide +kernel
theorem dX4_init_26 : decode cX4_init 26 = .ok (.putfield 20, 3) := by decide +kernel
theorem dX4_init_29 : decode cX4_init 29 = .ok (.aload_n 0, 1) := by decide +kernel
theorem dX4_init_30 : decode cX4_init 30 = .ok (.new 24, 3) := by decide +kernel
theorem dX4_init_33 : decode cX4_init 33 = .ok (.dup, 1) := by decide +kernel
theorem dX4_init_34 : decode cX4_init 34 = .ok (.invokespecial 26, 3) := by decide +kernel
theorem dX4_init_37 : decode cX4_init 37 = .ok (.putfield 27, 3) := by decide +kernel
theorem dX4_init_40 : decode cX4_init 40 = .ok (.aload_n 0, 1) := by decide +kernel
theorem dX4_init_41 : decode cX4_init 41 = .ok (.new 24, 3) := by decide +kernel
theorem dX4_init_44 : decode cX4_init 44 = .ok (.dup, 1) := by decide +kernel
theorem dX4_init_45 : decode cX4_init 45 = .ok (.invokespecial 26, 3) := by decide +kernel
theorem dX4_init_48 : decode cX4_init 48 = .ok (.putfield 31, 3) := by decide +kernel
theorem dX4_init_51 : decode cX4_init 51 = .ok (.aload_n 0, 1) := by decide +kernel
theorem dX4_init_52 : decode cX4_init 52 = .ok (.new 34, 3) := by decide +kernel
theorem dX4_init_55 : decode cX4_init 55 = .ok (.dup, 1) := by decide +kernel
theorem dX4_init_56 : decode cX4_init 56 = .ok (.invokespecial 36, 3) := by decide +kernel
theorem dX4_init_59 : decode cX4_init 59 = .ok (.putfield 37, 3) := by decide +kernel
theorem dX4_init_62 : decode cX4_init 62 = .ok (.aload_n 0, 1) := by decide +kernel
theorem dX4_init_63 : decode cX4_init 63 = .ok (.new 41, 3) := by decide +kernel
theorem dX4_init_66 : decode cX4_init 66 = .ok (.dup, 1) := by decide +kernel
theorem dX4_init_67 : decode cX4_init 67 = .ok (.invokespecial 43, 3) := by decide +kernel
theorem dX4_init_70 : decode cX4_init 70 = .ok (.putfield 44, 3) := by decide +kernel
theorem dX4_init_73 : decode cX4_init 73 = .ok (.aload_n 0, 1) := by decide +kernel
theorem dX4_init_74 : decode cX4_init 74 = .ok (.iconst 0, 1) := by decide +kernel
theorem dX4_init_75 : decode cX4_init 75 = .ok (.putfield 48, 3) := by decide +kernel
theorem dX4_init_78 : decode cX4_init 78 = .ok (.aload_n 0, 1) := by decide +kernel
theorem dX4_init_79 : decode cX4_init 79 = .ok (.bipush 32, 2) := by decide +kernel
theorem dX4_init_81 : decode cX4_init 81 = .ok (.newarray .int, 2) := by decide +kernel
theorem dX4_init_83 : decode cX4_init 83 = .ok (.putfield 52, 3) := by decide +kernel
theorem dX4_init_86 : decode cX4_init 86 = .ok (.aload_n 0, 1) := by decide +kernel
theorem dX4_init_87 : decode cX4_init 87 = .ok (.iconst 0, 1) := by decide +kernel
theorem dX4_init_88 : decode cX4_init 88 = .ok (.putfield 56, 3) := by decide +kernel
theorem dX4_init_91 : decode cX4_init 91 = .ok (.return_, 1) := by decide +kernel
set_option maxRecDepth 20000 in
theorem ggX4_feed_X4_append : GoodIn wsX4_feed wsX4_append := goodIn_r _ [6, 1, 7, 8, 9, 10, 11, 12, 13, 14, 15, 16, 17] (by decide +kernel) (by decide +kernel)
set_option maxRecDepth 20000 in
theorem gX4_feed_X4_append : GoodIn wsX4_feed (wsV RX4 59 RX4 yX4_append wsX4_append) := goodIn_app (goodIn_of _ (by decide +kernel)) ggX4_feed_X4_append
theorem dX4_feed_0 : decode cX4_feed 0 = .ok (.aload_n 0, 1) := by decide +kernel
theorem dX4_feed_1 : decode cX4_feed 1 = .ok (.getfield 13, 3) := by decide +kernel
theorem dX4_feed_4 : decode cX4_feed 4 = .ok (.bipush 20, 2) := by decide +kernel
theorem dX4_feed_6 : decode cX4_feed 6 = .ok (.iadd, 1) := by decide +kernel
theorem dX4_feed_7 : decode cX4_feed 7 = .ok (.sipush 200, 3) := by decide +kernel
theorem dX4_feed_10 : decode cX4_feed 10 = .ok (.if_icmp .le 5, 3) := by decide +kernel
theorem dX4_feed_13 : decode cX4_feed 13 = .ok (.iconst (-1), 1) := by decide +kernel
theorem dX4_feed_14 : decode cX4_feed 14 = .ok (.ireturn, 1) := by decide +kernel
theorem dX4_feed_15 : decode cX4_feed 15 = .ok (.aload_n 0, 1) := by decide +kernel
theorem dX4_feed_16 : decode cX4_feed 16 = .ok (.iload_n 1, 1) := by decide +kernel
theorem dX4_feed_17 : decode cX4_feed 17 = .ok (.invokevirtual 59, 3) := by decide +kernel
theorem dX4_feed_20 : decode cX4_feed 20 = .ok (.aload_n 0, 1) := by decide +kernel
theorem dX4_feed_21 : decode cX4_feed 21 = .ok (.iload_n 2, 1) := by decide +kernel
theorem dX4_feed_22 : decode cX4_feed 22 = .ok (.invokevirtual 59, 3) := by decide +kernel
theorem dX4_feed_25 : decode cX4_feed 25 = .ok (.aload_n 0, 1) := by decide +kernel
theorem dX4_feed_26 : decode cX4_feed 26 = .ok (.iload_n 3, 1) := by decide +kernel
theorem dX4_feed_27 : decode cX4_feed 27 = .ok (.invokevirtual 59, 3) := by decide +kernel
theorem dX4_feed_30 : decode cX4_feed 30 = .ok (.aload_n 0, 1) := by decide +kernel
theorem dX4_feed_31 : decode cX4_feed 31 = .ok (.iload 4, 2) := by decide +kernel
theorem dX4_feed_33 : decode cX4_feed 33 = .ok (.invokevirtual 59, 3) := by decide +kernel
theorem dX4_feed_36 : decode cX4_feed 36 = .ok (.aload_n 0, 1) := by decide +kernel
theorem dX4_feed_37 : decode cX4_feed 37 = .ok (.iload 5, 2) := by decide +kernel
theorem dX4_feed_39 : decode cX4_feed 39 = .ok (.invokevirtual 59, 3) := by decide +kernel
theorem dX4_feed_42 : decode cX4_feed 42 = .ok (.aload_n 0, 1) := by decide +kernel
theorem dX4_feed_43 : decode cX4_feed 43 = .ok (.getfield 13, 3) := by decide +kernel
theorem dX4_feed_46 : decode cX4_feed 46 = .ok (.ireturn, 1) := by decide +kernel
theorem dX4_append_0 : decode cX4_append 0 = .ok (.bipush 24, 2) := by decide +kernel
theorem dX4_append_2 : decode cX4_append 2 = .ok (.istore_n 2, 1) := by decide +kernel
theorem dX4_append_3 : decode cX4_append 3 = .ok (.iload_n 2, 1) := by decide +kernel
theorem dX4_append_4 : decode cX4_append 4 = .ok (.ifCond .lt 42, 3) := by decide +kernel
theorem dX4_append_7 : decode cX4_append 7 = .ok (.aload_n 0, 1) := by decide +kernel
theorem dX4_append_8 : decode cX4_append 8 = .ok (.getfield 13, 3) := by decide +kernel
theorem dX4_append_11 : decode cX4_append 11 = .ok (.sipush 200, 3) := by decide +kernel
theorem dX4_append_14 : decode cX4_append 14 = .ok (.if_icmp .ge 32, 3) := by decide +kernel
theorem dX4_append_17 : decode cX4_append 17 = .ok (.aload_n 0, 1) := by decide +kernel
theorem dX4_append_18 : decode cX4_append 18 = .ok (.getfield 9, 3) := by decide +kernel
theorem dX4_append_21 : decode cX4_append 21 = .ok (.aload_n 0, 1) := by decide +kernel
theorem dX4_append_22 : decode cX4_append 22 = .ok (.getfield 13, 3) := by decide +kernel
theorem dX4_append_25 : decode cX4_append 25 = .ok (.iload_n 1, 1) := by decide +kernel
theorem dX4_append_26 : decode cX4_append 26 = .ok (.iload_n 2, 1) := by decide +kernel
theorem dX4_append_27 : decode cX4_append 27 = .ok (.iushr, 1) := by decide +kernel
theorem dX4_append_28 : decode cX4_append 28 = .ok (.i2b, 1) := by decide +kernel
theorem dX4_append_29 : decode cX4_append 29 = .ok (.bastore, 1) := by decide +kernel
theorem dX4_append_30 : decode cX4_append 30 = .ok (.aload_n 0, 1) := by decide +kernel
theorem dX4_append_31 : decode cX4_append 31 = .ok (.dup, 1) := by decide +kernel
theorem dX4_append_32 : decode cX4_append 32 = .ok (.getfield 13, 3) := by decide +kernel
theorem dX4_append_35 : decode cX4_append 35 = .ok (.iconst 1, 1) := by decide +kernel
theorem dX4_append_36 : decode cX4_append 36 = .ok (.iadd, 1) := by decide +kernel
theorem dX4_append_37 : decode cX4_append 37 = .ok (.putfield 13, 3) := by decide +kernel
theorem dX4_append_40 : decode cX4_append 40 = .ok (.iinc 2 (-8), 3) := by decide +kernel
theorem dX4_append_43 : decode cX4_append 43 = .ok (.goto (-40), 3) := by decide +kernel
theorem dX4_append_46 : decode cX4_append 46 = .ok (.return_, 1) := by decide +kernel
theorem dX4_end_0 : decode cX4_end 0 = .ok (.iload_n 1, 1) := by decide +kernel
theorem dX4_end_1 : decode cX4_end 1 = .ok (.ifCond .lt 11, 3) := by decide +kernel
theorem dX4_end_4 : decode cX4_end 4 = .ok (.iload_n 1, 1) := by decide +kernel
theorem dX4_end_5 : decode cX4_end 5 = .ok (.aload_n 0, 1) := by decide +kernel
theorem dX4_end_6 : decode cX4_end 6 = .ok (.getfield 13, 3) := by decide +kernel
theorem dX4_end_9 : decode cX4_end 9 = .ok (.if_icmp .le 5, 3) := by decide +kernel
theorem dX4_end_12 : decode cX4_end 12 = .ok (.iconst (-1), 1) := by decide +kernel
theorem dX4_end_13 : decode cX4_end 13 = .ok (.ireturn, 1) := by decide +kernel
theorem dX4_end_14 : decode cX4_end 14 = .ok (.aload_n 0, 1) := by decide +kernel
theorem dX4_end_15 : decode cX4_end 15 = .ok (.iload_n 1, 1) := by decide +kernel
theorem dX4_end_16 : decode cX4_end 16 = .ok (.putfield 13, 3) := by decide +kernel
theorem dX4_end_19 : decode cX4_end 19 = .ok (.iload_n 1, 1) := by decide +kernel
theorem dX4_end_20 : decode cX4_end 20 = .ok (.ireturn, 1) := by decide +kernel
set_option maxRecDepth 20000 in
theorem ggX4_program_X4_isHost : GoodIn wsX4_program wsX4_isHost := goodIn_r _ [13] (by decide +kernel) (by decide +kernel)
set_option maxRecDepth 20000 in
theorem gX4_program_X4_isHost : GoodIn wsX4_program (va_wsS RX4 63 yX4_isHost wsX4_isHost) := goodIn_app (goodIn_of _ (by decide +kernel)) ggX4_program_X4_isHost
set_option maxRecDepth 20000 in
theorem ggX4_program_X2_read : GoodIn wsX4_program wsX2_read := goodIn_r _ [18, 19, 20, 21, 22, 23, 24, 17, 25, 26, 27, 28, 29, 30, 31, 32, 33, 34, 35, 36, 37, 38, 39, 40, 41, 42, 43, 44, 45, 46, 47, 48, 49, 50, 51, 52, 53, 54, 55, 56, 57, 58, 59, 60, 61, 62, 63, 64, 65, 66, 67, 68, 69, 70, 71, 72, 73, 74, 75, 76, 77, 78, 79, 80, 81, 82, 83, 84, 85, 86, 87, 88, 89, 90, 91, 92, 93, 94, 95, 96, 97, 98, 99, 100, 101, 102, 103, 104, 105, 106, 107, 108, 109, 110, 111, 112, 113, 114, 115, 116, 117, 118, 119, 120, 121, 122, 123, 124, 125, 126, 127, 128, 129, 130, 131, 132, 133, 134, 153, 154, 155, 145, 146, 147, 148] (by decide +kernel) (by decide +kernel)
set_option maxRecDepth 20000 in
theorem gX4_program_X2_read : GoodIn wsX4_program (wsV RX4 67 RX2 yX2_read wsX2_read) := goodIn_app (goodIn_of _ (by decide +kernel)) ggX4_program_X2_read
theorem dX4_program_0 : decode cX4_program 0 = .ok (.iload_n 1, 1) := by decide +kernel
theorem dX4_program_1 : decode cX4_program 1 = .ok (.invokestatic 63, 3) := by decide +kernel
theorem dX4_program_4 : decode cX4_program 4 = .ok (.ifCond .ne 5, 3) := by decide +kernel
theorem dX4_program_7 : decode cX4_program 7 = .ok (.iconst (-1), 1) := by decide +kernel
theorem dX4_program_8 : decode cX4_program 8 = .ok (.ireturn, 1) := by decide +kernel
theorem dX4_program_9 : decode cX4_program 9 = .ok (.aload_n 0, 1) := by decide +kernel
theorem dX4_program_10 : decode cX4_program 10 = .ok (.getfield 20, 3) := by decide +kernel
theorem dX4_program_13 : decode cX4_program 13 = .ok (.aload_n 0, 1) := by decide +kernel
theorem dX4_program_14 : decode cX4_program 14 = .ok (.getfield 9, 3) := by decide +kernel
theorem dX4_program_17 : decode cX4_program 17 = .ok (.aload_n 0, 1) := by decide +kernel
theorem dX4_program_18 : decode cX4_program 18 = .ok (.getfield 13, 3) := by decide +kernel
theorem dX4_program_21 : decode cX4_program 21 = .ok (.iload_n 1, 1) := by decide +kernel
theorem dX4_program_22 : decode cX4_program 22 = .ok (.aload_n 0, 1) := by decide +kernel
theorem dX4_program_23 : decode cX4_program 23 = .ok (.getfield 27, 3) := by decide +kernel
theorem dX4_program_26 : decode cX4_program 26 = .ok (.invokevirtual 67, 3) := by decide +kernel
theorem dX4_program_29 : decode cX4_program 29 = .ok (.aload_n 0, 1) := by decide +kernel
theorem dX4_program_30 : decode cX4_program 30 = .ok (.iconst 0, 1) := by decide +kernel
theorem dX4_program_31 : decode cX4_program 31 = .ok (.putfield 13, 3) := by decide +kernel
theorem dX4_program_34 : decode cX4_program 34 = .ok (.aload_n 0, 1) := by decide +kernel
theorem dX4_program_35 : decode cX4_program 35 = .ok (.getfield 20, 3) := by decide +kernel
theorem dX4_program_38 : decode cX4_program 38 = .ok (.getfield 71, 3) := by decide +kernel
theorem dX4_program_41 : decode cX4_program 41 = .ok (.ifCond .eq 5, 3) := by decide +kernel
theorem dX4_program_44 : decode cX4_program 44 = .ok (.iconst (-1), 1) := by decide +kernel
theorem dX4_program_45 : decode cX4_program 45 = .ok (.ireturn, 1) := by decide +kernel
theorem dX4_program_46 : decode cX4_program 46 = .ok (.aload_n 0, 1) := by decide +kernel
theorem dX4_program_47 : decode cX4_program 47 = .ok (.getfield 37, 3) := by decide +kernel
theorem dX4_program_50 : decode cX4_program 50 = .ok (.getfield 74, 3) := by decide +kernel
theorem dX4_program_53 : decode cX4_program 53 = .ok (.iload_n 1, 1) := by decide +kernel
theorem dX4_program_54 : decode cX4_program 54 = .ok (.aaload, 1) := by decide +kernel
theorem dX4_program_55 : decode cX4_program 55 = .ok (.astore_n 2, 1) := by decide +kernel
theorem dX4_program_56 : decode cX4_program 56 = .ok (.aload_n 0, 1) := by decide +kernel
theorem dX4_program_57 : decode cX4_program 57 = .ok (.getfield 37, 3) := by decide +kernel
theorem dX4_program_60 : decode cX4_program 60 = .ok (.getfield 74, 3) := by decide +kernel
theorem dX4_program_63 : decode cX4_program 63 = .ok (.iload_n 1, 1) := by decide +kernel
theorem dX4_program_64 : decode cX4_program 64 = .ok (.aload_n 0, 1) := by decide +kernel
theorem dX4_program_65 : decode cX4_program 65 = .ok (.getfield 27, 3) := by decide +kernel
theorem dX4_program_68 : decode cX4_program 68 = .ok (.aastore, 1) := by decide +kernel
theorem dX4_program_69 : decode cX4_program 69 = .ok (.aload_n 0, 1) := by decide +kernel
theorem dX4_program_70 : decode cX4_program 70 = .ok (.aload_n 2, 1) := by decide +kernel
theorem dX4_program_71 : decode cX4_program 71 = .ok (.putfield 27, 3) := by decide +kernel
