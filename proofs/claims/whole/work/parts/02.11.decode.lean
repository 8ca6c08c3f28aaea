theorem dX3_writeRow_24 : decode cX3_writeRow 24 = .ok (.aload_n 2, 1) := by decide +kernel
theorem dX3_writeRow_25 : decode cX3_writeRow 25 = .ok (.iload 5, 2) := by decide +kernel
theorem dX3_writeRow_27 : decode cX3_writeRow 27 = .ok (.aload_n 0, 1) := by decide +kernel
theorem dX3_writeRow_28 : decode cX3_writeRow 28 = .ok (.getfield 15, 3) := by decide +kernel
theorem dX3_writeRow_31 : decode cX3_writeRow 31 = .ok (.iload 4, 2) := by decide +kernel
theorem dX3_writeRow_33 : decode cX3_writeRow 33 = .ok (.iaload, 1) := by decide +kernel
theorem dX3_writeRow_34 : decode cX3_writeRow 34 = .ok (.bipush 15, 2) := by decide +kernel
theorem dX3_writeRow_36 : decode cX3_writeRow 36 = .ok (.iand, 1) := by decide +kernel
theorem dX3_writeRow_37 : decode cX3_writeRow 37 = .ok (.iastore, 1) := by decide +kernel
theorem dX3_writeRow_38 : decode cX3_writeRow 38 = .ok (.aload_n 0, 1) := by decide +kernel
theorem dX3_writeRow_39 : decode cX3_writeRow 39 = .ok (.getfield 15, 3) := by decide +kernel
theorem dX3_writeRow_42 : decode cX3_writeRow 42 = .ok (.iload 4, 2) := by decide +kernel
theorem dX3_writeRow_44 : decode cX3_writeRow 44 = .ok (.iaload, 1) := by decide +kernel
theorem dX3_writeRow_45 : decode cX3_writeRow 45 = .ok (.iconst 4, 1) := by decide +kernel
theorem dX3_writeRow_46 : decode cX3_writeRow 46 = .ok (.iushr, 1) := by decide +kernel
theorem dX3_writeRow_47 : decode cX3_writeRow 47 = .ok (.istore 4, 2) := by decide +kernel
theorem dX3_writeRow_49 : decode cX3_writeRow 49 = .ok (.iinc 5 (-1), 3) := by decide +kernel
theorem dX3_writeRow_52 : decode cX3_writeRow 52 = .ok (.goto (-33), 3) := by decide +kernel
theorem dX3_writeRow_55 : decode cX3_writeRow 55 = .ok (.iload_n 3, 1) := by decide +kernel
theorem dX3_writeRow_56 : decode cX3_writeRow 56 = .ok (.ireturn, 1) := by decide +kernel
theorem dX4_init_0 : decode cX4_init 0 = .ok (.aload_n 0, 1) := by decide +kernel
theorem dX4_init_1 : decode cX4_init 1 = .ok (.invokespecial 1, 3) := by decide +kernel
theorem dX4_init_4 : decode cX4_init 4 = .ok (.aload_n 0, 1) := by decide +kernel
theorem dX4_init_5 : decode cX4_init 5 = .ok (.sipush 200, 3) := by decide +kernel
theorem dX4_init_8 : decode cX4_init 8 = .ok (.newarray .byte, 2) := by decide +kernel
theorem dX4_init_10 : decode cX4_init 10 = .ok (.putfield 9, 3) := by decide +kernel
theorem dX4_init_13 : decode cX4_init 13 = .ok (.aload_n 0, 1) := by decide +kernel
theorem dX4_init_14 : decode cX4_init 14 = .ok (.iconst 0, 1) := by decide +kernel
theorem dX4_init_15 : decode cX4_init 15 = .ok (.putfield 13, 3) := by decide +kernel
theorem dX4_init_18 : decode cX4_init 18 = .ok (.aload_n 0, 1) := by decide +kernel
theorem dX4_init_19 : decode cX4_init 19 = .ok (.new 17, 3) := by decide +kernel
theorem dX4_init_22 : decode cX4_init 22 = .ok (.dup, 1) := by decide +kernel
theorem dX4_init_23 : decode cX4_init 23 = .ok (.invokespecial 19, 3) := by decide +kernel
theorem dX4_init_26 : decode cX4_init 26 = .ok (.putfield 20, 3) := by decide +kernel
theorem dX4_init_29 : decode cX4_init 29 = .ok (.aload_n 0, 1) := by decide +kernel
theorem dX4_init_30 : decode cX4_init 30 = .ok (.new 24, 3) := by decide +kernel
theorem dX4_init_33 : decode cX4_init 33 = .ok (.dup, 1) := by decide +kernel
theorem dX4_init_34 : decode cX4_init 34 = .ok (.invokespecial 26, 3) := by decide +kernel
theorem dX4_init_37 : decode cX4_init 37 = .ok (.putfield 27, 3) := by decide +kernel
theorem dX4_init_40 : decode cX4_init 40 = .ok (.aload_n 0, 1) := by decide +kernel
theorem dX4_init_41 : decode cX4_init 41 = .ok (.new 24, 3) := by decide +kernel
theorem dX4_init_44 : decode cX4_init 44 = .ok (.dup, 1) := by decide +kernel
theorem dX4_init_45 : decode cX4_init 45 = .ok (.invokespecial 26, 3) := by decide +kernel
theorem dX4_init_48 : decode cX4_init 48 = .ok (.putfield 31, 3) := by decide +kernel
theorem dX4_init_51 : decode cX4_init 51 = .ok (.aload_n 0, 1) := by decide +kernel
theorem dX4_init_52 : decode cX4_init 52 = .ok (.new 34, 3) := by decide +kernel
theorem dX4_init_55 : decode cX4_init 55 = .ok (.dup, 1) := by decide +kernel
theorem dX4_init_56 : decode cX4_init 56 = .ok (.invokespecial 36, 3) := by decide +kernel
theorem dX4_init_59 : decode cX4_init 59 = .ok (.putfield 37, 3) := by decide +kernel
theorem dX4_init_62 : decode cX4_init 62 = .ok (.aload_n 0, 1) := by decide +kernel
theorem dX4_init_63 : decode cX4_init 63 = .ok (.new 41, 3) := by decide +kernel
theorem dX4_init_66 : decode cX4_init 66 = .ok (.dup, 1) := by decide +kernel
theorem dX4_init_67 : decode cX4_init 67 = .ok (.invokespecial 43, 3) := by decide +kernel
theorem dX4_init_70 : decode cX4_init 70 = .ok (.putfield 44, 3) := by decide +kernel
theorem dX4_init_73 : decode cX4_init 73 = .ok (.aload_n 0, 1) := by decide +kernel
theorem dX4_init_74 : decode cX4_init 74 = .ok (.iconst 0, 1) := by decide +kernel
theorem dX4_init_75 : decode cX4_init 75 = .ok (.putfield 48, 3) := by decide +kernel
theorem dX4_init_78 : decode cX4_init 78 = .ok (.aload_n 0, 1) := by decide +kernel
theorem dX4_init_79 : decode cX4_init 79 = .ok (.bipush 32, 2) := by decide +kernel
theorem dX4_init_81 : decode cX4_init 81 = .ok (.newarray .int, 2) := by decide +kernel
theorem dX4_init_83 : decode cX4_init 83 = .ok (.putfield 52, 3) := by decide +kernel
theorem dX4_init_86 : decode cX4_init 86 = .ok (.aload_n 0, 1) := by decide +kernel
theorem dX4_init_87 : decode cX4_init 87 = .ok (.iconst 0, 1) := by decide +kernel
theorem dX4_init_88 : decode cX4_init 88 = .ok (.putfield 56, 3) := by decide +kernel
theorem dX4_init_91 : decode cX4_init 91 = .ok (.return_, 1) := by decide +kernel
theorem dX4_feed_0 : decode cX4_feed 0 = .ok (.aload_n 0, 1) := by decide +kernel
theorem dX4_feed_1 : decode cX4_feed 1 = .ok (.getfield 13, 3) := by decide +kernel
theorem dX4_feed_4 : decode cX4_feed 4 = .ok (.bipush 20, 2) := by decide +kernel
theorem dX4_feed_6 : decode cX4_feed 6 = .ok (.iadd, 1) := by decide +kernel
theorem dX4_feed_7 : decode cX4_feed 7 = .ok (.sipush 200, 3) := by decide +kernel
theorem dX4_feed_10 : decode cX4_feed 10 = .ok (.if_icmp .le 5, 3) := by decide +kernel
theorem dX4_feed_13 : decode cX4_feed 13 = .ok (.iconst (-1), 1) := by decide +kernel
theorem dX4_feed_14 : decode cX4_feed 14 = .ok (.ireturn, 1) := by decide +kernel
theorem dX4_feed_15 : decode cX4_feed 15 = .ok (.aload_n 0, 1) := by decide +kernel
theorem dX4_feed_16 : decode cX4_feed 16 = .ok (.iload_n 1, 1) := by decide +kernel
theorem dX4_feed_17 : decode cX4_feed 17 = .ok (.invokevirtual 59, 3) := by decide +kernel
theorem dX4_feed_20 : decode cX4_feed 20 = .ok (.aload_n 0, 1) := by decide +kernel
theorem dX4_feed_21 : decode cX4_feed 21 = .ok (.iload_n 2, 1) := by decide +kernel
theorem dX4_feed_22 : decode cX4_feed 22 = .ok (.invokevirtual 59, 3) := by decide +kernel
theorem dX4_feed_25 : decode cX4_feed 25 = .ok (.aload_n 0, 1) := by decide +kernel
theorem dX4_feed_26 : decode cX4_feed 26 = .ok (.iload_n 3, 1) := by decide +kernel
theorem dX4_feed_27 : decode cX4_feed 27 = .ok (.invokevirtual 59, 3) := by decide +kernel
theorem dX4_feed_30 : decode cX4_feed 30 = .ok (.aload_n 0, 1) := by decide +kernel
theorem dX4_feed_31 : decode cX4_feed 31 = .ok (.iload 4, 2) := by decide +kernel
theorem dX4_feed_33 : decode cX4_feed 33 = .ok (.invokevirtual 59, 3) := by decide +kernel
theorem dX4_feed_36 : decode cX4_feed 36 = .ok (.aload_n 0, 1) := by decide +kernel
theorem dX4_feed_37 : decode cX4_feed 37 = .ok (.iload 5, 2) := by decide +kernel
theorem dX4_feed_39 : decode cX4_feed 39 = .ok (.invokevirtual 59, 3) := by decide +kernel
theorem dX4_feed_42 : decode cX4_feed 42 = .ok (.aload_n 0, 1) := by decide +kernel
theorem dX4_feed_43 : decode cX4_feed 43 = .ok (.getfield 13, 3) := by decide +kernel
theorem dX4_feed_46 : decode cX4_feed 46 = .ok (.ireturn, 1) := by decide +kernel
theorem dX4_append_0 : decode cX4_append 0 = .ok (.bipush 24, 2) := by decide +kernel
theorem dX4_append_2 : decode cX4_append 2 = .ok (.istore_n 2, 1) := by decide +kernel
theorem dX4_append_3 : decode cX4_append 3 = .ok (.iload_n 2, 1) := by decide +kernel
theorem dX4_append_4 : decode cX4_append 4 = .ok (.ifCond .lt 42, 3) := by decide +kernel
theorem dX4_append_7 : decode cX4_append 7 = .ok (.aload_n 0, 1) := by decide +kernel
theorem dX4_append_8 : decode cX4_append 8 = .ok (.getfield 13, 3) := by decide +kernel
theorem dX4_append_11 : decode cX4_append 11 = .ok (.sipush 200, 3) := by decide +kernel
theorem dX4_append_14 : decode cX4_append 14 = .ok (.if_icmp .ge 32, 3) := by decide +kernel
theorem dX4_append_17 : decode cX4_append 17 = .ok (.aload_n 0, 1) := by decide +kernel
theorem dX4_append_18 : decode cX4_append 18 = .ok (.getfield 9, 3) := by decide +kernel
theorem dX4_append_21 : decode cX4_append 21 = .ok (.aload_n 0, 1) := by decide +kernel
theorem dX4_append_22 : decode cX4_append 22 = .ok (.getfield 13, 3) := by decide +kernel
theorem dX4_append_25 : decode cX4_append 25 = .ok (.iload_n 1, 1) := by decide +kernel
theorem dX4_append_26 : decode cX4_append 26 = .ok (.iload_n 2, 1) := by decide +kernel
theorem dX4_append_27 : decode cX4_append 27 = .ok (.iushr, 1) := by decide +kernel
theorem dX4_append_28 : decode cX4_append 28 = .ok (.i2b, 1) := by decide +kernel
theorem dX4_append_29 : decode cX4_append 29 = .ok (.bastore, 1) := by decide +kernel
theorem dX4_append_30 : decode cX4_append 30 = .ok (.aload_n 0, 1) := by decide +kernel
theorem dX4_append_31 : decode cX4_append 31 = .ok (.dup, 1) := by decide +kernel
theorem dX4_append_32 : decode cX4_append 32 = .ok (.getfield 13, 3) := by decide +kernel
theorem dX4_append_35 : decode cX4_append 35 = .ok (.iconst 1, 1) := by decide +kernel
theorem dX4_append_36 : decode cX4_append 36 = .ok (.iadd, 1) := by decide +kernel
theorem dX4_append_37 : decode cX4_append 37 = .ok (.putfield 13, 3) := by decide +kernel
theorem dX4_append_40 : decode cX4_append 40 = .ok (.iinc 2 (-8), 3) := by decide +kernel
theorem dX4_append_43 : decode cX4_append 43 = .ok (.goto (-40), 3) := by decide +kernel
theorem dX4_append_46 : decode cX4_append 46 = .ok (.return_, 1) := by decide +kernel
theorem dX4_end_0 : decode cX4_end 0 = .ok (.iload_n 1, 1) := by decide +kernel
theorem dX4_end_1 : decode cX4_end 1 = .ok (.ifCond .lt 11, 3) := by decide +kernel
theorem dX4_end_4 : decode cX4_end 4 = .ok (.iload_n 1, 1) := by decide +kernel
theorem dX4_end_5 : decode cX4_end 5 = .ok (.aload_n 0, 1) := by decide +kernel
theorem dX4_end_6 : decode cX4_end 6 = .ok (.getfield 13, 3) := by decide +kernel
theorem dX4_end_9 : decode cX4_end 9 = .ok (.if_icmp .le 5, 3) := by decide +kernel
theorem dX4_end_12 : decode cX4_end 12 = .ok (.iconst (-1), 1) := by decide +kernel
theorem dX4_end_13 : decode cX4_end 13 = .ok (.ireturn, 1) := by decide +kernel
theorem dX4_end_14 : decode cX4_end 14 = .ok (.aload_n 0, 1) := by decide +kernel
theorem dX4_end_15 : decode cX4_end 15 = .ok (.iload_n 1, 1) := by decide +kernel
theorem dX4_end_16 : decode cX4_end 16 = .ok (.putfield 13, 3) := by decide +kernel
theorem dX4_end_19 : decode cX4_end 19 = .ok (.iload_n 1, 1) := by decide +kernel
theorem dX4_end_20 : decode cX4_end 20 = .ok (.ireturn, 1) := by decide +kernel
theorem dX4_program_0 : decode cX4_program 0 = .ok (.iload_n 1, 1) := by decide +kernel
theorem dX4_program_1 : decode cX4_program 1 = .ok (.invokestatic 63, 3) := by decide +kernel
theorem dX4_program_4 : decode cX4_program 4 = .ok (.ifCond .ne 5, 3) := by decide +kernel
theorem dX4_program_7 : decode cX4_program 7 = .ok (.iconst (-1), 1) := by decide +kernel
theorem dX4_program_8 : decode cX4_program 8 = .ok (.ireturn, 1) := by decide +kernel
theorem dX4_program_9 : decode cX4_program 9 = .ok (.aload_n 0, 1) := by decide +kernel
theorem dX4_program_10 : decode cX4_program 10 = .ok (.getfield 20, 3) := by decide +kernel
theorem dX4_program_13 : decode cX4_program 13 = .ok (.aload_n 0, 1) := by decide +kernel
theorem dX4_program_14 : decode cX4_program 14 = .ok (.getfield 9, 3) := by decide +kernel
theorem dX4_program_17 : decode cX4_program 17 = .ok (.aload_n 0, 1) := by decide +kernel
theorem dX4_program_18 : decode cX4_program 18 = .ok (.getfield 13, 3) := by decide +kernel
theorem dX4_program_21 : decode cX4_program 21 = .ok (.iload_n 1, 1) := by decide +kernel
theorem dX4_program_22 : decode cX4_program 22 = .ok (.aload_n 0, 1) := by decide +kernel
theorem dX4_program_23 : decode cX4_program 23 = .ok (.getfield 27, 3) := by decide +kernel
theorem dX4_program_26 : decode cX4_program 26 = .ok (.invokevirtual 67, 3) := by decide +kernel
theorem dX4_program_29 : decode cX4_program 29 = .ok (.aload_n 0, 1) := by decide +kernel
theorem dX4_program_30 : decode cX4_program 30 = .ok (.iconst 0, 1) := by decide +kernel
theorem dX4_program_31 : decode cX4_program 31 = .ok (.putfield 13, 3) := by decide +kernel
theorem dX4_program_34 : decode cX4_program 34 = .ok (.aload_n 0, 1) := by decide +kernel
theorem dX4_program_35 : decode cX4_program 35 = .ok (.getfield 20, 3) := by decide +kernel
theorem dX4_program_38 : decode cX4_program 38 = .ok (.getfield 71, 3) := by decide +kernel
theorem dX4_program_41 : decode cX4_program 41 = .ok (.ifCond .eq 5, 3) := by decide +kernel
theorem dX4_program_44 : decode cX4_program 44 = .ok (.iconst (-1), 1) := by decide +kernel
theorem dX4_program_45 : decode cX4_program 45 = .ok (.ireturn, 1) := by decide +kernel
theorem dX4_program_46 : decode cX4_program 46 = .ok (.aload_n 0, 1) := by decide +kernel
theorem dX4_program_47 : decode cX4_program 47 = .ok (.getfield 37, 3) := by decide +kernel
theorem dX4_program_50 : decode cX4_program 50 = .ok (.getfield 74, 3) := by decide +kernel
theorem dX4_program_53 : decode cX4_program 53 = .ok (.iload_n 1, 1) := by decide +kernel
theorem dX4_program_54 : decode cX4_program 54 = .ok (.aaload, 1) := by decide +kernel
theorem dX4_program_55 : decode cX4_program 55 = .ok (.astore_n 2, 1) := by decide +kernel
theorem dX4_program_56 : decode cX4_program 56 = .ok (.aload_n 0, 1) := by decide +kernel
theorem dX4_program_57 : decode cX4_program 57 = .ok (.getfield 37, 3) := by decide +kernel
theorem dX4_program_60 : decode cX4_program 60 = .ok (.getfield 74, 3) := by decide +kernel
theorem dX4_program_63 : decode cX4_program 63 = .ok (.iload_n 1, 1) := by decide +kernel
theorem dX4_program_64 : decode cX4_program 64 = .ok (.aload_n 0, 1) := by decide +kernel
theorem dX4_program_65 : decode cX4_program 65 = .ok (.getfield 27, 3) := by decide +kernel
theorem dX4_program_68 : decode cX4_program 68 = .ok (.aastore, 1) := by decide +kernel
theorem dX4_program_69 : decode cX4_program 69 = .ok (.aload_n 0, 1) := by decide +kernel
theorem dX4_program_70 : decode cX4_program 70 = .ok (.aload_n 2, 1) := by decide +kernel
theorem dX4_program_71 : decode cX4_program 71 = .ok (.putfield 27, 3) := by decide +kernel
theorem dX4_program_74 : decode cX4_program 74 = .ok (.aload_n 0, 1) := by decide +kernel
theorem dX4_program_75 : decode cX4_program 75 = .ok (.iconst 0, 1) := by decide +kernel
theorem dX4_program_76 : decode cX4_program 76 = .ok (.putfield 48, 3) := by decide +kernel
theorem dX4_program_79 : decode cX4_program 79 = .ok (.aload_n 0, 1) := by decide +kernel
theorem dX4_program_80 : decode cX4_program 80 = .ok (.getfield 37, 3) := by decide +kernel
theorem dX4_program_83 : decode cX4_program 83 = .ok (.getfield 74, 3) := by decide +kernel
theorem dX4_program_86 : decode cX4_program 86 = .ok (.iload_n 1, 1) := by decide +kernel
theorem dX4_program_87 : decode cX4_program 87 = .ok (.aaload, 1) := by decide +kernel
theorem dX4_program_88 : decode cX4_program 88 = .ok (.getfield 78, 3) := by decide +kernel
theorem dX4_program_91 : decode cX4_program 91 = .ok (.ireturn, 1) := by decide +kernel
theorem dX4_fault_0 : decode cX4_fault 0 = .ok (.iload_n 1, 1) := by decide +kernel
theorem dX4_fault_1 : decode cX4_fault 1 = .ok (.ifCond .ne 11, 3) := by decide +kernel
theorem dX4_fault_4 : decode cX4_fault 4 = .ok (.aload_n 0, 1) := by decide +kernel
theorem dX4_fault_5 : decode cX4_fault 5 = .ok (.getfield 20, 3) := by decide +kernel
theorem dX4_fault_8 : decode cX4_fault 8 = .ok (.getfield 71, 3) := by decide +kernel
theorem dX4_fault_11 : decode cX4_fault 11 = .ok (.ireturn, 1) := by decide +kernel
theorem dX4_fault_12 : decode cX4_fault 12 = .ok (.iload_n 1, 1) := by decide +kernel
theorem dX4_fault_13 : decode cX4_fault 13 = .ok (.iconst 1, 1) := by decide +kernel
theorem dX4_fault_14 : decode cX4_fault 14 = .ok (.if_icmp .ne 13, 3) := by decide +kernel
theorem dX4_fault_17 : decode cX4_fault 17 = .ok (.aload_n 0, 1) := by decide +kernel
theorem dX4_fault_18 : decode cX4_fault 18 = .ok (.getfield 20, 3) := by decide +kernel
theorem dX4_fault_21 : decode cX4_fault 21 = .ok (.getfield 81, 3) := by decide +kernel
theorem dX4_fault_24 : decode cX4_fault 24 = .ok (.goto 4, 3) := by decide +kernel
theorem dX4_fault_27 : decode cX4_fault 27 = .ok (.iconst (-1), 1) := by decide +kernel
theorem dX4_fault_28 : decode cX4_fault 28 = .ok (.ireturn, 1) := by decide +kernel
theorem dX4_word_0 : decode cX4_word 0 = .ok (.iload_n 1, 1) := by decide +kernel
theorem dX4_word_1 : decode cX4_word 1 = .ok (.ifCond .lt 27, 3) := by decide +kernel
theorem dX4_word_4 : decode cX4_word 4 = .ok (.iload_n 1, 1) := by decide +kernel
theorem dX4_word_5 : decode cX4_word 5 = .ok (.iconst 4, 1) := by decide +kernel
theorem dX4_word_6 : decode cX4_word 6 = .ok (.if_icmp .ge 22, 3) := by decide +kernel
theorem dX4_word_9 : decode cX4_word 9 = .ok (.iload_n 2, 1) := by decide +kernel
theorem dX4_word_10 : decode cX4_word 10 = .ok (.ifCond .lt 18, 3) := by decide +kernel
theorem dX4_word_13 : decode cX4_word 13 = .ok (.iload_n 2, 1) := by decide +kernel
theorem dX4_word_14 : decode cX4_word 14 = .ok (.iconst 4, 1) := by decide +kernel
theorem dX4_word_15 : decode cX4_word 15 = .ok (.if_icmp .ge 13, 3) := by decide +kernel
theorem dX4_word_18 : decode cX4_word 18 = .ok (.iload_n 3, 1) := by decide +kernel
theorem dX4_word_19 : decode cX4_word 19 = .ok (.ifCond .lt 9, 3) := by decide +kernel
theorem dX4_word_22 : decode cX4_word 22 = .ok (.iload_n 3, 1) := by decide +kernel
theorem dX4_word_23 : decode cX4_word 23 = .ok (.bipush 7, 2) := by decide +kernel
theorem dX4_word_25 : decode cX4_word 25 = .ok (.if_icmp .le 5, 3) := by decide +kernel
theorem dX4_word_28 : decode cX4_word 28 = .ok (.iconst 0, 1) := by decide +kernel
theorem dX4_word_29 : decode cX4_word 29 = .ok (.ireturn, 1) := by decide +kernel
theorem dX4_word_30 : decode cX4_word 30 = .ok (.aload_n 0, 1) := by decide +kernel
theorem dX4_word_31 : decode cX4_word 31 = .ok (.getfield 37, 3) := by decide +kernel
theorem dX4_word_34 : decode cX4_word 34 = .ok (.getfield 84, 3) := by decide +kernel
theorem dX4_word_37 : decode cX4_word 37 = .ok (.iload_n 1, 1) := by decide +kernel
theorem dX4_word_38 : decode cX4_word 38 = .ok (.iload_n 2, 1) := by decide +kernel
theorem dX4_word_39 : decode cX4_word 39 = .ok (.iastore, 1) := by decide +kernel
theorem dX4_word_40 : decode cX4_word 40 = .ok (.aload_n 0, 1) := by decide +kernel
theorem dX4_word_41 : decode cX4_word 41 = .ok (.getfield 37, 3) := by decide +kernel
theorem dX4_word_44 : decode cX4_word 44 = .ok (.getfield 87, 3) := by decide +kernel
theorem dX4_word_47 : decode cX4_word 47 = .ok (.iload_n 1, 1) := by decide +kernel
theorem dX4_word_48 : decode cX4_word 48 = .ok (.iload_n 3, 1) := by decide +kernel
theorem dX4_word_49 : decode cX4_word 49 = .ok (.iastore, 1) := by decide +kernel
theorem dX4_word_50 : decode cX4_word 50 = .ok (.aload_n 0, 1) := by decide +kernel
theorem dX4_word_51 : decode cX4_word 51 = .ok (.iconst 0, 1) := by decide +kernel
theorem dX4_word_52 : decode cX4_word 52 = .ok (.putfield 48, 3) := by decide +kernel
theorem dX4_word_55 : decode cX4_word 55 = .ok (.iconst 1, 1) := by decide +kernel
theorem dX4_word_56 : decode cX4_word 56 = .ok (.ireturn, 1) := by decide +kernel
theorem dX4_falls_0 : decode cX4_falls 0 = .ok (.aload_n 0, 1) := by decide +kernel
theorem dX4_falls_1 : decode cX4_falls 1 = .ok (.getfield 37, 3) := by decide +kernel
theorem dX4_falls_4 : decode cX4_falls 4 = .ok (.iload_n 1, 1) := by decide +kernel
theorem dX4_falls_5 : decode cX4_falls 5 = .ok (.putfield 90, 3) := by decide +kernel
theorem dX4_falls_8 : decode cX4_falls 8 = .ok (.aload_n 0, 1) := by decide +kernel
theorem dX4_falls_9 : decode cX4_falls 9 = .ok (.iconst 0, 1) := by decide +kernel
theorem dX4_falls_10 : decode cX4_falls 10 = .ok (.putfield 48, 3) := by decide +kernel
theorem dX4_falls_13 : decode cX4_falls 13 = .ok (.return_, 1) := by decide +kernel
theorem dX4_walk_0 : decode cX4_walk 0 = .ok (.aload_n 0, 1) := by decide +kernel
theorem dX4_walk_1 : decode cX4_walk 1 = .ok (.invokevirtual 93, 3) := by decide +kernel
theorem dX4_walk_4 : decode cX4_walk 4 = .ok (.ifCond .eq 13, 3) := by decide +kernel
theorem dX4_walk_7 : decode cX4_walk 7 = .ok (.aload_n 0, 1) := by decide +kernel
theorem dX4_walk_8 : decode cX4_walk 8 = .ok (.getfield 44, 3) := by decide +kernel
theorem dX4_walk_11 : decode cX4_walk 11 = .ok (.getfield 97, 3) := by decide +kernel
theorem dX4_walk_14 : decode cX4_walk 14 = .ok (.goto 5, 3) := by decide +kernel
theorem dX4_walk_17 : decode cX4_walk 17 = .ok (.bipush (-2), 2) := by decide +kernel
theorem dX4_walk_19 : decode cX4_walk 19 = .ok (.ireturn, 1) := by decide +kernel
theorem dX4_ends_0 : decode cX4_ends 0 = .ok (.iload_n 1, 1) := by decide +kernel
theorem dX4_ends_1 : decode cX4_ends 1 = .ok (.ifCond .lt 8, 3) := by decide +kernel
theorem dX4_ends_4 : decode cX4_ends 4 = .ok (.iload_n 1, 1) := by decide +kernel
theorem dX4_ends_5 : decode cX4_ends 5 = .ok (.iconst 3, 1) := by decide +kernel
theorem dX4_ends_6 : decode cX4_ends 6 = .ok (.if_icmp .le 5, 3) := by decide +kernel
theorem dX4_ends_9 : decode cX4_ends 9 = .ok (.iconst (-1), 1) := by decide +kernel
theorem dX4_ends_10 : decode cX4_ends 10 = .ok (.ireturn, 1) := by decide +kernel
theorem dX4_ends_11 : decode cX4_ends 11 = .ok (.aload_n 0, 1) := by decide +kernel
theorem dX4_ends_12 : decode cX4_ends 12 = .ok (.invokevirtual 93, 3) := by decide +kernel
theorem dX4_ends_15 : decode cX4_ends 15 = .ok (.ifCond .ne 6, 3) := by decide +kernel
theorem dX4_ends_18 : decode cX4_ends 18 = .ok (.bipush (-2), 2) := by decide +kernel
theorem dX4_ends_20 : decode cX4_ends 20 = .ok (.ireturn, 1) := by decide +kernel
theorem dX4_ends_21 : decode cX4_ends 21 = .ok (.iload_n 1, 1) := by decide +kernel
theorem dX4_ends_22 : decode cX4_ends 22 = .ok (.tableswitch 50 0 2 #[26, 34, 42], 26) := by decide +kernel
theorem dX4_ends_48 : decode cX4_ends 48 = .ok (.aload_n 0, 1) := by decide +kernel
theorem dX4_ends_49 : decode cX4_ends 49 = .ok (.getfield 44, 3) := by decide +kernel
theorem dX4_ends_52 : decode cX4_ends 52 = .ok (.getfield 100, 3) := by decide +kernel
theorem dX4_ends_55 : decode cX4_ends 55 = .ok (.ireturn, 1) := by decide +kernel
theorem dX4_ends_56 : decode cX4_ends 56 = .ok (.aload_n 0, 1) := by decide +kernel
theorem dX4_ends_57 : decode cX4_ends 57 = .ok (.getfield 44, 3) := by decide +kernel
theorem dX4_ends_60 : decode cX4_ends 60 = .ok (.getfield 103, 3) := by decide +kernel
theorem dX4_ends_63 : decode cX4_ends 63 = .ok (.ireturn, 1) := by decide +kernel
theorem dX4_ends_64 : decode cX4_ends 64 = .ok (.aload_n 0, 1) := by decide +kernel
theorem dX4_ends_65 : decode cX4_ends 65 = .ok (.getfield 44, 3) := by decide +kernel
theorem dX4_ends_68 : decode cX4_ends 68 = .ok (.getfield 106, 3) := by decide +kernel
theorem dX4_ends_71 : decode cX4_ends 71 = .ok (.ireturn, 1) := by decide +kernel
theorem dX4_ends_72 : decode cX4_ends 72 = .ok (.aload_n 0, 1) := by decide +kernel
theorem dX4_ends_73 : decode cX4_ends 73 = .ok (.getfield 44, 3) := by decide +kernel
theorem dX4_ends_76 : decode cX4_ends 76 = .ok (.invokevirtual 109, 3) := by decide +kernel
theorem dX4_ends_79 : decode cX4_ends 79 = .ok (.ireturn, 1) := by decide +kernel
theorem dX4_both_0 : decode cX4_both 0 = .ok (.aload_n 0, 1) := by decide +kernel
theorem dX4_both_1 : decode cX4_both 1 = .ok (.iload_n 1, 1) := by decide +kernel
theorem dX4_both_2 : decode cX4_both 2 = .ok (.iload_n 2, 1) := by decide +kernel
theorem dX4_both_3 : decode cX4_both 3 = .ok (.invokevirtual 113, 3) := by decide +kernel
theorem dX4_both_6 : decode cX4_both 6 = .ok (.ifCond .ne 5, 3) := by decide +kernel
theorem dX4_both_9 : decode cX4_both 9 = .ok (.iconst (-1), 1) := by decide +kernel
theorem dX4_both_10 : decode cX4_both 10 = .ok (.ireturn, 1) := by decide +kernel
theorem dX4_both_11 : decode cX4_both 11 = .ok (.aload_n 0, 1) := by decide +kernel
theorem dX4_both_12 : decode cX4_both 12 = .ok (.invokevirtual 93, 3) := by decide +kernel
theorem dX4_both_15 : decode cX4_both 15 = .ok (.ifCond .eq 13, 3) := by decide +kernel
theorem dX4_both_18 : decode cX4_both 18 = .ok (.aload_n 0, 1) := by decide +kernel
theorem dX4_both_19 : decode cX4_both 19 = .ok (.iconst 0, 1) := by decide +kernel
theorem dX4_both_20 : decode cX4_both 20 = .ok (.iload_n 1, 1) := by decide +kernel
theorem dX4_both_21 : decode cX4_both 21 = .ok (.iload_n 2, 1) := by decide +kernel
theorem dX4_both_22 : decode cX4_both 22 = .ok (.invokevirtual 117, 3) := by decide +kernel
theorem dX4_both_25 : decode cX4_both 25 = .ok (.goto 5, 3) := by decide +kernel
theorem dX4_both_28 : decode cX4_both 28 = .ok (.bipush (-2), 2) := by decide +kernel
theorem dX4_both_30 : decode cX4_both 30 = .ok (.ireturn, 1) := by decide +kernel
theorem dX4_outcome_0 : decode cX4_outcome 0 = .ok (.iload_n 1, 1) := by decide +kernel
theorem dX4_outcome_1 : decode cX4_outcome 1 = .ok (.iload_n 2, 1) := by decide +kernel
theorem dX4_outcome_2 : decode cX4_outcome 2 = .ok (.invokestatic 121, 3) := by decide +kernel
theorem dX4_outcome_5 : decode cX4_outcome 5 = .ok (.ifCond .ne 5, 3) := by decide +kernel
theorem dX4_outcome_8 : decode cX4_outcome 8 = .ok (.iconst (-1), 1) := by decide +kernel
theorem dX4_outcome_9 : decode cX4_outcome 9 = .ok (.ireturn, 1) := by decide +kernel
theorem dX4_outcome_10 : decode cX4_outcome 10 = .ok (.aload_n 0, 1) := by decide +kernel
theorem dX4_outcome_11 : decode cX4_outcome 11 = .ok (.invokevirtual 93, 3) := by decide +kernel
theorem dX4_outcome_14 : decode cX4_outcome 14 = .ok (.ifCond .eq 13, 3) := by decide +kernel
theorem dX4_outcome_17 : decode cX4_outcome 17 = .ok (.aload_n 0, 1) := by decide +kernel
theorem dX4_outcome_18 : decode cX4_outcome 18 = .ok (.iconst 1, 1) := by decide +kernel
theorem dX4_outcome_19 : decode cX4_outcome 19 = .ok (.iload_n 1, 1) := by decide +kernel
theorem dX4_outcome_20 : decode cX4_outcome 20 = .ok (.iload_n 2, 1) := by decide +kernel
theorem dX4_outcome_21 : decode cX4_outcome 21 = .ok (.invokevirtual 117, 3) := by decide +kernel
theorem dX4_outcome_24 : decode cX4_outcome 24 = .ok (.goto 5, 3) := by decide +kernel
theorem dX4_outcome_27 : decode cX4_outcome 27 = .ok (.bipush (-2), 2) := by decide +kernel
theorem dX4_outcome_29 : decode cX4_outcome 29 = .ok (.ireturn, 1) := by decide +kernel
theorem dX4_step_0 : decode cX4_step 0 = .ok (.iload_n 1, 1) := by decide +kernel
theorem dX4_step_1 : decode cX4_step 1 = .ok (.ifCond .lt 26, 3) := by decide +kernel
theorem dX4_step_4 : decode cX4_step 4 = .ok (.iload_n 1, 1) := by decide +kernel
theorem dX4_step_5 : decode cX4_step 5 = .ok (.aload_n 0, 1) := by decide +kernel
theorem dX4_step_6 : decode cX4_step 6 = .ok (.getfield 56, 3) := by decide +kernel
theorem dX4_step_9 : decode cX4_step 9 = .ok (.if_icmp .ge 18, 3) := by decide +kernel
theorem dX4_step_12 : decode cX4_step 12 = .ok (.iload_n 1, 1) := by decide +kernel
theorem dX4_step_13 : decode cX4_step 13 = .ok (.bipush 32, 2) := by decide +kernel
theorem dX4_step_15 : decode cX4_step 15 = .ok (.if_icmp .ge 12, 3) := by decide +kernel
theorem dX4_step_18 : decode cX4_step 18 = .ok (.aload_n 0, 1) := by decide +kernel
theorem dX4_step_19 : decode cX4_step 19 = .ok (.getfield 52, 3) := by decide +kernel
theorem dX4_step_22 : decode cX4_step 22 = .ok (.iload_n 1, 1) := by decide +kernel
theorem dX4_step_23 : decode cX4_step 23 = .ok (.iaload, 1) := by decide +kernel
theorem dX4_step_24 : decode cX4_step 24 = .ok (.goto 4, 3) := by decide +kernel
theorem dX4_step_27 : decode cX4_step 27 = .ok (.iconst (-1), 1) := by decide +kernel
theorem dX4_step_28 : decode cX4_step 28 = .ok (.ireturn, 1) := by decide +kernel
theorem dX4_missing_0 : decode cX4_missing 0 = .ok (.iload_n 1, 1) := by decide +kernel
theorem dX4_missing_1 : decode cX4_missing 1 = .ok (.ifCond .eq 14, 3) := by decide +kernel
theorem dX4_missing_4 : decode cX4_missing 4 = .ok (.iload_n 2, 1) := by decide +kernel
theorem dX4_missing_5 : decode cX4_missing 5 = .ok (.iload_n 3, 1) := by decide +kernel
theorem dX4_missing_6 : decode cX4_missing 6 = .ok (.invokestatic 121, 3) := by decide +kernel
theorem dX4_missing_9 : decode cX4_missing 9 = .ok (.ifCond .ne 17, 3) := by decide +kernel
theorem dX4_missing_12 : decode cX4_missing 12 = .ok (.goto 12, 3) := by decide +kernel
theorem dX4_missing_15 : decode cX4_missing 15 = .ok (.aload_n 0, 1) := by decide +kernel
theorem dX4_missing_16 : decode cX4_missing 16 = .ok (.iload_n 2, 1) := by decide +kernel
theorem dX4_missing_17 : decode cX4_missing 17 = .ok (.iload_n 3, 1) := by decide +kernel
theorem dX4_missing_18 : decode cX4_missing 18 = .ok (.invokevirtual 113, 3) := by decide +kernel
theorem dX4_missing_21 : decode cX4_missing 21 = .ok (.ifCond .ne 5, 3) := by decide +kernel
theorem dX4_missing_24 : decode cX4_missing 24 = .ok (.iconst (-1), 1) := by decide +kernel
theorem dX4_missing_25 : decode cX4_missing 25 = .ok (.ireturn, 1) := by decide +kernel
theorem dX4_missing_26 : decode cX4_missing 26 = .ok (.aload_n 0, 1) := by decide +kernel
theorem dX4_missing_27 : decode cX4_missing 27 = .ok (.invokevirtual 93, 3) := by decide +kernel
theorem dX4_missing_30 : decode cX4_missing 30 = .ok (.ifCond .ne 6, 3) := by decide +kernel
theorem dX4_missing_33 : decode cX4_missing 33 = .ok (.bipush (-2), 2) := by decide +kernel
theorem dX4_missing_35 : decode cX4_missing 35 = .ok (.ireturn, 1) := by decide +kernel
theorem dX4_missing_36 : decode cX4_missing 36 = .ok (.aload_n 0, 1) := by decide +kernel
theorem dX4_missing_37 : decode cX4_missing 37 = .ok (.iload_n 1, 1) := by decide +kernel
theorem dX4_missing_38 : decode cX4_missing 38 = .ok (.iload_n 2, 1) := by decide +kernel
theorem dX4_missing_39 : decode cX4_missing 39 = .ok (.iload_n 3, 1) := by decide +kernel
theorem dX4_missing_40 : decode cX4_missing 40 = .ok (.invokevirtual 124, 3) := by decide +kernel
theorem dX4_missing_43 : decode cX4_missing 43 = .ok (.iconst (-1), 1) := by decide +kernel
theorem dX4_missing_44 : decode cX4_missing 44 = .ok (.if_icmp .ne 5, 3) := by decide +kernel
theorem dX4_missing_47 : decode cX4_missing 47 = .ok (.iconst (-1), 1) := by decide +kernel
theorem dX4_missing_48 : decode cX4_missing 48 = .ok (.ireturn, 1) := by decide +kernel
theorem dX4_missing_49 : decode cX4_missing 49 = .ok (.iconst 0, 1) := by decide +kernel
theorem dX4_missing_50 : decode cX4_missing 50 = .ok (.istore 4, 2) := by decide +kernel
theorem dX4_missing_52 : decode cX4_missing 52 = .ok (.iload 4, 2) := by decide +kernel
theorem dX4_missing_54 : decode cX4_missing 54 = .ok (.iconst 2, 1) := by decide +kernel
theorem dX4_missing_55 : decode cX4_missing 55 = .ok (.if_icmp .ge 86, 3) := by decide +kernel
theorem dX4_missing_58 : decode cX4_missing 58 = .ok (.aload_n 0, 1) := by decide +kernel
theorem dX4_missing_59 : decode cX4_missing 59 = .ok (.getfield 37, 3) := by decide +kernel
theorem dX4_missing_62 : decode cX4_missing 62 = .ok (.getfield 74, 3) := by decide +kernel
theorem dX4_missing_65 : decode cX4_missing 65 = .ok (.iload 4, 2) := by decide +kernel
theorem dX4_missing_67 : decode cX4_missing 67 = .ok (.aaload, 1) := by decide +kernel
theorem dX4_missing_68 : decode cX4_missing 68 = .ok (.getfield 78, 3) := by decide +kernel
theorem dX4_missing_71 : decode cX4_missing 71 = .ok (.istore 5, 2) := by decide +kernel
theorem dX4_missing_73 : decode cX4_missing 73 = .ok (.iconst 0, 1) := by decide +kernel
theorem dX4_missing_74 : decode cX4_missing 74 = .ok (.istore 6, 2) := by decide +kernel
theorem dX4_missing_76 : decode cX4_missing 76 = .ok (.iload 6, 2) := by decide +kernel
theorem dX4_missing_78 : decode cX4_missing 78 = .ok (.iload 5, 2) := by decide +kernel
theorem dX4_missing_80 : decode cX4_missing 80 = .ok (.if_icmp .ge 55, 3) := by decide +kernel
theorem dX4_missing_83 : decode cX4_missing 83 = .ok (.iload 5, 2) := by decide +kernel
theorem dX4_missing_85 : decode cX4_missing 85 = .ok (.bipush 7, 2) := by decide +kernel
theorem dX4_missing_87 : decode cX4_missing 87 = .ok (.if_icmp .ge 48, 3) := by decide +kernel
theorem dX4_missing_90 : decode cX4_missing 90 = .ok (.aload_n 0, 1) := by decide +kernel
theorem dX4_missing_91 : decode cX4_missing 91 = .ok (.iload 4, 2) := by decide +kernel
theorem dX4_missing_93 : decode cX4_missing 93 = .ok (.iload 6, 2) := by decide +kernel
theorem dX4_missing_95 : decode cX4_missing 95 = .ok (.iload_n 1, 1) := by decide +kernel
theorem dX4_missing_96 : decode cX4_missing 96 = .ok (.iload_n 2, 1) := by decide +kernel
theorem dX4_missing_97 : decode cX4_missing 97 = .ok (.iload_n 3, 1) := by decide +kernel
theorem dX4_missing_98 : decode cX4_missing 98 = .ok (.invokevirtual 127, 3) := by decide +kernel
theorem dX4_missing_101 : decode cX4_missing 101 = .ok (.istore 7, 2) := by decide +kernel
theorem dX4_missing_103 : decode cX4_missing 103 = .ok (.iload 7, 2) := by decide +kernel
theorem dX4_missing_105 : decode cX4_missing 105 = .ok (.ifCond .ge 24, 3) := by decide +kernel
theorem dX4_missing_108 : decode cX4_missing 108 = .ok (.iload 7, 2) := by decide +kernel
theorem dX4_missing_110 : decode cX4_missing 110 = .ok (.bipush (-2), 2) := by decide +kernel
theorem dX4_missing_112 : decode cX4_missing 112 = .ok (.if_icmp .ne 8, 3) := by decide +kernel
theorem dX4_missing_115 : decode cX4_missing 115 = .ok (.bipush (-2), 2) := by decide +kernel
theorem dX4_missing_117 : decode cX4_missing 117 = .ok (.goto 11, 3) := by decide +kernel
theorem dX4_missing_120 : decode cX4_missing 120 = .ok (.bipush 8, 2) := by decide +kernel
theorem dX4_missing_122 : decode cX4_missing 122 = .ok (.iload 4, 2) := by decide +kernel
theorem dX4_missing_124 : decode cX4_missing 124 = .ok (.imul, 1) := by decide +kernel
theorem dX4_missing_125 : decode cX4_missing 125 = .ok (.iload 6, 2) := by decide +kernel
theorem dX4_missing_127 : decode cX4_missing 127 = .ok (.iadd, 1) := by decide +kernel
theorem dX4_missing_128 : decode cX4_missing 128 = .ok (.ireturn, 1) := by decide +kernel
theorem dX4_missing_129 : decode cX4_missing 129 = .ok (.iinc 6 1, 3) := by decide +kernel
theorem dX4_missing_132 : decode cX4_missing 132 = .ok (.goto (-56), 3) := by decide +kernel
theorem dX4_missing_135 : decode cX4_missing 135 = .ok (.iinc 4 1, 3) := by decide +kernel
theorem dX4_missing_138 : decode cX4_missing 138 = .ok (.goto (-86), 3) := by decide +kernel
theorem dX4_missing_141 : decode cX4_missing 141 = .ok (.iconst (-1), 1) := by decide +kernel
theorem dX4_missing_142 : decode cX4_missing 142 = .ok (.ireturn, 1) := by decide +kernel
theorem dX4_statement_0 : decode cX4_statement 0 = .ok (.iload_n 1, 1) := by decide +kernel
theorem dX4_statement_1 : decode cX4_statement 1 = .ok (.invokestatic 63, 3) := by decide +kernel
theorem dX4_statement_4 : decode cX4_statement 4 = .ok (.ifCond .eq 23, 3) := by decide +kernel
theorem dX4_statement_7 : decode cX4_statement 7 = .ok (.iload_n 2, 1) := by decide +kernel
theorem dX4_statement_8 : decode cX4_statement 8 = .ok (.ifCond .lt 19, 3) := by decide +kernel
theorem dX4_statement_11 : decode cX4_statement 11 = .ok (.iload_n 2, 1) := by decide +kernel
theorem dX4_statement_12 : decode cX4_statement 12 = .ok (.aload_n 0, 1) := by decide +kernel
theorem dX4_statement_13 : decode cX4_statement 13 = .ok (.getfield 37, 3) := by decide +kernel
theorem dX4_statement_16 : decode cX4_statement 16 = .ok (.getfield 74, 3) := by decide +kernel
theorem dX4_statement_19 : decode cX4_statement 19 = .ok (.iload_n 1, 1) := by decide +kernel
theorem dX4_statement_20 : decode cX4_statement 20 = .ok (.aaload, 1) := by decide +kernel
theorem dX4_statement_21 : decode cX4_statement 21 = .ok (.getfield 78, 3) := by decide +kernel
theorem dX4_statement_24 : decode cX4_statement 24 = .ok (.if_icmp .lt 5, 3) := by decide +kernel
theorem dX4_statement_27 : decode cX4_statement 27 = .ok (.iconst (-1), 1) := by decide +kernel
theorem dX4_statement_28 : decode cX4_statement 28 = .ok (.ireturn, 1) := by decide +kernel
theorem dX4_statement_29 : decode cX4_statement 29 = .ok (.aload_n 0, 1) := by decide +kernel
theorem dX4_statement_30 : decode cX4_statement 30 = .ok (.getfield 37, 3) := by decide +kernel
theorem dX4_statement_33 : decode cX4_statement 33 = .ok (.getfield 74, 3) := by decide +kernel
theorem dX4_statement_36 : decode cX4_statement 36 = .ok (.iload_n 1, 1) := by decide +kernel
theorem dX4_statement_37 : decode cX4_statement 37 = .ok (.aaload, 1) := by decide +kernel
theorem dX4_statement_38 : decode cX4_statement 38 = .ok (.astore 4, 2) := by decide +kernel
theorem dX4_statement_40 : decode cX4_statement 40 = .ok (.iload_n 3, 1) := by decide +kernel
theorem dX4_statement_41 : decode cX4_statement 41 = .ok (.ifCond .ne 11, 3) := by decide +kernel
theorem dX4_statement_44 : decode cX4_statement 44 = .ok (.aload 4, 2) := by decide +kernel
theorem dX4_statement_46 : decode cX4_statement 46 = .ok (.getfield 131, 3) := by decide +kernel
theorem dX4_statement_49 : decode cX4_statement 49 = .ok (.iload_n 2, 1) := by decide +kernel
theorem dX4_statement_50 : decode cX4_statement 50 = .ok (.iaload, 1) := by decide +kernel
theorem dX4_statement_51 : decode cX4_statement 51 = .ok (.ireturn, 1) := by decide +kernel
theorem dX4_statement_52 : decode cX4_statement 52 = .ok (.iload_n 3, 1) := by decide +kernel
theorem dX4_statement_53 : decode cX4_statement 53 = .ok (.iconst 1, 1) := by decide +kernel
theorem dX4_statement_54 : decode cX4_statement 54 = .ok (.if_icmp .lt 17, 3) := by decide +kernel
theorem dX4_statement_57 : decode cX4_statement 57 = .ok (.iload_n 3, 1) := by decide +kernel
theorem dX4_statement_58 : decode cX4_statement 58 = .ok (.aload 4, 2) := by decide +kernel
theorem dX4_statement_60 : decode cX4_statement 60 = .ok (.getfield 131, 3) := by decide +kernel
theorem dX4_statement_63 : decode cX4_statement 63 = .ok (.iload_n 2, 1) := by decide +kernel
theorem dX4_statement_64 : decode cX4_statement 64 = .ok (.iaload, 1) := by decide +kernel
theorem dX4_statement_65 : decode cX4_statement 65 = .ok (.invokestatic 134, 3) := by decide +kernel
theorem dX4_statement_68 : decode cX4_statement 68 = .ok (.if_icmp .le 5, 3) := by decide +kernel
theorem dX4_statement_71 : decode cX4_statement 71 = .ok (.iconst (-1), 1) := by decide +kernel
theorem dX4_statement_72 : decode cX4_statement 72 = .ok (.ireturn, 1) := by decide +kernel
theorem dX4_statement_73 : decode cX4_statement 73 = .ok (.aload 4, 2) := by decide +kernel
theorem dX4_statement_75 : decode cX4_statement 75 = .ok (.iload_n 2, 1) := by decide +kernel
theorem dX4_statement_76 : decode cX4_statement 76 = .ok (.iload_n 3, 1) := by decide +kernel
theorem dX4_statement_77 : decode cX4_statement 77 = .ok (.iconst 1, 1) := by decide +kernel
theorem dX4_statement_78 : decode cX4_statement 78 = .ok (.isub, 1) := by decide +kernel
theorem dX4_statement_79 : decode cX4_statement 79 = .ok (.invokevirtual 138, 3) := by decide +kernel
theorem dX4_statement_82 : decode cX4_statement 82 = .ok (.ireturn, 1) := by decide +kernel
theorem dX4_about_0 : decode cX4_about 0 = .ok (.iload_n 1, 1) := by decide +kernel
theorem dX4_about_1 : decode cX4_about 1 = .ok (.invokestatic 63, 3) := by decide +kernel
theorem dX4_about_4 : decode cX4_about 4 = .ok (.ifCond .eq 16, 3) := by decide +kernel
theorem dX4_about_7 : decode cX4_about 7 = .ok (.aload_n 0, 1) := by decide +kernel
theorem dX4_about_8 : decode cX4_about 8 = .ok (.getfield 37, 3) := by decide +kernel
theorem dX4_about_11 : decode cX4_about 11 = .ok (.getfield 74, 3) := by decide +kernel
theorem dX4_about_14 : decode cX4_about 14 = .ok (.iload_n 1, 1) := by decide +kernel
theorem dX4_about_15 : decode cX4_about 15 = .ok (.aaload, 1) := by decide +kernel
theorem dX4_about_16 : decode cX4_about 16 = .ok (.getfield 78, 3) := by decide +kernel
theorem dX4_about_19 : decode cX4_about 19 = .ok (.ireturn, 1) := by decide +kernel
theorem dX4_about_20 : decode cX4_about 20 = .ok (.iload_n 1, 1) := by decide +kernel
theorem dX4_about_21 : decode cX4_about 21 = .ok (.iconst 2, 1) := by decide +kernel
theorem dX4_about_22 : decode cX4_about 22 = .ok (.if_icmp .ne 8, 3) := by decide +kernel
theorem dX4_about_25 : decode cX4_about 25 = .ok (.aload_n 0, 1) := by decide +kernel
theorem dX4_about_26 : decode cX4_about 26 = .ok (.getfield 13, 3) := by decide +kernel
theorem dX4_about_29 : decode cX4_about 29 = .ok (.ireturn, 1) := by decide +kernel
theorem dX4_about_30 : decode cX4_about 30 = .ok (.iload_n 1, 1) := by decide +kernel
theorem dX4_about_31 : decode cX4_about 31 = .ok (.iconst 3, 1) := by decide +kernel
theorem dX4_about_32 : decode cX4_about 32 = .ok (.if_icmp .ne 19, 3) := by decide +kernel
theorem dX4_about_35 : decode cX4_about 35 = .ok (.aload_n 0, 1) := by decide +kernel
theorem dX4_about_36 : decode cX4_about 36 = .ok (.getfield 37, 3) := by decide +kernel
theorem dX4_about_39 : decode cX4_about 39 = .ok (.getfield 90, 3) := by decide +kernel
theorem dX4_about_42 : decode cX4_about 42 = .ok (.ifCond .eq 7, 3) := by decide +kernel
theorem dX4_about_45 : decode cX4_about 45 = .ok (.iconst 1, 1) := by decide +kernel
theorem dX4_about_46 : decode cX4_about 46 = .ok (.goto 4, 3) := by decide +kernel
theorem dX4_about_49 : decode cX4_about 49 = .ok (.iconst 0, 1) := by decide +kernel
theorem dX4_about_50 : decode cX4_about 50 = .ok (.ireturn, 1) := by decide +kernel
theorem dX4_about_51 : decode cX4_about 51 = .ok (.iload_n 1, 1) := by decide +kernel
theorem dX4_about_52 : decode cX4_about 52 = .ok (.bipush 10, 2) := by decide +kernel
theorem dX4_about_54 : decode cX4_about 54 = .ok (.if_icmp .lt 22, 3) := by decide +kernel
theorem dX4_about_57 : decode cX4_about 57 = .ok (.iload_n 1, 1) := by decide +kernel
theorem dX4_about_58 : decode cX4_about 58 = .ok (.bipush 14, 2) := by decide +kernel
theorem dX4_about_60 : decode cX4_about 60 = .ok (.if_icmp .ge 16, 3) := by decide +kernel
theorem dX4_about_63 : decode cX4_about 63 = .ok (.aload_n 0, 1) := by decide +kernel
theorem dX4_about_64 : decode cX4_about 64 = .ok (.getfield 37, 3) := by decide +kernel
theorem dX4_about_67 : decode cX4_about 67 = .ok (.getfield 84, 3) := by decide +kernel
theorem dX4_about_70 : decode cX4_about 70 = .ok (.iload_n 1, 1) := by decide +kernel
theorem dX4_about_71 : decode cX4_about 71 = .ok (.bipush 10, 2) := by decide +kernel
theorem dX4_about_73 : decode cX4_about 73 = .ok (.isub, 1) := by decide +kernel
theorem dX4_about_74 : decode cX4_about 74 = .ok (.iaload, 1) := by decide +kernel
theorem dX4_about_75 : decode cX4_about 75 = .ok (.ireturn, 1) := by decide +kernel
theorem dX4_about_76 : decode cX4_about 76 = .ok (.iload_n 1, 1) := by decide +kernel
theorem dX4_about_77 : decode cX4_about 77 = .ok (.bipush 20, 2) := by decide +kernel
theorem dX4_about_79 : decode cX4_about 79 = .ok (.if_icmp .lt 22, 3) := by decide +kernel
theorem dX4_about_82 : decode cX4_about 82 = .ok (.iload_n 1, 1) := by decide +kernel
theorem dX4_about_83 : decode cX4_about 83 = .ok (.bipush 24, 2) := by decide +kernel
theorem dX4_about_85 : decode cX4_about 85 = .ok (.if_icmp .ge 16, 3) := by decide +kernel
theorem dX4_about_88 : decode cX4_about 88 = .ok (.aload_n 0, 1) := by decide +kernel
theorem dX4_about_89 : decode cX4_about 89 = .ok (.getfield 37, 3) := by decide +kernel
theorem dX4_about_92 : decode cX4_about 92 = .ok (.getfield 87, 3) := by decide +kernel
theorem dX4_about_95 : decode cX4_about 95 = .ok (.iload_n 1, 1) := by decide +kernel
theorem dX4_about_96 : decode cX4_about 96 = .ok (.bipush 20, 2) := by decide +kernel
theorem dX4_about_98 : decode cX4_about 98 = .ok (.isub, 1) := by decide +kernel
theorem dX4_about_99 : decode cX4_about 99 = .ok (.iaload, 1) := by decide +kernel
theorem dX4_about_100 : decode cX4_about 100 = .ok (.ireturn, 1) := by decide +kernel
theorem dX4_about_101 : decode cX4_about 101 = .ok (.iconst (-1), 1) := by decide +kernel
theorem dX4_about_102 : decode cX4_about 102 = .ok (.ireturn, 1) := by decide +kernel
theorem dX4_isHost_0 : decode cX4_isHost 0 = .ok (.iload_n 0, 1) := by decide +kernel
theorem dX4_isHost_1 : decode cX4_isHost 1 = .ok (.ifCond .lt 12, 3) := by decide +kernel
theorem dX4_isHost_4 : decode cX4_isHost 4 = .ok (.iload_n 0, 1) := by decide +kernel
theorem dX4_isHost_5 : decode cX4_isHost 5 = .ok (.iconst 2, 1) := by decide +kernel
theorem dX4_isHost_6 : decode cX4_isHost 6 = .ok (.if_icmp .ge 7, 3) := by decide +kernel
theorem dX4_isHost_9 : decode cX4_isHost 9 = .ok (.iconst 1, 1) := by decide +kernel
theorem dX4_isHost_10 : decode cX4_isHost 10 = .ok (.goto 4, 3) := by decide +kernel
theorem dX4_isHost_13 : decode cX4_isHost 13 = .ok (.iconst 0, 1) := by decide +kernel
theorem dX4_isHost_14 : decode cX4_isHost 14 = .ok (.ireturn, 1) := by decide +kernel
theorem dX4_arePlaces_0 : decode cX4_arePlaces 0 = .ok (.iload_n 1, 1) := by decide +kernel
theorem dX4_arePlaces_1 : decode cX4_arePlaces 1 = .ok (.ifCond .lt 43, 3) := by decide +kernel
theorem dX4_arePlaces_4 : decode cX4_arePlaces 4 = .ok (.iload_n 1, 1) := by decide +kernel
theorem dX4_arePlaces_5 : decode cX4_arePlaces 5 = .ok (.aload_n 0, 1) := by decide +kernel
theorem dX4_arePlaces_6 : decode cX4_arePlaces 6 = .ok (.getfield 37, 3) := by decide +kernel
theorem dX4_arePlaces_9 : decode cX4_arePlaces 9 = .ok (.getfield 74, 3) := by decide +kernel
theorem dX4_arePlaces_12 : decode cX4_arePlaces 12 = .ok (.iconst 0, 1) := by decide +kernel
theorem dX4_arePlaces_13 : decode cX4_arePlaces 13 = .ok (.aaload, 1) := by decide +kernel
theorem dX4_arePlaces_14 : decode cX4_arePlaces 14 = .ok (.getfield 78, 3) := by decide +kernel
theorem dX4_arePlaces_17 : decode cX4_arePlaces 17 = .ok (.if_icmp .gt 27, 3) := by decide +kernel
theorem dX4_arePlaces_20 : decode cX4_arePlaces 20 = .ok (.iload_n 2, 1) := by decide +kernel
theorem dX4_arePlaces_21 : decode cX4_arePlaces 21 = .ok (.ifCond .lt 23, 3) := by decide +kernel
theorem dX4_arePlaces_24 : decode cX4_arePlaces 24 = .ok (.iload_n 2, 1) := by decide +kernel
theorem dX4_arePlaces_25 : decode cX4_arePlaces 25 = .ok (.aload_n 0, 1) := by decide +kernel
theorem dX4_arePlaces_26 : decode cX4_arePlaces 26 = .ok (.getfield 37, 3) := by decide +kernel
theorem dX4_arePlaces_29 : decode cX4_arePlaces 29 = .ok (.getfield 74, 3) := by decide +kernel
theorem dX4_arePlaces_32 : decode cX4_arePlaces 32 = .ok (.iconst 1, 1) := by decide +kernel
theorem dX4_arePlaces_33 : decode cX4_arePlaces 33 = .ok (.aaload, 1) := by decide +kernel
theorem dX4_arePlaces_34 : decode cX4_arePlaces 34 = .ok (.getfield 78, 3) := by decide +kernel
theorem dX4_arePlaces_37 : decode cX4_arePlaces 37 = .ok (.if_icmp .gt 7, 3) := by decide +kernel
theorem dX4_arePlaces_40 : decode cX4_arePlaces 40 = .ok (.iconst 1, 1) := by decide +kernel
theorem dX4_arePlaces_41 : decode cX4_arePlaces 41 = .ok (.goto 4, 3) := by decide +kernel
theorem dX4_arePlaces_44 : decode cX4_arePlaces 44 = .ok (.iconst 0, 1) := by decide +kernel
theorem dX4_arePlaces_45 : decode cX4_arePlaces 45 = .ok (.ireturn, 1) := by decide +kernel
theorem dX4_isOutcome_0 : decode cX4_isOutcome 0 = .ok (.iload_n 0, 1) := by decide +kernel
theorem dX4_isOutcome_1 : decode cX4_isOutcome 1 = .ok (.ifCond .lt 24, 3) := by decide +kernel
theorem dX4_isOutcome_4 : decode cX4_isOutcome 4 = .ok (.iload_n 0, 1) := by decide +kernel
theorem dX4_isOutcome_5 : decode cX4_isOutcome 5 = .ok (.sipush 256, 3) := by decide +kernel
theorem dX4_isOutcome_8 : decode cX4_isOutcome 8 = .ok (.if_icmp .ge 17, 3) := by decide +kernel
theorem dX4_isOutcome_11 : decode cX4_isOutcome 11 = .ok (.iload_n 1, 1) := by decide +kernel
theorem dX4_isOutcome_12 : decode cX4_isOutcome 12 = .ok (.ifCond .lt 13, 3) := by decide +kernel
theorem dX4_isOutcome_15 : decode cX4_isOutcome 15 = .ok (.iload_n 1, 1) := by decide +kernel
theorem dX4_isOutcome_16 : decode cX4_isOutcome 16 = .ok (.bipush 16, 2) := by decide +kernel
theorem dX4_isOutcome_18 : decode cX4_isOutcome 18 = .ok (.if_icmp .ge 7, 3) := by decide +kernel
theorem dX4_isOutcome_21 : decode cX4_isOutcome 21 = .ok (.iconst 1, 1) := by decide +kernel
theorem dX4_isOutcome_22 : decode cX4_isOutcome 22 = .ok (.goto 4, 3) := by decide +kernel
theorem dX4_isOutcome_25 : decode cX4_isOutcome 25 = .ok (.iconst 0, 1) := by decide +kernel
theorem dX4_isOutcome_26 : decode cX4_isOutcome 26 = .ok (.ireturn, 1) := by decide +kernel
theorem dX4_isTold_0 : decode cX4_isTold 0 = .ok (.aload_n 0, 1) := by decide +kernel
theorem dX4_isTold_1 : decode cX4_isTold 1 = .ok (.getfield 48, 3) := by decide +kernel
theorem dX4_isTold_4 : decode cX4_isTold 4 = .ok (.ifCond .ne 19, 3) := by decide +kernel
theorem dX4_isTold_7 : decode cX4_isTold 7 = .ok (.aload_n 0, 1) := by decide +kernel
theorem dX4_isTold_8 : decode cX4_isTold 8 = .ok (.getfield 44, 3) := by decide +kernel
theorem dX4_isTold_11 : decode cX4_isTold 11 = .ok (.aload_n 0, 1) := by decide +kernel
theorem dX4_isTold_12 : decode cX4_isTold 12 = .ok (.getfield 37, 3) := by decide +kernel
theorem dX4_isTold_15 : decode cX4_isTold 15 = .ok (.invokevirtual 142, 3) := by decide +kernel
theorem dX4_isTold_18 : decode cX4_isTold 18 = .ok (.aload_n 0, 1) := by decide +kernel
theorem dX4_isTold_19 : decode cX4_isTold 19 = .ok (.iconst 1, 1) := by decide +kernel
theorem dX4_isTold_20 : decode cX4_isTold 20 = .ok (.putfield 48, 3) := by decide +kernel
theorem dX4_isTold_23 : decode cX4_isTold 23 = .ok (.aload_n 0, 1) := by decide +kernel
theorem dX4_isTold_24 : decode cX4_isTold 24 = .ok (.getfield 44, 3) := by decide +kernel
theorem dX4_isTold_27 : decode cX4_isTold 27 = .ok (.getfield 146, 3) := by decide +kernel
theorem dX4_isTold_30 : decode cX4_isTold 30 = .ok (.ireturn, 1) := by decide +kernel
theorem dX4_fewestSteps_0 : decode cX4_fewestSteps 0 = .ok (.aload_n 0, 1) := by decide +kernel
theorem dX4_fewestSteps_1 : decode cX4_fewestSteps 1 = .ok (.iload_n 1, 1) := by decide +kernel
theorem dX4_fewestSteps_2 : decode cX4_fewestSteps 2 = .ok (.iload_n 2, 1) := by decide +kernel
theorem dX4_fewestSteps_3 : decode cX4_fewestSteps 3 = .ok (.iload_n 3, 1) := by decide +kernel
theorem dX4_fewestSteps_4 : decode cX4_fewestSteps 4 = .ok (.invokevirtual 124, 3) := by decide +kernel
theorem dX4_fewestSteps_7 : decode cX4_fewestSteps 7 = .ok (.istore 4, 2) := by decide +kernel
theorem dX4_fewestSteps_9 : decode cX4_fewestSteps 9 = .ok (.iload 4, 2) := by decide +kernel
theorem dX4_fewestSteps_11 : decode cX4_fewestSteps 11 = .ok (.iconst (-1), 1) := by decide +kernel
theorem dX4_fewestSteps_12 : decode cX4_fewestSteps 12 = .ok (.if_icmp .ne 5, 3) := by decide +kernel
theorem dX4_fewestSteps_15 : decode cX4_fewestSteps 15 = .ok (.iconst (-1), 1) := by decide +kernel
theorem dX4_fewestSteps_16 : decode cX4_fewestSteps 16 = .ok (.ireturn, 1) := by decide +kernel
theorem dX4_fewestSteps_17 : decode cX4_fewestSteps 17 = .ok (.aload_n 0, 1) := by decide +kernel
theorem dX4_fewestSteps_18 : decode cX4_fewestSteps 18 = .ok (.aload_n 0, 1) := by decide +kernel
theorem dX4_fewestSteps_19 : decode cX4_fewestSteps 19 = .ok (.getfield 44, 3) := by decide +kernel
theorem dX4_fewestSteps_22 : decode cX4_fewestSteps 22 = .ok (.iload 4, 2) := by decide +kernel
theorem dX4_fewestSteps_24 : decode cX4_fewestSteps 24 = .ok (.aload_n 0, 1) := by decide +kernel
theorem dX4_fewestSteps_25 : decode cX4_fewestSteps 25 = .ok (.getfield 52, 3) := by decide +kernel
theorem dX4_fewestSteps_28 : decode cX4_fewestSteps 28 = .ok (.invokevirtual 148, 3) := by decide +kernel
theorem dX4_fewestSteps_31 : decode cX4_fewestSteps 31 = .ok (.putfield 56, 3) := by decide +kernel
theorem dX4_fewestSteps_34 : decode cX4_fewestSteps 34 = .ok (.aload_n 0, 1) := by decide +kernel
theorem dX4_fewestSteps_35 : decode cX4_fewestSteps 35 = .ok (.getfield 56, 3) := by decide +kernel
theorem dX4_fewestSteps_38 : decode cX4_fewestSteps 38 = .ok (.ireturn, 1) := by decide +kernel
theorem dX4_firstState_0 : decode cX4_firstState 0 = .ok (.iload_n 1, 1) := by decide +kernel
theorem dX4_firstState_1 : decode cX4_firstState 1 = .ok (.ifCond .ne 19, 3) := by decide +kernel
theorem dX4_firstState_4 : decode cX4_firstState 4 = .ok (.aload_n 0, 1) := by decide +kernel
theorem dX4_firstState_5 : decode cX4_firstState 5 = .ok (.getfield 44, 3) := by decide +kernel
theorem dX4_firstState_8 : decode cX4_firstState 8 = .ok (.ldc2_w 152, 3) := by decide +kernel
theorem dX4_firstState_11 : decode cX4_firstState 11 = .ok (.iload_n 2, 1) := by decide +kernel
theorem dX4_firstState_12 : decode cX4_firstState 12 = .ok (.iload_n 3, 1) := by decide +kernel
theorem dX4_firstState_13 : decode cX4_firstState 13 = .ok (.invokestatic 154, 3) := by decide +kernel
theorem dX4_firstState_16 : decode cX4_firstState 16 = .ok (.invokevirtual 158, 3) := by decide +kernel
theorem dX4_firstState_19 : decode cX4_firstState 19 = .ok (.ireturn, 1) := by decide +kernel
theorem dX4_firstState_20 : decode cX4_firstState 20 = .ok (.iload_n 3, 1) := by decide +kernel
theorem dX4_firstState_21 : decode cX4_firstState 21 = .ok (.invokestatic 162, 3) := by decide +kernel
theorem dX4_firstState_24 : decode cX4_firstState 24 = .ok (.lstore 4, 2) := by decide +kernel
theorem dX4_firstState_26 : decode cX4_firstState 26 = .ok (.aload_n 0, 1) := by decide +kernel
theorem dX4_firstState_27 : decode cX4_firstState 27 = .ok (.getfield 44, 3) := by decide +kernel
theorem dX4_firstState_30 : decode cX4_firstState 30 = .ok (.ldc2_w 166, 3) := by decide +kernel
theorem dX4_firstState_33 : decode cX4_firstState 33 = .ok (.lload 4, 2) := by decide +kernel
theorem dX4_firstState_35 : decode cX4_firstState 35 = .ok (.lor, 1) := by decide +kernel
theorem dX4_firstState_36 : decode cX4_firstState 36 = .ok (.aload_n 0, 1) := by decide +kernel
theorem dX4_firstState_37 : decode cX4_firstState 37 = .ok (.getfield 37, 3) := by decide +kernel
theorem dX4_firstState_40 : decode cX4_firstState 40 = .ok (.invokevirtual 168, 3) := by decide +kernel
theorem dX4_firstState_43 : decode cX4_firstState 43 = .ok (.iload_n 2, 1) := by decide +kernel
theorem dX4_firstState_44 : decode cX4_firstState 44 = .ok (.i2l, 1) := by decide +kernel
theorem dX4_firstState_45 : decode cX4_firstState 45 = .ok (.lload 4, 2) := by decide +kernel
theorem dX4_firstState_47 : decode cX4_firstState 47 = .ok (.land, 1) := by decide +kernel
theorem dX4_firstState_48 : decode cX4_firstState 48 = .ok (.lor, 1) := by decide +kernel
theorem dX4_firstState_49 : decode cX4_firstState 49 = .ok (.invokevirtual 158, 3) := by decide +kernel
theorem dX4_firstState_52 : decode cX4_firstState 52 = .ok (.ireturn, 1) := by decide +kernel
theorem dX4_wordsMask_0 : decode cX4_wordsMask 0 = .ok (.lconst 0, 1) := by decide +kernel
theorem dX4_wordsMask_1 : decode cX4_wordsMask 1 = .ok (.lstore_n 1, 1) := by decide +kernel
theorem dX4_wordsMask_2 : decode cX4_wordsMask 2 = .ok (.iconst 0, 1) := by decide +kernel
theorem dX4_wordsMask_3 : decode cX4_wordsMask 3 = .ok (.istore_n 3, 1) := by decide +kernel
theorem dX4_wordsMask_4 : decode cX4_wordsMask 4 = .ok (.iload_n 3, 1) := by decide +kernel
theorem dX4_wordsMask_5 : decode cX4_wordsMask 5 = .ok (.iconst 4, 1) := by decide +kernel
theorem dX4_wordsMask_6 : decode cX4_wordsMask 6 = .ok (.if_icmp .ge 27, 3) := by decide +kernel
theorem dX4_wordsMask_9 : decode cX4_wordsMask 9 = .ok (.iload_n 0, 1) := by decide +kernel
theorem dX4_wordsMask_10 : decode cX4_wordsMask 10 = .ok (.iload_n 3, 1) := by decide +kernel
theorem dX4_wordsMask_11 : decode cX4_wordsMask 11 = .ok (.ishr, 1) := by decide +kernel
theorem dX4_wordsMask_12 : decode cX4_wordsMask 12 = .ok (.iconst 1, 1) := by decide +kernel
theorem dX4_wordsMask_13 : decode cX4_wordsMask 13 = .ok (.iand, 1) := by decide +kernel
theorem dX4_wordsMask_14 : decode cX4_wordsMask 14 = .ok (.ifCond .eq 13, 3) := by decide +kernel
theorem dX4_wordsMask_17 : decode cX4_wordsMask 17 = .ok (.lload_n 1, 1) := by decide +kernel
theorem dX4_wordsMask_18 : decode cX4_wordsMask 18 = .ok (.ldc2_w 172, 3) := by decide +kernel
theorem dX4_wordsMask_21 : decode cX4_wordsMask 21 = .ok (.iconst 2, 1) := by decide +kernel
theorem dX4_wordsMask_22 : decode cX4_wordsMask 22 = .ok (.iload_n 3, 1) := by decide +kernel
theorem dX4_wordsMask_23 : decode cX4_wordsMask 23 = .ok (.imul, 1) := by decide +kernel
theorem dX4_wordsMask_24 : decode cX4_wordsMask 24 = .ok (.lshl, 1) := by decide +kernel
theorem dX4_wordsMask_25 : decode cX4_wordsMask 25 = .ok (.lor, 1) := by decide +kernel
theorem dX4_wordsMask_26 : decode cX4_wordsMask 26 = .ok (.lstore_n 1, 1) := by decide +kernel
theorem dX4_wordsMask_27 : decode cX4_wordsMask 27 = .ok (.iinc 3 1, 3) := by decide +kernel
theorem dX4_wordsMask_30 : decode cX4_wordsMask 30 = .ok (.goto (-26), 3) := by decide +kernel
theorem dX4_wordsMask_33 : decode cX4_wordsMask 33 = .ok (.lload_n 1, 1) := by decide +kernel
theorem dX4_wordsMask_34 : decode cX4_wordsMask 34 = .ok (.lreturn, 1) := by decide +kernel
theorem dX4_firstStateBehindFence_0 : decode cX4_firstStateBehindFence 0 = .ok (.aload_n 0, 1) := by decide +kernel
theorem dX4_firstStateBehindFence_1 : decode cX4_firstStateBehindFence 1 = .ok (.getfield 37, 3) := by decide +kernel
theorem dX4_firstStateBehindFence_4 : decode cX4_firstStateBehindFence 4 = .ok (.getfield 74, 3) := by decide +kernel
theorem dX4_firstStateBehindFence_7 : decode cX4_firstStateBehindFence 7 = .ok (.iload_n 1, 1) := by decide +kernel
theorem dX4_firstStateBehindFence_8 : decode cX4_firstStateBehindFence 8 = .ok (.aaload, 1) := by decide +kernel
theorem dX4_firstStateBehindFence_9 : decode cX4_firstStateBehindFence 9 = .ok (.astore 6, 2) := by decide +kernel
theorem dX4_firstStateBehindFence_11 : decode cX4_firstStateBehindFence 11 = .ok (.aload_n 0, 1) := by decide +kernel
theorem dX4_firstStateBehindFence_12 : decode cX4_firstStateBehindFence 12 = .ok (.getfield 31, 3) := by decide +kernel
theorem dX4_firstStateBehindFence_15 : decode cX4_firstStateBehindFence 15 = .ok (.aload 6, 2) := by decide +kernel
theorem dX4_firstStateBehindFence_17 : decode cX4_firstStateBehindFence 17 = .ok (.iload_n 2, 1) := by decide +kernel
theorem dX4_firstStateBehindFence_18 : decode cX4_firstStateBehindFence 18 = .ok (.invokevirtual 174, 3) := by decide +kernel
theorem dX4_firstStateBehindFence_21 : decode cX4_firstStateBehindFence 21 = .ok (.aload_n 0, 1) := by decide +kernel
theorem dX4_firstStateBehindFence_22 : decode cX4_firstStateBehindFence 22 = .ok (.getfield 37, 3) := by decide +kernel
theorem dX4_firstStateBehindFence_25 : decode cX4_firstStateBehindFence 25 = .ok (.getfield 74, 3) := by decide +kernel
theorem dX4_firstStateBehindFence_28 : decode cX4_firstStateBehindFence 28 = .ok (.iload_n 1, 1) := by decide +kernel
theorem dX4_firstStateBehindFence_29 : decode cX4_firstStateBehindFence 29 = .ok (.aload_n 0, 1) := by decide +kernel
theorem dX4_firstStateBehindFence_30 : decode cX4_firstStateBehindFence 30 = .ok (.getfield 31, 3) := by decide +kernel
theorem dX4_firstStateBehindFence_33 : decode cX4_firstStateBehindFence 33 = .ok (.aastore, 1) := by decide +kernel
theorem dX4_firstStateBehindFence_34 : decode cX4_firstStateBehindFence 34 = .ok (.aload_n 0, 1) := by decide +kernel
theorem dX4_firstStateBehindFence_35 : decode cX4_firstStateBehindFence 35 = .ok (.getfield 44, 3) := by decide +kernel
theorem dX4_firstStateBehindFence_38 : decode cX4_firstStateBehindFence 38 = .ok (.aload_n 0, 1) := by decide +kernel
theorem dX4_firstStateBehindFence_39 : decode cX4_firstStateBehindFence 39 = .ok (.getfield 37, 3) := by decide +kernel
theorem dX4_firstStateBehindFence_42 : decode cX4_firstStateBehindFence 42 = .ok (.invokevirtual 142, 3) := by decide +kernel
theorem dX4_firstStateBehindFence_45 : decode cX4_firstStateBehindFence 45 = .ok (.aload_n 0, 1) := by decide +kernel
theorem dX4_firstStateBehindFence_46 : decode cX4_firstStateBehindFence 46 = .ok (.iconst 0, 1) := by decide +kernel
theorem dX4_firstStateBehindFence_47 : decode cX4_firstStateBehindFence 47 = .ok (.putfield 48, 3) := by decide +kernel
theorem dX4_firstStateBehindFence_50 : decode cX4_firstStateBehindFence 50 = .ok (.bipush (-2), 2) := by decide +kernel
theorem dX4_firstStateBehindFence_52 : decode cX4_firstStateBehindFence 52 = .ok (.istore 7, 2) := by decide +kernel
theorem dX4_firstStateBehindFence_54 : decode cX4_firstStateBehindFence 54 = .ok (.aload_n 0, 1) := by decide +kernel
theorem dX4_firstStateBehindFence_55 : decode cX4_firstStateBehindFence 55 = .ok (.getfield 44, 3) := by decide +kernel
theorem dX4_firstStateBehindFence_58 : decode cX4_firstStateBehindFence 58 = .ok (.getfield 146, 3) := by decide +kernel
theorem dX4_firstStateBehindFence_61 : decode cX4_firstStateBehindFence 61 = .ok (.ifCond .eq 21, 3) := by decide +kernel
theorem dX4_firstStateBehindFence_64 : decode cX4_firstStateBehindFence 64 = .ok (.iload_n 3, 1) := by decide +kernel
theorem dX4_firstStateBehindFence_65 : decode cX4_firstStateBehindFence 65 = .ok (.ifCond .eq 17, 3) := by decide +kernel
theorem dX4_firstStateBehindFence_68 : decode cX4_firstStateBehindFence 68 = .ok (.aload_n 0, 1) := by decide +kernel
theorem dX4_firstStateBehindFence_69 : decode cX4_firstStateBehindFence 69 = .ok (.iconst 1, 1) := by decide +kernel
theorem dX4_firstStateBehindFence_70 : decode cX4_firstStateBehindFence 70 = .ok (.iload 4, 2) := by decide +kernel
theorem dX4_firstStateBehindFence_72 : decode cX4_firstStateBehindFence 72 = .ok (.iload 5, 2) := by decide +kernel
theorem dX4_firstStateBehindFence_74 : decode cX4_firstStateBehindFence 74 = .ok (.invokevirtual 124, 3) := by decide +kernel
theorem dX4_firstStateBehindFence_77 : decode cX4_firstStateBehindFence 77 = .ok (.istore 7, 2) := by decide +kernel
theorem dX4_firstStateBehindFence_79 : decode cX4_firstStateBehindFence 79 = .ok (.goto 59, 3) := by decide +kernel
theorem dX4_firstStateBehindFence_82 : decode cX4_firstStateBehindFence 82 = .ok (.aload_n 0, 1) := by decide +kernel
theorem dX4_firstStateBehindFence_83 : decode cX4_firstStateBehindFence 83 = .ok (.getfield 44, 3) := by decide +kernel
theorem dX4_firstStateBehindFence_86 : decode cX4_firstStateBehindFence 86 = .ok (.getfield 146, 3) := by decide +kernel
theorem dX4_firstStateBehindFence_89 : decode cX4_firstStateBehindFence 89 = .ok (.ifCond .eq 49, 3) := by decide +kernel
theorem dX4_firstStateBehindFence_92 : decode cX4_firstStateBehindFence 92 = .ok (.aload_n 0, 1) := by decide +kernel
theorem dX4_firstStateBehindFence_93 : decode cX4_firstStateBehindFence 93 = .ok (.iconst 0, 1) := by decide +kernel
theorem dX4_firstStateBehindFence_94 : decode cX4_firstStateBehindFence 94 = .ok (.iload_n 1, 1) := by decide +kernel
theorem dX4_firstStateBehindFence_95 : decode cX4_firstStateBehindFence 95 = .ok (.ifCond .ne 16, 3) := by decide +kernel
theorem dX4_firstStateBehindFence_98 : decode cX4_firstStateBehindFence 98 = .ok (.iload 4, 2) := by decide +kernel
theorem dX4_firstStateBehindFence_100 : decode cX4_firstStateBehindFence 100 = .ok (.iload_n 2, 1) := by decide +kernel
theorem dX4_firstStateBehindFence_101 : decode cX4_firstStateBehindFence 101 = .ok (.if_icmp .lt 10, 3) := by decide +kernel
theorem dX4_firstStateBehindFence_104 : decode cX4_firstStateBehindFence 104 = .ok (.iload 4, 2) := by decide +kernel
theorem dX4_firstStateBehindFence_106 : decode cX4_firstStateBehindFence 106 = .ok (.iconst 1, 1) := by decide +kernel
theorem dX4_firstStateBehindFence_107 : decode cX4_firstStateBehindFence 107 = .ok (.iadd, 1) := by decide +kernel
theorem dX4_firstStateBehindFence_108 : decode cX4_firstStateBehindFence 108 = .ok (.goto 5, 3) := by decide +kernel
theorem dX4_firstStateBehindFence_111 : decode cX4_firstStateBehindFence 111 = .ok (.iload 4, 2) := by decide +kernel
theorem dX4_firstStateBehindFence_113 : decode cX4_firstStateBehindFence 113 = .ok (.iload_n 1, 1) := by decide +kernel
theorem dX4_firstStateBehindFence_114 : decode cX4_firstStateBehindFence 114 = .ok (.iconst 1, 1) := by decide +kernel
theorem dX4_firstStateBehindFence_115 : decode cX4_firstStateBehindFence 115 = .ok (.if_icmp .ne 16, 3) := by decide +kernel
theorem dX4_firstStateBehindFence_118 : decode cX4_firstStateBehindFence 118 = .ok (.iload 5, 2) := by decide +kernel
theorem dX4_firstStateBehindFence_120 : decode cX4_firstStateBehindFence 120 = .ok (.iload_n 2, 1) := by decide +kernel
theorem dX4_firstStateBehindFence_121 : decode cX4_firstStateBehindFence 121 = .ok (.if_icmp .lt 10, 3) := by decide +kernel
theorem dX4_firstStateBehindFence_124 : decode cX4_firstStateBehindFence 124 = .ok (.iload 5, 2) := by decide +kernel
theorem dX4_firstStateBehindFence_126 : decode cX4_firstStateBehindFence 126 = .ok (.iconst 1, 1) := by decide +kernel
theorem dX4_firstStateBehindFence_127 : decode cX4_firstStateBehindFence 127 = .ok (.iadd, 1) := by decide +kernel
theorem dX4_firstStateBehindFence_128 : decode cX4_firstStateBehindFence 128 = .ok (.goto 5, 3) := by decide +kernel
theorem dX4_firstStateBehindFence_131 : decode cX4_firstStateBehindFence 131 = .ok (.iload 5, 2) := by decide +kernel
theorem dX4_firstStateBehindFence_133 : decode cX4_firstStateBehindFence 133 = .ok (.invokevirtual 124, 3) := by decide +kernel
theorem dX4_firstStateBehindFence_136 : decode cX4_firstStateBehindFence 136 = .ok (.istore 7, 2) := by decide +kernel
theorem dX4_firstStateBehindFence_138 : decode cX4_firstStateBehindFence 138 = .ok (.aload_n 0, 1) := by decide +kernel
theorem dX4_firstStateBehindFence_139 : decode cX4_firstStateBehindFence 139 = .ok (.getfield 37, 3) := by decide +kernel
theorem dX4_firstStateBehindFence_142 : decode cX4_firstStateBehindFence 142 = .ok (.getfield 74, 3) := by decide +kernel
theorem dX4_firstStateBehindFence_145 : decode cX4_firstStateBehindFence 145 = .ok (.iload_n 1, 1) := by decide +kernel
theorem dX4_firstStateBehindFence_146 : decode cX4_firstStateBehindFence 146 = .ok (.aload 6, 2) := by decide +kernel
theorem dX4_firstStateBehindFence_148 : decode cX4_firstStateBehindFence 148 = .ok (.aastore, 1) := by decide +kernel
theorem dX4_firstStateBehindFence_149 : decode cX4_firstStateBehindFence 149 = .ok (.iload 7, 2) := by decide +kernel
theorem dX4_firstStateBehindFence_151 : decode cX4_firstStateBehindFence 151 = .ok (.ireturn, 1) := by decide +kernel
theorem dX5_init_0 : decode cX5_init 0 = .ok (.aload_n 0, 1) := by decide +kernel
theorem dX5_init_1 : decode cX5_init 1 = .ok (.invokespecial 1, 3) := by decide +kernel
theorem dX5_init_4 : decode cX5_init 4 = .ok (.aload_n 0, 1) := by decide +kernel
theorem dX5_init_5 : decode cX5_init 5 = .ok (.iconst 5, 1) := by decide +kernel
theorem dX5_init_6 : decode cX5_init 6 = .ok (.newarray .int, 2) := by decide +kernel
theorem dX5_init_8 : decode cX5_init 8 = .ok (.putfield 7, 3) := by decide +kernel
theorem dX5_init_11 : decode cX5_init 11 = .ok (.aload_n 0, 1) := by decide +kernel
theorem dX5_init_12 : decode cX5_init 12 = .ok (.bipush 40, 2) := by decide +kernel
theorem dX5_init_14 : decode cX5_init 14 = .ok (.newarray .int, 2) := by decide +kernel
theorem dX5_init_16 : decode cX5_init 16 = .ok (.putfield 13, 3) := by decide +kernel
theorem dX5_init_19 : decode cX5_init 19 = .ok (.aload_n 0, 1) := by decide +kernel
theorem dX5_init_20 : decode cX5_init 20 = .ok (.sipush 160, 3) := by decide +kernel
theorem dX5_init_23 : decode cX5_init 23 = .ok (.newarray .int, 2) := by decide +kernel
theorem dX5_init_25 : decode cX5_init 25 = .ok (.putfield 16, 3) := by decide +kernel
theorem dX5_init_28 : decode cX5_init 28 = .ok (.aload_n 0, 1) := by decide +kernel
theorem dX5_init_29 : decode cX5_init 29 = .ok (.iconst 4, 1) := by decide +kernel
theorem dX5_init_30 : decode cX5_init 30 = .ok (.newarray .int, 2) := by decide +kernel
theorem dX5_init_32 : decode cX5_init 32 = .ok (.putfield 19, 3) := by decide +kernel
theorem dX5_init_35 : decode cX5_init 35 = .ok (.aload_n 0, 1) := by decide +kernel
theorem dX5_init_36 : decode cX5_init 36 = .ok (.iconst 4, 1) := by decide +kernel
theorem dX5_init_37 : decode cX5_init 37 = .ok (.newarray .int, 2) := by decide +kernel
theorem dX5_init_39 : decode cX5_init 39 = .ok (.putfield 22, 3) := by decide +kernel
theorem dX5_init_42 : decode cX5_init 42 = .ok (.aload_n 0, 1) := by decide +kernel
theorem dX5_init_43 : decode cX5_init 43 = .ok (.sipush 200, 3) := by decide +kernel
theorem dX5_init_46 : decode cX5_init 46 = .ok (.newarray .int, 2) := by decide +kernel
theorem dX5_init_48 : decode cX5_init 48 = .ok (.putfield 25, 3) := by decide +kernel
theorem dX5_init_51 : decode cX5_init 51 = .ok (.aload_n 0, 1) := by decide +kernel
theorem dX5_init_52 : decode cX5_init 52 = .ok (.iconst (-1), 1) := by decide +kernel
theorem dX5_init_53 : decode cX5_init 53 = .ok (.putfield 28, 3) := by decide +kernel
theorem dX5_init_56 : decode cX5_init 56 = .ok (.aload_n 0, 1) := by decide +kernel
theorem dX5_init_57 : decode cX5_init 57 = .ok (.iconst (-1), 1) := by decide +kernel
theorem dX5_init_58 : decode cX5_init 58 = .ok (.putfield 32, 3) := by decide +kernel
theorem dX5_init_61 : decode cX5_init 61 = .ok (.aload_n 0, 1) := by decide +kernel
theorem dX5_init_62 : decode cX5_init 62 = .ok (.sipush 12001, 3) := by decide +kernel
theorem dX5_init_65 : decode cX5_init 65 = .ok (.newarray .long, 2) := by decide +kernel
theorem dX5_init_67 : decode cX5_init 67 = .ok (.putfield 35, 3) := by decide +kernel
theorem dX5_init_70 : decode cX5_init 70 = .ok (.aload_n 0, 1) := by decide +kernel
theorem dX5_init_71 : decode cX5_init 71 = .ok (.sipush 12001, 3) := by decide +kernel
theorem dX5_init_74 : decode cX5_init 74 = .ok (.newarray .int, 2) := by decide +kernel
theorem dX5_init_76 : decode cX5_init 76 = .ok (.putfield 39, 3) := by decide +kernel
theorem dX5_init_79 : decode cX5_init 79 = .ok (.aload_n 0, 1) := by decide +kernel
theorem dX5_init_80 : decode cX5_init 80 = .ok (.sipush 12001, 3) := by decide +kernel
theorem dX5_init_83 : decode cX5_init 83 = .ok (.newarray .byte, 2) := by decide +kernel
theorem dX5_init_85 : decode cX5_init 85 = .ok (.putfield 42, 3) := by decide +kernel
theorem dX5_init_88 : decode cX5_init 88 = .ok (.aload_n 0, 1) := by decide +kernel
theorem dX5_init_89 : decode cX5_init 89 = .ok (.sipush 12001, 3) := by decide +kernel
theorem dX5_init_92 : decode cX5_init 92 = .ok (.newarray .short, 2) := by decide +kernel
theorem dX5_init_94 : decode cX5_init 94 = .ok (.putfield 46, 3) := by decide +kernel
theorem dX5_init_97 : decode cX5_init 97 = .ok (.aload_n 0, 1) := by decide +kernel
theorem dX5_init_98 : decode cX5_init 98 = .ok (.ldc 50, 2) := by decide +kernel
theorem dX5_init_100 : decode cX5_init 100 = .ok (.newarray .int, 2) := by decide +kernel
theorem dX5_init_102 : decode cX5_init 102 = .ok (.putfield 51, 3) := by decide +kernel
theorem dX5_init_105 : decode cX5_init 105 = .ok (.aload_n 0, 1) := by decide +kernel
theorem dX5_init_106 : decode cX5_init 106 = .ok (.bipush 64, 2) := by decide +kernel
theorem dX5_init_108 : decode cX5_init 108 = .ok (.newarray .int, 2) := by decide +kernel
theorem dX5_init_110 : decode cX5_init 110 = .ok (.putfield 54, 3) := by decide +kernel
theorem dX5_init_113 : decode cX5_init 113 = .ok (.iconst 0, 1) := by decide +kernel
theorem dX5_init_114 : decode cX5_init 114 = .ok (.istore_n 1, 1) := by decide +kernel
theorem dX5_init_115 : decode cX5_init 115 = .ok (.iload_n 1, 1) := by decide +kernel
theorem dX5_init_116 : decode cX5_init 116 = .ok (.iconst 4, 1) := by decide +kernel
theorem dX5_init_117 : decode cX5_init 117 = .ok (.if_icmp .ge 17, 3) := by decide +kernel
theorem dX5_init_120 : decode cX5_init 120 = .ok (.aload_n 0, 1) := by decide +kernel
theorem dX5_init_121 : decode cX5_init 121 = .ok (.getfield 22, 3) := by decide +kernel
theorem dX5_init_124 : decode cX5_init 124 = .ok (.iload_n 1, 1) := by decide +kernel
theorem dX5_init_125 : decode cX5_init 125 = .ok (.bipush 7, 2) := by decide +kernel
theorem dX5_init_127 : decode cX5_init 127 = .ok (.iastore, 1) := by decide +kernel
theorem dX5_init_128 : decode cX5_init 128 = .ok (.iinc 1 1, 3) := by decide +kernel
theorem dX5_init_131 : decode cX5_init 131 = .ok (.goto (-16), 3) := by decide +kernel
theorem dX5_init_134 : decode cX5_init 134 = .ok (.return_, 1) := by decide +kernel
theorem dX5_isIn_0 : decode cX5_isIn 0 = .ok (.iload_n 0, 1) := by decide +kernel
theorem dX5_isIn_1 : decode cX5_isIn 1 = .ok (.iload_n 1, 1) := by decide +kernel
theorem dX5_isIn_2 : decode cX5_isIn 2 = .ok (.if_icmp .lt 12, 3) := by decide +kernel
theorem dX5_isIn_5 : decode cX5_isIn 5 = .ok (.iload_n 0, 1) := by decide +kernel
theorem dX5_isIn_6 : decode cX5_isIn 6 = .ok (.iload_n 2, 1) := by decide +kernel
theorem dX5_isIn_7 : decode cX5_isIn 7 = .ok (.if_icmp .gt 7, 3) := by decide +kernel
theorem dX5_isIn_10 : decode cX5_isIn 10 = .ok (.iconst 1, 1) := by decide +kernel
theorem dX5_isIn_11 : decode cX5_isIn 11 = .ok (.goto 4, 3) := by decide +kernel
theorem dX5_isIn_14 : decode cX5_isIn 14 = .ok (.iconst 0, 1) := by decide +kernel
theorem dX5_isIn_15 : decode cX5_isIn 15 = .ok (.ireturn, 1) := by decide +kernel
theorem dX5_four_0 : decode cX5_four 0 = .ok (.bipush 24, 2) := by decide +kernel
theorem dX5_four_2 : decode cX5_four 2 = .ok (.istore_n 2, 1) := by decide +kernel
theorem dX5_four_3 : decode cX5_four 3 = .ok (.iload_n 2, 1) := by decide +kernel
theorem dX5_four_4 : decode cX5_four 4 = .ok (.ifCond .lt 35, 3) := by decide +kernel
theorem dX5_four_7 : decode cX5_four 7 = .ok (.aload_n 0, 1) := by decide +kernel
theorem dX5_four_8 : decode cX5_four 8 = .ok (.getfield 25, 3) := by decide +kernel
theorem dX5_four_11 : decode cX5_four 11 = .ok (.aload_n 0, 1) := by decide +kernel
theorem dX5_four_12 : decode cX5_four 12 = .ok (.getfield 57, 3) := by decide +kernel
theorem dX5_four_15 : decode cX5_four 15 = .ok (.iload_n 1, 1) := by decide +kernel
theorem dX5_four_16 : decode cX5_four 16 = .ok (.iload_n 2, 1) := by decide +kernel
theorem dX5_four_17 : decode cX5_four 17 = .ok (.ishr, 1) := by decide +kernel
theorem dX5_four_18 : decode cX5_four 18 = .ok (.sipush 255, 3) := by decide +kernel
theorem dX5_four_21 : decode cX5_four 21 = .ok (.iand, 1) := by decide +kernel
theorem dX5_four_22 : decode cX5_four 22 = .ok (.iastore, 1) := by decide +kernel
theorem dX5_four_23 : decode cX5_four 23 = .ok (.aload_n 0, 1) := by decide +kernel
theorem dX5_four_24 : decode cX5_four 24 = .ok (.dup, 1) := by decide +kernel
theorem dX5_four_25 : decode cX5_four 25 = .ok (.getfield 57, 3) := by decide +kernel
theorem dX5_four_28 : decode cX5_four 28 = .ok (.iconst 1, 1) := by decide +kernel
theorem dX5_four_29 : decode cX5_four 29 = .ok (.iadd, 1) := by decide +kernel
theorem dX5_four_30 : decode cX5_four 30 = .ok (.putfield 57, 3) := by decide +kernel
theorem dX5_four_33 : decode cX5_four 33 = .ok (.iinc 2 (-8), 3) := by decide +kernel
theorem dX5_four_36 : decode cX5_four 36 = .ok (.goto (-33), 3) := by decide +kernel
theorem dX5_four_39 : decode cX5_four 39 = .ok (.return_, 1) := by decide +kernel
theorem dX5_feed_0 : decode cX5_feed 0 = .ok (.aload_n 0, 1) := by decide +kernel
theorem dX5_feed_1 : decode cX5_feed 1 = .ok (.getfield 57, 3) := by decide +kernel
theorem dX5_feed_4 : decode cX5_feed 4 = .ok (.bipush 20, 2) := by decide +kernel
theorem dX5_feed_6 : decode cX5_feed 6 = .ok (.iadd, 1) := by decide +kernel
theorem dX5_feed_7 : decode cX5_feed 7 = .ok (.sipush 200, 3) := by decide +kernel
theorem dX5_feed_10 : decode cX5_feed 10 = .ok (.if_icmp .le 5, 3) := by decide +kernel
theorem dX5_feed_13 : decode cX5_feed 13 = .ok (.iconst (-1), 1) := by decide +kernel
theorem dX5_feed_14 : decode cX5_feed 14 = .ok (.ireturn, 1) := by decide +kernel
theorem dX5_feed_15 : decode cX5_feed 15 = .ok (.aload_n 0, 1) := by decide +kernel
theorem dX5_feed_16 : decode cX5_feed 16 = .ok (.iload_n 1, 1) := by decide +kernel
theorem dX5_feed_17 : decode cX5_feed 17 = .ok (.invokevirtual 60, 3) := by decide +kernel
theorem dX5_feed_20 : decode cX5_feed 20 = .ok (.aload_n 0, 1) := by decide +kernel
theorem dX5_feed_21 : decode cX5_feed 21 = .ok (.iload_n 2, 1) := by decide +kernel
theorem dX5_feed_22 : decode cX5_feed 22 = .ok (.invokevirtual 60, 3) := by decide +kernel
theorem dX5_feed_25 : decode cX5_feed 25 = .ok (.aload_n 0, 1) := by decide +kernel
theorem dX5_feed_26 : decode cX5_feed 26 = .ok (.iload_n 3, 1) := by decide +kernel
theorem dX5_feed_27 : decode cX5_feed 27 = .ok (.invokevirtual 60, 3) := by decide +kernel
theorem dX5_feed_30 : decode cX5_feed 30 = .ok (.aload_n 0, 1) := by decide +kernel
theorem dX5_feed_31 : decode cX5_feed 31 = .ok (.iload 4, 2) := by decide +kernel
theorem dX5_feed_33 : decode cX5_feed 33 = .ok (.invokevirtual 60, 3) := by decide +kernel
theorem dX5_feed_36 : decode cX5_feed 36 = .ok (.aload_n 0, 1) := by decide +kernel
theorem dX5_feed_37 : decode cX5_feed 37 = .ok (.iload 5, 2) := by decide +kernel
theorem dX5_feed_39 : decode cX5_feed 39 = .ok (.invokevirtual 60, 3) := by decide +kernel
theorem dX5_feed_42 : decode cX5_feed 42 = .ok (.aload_n 0, 1) := by decide +kernel
theorem dX5_feed_43 : decode cX5_feed 43 = .ok (.getfield 57, 3) := by decide +kernel
theorem dX5_feed_46 : decode cX5_feed 46 = .ok (.ireturn, 1) := by decide +kernel
theorem dX5_end_0 : decode cX5_end 0 = .ok (.iload_n 1, 1) := by decide +kernel
theorem dX5_end_1 : decode cX5_end 1 = .ok (.iconst 0, 1) := by decide +kernel
theorem dX5_end_2 : decode cX5_end 2 = .ok (.aload_n 0, 1) := by decide +kernel
theorem dX5_end_3 : decode cX5_end 3 = .ok (.getfield 57, 3) := by decide +kernel
theorem dX5_end_6 : decode cX5_end 6 = .ok (.invokestatic 64, 3) := by decide +kernel
theorem dX5_end_9 : decode cX5_end 9 = .ok (.ifCond .ne 5, 3) := by decide +kernel
theorem dX5_end_12 : decode cX5_end 12 = .ok (.iconst (-1), 1) := by decide +kernel
theorem dX5_end_13 : decode cX5_end 13 = .ok (.ireturn, 1) := by decide +kernel
theorem dX5_end_14 : decode cX5_end 14 = .ok (.aload_n 0, 1) := by decide +kernel
theorem dX5_end_15 : decode cX5_end 15 = .ok (.iload_n 1, 1) := by decide +kernel
theorem dX5_end_16 : decode cX5_end 16 = .ok (.putfield 57, 3) := by decide +kernel
theorem dX5_end_19 : decode cX5_end 19 = .ok (.iload_n 1, 1) := by decide +kernel
theorem dX5_end_20 : decode cX5_end 20 = .ok (.ireturn, 1) := by decide +kernel
theorem dX5_see_0 : decode cX5_see 0 = .ok (.iload_n 1, 1) := by decide +kernel
theorem dX5_see_1 : decode cX5_see 1 = .ok (.aload_n 0, 1) := by decide +kernel
theorem dX5_see_2 : decode cX5_see 2 = .ok (.getfield 57, 3) := by decide +kernel
theorem dX5_see_5 : decode cX5_see 5 = .ok (.if_icmp .ge 12, 3) := by decide +kernel
theorem dX5_see_8 : decode cX5_see 8 = .ok (.aload_n 0, 1) := by decide +kernel
theorem dX5_see_9 : decode cX5_see 9 = .ok (.getfield 25, 3) := by decide +kernel
theorem dX5_see_12 : decode cX5_see 12 = .ok (.iload_n 1, 1) := by decide +kernel
theorem dX5_see_13 : decode cX5_see 13 = .ok (.iaload, 1) := by decide +kernel
theorem dX5_see_14 : decode cX5_see 14 = .ok (.goto 4, 3) := by decide +kernel
theorem dX5_see_17 : decode cX5_see 17 = .ok (.iconst (-1), 1) := by decide +kernel
theorem dX5_see_18 : decode cX5_see 18 = .ok (.ireturn, 1) := by decide +kernel
theorem dX5_isLetter_0 : decode cX5_isLetter 0 = .ok (.iload_n 0, 1) := by decide +kernel
theorem dX5_isLetter_1 : decode cX5_isLetter 1 = .ok (.bipush 97, 2) := by decide +kernel
theorem dX5_isLetter_3 : decode cX5_isLetter 3 = .ok (.bipush 122, 2) := by decide +kernel
theorem dX5_isLetter_5 : decode cX5_isLetter 5 = .ok (.invokestatic 64, 3) := by decide +kernel
theorem dX5_isLetter_8 : decode cX5_isLetter 8 = .ok (.ifCond .ne 14, 3) := by decide +kernel
theorem dX5_isLetter_11 : decode cX5_isLetter 11 = .ok (.iload_n 0, 1) := by decide +kernel
theorem dX5_isLetter_12 : decode cX5_isLetter 12 = .ok (.bipush 65, 2) := by decide +kernel
theorem dX5_isLetter_14 : decode cX5_isLetter 14 = .ok (.bipush 90, 2) := by decide +kernel
theorem dX5_isLetter_16 : decode cX5_isLetter 16 = .ok (.invokestatic 64, 3) := by decide +kernel
theorem dX5_isLetter_19 : decode cX5_isLetter 19 = .ok (.ifCond .eq 7, 3) := by decide +kernel
theorem dX5_isLetter_22 : decode cX5_isLetter 22 = .ok (.iconst 1, 1) := by decide +kernel
theorem dX5_isLetter_23 : decode cX5_isLetter 23 = .ok (.goto 4, 3) := by decide +kernel
theorem dX5_isLetter_26 : decode cX5_isLetter 26 = .ok (.iconst 0, 1) := by decide +kernel
theorem dX5_isLetter_27 : decode cX5_isLetter 27 = .ok (.ireturn, 1) := by decide +kernel
theorem dX5_isDigit_0 : decode cX5_isDigit 0 = .ok (.iload_n 0, 1) := by decide +kernel
theorem dX5_isDigit_1 : decode cX5_isDigit 1 = .ok (.bipush 48, 2) := by decide +kernel
theorem dX5_isDigit_3 : decode cX5_isDigit 3 = .ok (.bipush 57, 2) := by decide +kernel
theorem dX5_isDigit_5 : decode cX5_isDigit 5 = .ok (.invokestatic 64, 3) := by decide +kernel
theorem dX5_isDigit_8 : decode cX5_isDigit 8 = .ok (.ireturn, 1) := by decide +kernel
theorem dX5_add_0 : decode cX5_add 0 = .ok (.lload_n 0, 1) := by decide +kernel
theorem dX5_add_1 : decode cX5_add 1 = .ok (.bipush 8, 2) := by decide +kernel
theorem dX5_add_3 : decode cX5_add 3 = .ok (.lshl, 1) := by decide +kernel
theorem dX5_add_4 : decode cX5_add 4 = .ok (.iload_n 2, 1) := by decide +kernel
theorem dX5_add_5 : decode cX5_add 5 = .ok (.i2l, 1) := by decide +kernel
theorem dX5_add_6 : decode cX5_add 6 = .ok (.lor, 1) := by decide +kernel
theorem dX5_add_7 : decode cX5_add 7 = .ok (.bipush 8, 2) := by decide +kernel
theorem dX5_add_9 : decode cX5_add 9 = .ok (.lshl, 1) := by decide +kernel
theorem dX5_add_10 : decode cX5_add 10 = .ok (.iload_n 3, 1) := by decide +kernel
theorem dX5_add_11 : decode cX5_add 11 = .ok (.i2l, 1) := by decide +kernel
theorem dX5_add_12 : decode cX5_add 12 = .ok (.lor, 1) := by decide +kernel
theorem dX5_add_13 : decode cX5_add 13 = .ok (.lreturn, 1) := by decide +kernel
theorem dX5_wordOf_0 : decode cX5_wordOf 0 = .ok (.lload_n 0, 1) := by decide +kernel
theorem dX5_wordOf_1 : decode cX5_wordOf 1 = .ok (.ldc2_w 68, 3) := by decide +kernel
theorem dX5_wordOf_4 : decode cX5_wordOf 4 = .ok (.bipush 117, 2) := by decide +kernel
theorem dX5_wordOf_6 : decode cX5_wordOf 6 = .ok (.bipush 116, 2) := by decide +kernel
theorem dX5_wordOf_8 : decode cX5_wordOf 8 = .ok (.invokestatic 70, 3) := by decide +kernel
theorem dX5_wordOf_11 : decode cX5_wordOf 11 = .ok (.lcmp, 1) := by decide +kernel
theorem dX5_wordOf_12 : decode cX5_wordOf 12 = .ok (.ifCond .ne 5, 3) := by decide +kernel
theorem dX5_wordOf_15 : decode cX5_wordOf 15 = .ok (.iconst 0, 1) := by decide +kernel
theorem dX5_wordOf_16 : decode cX5_wordOf 16 = .ok (.ireturn, 1) := by decide +kernel
theorem dX5_wordOf_17 : decode cX5_wordOf 17 = .ok (.lload_n 0, 1) := by decide +kernel
theorem dX5_wordOf_18 : decode cX5_wordOf 18 = .ok (.ldc2_w 74, 3) := by decide +kernel
theorem dX5_wordOf_21 : decode cX5_wordOf 21 = .ok (.bipush 101, 2) := by decide +kernel
theorem dX5_wordOf_23 : decode cX5_wordOf 23 = .ok (.bipush 116, 2) := by decide +kernel
theorem dX5_wordOf_25 : decode cX5_wordOf 25 = .ok (.invokestatic 70, 3) := by decide +kernel
theorem dX5_wordOf_28 : decode cX5_wordOf 28 = .ok (.lcmp, 1) := by decide +kernel
theorem dX5_wordOf_29 : decode cX5_wordOf 29 = .ok (.ifCond .ne 5, 3) := by decide +kernel
theorem dX5_wordOf_32 : decode cX5_wordOf 32 = .ok (.iconst 1, 1) := by decide +kernel
theorem dX5_wordOf_33 : decode cX5_wordOf 33 = .ok (.ireturn, 1) := by decide +kernel
theorem dX5_wordOf_34 : decode cX5_wordOf 34 = .ok (.lload_n 0, 1) := by decide +kernel
theorem dX5_wordOf_35 : decode cX5_wordOf 35 = .ok (.lconst 0, 1) := by decide +kernel
theorem dX5_wordOf_36 : decode cX5_wordOf 36 = .ok (.bipush 115, 2) := by decide +kernel
theorem dX5_wordOf_38 : decode cX5_wordOf 38 = .ok (.bipush 119, 2) := by decide +kernel
theorem dX5_wordOf_40 : decode cX5_wordOf 40 = .ok (.invokestatic 70, 3) := by decide +kernel
theorem dX5_wordOf_43 : decode cX5_wordOf 43 = .ok (.bipush 97, 2) := by decide +kernel
theorem dX5_wordOf_45 : decode cX5_wordOf 45 = .ok (.bipush 112, 2) := by decide +kernel
theorem dX5_wordOf_47 : decode cX5_wordOf 47 = .ok (.invokestatic 70, 3) := by decide +kernel
theorem dX5_wordOf_50 : decode cX5_wordOf 50 = .ok (.lcmp, 1) := by decide +kernel
theorem dX5_wordOf_51 : decode cX5_wordOf 51 = .ok (.ifCond .ne 5, 3) := by decide +kernel
theorem dX5_wordOf_54 : decode cX5_wordOf 54 = .ok (.iconst 2, 1) := by decide +kernel
theorem dX5_wordOf_55 : decode cX5_wordOf 55 = .ok (.ireturn, 1) := by decide +kernel
theorem dX5_wordOf_56 : decode cX5_wordOf 56 = .ok (.lload_n 0, 1) := by decide +kernel
theorem dX5_wordOf_57 : decode cX5_wordOf 57 = .ok (.ldc2_w 76, 3) := by decide +kernel
theorem dX5_wordOf_60 : decode cX5_wordOf 60 = .ok (.bipush 100, 2) := by decide +kernel
theorem dX5_wordOf_62 : decode cX5_wordOf 62 = .ok (.bipush 100, 2) := by decide +kernel
theorem dX5_wordOf_64 : decode cX5_wordOf 64 = .ok (.invokestatic 70, 3) := by decide +kernel
theorem dX5_wordOf_67 : decode cX5_wordOf 67 = .ok (.lcmp, 1) := by decide +kernel
theorem dX5_wordOf_68 : decode cX5_wordOf 68 = .ok (.ifCond .ne 5, 3) := by decide +kernel
theorem dX5_wordOf_71 : decode cX5_wordOf 71 = .ok (.iconst 3, 1) := by decide +kernel
theorem dX5_wordOf_72 : decode cX5_wordOf 72 = .ok (.ireturn, 1) := by decide +kernel
theorem dX5_wordOf_73 : decode cX5_wordOf 73 = .ok (.lload_n 0, 1) := by decide +kernel
theorem dX5_wordOf_74 : decode cX5_wordOf 74 = .ok (.ldc2_w 78, 3) := by decide +kernel
theorem dX5_wordOf_77 : decode cX5_wordOf 77 = .ok (.bipush 101, 2) := by decide +kernel
theorem dX5_wordOf_79 : decode cX5_wordOf 79 = .ok (.bipush 110, 2) := by decide +kernel
theorem dX5_wordOf_81 : decode cX5_wordOf 81 = .ok (.invokestatic 70, 3) := by decide +kernel
theorem dX5_wordOf_84 : decode cX5_wordOf 84 = .ok (.bipush 99, 2) := by decide +kernel
theorem dX5_wordOf_86 : decode cX5_wordOf 86 = .ok (.bipush 101, 2) := by decide +kernel
theorem dX5_wordOf_88 : decode cX5_wordOf 88 = .ok (.invokestatic 70, 3) := by decide +kernel
theorem dX5_wordOf_91 : decode cX5_wordOf 91 = .ok (.lcmp, 1) := by decide +kernel
theorem dX5_wordOf_92 : decode cX5_wordOf 92 = .ok (.ifCond .ne 5, 3) := by decide +kernel
theorem dX5_wordOf_95 : decode cX5_wordOf 95 = .ok (.iconst 4, 1) := by decide +kernel
theorem dX5_wordOf_96 : decode cX5_wordOf 96 = .ok (.ireturn, 1) := by decide +kernel
theorem dX5_wordOf_97 : decode cX5_wordOf 97 = .ok (.lload_n 0, 1) := by decide +kernel
theorem dX5_wordOf_98 : decode cX5_wordOf 98 = .ok (.lconst 0, 1) := by decide +kernel
theorem dX5_wordOf_99 : decode cX5_wordOf 99 = .ok (.bipush 119, 2) := by decide +kernel
theorem dX5_wordOf_101 : decode cX5_wordOf 101 = .ok (.bipush 97, 2) := by decide +kernel
theorem dX5_wordOf_103 : decode cX5_wordOf 103 = .ok (.invokestatic 70, 3) := by decide +kernel
theorem dX5_wordOf_106 : decode cX5_wordOf 106 = .ok (.bipush 105, 2) := by decide +kernel
theorem dX5_wordOf_108 : decode cX5_wordOf 108 = .ok (.bipush 116, 2) := by decide +kernel
theorem dX5_wordOf_110 : decode cX5_wordOf 110 = .ok (.invokestatic 70, 3) := by decide +kernel
theorem dX5_wordOf_113 : decode cX5_wordOf 113 = .ok (.lcmp, 1) := by decide +kernel
theorem dX5_wordOf_114 : decode cX5_wordOf 114 = .ok (.ifCond .ne 5, 3) := by decide +kernel
theorem dX5_wordOf_117 : decode cX5_wordOf 117 = .ok (.iconst 5, 1) := by decide +kernel
theorem dX5_wordOf_118 : decode cX5_wordOf 118 = .ok (.ireturn, 1) := by decide +kernel
theorem dX5_wordOf_119 : decode cX5_wordOf 119 = .ok (.lload_n 0, 1) := by decide +kernel
theorem dX5_wordOf_120 : decode cX5_wordOf 120 = .ok (.ldc2_w 80, 3) := by decide +kernel
theorem dX5_wordOf_123 : decode cX5_wordOf 123 = .ok (.bipush 101, 2) := by decide +kernel
theorem dX5_wordOf_125 : decode cX5_wordOf 125 = .ok (.bipush 116, 2) := by decide +kernel
theorem dX5_wordOf_127 : decode cX5_wordOf 127 = .ok (.invokestatic 70, 3) := by decide +kernel
theorem dX5_wordOf_130 : decode cX5_wordOf 130 = .ok (.lcmp, 1) := by decide +kernel
theorem dX5_wordOf_131 : decode cX5_wordOf 131 = .ok (.ifCond .ne 6, 3) := by decide +kernel
theorem dX5_wordOf_134 : decode cX5_wordOf 134 = .ok (.bipush 6, 2) := by decide +kernel
theorem dX5_wordOf_136 : decode cX5_wordOf 136 = .ok (.ireturn, 1) := by decide +kernel
theorem dX5_wordOf_137 : decode cX5_wordOf 137 = .ok (.lload_n 0, 1) := by decide +kernel
theorem dX5_wordOf_138 : decode cX5_wordOf 138 = .ok (.lconst 0, 1) := by decide +kernel
theorem dX5_wordOf_139 : decode cX5_wordOf 139 = .ok (.bipush 108, 2) := by decide +kernel
theorem dX5_wordOf_141 : decode cX5_wordOf 141 = .ok (.bipush 111, 2) := by decide +kernel
theorem dX5_wordOf_143 : decode cX5_wordOf 143 = .ok (.invokestatic 70, 3) := by decide +kernel
theorem dX5_wordOf_146 : decode cX5_wordOf 146 = .ok (.bipush 97, 2) := by decide +kernel
theorem dX5_wordOf_148 : decode cX5_wordOf 148 = .ok (.bipush 100, 2) := by decide +kernel
theorem dX5_wordOf_150 : decode cX5_wordOf 150 = .ok (.invokestatic 70, 3) := by decide +kernel
theorem dX5_wordOf_153 : decode cX5_wordOf 153 = .ok (.lcmp, 1) := by decide +kernel
theorem dX5_wordOf_154 : decode cX5_wordOf 154 = .ok (.ifCond .ne 6, 3) := by decide +kernel
theorem dX5_wordOf_157 : decode cX5_wordOf 157 = .ok (.bipush 7, 2) := by decide +kernel
theorem dX5_wordOf_159 : decode cX5_wordOf 159 = .ok (.ireturn, 1) := by decide +kernel
theorem dX5_wordOf_160 : decode cX5_wordOf 160 = .ok (.lload_n 0, 1) := by decide +kernel
theorem dX5_wordOf_161 : decode cX5_wordOf 161 = .ok (.lconst 0, 1) := by decide +kernel
theorem dX5_wordOf_162 : decode cX5_wordOf 162 = .ok (.bipush 105, 2) := by decide +kernel
theorem dX5_wordOf_164 : decode cX5_wordOf 164 = .ok (.bipush 102, 2) := by decide +kernel
theorem dX5_wordOf_166 : decode cX5_wordOf 166 = .ok (.invokestatic 70, 3) := by decide +kernel
theorem dX5_wordOf_169 : decode cX5_wordOf 169 = .ok (.lcmp, 1) := by decide +kernel
theorem dX5_wordOf_170 : decode cX5_wordOf 170 = .ok (.ifCond .ne 8, 3) := by decide +kernel
theorem dX5_wordOf_173 : decode cX5_wordOf 173 = .ok (.bipush 8, 2) := by decide +kernel
theorem dX5_wordOf_175 : decode cX5_wordOf 175 = .ok (.goto 4, 3) := by decide +kernel
theorem dX5_wordOf_178 : decode cX5_wordOf 178 = .ok (.iconst (-1), 1) := by decide +kernel
theorem dX5_wordOf_179 : decode cX5_wordOf 179 = .ok (.ireturn, 1) := by decide +kernel
theorem dX5_nextToken_0 : decode cX5_nextToken 0 = .ok (.aload_n 0, 1) := by decide +kernel
theorem dX5_nextToken_1 : decode cX5_nextToken 1 = .ok (.aload_n 0, 1) := by decide +kernel
theorem dX5_nextToken_2 : decode cX5_nextToken 2 = .ok (.getfield 82, 3) := by decide +kernel
theorem dX5_nextToken_5 : decode cX5_nextToken 5 = .ok (.invokevirtual 85, 3) := by decide +kernel
theorem dX5_nextToken_8 : decode cX5_nextToken 8 = .ok (.bipush 32, 2) := by decide +kernel
theorem dX5_nextToken_10 : decode cX5_nextToken 10 = .ok (.if_icmp .eq 16, 3) := by decide +kernel
theorem dX5_nextToken_13 : decode cX5_nextToken 13 = .ok (.aload_n 0, 1) := by decide +kernel
theorem dX5_nextToken_14 : decode cX5_nextToken 14 = .ok (.aload_n 0, 1) := by decide +kernel
theorem dX5_nextToken_15 : decode cX5_nextToken 15 = .ok (.getfield 82, 3) := by decide +kernel
theorem dX5_nextToken_18 : decode cX5_nextToken 18 = .ok (.invokevirtual 85, 3) := by decide +kernel
theorem dX5_nextToken_21 : decode cX5_nextToken 21 = .ok (.bipush 10, 2) := by decide +kernel
theorem dX5_nextToken_23 : decode cX5_nextToken 23 = .ok (.if_icmp .ne 16, 3) := by decide +kernel
theorem dX5_nextToken_26 : decode cX5_nextToken 26 = .ok (.aload_n 0, 1) := by decide +kernel
theorem dX5_nextToken_27 : decode cX5_nextToken 27 = .ok (.dup, 1) := by decide +kernel
theorem dX5_nextToken_28 : decode cX5_nextToken 28 = .ok (.getfield 82, 3) := by decide +kernel
theorem dX5_nextToken_31 : decode cX5_nextToken 31 = .ok (.iconst 1, 1) := by decide +kernel
theorem dX5_nextToken_32 : decode cX5_nextToken 32 = .ok (.iadd, 1) := by decide +kernel
theorem dX5_nextToken_33 : decode cX5_nextToken 33 = .ok (.putfield 82, 3) := by decide +kernel
theorem dX5_nextToken_36 : decode cX5_nextToken 36 = .ok (.goto (-36), 3) := by decide +kernel
theorem dX5_nextToken_39 : decode cX5_nextToken 39 = .ok (.aload_n 0, 1) := by decide +kernel
theorem dX5_nextToken_40 : decode cX5_nextToken 40 = .ok (.aload_n 0, 1) := by decide +kernel
theorem dX5_nextToken_41 : decode cX5_nextToken 41 = .ok (.getfield 82, 3) := by decide +kernel
theorem dX5_nextToken_44 : decode cX5_nextToken 44 = .ok (.putfield 89, 3) := by decide +kernel
theorem dX5_nextToken_47 : decode cX5_nextToken 47 = .ok (.aload_n 0, 1) := by decide +kernel
theorem dX5_nextToken_48 : decode cX5_nextToken 48 = .ok (.aload_n 0, 1) := by decide +kernel
theorem dX5_nextToken_49 : decode cX5_nextToken 49 = .ok (.getfield 82, 3) := by decide +kernel
theorem dX5_nextToken_52 : decode cX5_nextToken 52 = .ok (.invokevirtual 85, 3) := by decide +kernel
theorem dX5_nextToken_55 : decode cX5_nextToken 55 = .ok (.istore_n 1, 1) := by decide +kernel
theorem dX5_nextToken_56 : decode cX5_nextToken 56 = .ok (.iload_n 1, 1) := by decide +kernel
theorem dX5_nextToken_57 : decode cX5_nextToken 57 = .ok (.ifCond .ge 11, 3) := by decide +kernel
theorem dX5_nextToken_60 : decode cX5_nextToken 60 = .ok (.aload_n 0, 1) := by decide +kernel
theorem dX5_nextToken_61 : decode cX5_nextToken 61 = .ok (.iconst 0, 1) := by decide +kernel
theorem dX5_nextToken_62 : decode cX5_nextToken 62 = .ok (.putfield 92, 3) := by decide +kernel
theorem dX5_nextToken_65 : decode cX5_nextToken 65 = .ok (.goto 207, 3) := by decide +kernel
theorem dX5_nextToken_68 : decode cX5_nextToken 68 = .ok (.iload_n 1, 1) := by decide +kernel
theorem dX5_nextToken_69 : decode cX5_nextToken 69 = .ok (.invokestatic 95, 3) := by decide +kernel
theorem dX5_nextToken_72 : decode cX5_nextToken 72 = .ok (.ifCond .eq 73, 3) := by decide +kernel
theorem dX5_nextToken_75 : decode cX5_nextToken 75 = .ok (.aload_n 0, 1) := by decide +kernel
theorem dX5_nextToken_76 : decode cX5_nextToken 76 = .ok (.iconst 1, 1) := by decide +kernel
theorem dX5_nextToken_77 : decode cX5_nextToken 77 = .ok (.putfield 92, 3) := by decide +kernel
theorem dX5_nextToken_80 : decode cX5_nextToken 80 = .ok (.aload_n 0, 1) := by decide +kernel
theorem dX5_nextToken_81 : decode cX5_nextToken 81 = .ok (.iconst 0, 1) := by decide +kernel
theorem dX5_nextToken_82 : decode cX5_nextToken 82 = .ok (.putfield 99, 3) := by decide +kernel
theorem dX5_nextToken_85 : decode cX5_nextToken 85 = .ok (.aload_n 0, 1) := by decide +kernel
theorem dX5_nextToken_86 : decode cX5_nextToken 86 = .ok (.aload_n 0, 1) := by decide +kernel
theorem dX5_nextToken_87 : decode cX5_nextToken 87 = .ok (.getfield 82, 3) := by decide +kernel
theorem dX5_nextToken_90 : decode cX5_nextToken 90 = .ok (.invokevirtual 85, 3) := by decide +kernel
theorem dX5_nextToken_93 : decode cX5_nextToken 93 = .ok (.invokestatic 95, 3) := by decide +kernel
theorem dX5_nextToken_96 : decode cX5_nextToken 96 = .ok (.ifCond .eq 176, 3) := by decide +kernel
theorem dX5_nextToken_99 : decode cX5_nextToken 99 = .ok (.aload_n 0, 1) := by decide +kernel
theorem dX5_nextToken_100 : decode cX5_nextToken 100 = .ok (.getfield 99, 3) := by decide +kernel
theorem dX5_nextToken_103 : decode cX5_nextToken 103 = .ok (.sipush 1000, 3) := by decide +kernel
theorem dX5_nextToken_106 : decode cX5_nextToken 106 = .ok (.if_icmp .ge 26, 3) := by decide +kernel
theorem dX5_nextToken_109 : decode cX5_nextToken 109 = .ok (.aload_n 0, 1) := by decide +kernel
theorem dX5_nextToken_110 : decode cX5_nextToken 110 = .ok (.bipush 10, 2) := by decide +kernel
theorem dX5_nextToken_112 : decode cX5_nextToken 112 = .ok (.aload_n 0, 1) := by decide +kernel
theorem dX5_nextToken_113 : decode cX5_nextToken 113 = .ok (.getfield 99, 3) := by decide +kernel
theorem dX5_nextToken_116 : decode cX5_nextToken 116 = .ok (.imul, 1) := by decide +kernel
theorem dX5_nextToken_117 : decode cX5_nextToken 117 = .ok (.aload_n 0, 1) := by decide +kernel
theorem dX5_nextToken_118 : decode cX5_nextToken 118 = .ok (.aload_n 0, 1) := by decide +kernel
theorem dX5_nextToken_119 : decode cX5_nextToken 119 = .ok (.getfield 82, 3) := by decide +kernel
theorem dX5_nextToken_122 : decode cX5_nextToken 122 = .ok (.invokevirtual 85, 3) := by decide +kernel
theorem dX5_nextToken_125 : decode cX5_nextToken 125 = .ok (.iadd, 1) := by decide +kernel
theorem dX5_nextToken_126 : decode cX5_nextToken 126 = .ok (.bipush 48, 2) := by decide +kernel
theorem dX5_nextToken_128 : decode cX5_nextToken 128 = .ok (.isub, 1) := by decide +kernel
theorem dX5_nextToken_129 : decode cX5_nextToken 129 = .ok (.putfield 99, 3) := by decide +kernel
theorem dX5_nextToken_132 : decode cX5_nextToken 132 = .ok (.aload_n 0, 1) := by decide +kernel
theorem dX5_nextToken_133 : decode cX5_nextToken 133 = .ok (.dup, 1) := by decide +kernel
theorem dX5_nextToken_134 : decode cX5_nextToken 134 = .ok (.getfield 82, 3) := by decide +kernel
theorem dX5_nextToken_137 : decode cX5_nextToken 137 = .ok (.iconst 1, 1) := by decide +kernel
theorem dX5_nextToken_138 : decode cX5_nextToken 138 = .ok (.iadd, 1) := by decide +kernel
theorem dX5_nextToken_139 : decode cX5_nextToken 139 = .ok (.putfield 82, 3) := by decide +kernel
theorem dX5_nextToken_142 : decode cX5_nextToken 142 = .ok (.goto (-57), 3) := by decide +kernel
theorem dX5_nextToken_145 : decode cX5_nextToken 145 = .ok (.iload_n 1, 1) := by decide +kernel
theorem dX5_nextToken_146 : decode cX5_nextToken 146 = .ok (.invokestatic 102, 3) := by decide +kernel
theorem dX5_nextToken_149 : decode cX5_nextToken 149 = .ok (.ifCond .eq 98, 3) := by decide +kernel
theorem dX5_nextToken_152 : decode cX5_nextToken 152 = .ok (.lconst 0, 1) := by decide +kernel
theorem dX5_nextToken_153 : decode cX5_nextToken 153 = .ok (.lstore_n 2, 1) := by decide +kernel
theorem dX5_nextToken_154 : decode cX5_nextToken 154 = .ok (.aload_n 0, 1) := by decide +kernel
theorem dX5_nextToken_155 : decode cX5_nextToken 155 = .ok (.aload_n 0, 1) := by decide +kernel
theorem dX5_nextToken_156 : decode cX5_nextToken 156 = .ok (.getfield 82, 3) := by decide +kernel
theorem dX5_nextToken_159 : decode cX5_nextToken 159 = .ok (.invokevirtual 85, 3) := by decide +kernel
theorem dX5_nextToken_162 : decode cX5_nextToken 162 = .ok (.invokestatic 102, 3) := by decide +kernel
theorem dX5_nextToken_165 : decode cX5_nextToken 165 = .ok (.ifCond .eq 45, 3) := by decide +kernel
theorem dX5_nextToken_168 : decode cX5_nextToken 168 = .ok (.aload_n 0, 1) := by decide +kernel
theorem dX5_nextToken_169 : decode cX5_nextToken 169 = .ok (.getfield 82, 3) := by decide +kernel
theorem dX5_nextToken_172 : decode cX5_nextToken 172 = .ok (.aload_n 0, 1) := by decide +kernel
theorem dX5_nextToken_173 : decode cX5_nextToken 173 = .ok (.getfield 89, 3) := by decide +kernel
theorem dX5_nextToken_176 : decode cX5_nextToken 176 = .ok (.isub, 1) := by decide +kernel
theorem dX5_nextToken_177 : decode cX5_nextToken 177 = .ok (.bipush 6, 2) := by decide +kernel
theorem dX5_nextToken_179 : decode cX5_nextToken 179 = .ok (.if_icmp .ge 18, 3) := by decide +kernel
theorem dX5_nextToken_182 : decode cX5_nextToken 182 = .ok (.lload_n 2, 1) := by decide +kernel
theorem dX5_nextToken_183 : decode cX5_nextToken 183 = .ok (.bipush 8, 2) := by decide +kernel
theorem dX5_nextToken_185 : decode cX5_nextToken 185 = .ok (.lshl, 1) := by decide +kernel
theorem dX5_nextToken_186 : decode cX5_nextToken 186 = .ok (.aload_n 0, 1) := by decide +kernel
theorem dX5_nextToken_187 : decode cX5_nextToken 187 = .ok (.aload_n 0, 1) := by decide +kernel
theorem dX5_nextToken_188 : decode cX5_nextToken 188 = .ok (.getfield 82, 3) := by decide +kernel
theorem dX5_nextToken_191 : decode cX5_nextToken 191 = .ok (.invokevirtual 85, 3) := by decide +kernel
theorem dX5_nextToken_194 : decode cX5_nextToken 194 = .ok (.i2l, 1) := by decide +kernel
theorem dX5_nextToken_195 : decode cX5_nextToken 195 = .ok (.lor, 1) := by decide +kernel
theorem dX5_nextToken_196 : decode cX5_nextToken 196 = .ok (.lstore_n 2, 1) := by decide +kernel
theorem dX5_nextToken_197 : decode cX5_nextToken 197 = .ok (.aload_n 0, 1) := by decide +kernel
theorem dX5_nextToken_198 : decode cX5_nextToken 198 = .ok (.dup, 1) := by decide +kernel
theorem dX5_nextToken_199 : decode cX5_nextToken 199 = .ok (.getfield 82, 3) := by decide +kernel
theorem dX5_nextToken_202 : decode cX5_nextToken 202 = .ok (.iconst 1, 1) := by decide +kernel
theorem dX5_nextToken_203 : decode cX5_nextToken 203 = .ok (.iadd, 1) := by decide +kernel
theorem dX5_nextToken_204 : decode cX5_nextToken 204 = .ok (.putfield 82, 3) := by decide +kernel
theorem dX5_nextToken_207 : decode cX5_nextToken 207 = .ok (.goto (-53), 3) := by decide +kernel
theorem dX5_nextToken_210 : decode cX5_nextToken 210 = .ok (.aload_n 0, 1) := by decide +kernel
theorem dX5_nextToken_211 : decode cX5_nextToken 211 = .ok (.aload_n 0, 1) := by decide +kernel
theorem dX5_nextToken_212 : decode cX5_nextToken 212 = .ok (.getfield 82, 3) := by decide +kernel
theorem dX5_nextToken_215 : decode cX5_nextToken 215 = .ok (.aload_n 0, 1) := by decide +kernel
theorem dX5_nextToken_216 : decode cX5_nextToken 216 = .ok (.getfield 89, 3) := by decide +kernel
theorem dX5_nextToken_219 : decode cX5_nextToken 219 = .ok (.isub, 1) := by decide +kernel
theorem dX5_nextToken_220 : decode cX5_nextToken 220 = .ok (.iconst 5, 1) := by decide +kernel
theorem dX5_nextToken_221 : decode cX5_nextToken 221 = .ok (.if_icmp .gt 10, 3) := by decide +kernel
theorem dX5_nextToken_224 : decode cX5_nextToken 224 = .ok (.lload_n 2, 1) := by decide +kernel
theorem dX5_nextToken_225 : decode cX5_nextToken 225 = .ok (.invokestatic 105, 3) := by decide +kernel
theorem dX5_nextToken_228 : decode cX5_nextToken 228 = .ok (.ifCond .ge 7, 3) := by decide +kernel
theorem dX5_nextToken_231 : decode cX5_nextToken 231 = .ok (.iconst 3, 1) := by decide +kernel
theorem dX5_nextToken_232 : decode cX5_nextToken 232 = .ok (.goto 9, 3) := by decide +kernel
theorem dX5_nextToken_235 : decode cX5_nextToken 235 = .ok (.iconst 4, 1) := by decide +kernel
theorem dX5_nextToken_236 : decode cX5_nextToken 236 = .ok (.lload_n 2, 1) := by decide +kernel
theorem dX5_nextToken_237 : decode cX5_nextToken 237 = .ok (.invokestatic 105, 3) := by decide +kernel
theorem dX5_nextToken_240 : decode cX5_nextToken 240 = .ok (.iadd, 1) := by decide +kernel
theorem dX5_nextToken_241 : decode cX5_nextToken 241 = .ok (.putfield 92, 3) := by decide +kernel
theorem dX5_nextToken_244 : decode cX5_nextToken 244 = .ok (.goto 28, 3) := by decide +kernel
theorem dX5_nextToken_247 : decode cX5_nextToken 247 = .ok (.aload_n 0, 1) := by decide +kernel
theorem dX5_nextToken_248 : decode cX5_nextToken 248 = .ok (.iload_n 1, 1) := by decide +kernel
theorem dX5_nextToken_249 : decode cX5_nextToken 249 = .ok (.bipush 59, 2) := by decide +kernel
theorem dX5_nextToken_251 : decode cX5_nextToken 251 = .ok (.if_icmp .ne 7, 3) := by decide +kernel
theorem dX5_nextToken_254 : decode cX5_nextToken 254 = .ok (.iconst 2, 1) := by decide +kernel
theorem dX5_nextToken_255 : decode cX5_nextToken 255 = .ok (.goto 4, 3) := by decide +kernel
theorem dX5_nextToken_258 : decode cX5_nextToken 258 = .ok (.iconst 3, 1) := by decide +kernel
theorem dX5_nextToken_259 : decode cX5_nextToken 259 = .ok (.putfield 92, 3) := by decide +kernel
theorem dX5_nextToken_262 : decode cX5_nextToken 262 = .ok (.aload_n 0, 1) := by decide +kernel
theorem dX5_nextToken_263 : decode cX5_nextToken 263 = .ok (.dup, 1) := by decide +kernel
theorem dX5_nextToken_264 : decode cX5_nextToken 264 = .ok (.getfield 82, 3) := by decide +kernel
theorem dX5_nextToken_267 : decode cX5_nextToken 267 = .ok (.iconst 1, 1) := by decide +kernel
theorem dX5_nextToken_268 : decode cX5_nextToken 268 = .ok (.iadd, 1) := by decide +kernel
theorem dX5_nextToken_269 : decode cX5_nextToken 269 = .ok (.putfield 82, 3) := by decide +kernel
theorem dX5_nextToken_272 : decode cX5_nextToken 272 = .ok (.return_, 1) := by decide +kernel
theorem dX5_numbersOf_0 : decode cX5_numbersOf 0 = .ok (.iload_n 0, 1) := by decide +kernel
theorem dX5_numbersOf_1 : decode cX5_numbersOf 1 = .ok (.iconst 2, 1) := by decide +kernel
theorem dX5_numbersOf_2 : decode cX5_numbersOf 2 = .ok (.if_icmp .ne 7, 3) := by decide +kernel
theorem dX5_numbersOf_5 : decode cX5_numbersOf 5 = .ok (.iconst 4, 1) := by decide +kernel
theorem dX5_numbersOf_6 : decode cX5_numbersOf 6 = .ok (.goto 33, 3) := by decide +kernel
theorem dX5_numbersOf_9 : decode cX5_numbersOf 9 = .ok (.iload_n 0, 1) := by decide +kernel
theorem dX5_numbersOf_10 : decode cX5_numbersOf 10 = .ok (.iconst 3, 1) := by decide +kernel
theorem dX5_numbersOf_11 : decode cX5_numbersOf 11 = .ok (.if_icmp .eq 9, 3) := by decide +kernel
theorem dX5_numbersOf_14 : decode cX5_numbersOf 14 = .ok (.iload_n 0, 1) := by decide +kernel
theorem dX5_numbersOf_15 : decode cX5_numbersOf 15 = .ok (.bipush 8, 2) := by decide +kernel
theorem dX5_numbersOf_17 : decode cX5_numbersOf 17 = .ok (.if_icmp .ne 7, 3) := by decide +kernel
theorem dX5_numbersOf_20 : decode cX5_numbersOf 20 = .ok (.iconst 3, 1) := by decide +kernel
theorem dX5_numbersOf_21 : decode cX5_numbersOf 21 = .ok (.goto 18, 3) := by decide +kernel
theorem dX5_numbersOf_24 : decode cX5_numbersOf 24 = .ok (.iload_n 0, 1) := by decide +kernel
theorem dX5_numbersOf_25 : decode cX5_numbersOf 25 = .ok (.iconst 4, 1) := by decide +kernel
theorem dX5_numbersOf_26 : decode cX5_numbersOf 26 = .ok (.if_icmp .eq 8, 3) := by decide +kernel
theorem dX5_numbersOf_29 : decode cX5_numbersOf 29 = .ok (.iload_n 0, 1) := by decide +kernel
theorem dX5_numbersOf_30 : decode cX5_numbersOf 30 = .ok (.iconst 5, 1) := by decide +kernel
theorem dX5_numbersOf_31 : decode cX5_numbersOf 31 = .ok (.if_icmp .ne 7, 3) := by decide +kernel
theorem dX5_numbersOf_34 : decode cX5_numbersOf 34 = .ok (.iconst 0, 1) := by decide +kernel
theorem dX5_numbersOf_35 : decode cX5_numbersOf 35 = .ok (.goto 4, 3) := by decide +kernel
theorem dX5_numbersOf_38 : decode cX5_numbersOf 38 = .ok (.iconst 2, 1) := by decide +kernel
theorem dX5_numbersOf_39 : decode cX5_numbersOf 39 = .ok (.ireturn, 1) := by decide +kernel
theorem dX5_mayBe_0 : decode cX5_mayBe 0 = .ok (.aload_n 0, 1) := by decide +kernel
theorem dX5_mayBe_1 : decode cX5_mayBe 1 = .ok (.getfield 99, 3) := by decide +kernel
theorem dX5_mayBe_4 : decode cX5_mayBe 4 = .ok (.iconst 2, 1) := by decide +kernel
theorem dX5_mayBe_5 : decode cX5_mayBe 5 = .ok (.iconst 2, 1) := by decide +kernel
theorem dX5_mayBe_6 : decode cX5_mayBe 6 = .ok (.iload_n 1, 1) := by decide +kernel
theorem dX5_mayBe_7 : decode cX5_mayBe 7 = .ok (.imul, 1) := by decide +kernel
theorem dX5_mayBe_8 : decode cX5_mayBe 8 = .ok (.isub, 1) := by decide +kernel
theorem dX5_mayBe_9 : decode cX5_mayBe 9 = .ok (.iconst 3, 1) := by decide +kernel
theorem dX5_mayBe_10 : decode cX5_mayBe 10 = .ok (.iconst 2, 1) := by decide +kernel
theorem dX5_mayBe_11 : decode cX5_mayBe 11 = .ok (.iload_n 1, 1) := by decide +kernel
theorem dX5_mayBe_12 : decode cX5_mayBe 12 = .ok (.imul, 1) := by decide +kernel
theorem dX5_mayBe_13 : decode cX5_mayBe 13 = .ok (.isub, 1) := by decide +kernel
theorem dX5_mayBe_14 : decode cX5_mayBe 14 = .ok (.invokestatic 64, 3) := by decide +kernel
theorem dX5_mayBe_17 : decode cX5_mayBe 17 = .ok (.istore 4, 2) := by decide +kernel
theorem dX5_mayBe_19 : decode cX5_mayBe 19 = .ok (.aload_n 0, 1) := by decide +kernel
theorem dX5_mayBe_20 : decode cX5_mayBe 20 = .ok (.getfield 99, 3) := by decide +kernel
theorem dX5_mayBe_23 : decode cX5_mayBe 23 = .ok (.iconst 2, 1) := by decide +kernel
theorem dX5_mayBe_24 : decode cX5_mayBe 24 = .ok (.iload_n 1, 1) := by decide +kernel
theorem dX5_mayBe_25 : decode cX5_mayBe 25 = .ok (.imul, 1) := by decide +kernel
theorem dX5_mayBe_26 : decode cX5_mayBe 26 = .ok (.iconst 1, 1) := by decide +kernel
theorem dX5_mayBe_27 : decode cX5_mayBe 27 = .ok (.iconst 2, 1) := by decide +kernel
theorem dX5_mayBe_28 : decode cX5_mayBe 28 = .ok (.iload_n 1, 1) := by decide +kernel
theorem dX5_mayBe_29 : decode cX5_mayBe 29 = .ok (.imul, 1) := by decide +kernel
theorem dX5_mayBe_30 : decode cX5_mayBe 30 = .ok (.iadd, 1) := by decide +kernel
theorem dX5_mayBe_31 : decode cX5_mayBe 31 = .ok (.invokestatic 64, 3) := by decide +kernel
theorem dX5_mayBe_34 : decode cX5_mayBe 34 = .ok (.istore 5, 2) := by decide +kernel
theorem dX5_mayBe_36 : decode cX5_mayBe 36 = .ok (.iload_n 3, 1) := by decide +kernel
theorem dX5_mayBe_37 : decode cX5_mayBe 37 = .ok (.ifCond .ne 29, 3) := by decide +kernel
theorem dX5_mayBe_40 : decode cX5_mayBe 40 = .ok (.iload_n 2, 1) := by decide +kernel
theorem dX5_mayBe_41 : decode cX5_mayBe 41 = .ok (.bipush 8, 2) := by decide +kernel
theorem dX5_mayBe_43 : decode cX5_mayBe 43 = .ok (.if_icmp .eq 23, 3) := by decide +kernel
theorem dX5_mayBe_46 : decode cX5_mayBe 46 = .ok (.iload_n 2, 1) := by decide +kernel
theorem dX5_mayBe_47 : decode cX5_mayBe 47 = .ok (.bipush 6, 2) := by decide +kernel
theorem dX5_mayBe_49 : decode cX5_mayBe 49 = .ok (.if_icmp .eq 9, 3) := by decide +kernel
theorem dX5_mayBe_52 : decode cX5_mayBe 52 = .ok (.iload_n 2, 1) := by decide +kernel
theorem dX5_mayBe_53 : decode cX5_mayBe 53 = .ok (.bipush 7, 2) := by decide +kernel
theorem dX5_mayBe_55 : decode cX5_mayBe 55 = .ok (.if_icmp .ne 8, 3) := by decide +kernel
theorem dX5_mayBe_58 : decode cX5_mayBe 58 = .ok (.iload 5, 2) := by decide +kernel
theorem dX5_mayBe_60 : decode cX5_mayBe 60 = .ok (.goto 5, 3) := by decide +kernel
theorem dX5_mayBe_63 : decode cX5_mayBe 63 = .ok (.iload 4, 2) := by decide +kernel
theorem dX5_mayBe_65 : decode cX5_mayBe 65 = .ok (.ireturn, 1) := by decide +kernel
theorem dX5_mayBe_66 : decode cX5_mayBe 66 = .ok (.iload_n 2, 1) := by decide +kernel
theorem dX5_mayBe_67 : decode cX5_mayBe 67 = .ok (.bipush 8, 2) := by decide +kernel
theorem dX5_mayBe_69 : decode cX5_mayBe 69 = .ok (.if_icmp .ne 55, 3) := by decide +kernel
theorem dX5_mayBe_72 : decode cX5_mayBe 72 = .ok (.iload_n 3, 1) := by decide +kernel
theorem dX5_mayBe_73 : decode cX5_mayBe 73 = .ok (.ifCond .ne 19, 3) := by decide +kernel
theorem dX5_mayBe_76 : decode cX5_mayBe 76 = .ok (.aload_n 0, 1) := by decide +kernel
theorem dX5_mayBe_77 : decode cX5_mayBe 77 = .ok (.getfield 99, 3) := by decide +kernel
theorem dX5_mayBe_80 : decode cX5_mayBe 80 = .ok (.iconst 2, 1) := by decide +kernel
theorem dX5_mayBe_81 : decode cX5_mayBe 81 = .ok (.if_icmp .ge 7, 3) := by decide +kernel
theorem dX5_mayBe_84 : decode cX5_mayBe 84 = .ok (.iconst 1, 1) := by decide +kernel
theorem dX5_mayBe_85 : decode cX5_mayBe 85 = .ok (.goto 38, 3) := by decide +kernel
theorem dX5_mayBe_88 : decode cX5_mayBe 88 = .ok (.iconst 0, 1) := by decide +kernel
theorem dX5_mayBe_89 : decode cX5_mayBe 89 = .ok (.goto 34, 3) := by decide +kernel
theorem dX5_mayBe_92 : decode cX5_mayBe 92 = .ok (.iload_n 3, 1) := by decide +kernel
theorem dX5_mayBe_93 : decode cX5_mayBe 93 = .ok (.iconst 1, 1) := by decide +kernel
theorem dX5_mayBe_94 : decode cX5_mayBe 94 = .ok (.if_icmp .ne 19, 3) := by decide +kernel
theorem dX5_mayBe_97 : decode cX5_mayBe 97 = .ok (.aload_n 0, 1) := by decide +kernel
theorem dX5_mayBe_98 : decode cX5_mayBe 98 = .ok (.getfield 99, 3) := by decide +kernel
theorem dX5_mayBe_101 : decode cX5_mayBe 101 = .ok (.iconst 4, 1) := by decide +kernel
theorem dX5_mayBe_102 : decode cX5_mayBe 102 = .ok (.if_icmp .ge 7, 3) := by decide +kernel
theorem dX5_mayBe_105 : decode cX5_mayBe 105 = .ok (.iconst 1, 1) := by decide +kernel
theorem dX5_mayBe_106 : decode cX5_mayBe 106 = .ok (.goto 17, 3) := by decide +kernel
theorem dX5_mayBe_109 : decode cX5_mayBe 109 = .ok (.iconst 0, 1) := by decide +kernel
theorem dX5_mayBe_110 : decode cX5_mayBe 110 = .ok (.goto 13, 3) := by decide +kernel
theorem dX5_mayBe_113 : decode cX5_mayBe 113 = .ok (.aload_n 0, 1) := by decide +kernel
theorem dX5_mayBe_114 : decode cX5_mayBe 114 = .ok (.getfield 99, 3) := by decide +kernel
theorem dX5_mayBe_117 : decode cX5_mayBe 117 = .ok (.iconst 1, 1) := by decide +kernel
theorem dX5_mayBe_118 : decode cX5_mayBe 118 = .ok (.bipush 7, 2) := by decide +kernel
theorem dX5_mayBe_120 : decode cX5_mayBe 120 = .ok (.invokestatic 64, 3) := by decide +kernel
theorem dX5_mayBe_123 : decode cX5_mayBe 123 = .ok (.ireturn, 1) := by decide +kernel
theorem dX5_mayBe_124 : decode cX5_mayBe 124 = .ok (.iload_n 2, 1) := by decide +kernel
theorem dX5_mayBe_125 : decode cX5_mayBe 125 = .ok (.iconst 1, 1) := by decide +kernel
theorem dX5_mayBe_126 : decode cX5_mayBe 126 = .ok (.if_icmp .eq 9, 3) := by decide +kernel
theorem dX5_mayBe_129 : decode cX5_mayBe 129 = .ok (.iload_n 2, 1) := by decide +kernel
theorem dX5_mayBe_130 : decode cX5_mayBe 130 = .ok (.bipush 7, 2) := by decide +kernel
theorem dX5_mayBe_132 : decode cX5_mayBe 132 = .ok (.if_icmp .ne 8, 3) := by decide +kernel
theorem dX5_mayBe_135 : decode cX5_mayBe 135 = .ok (.iload_n 3, 1) := by decide +kernel
theorem dX5_mayBe_136 : decode cX5_mayBe 136 = .ok (.iconst 1, 1) := by decide +kernel
theorem dX5_mayBe_137 : decode cX5_mayBe 137 = .ok (.if_icmp .eq 23, 3) := by decide +kernel
theorem dX5_mayBe_140 : decode cX5_mayBe 140 = .ok (.iload_n 2, 1) := by decide +kernel
theorem dX5_mayBe_141 : decode cX5_mayBe 141 = .ok (.iconst 2, 1) := by decide +kernel
theorem dX5_mayBe_142 : decode cX5_mayBe 142 = .ok (.if_icmp .ne 8, 3) := by decide +kernel
theorem dX5_mayBe_145 : decode cX5_mayBe 145 = .ok (.iload_n 3, 1) := by decide +kernel
theorem dX5_mayBe_146 : decode cX5_mayBe 146 = .ok (.iconst 3, 1) := by decide +kernel
theorem dX5_mayBe_147 : decode cX5_mayBe 147 = .ok (.if_icmp .eq 13, 3) := by decide +kernel
theorem dX5_mayBe_150 : decode cX5_mayBe 150 = .ok (.iload_n 2, 1) := by decide +kernel
theorem dX5_mayBe_151 : decode cX5_mayBe 151 = .ok (.iconst 3, 1) := by decide +kernel
theorem dX5_mayBe_152 : decode cX5_mayBe 152 = .ok (.if_icmp .ne 12, 3) := by decide +kernel
theorem dX5_mayBe_155 : decode cX5_mayBe 155 = .ok (.iload_n 3, 1) := by decide +kernel
theorem dX5_mayBe_156 : decode cX5_mayBe 156 = .ok (.iconst 2, 1) := by decide +kernel
theorem dX5_mayBe_157 : decode cX5_mayBe 157 = .ok (.if_icmp .ne 7, 3) := by decide +kernel
theorem dX5_mayBe_160 : decode cX5_mayBe 160 = .ok (.iconst 1, 1) := by decide +kernel
theorem dX5_mayBe_161 : decode cX5_mayBe 161 = .ok (.goto 4, 3) := by decide +kernel
theorem dX5_mayBe_164 : decode cX5_mayBe 164 = .ok (.iconst 0, 1) := by decide +kernel
theorem dX5_mayBe_165 : decode cX5_mayBe 165 = .ok (.istore 6, 2) := by decide +kernel
theorem dX5_mayBe_167 : decode cX5_mayBe 167 = .ok (.iload 6, 2) := by decide +kernel
theorem dX5_mayBe_169 : decode cX5_mayBe 169 = .ok (.ifCond .eq 19, 3) := by decide +kernel
theorem dX5_mayBe_172 : decode cX5_mayBe 172 = .ok (.aload_n 0, 1) := by decide +kernel
theorem dX5_mayBe_173 : decode cX5_mayBe 173 = .ok (.getfield 99, 3) := by decide +kernel
theorem dX5_mayBe_176 : decode cX5_mayBe 176 = .ok (.iconst 2, 1) := by decide +kernel
theorem dX5_mayBe_177 : decode cX5_mayBe 177 = .ok (.if_icmp .ge 7, 3) := by decide +kernel
theorem dX5_mayBe_180 : decode cX5_mayBe 180 = .ok (.iconst 1, 1) := by decide +kernel
theorem dX5_mayBe_181 : decode cX5_mayBe 181 = .ok (.goto 20, 3) := by decide +kernel
theorem dX5_mayBe_184 : decode cX5_mayBe 184 = .ok (.iconst 0, 1) := by decide +kernel
theorem dX5_mayBe_185 : decode cX5_mayBe 185 = .ok (.goto 16, 3) := by decide +kernel
theorem dX5_mayBe_188 : decode cX5_mayBe 188 = .ok (.aload_n 0, 1) := by decide +kernel
theorem dX5_mayBe_189 : decode cX5_mayBe 189 = .ok (.getfield 99, 3) := by decide +kernel
theorem dX5_mayBe_192 : decode cX5_mayBe 192 = .ok (.iconst 4, 1) := by decide +kernel
theorem dX5_mayBe_193 : decode cX5_mayBe 193 = .ok (.if_icmp .ge 7, 3) := by decide +kernel
theorem dX5_mayBe_196 : decode cX5_mayBe 196 = .ok (.iconst 1, 1) := by decide +kernel
theorem dX5_mayBe_197 : decode cX5_mayBe 197 = .ok (.goto 4, 3) := by decide +kernel
theorem dX5_mayBe_200 : decode cX5_mayBe 200 = .ok (.iconst 0, 1) := by decide +kernel
theorem dX5_mayBe_201 : decode cX5_mayBe 201 = .ok (.ireturn, 1) := by decide +kernel
theorem dX5_readProgram_0 : decode cX5_readProgram 0 = .ok (.aload_n 0, 1) := by decide +kernel
theorem dX5_readProgram_1 : decode cX5_readProgram 1 = .ok (.getfield 7, 3) := by decide +kernel
theorem dX5_readProgram_4 : decode cX5_readProgram 4 = .ok (.iconst 4, 1) := by decide +kernel
theorem dX5_readProgram_5 : decode cX5_readProgram 5 = .ok (.iconst 0, 1) := by decide +kernel
theorem dX5_readProgram_6 : decode cX5_readProgram 6 = .ok (.iastore, 1) := by decide +kernel
theorem dX5_readProgram_7 : decode cX5_readProgram 7 = .ok (.aload_n 0, 1) := by decide +kernel
theorem dX5_readProgram_8 : decode cX5_readProgram 8 = .ok (.iconst 0, 1) := by decide +kernel
theorem dX5_readProgram_9 : decode cX5_readProgram 9 = .ok (.putfield 82, 3) := by decide +kernel
theorem dX5_readProgram_12 : decode cX5_readProgram 12 = .ok (.aload_n 0, 1) := by decide +kernel
theorem dX5_readProgram_13 : decode cX5_readProgram 13 = .ok (.invokevirtual 109, 3) := by decide +kernel
theorem dX5_readProgram_16 : decode cX5_readProgram 16 = .ok (.aload_n 0, 1) := by decide +kernel
theorem dX5_readProgram_17 : decode cX5_readProgram 17 = .ok (.getfield 92, 3) := by decide +kernel
theorem dX5_readProgram_20 : decode cX5_readProgram 20 = .ok (.ifCond .eq 141, 3) := by decide +kernel
theorem dX5_readProgram_23 : decode cX5_readProgram 23 = .ok (.aload_n 0, 1) := by decide +kernel
theorem dX5_readProgram_24 : decode cX5_readProgram 24 = .ok (.getfield 92, 3) := by decide +kernel
theorem dX5_readProgram_27 : decode cX5_readProgram 27 = .ok (.iconst 4, 1) := by decide +kernel
theorem dX5_readProgram_28 : decode cX5_readProgram 28 = .ok (.if_icmp .ge 5, 3) := by decide +kernel
theorem dX5_readProgram_31 : decode cX5_readProgram 31 = .ok (.iconst 1, 1) := by decide +kernel
theorem dX5_readProgram_32 : decode cX5_readProgram 32 = .ok (.ireturn, 1) := by decide +kernel
theorem dX5_readProgram_33 : decode cX5_readProgram 33 = .ok (.aload_n 0, 1) := by decide +kernel
theorem dX5_readProgram_34 : decode cX5_readProgram 34 = .ok (.getfield 7, 3) := by decide +kernel
theorem dX5_readProgram_37 : decode cX5_readProgram 37 = .ok (.iconst 4, 1) := by decide +kernel
theorem dX5_readProgram_38 : decode cX5_readProgram 38 = .ok (.iaload, 1) := by decide +kernel
theorem dX5_readProgram_39 : decode cX5_readProgram 39 = .ok (.bipush 7, 2) := by decide +kernel
theorem dX5_readProgram_41 : decode cX5_readProgram 41 = .ok (.if_icmp .ne 5, 3) := by decide +kernel
theorem dX5_readProgram_44 : decode cX5_readProgram 44 = .ok (.iconst 3, 1) := by decide +kernel
theorem dX5_readProgram_45 : decode cX5_readProgram 45 = .ok (.ireturn, 1) := by decide +kernel
theorem dX5_readProgram_46 : decode cX5_readProgram 46 = .ok (.bipush 32, 2) := by decide +kernel
theorem dX5_readProgram_48 : decode cX5_readProgram 48 = .ok (.aload_n 0, 1) := by decide +kernel
theorem dX5_readProgram_49 : decode cX5_readProgram 49 = .ok (.getfield 7, 3) := by decide +kernel
theorem dX5_readProgram_52 : decode cX5_readProgram 52 = .ok (.iconst 4, 1) := by decide +kernel
theorem dX5_readProgram_53 : decode cX5_readProgram 53 = .ok (.iaload, 1) := by decide +kernel
theorem dX5_readProgram_54 : decode cX5_readProgram 54 = .ok (.iadd, 1) := by decide +kernel
theorem dX5_readProgram_55 : decode cX5_readProgram 55 = .ok (.istore_n 2, 1) := by decide +kernel
theorem dX5_readProgram_56 : decode cX5_readProgram 56 = .ok (.aload_n 0, 1) := by decide +kernel
theorem dX5_readProgram_57 : decode cX5_readProgram 57 = .ok (.getfield 92, 3) := by decide +kernel
theorem dX5_readProgram_60 : decode cX5_readProgram 60 = .ok (.iconst 4, 1) := by decide +kernel
theorem dX5_readProgram_61 : decode cX5_readProgram 61 = .ok (.isub, 1) := by decide +kernel
theorem dX5_readProgram_62 : decode cX5_readProgram 62 = .ok (.istore_n 3, 1) := by decide +kernel
theorem dX5_readProgram_63 : decode cX5_readProgram 63 = .ok (.aload_n 0, 1) := by decide +kernel
theorem dX5_readProgram_64 : decode cX5_readProgram 64 = .ok (.getfield 13, 3) := by decide +kernel
theorem dX5_readProgram_67 : decode cX5_readProgram 67 = .ok (.iload_n 2, 1) := by decide +kernel
theorem dX5_readProgram_68 : decode cX5_readProgram 68 = .ok (.iload_n 3, 1) := by decide +kernel
theorem dX5_readProgram_69 : decode cX5_readProgram 69 = .ok (.iastore, 1) := by decide +kernel
theorem dX5_readProgram_70 : decode cX5_readProgram 70 = .ok (.aload_n 0, 1) := by decide +kernel
theorem dX5_readProgram_71 : decode cX5_readProgram 71 = .ok (.invokevirtual 109, 3) := by decide +kernel
theorem dX5_readProgram_74 : decode cX5_readProgram 74 = .ok (.iconst 0, 1) := by decide +kernel
theorem dX5_readProgram_75 : decode cX5_readProgram 75 = .ok (.istore 4, 2) := by decide +kernel
theorem dX5_readProgram_77 : decode cX5_readProgram 77 = .ok (.iload 4, 2) := by decide +kernel
theorem dX5_readProgram_79 : decode cX5_readProgram 79 = .ok (.iload_n 3, 1) := by decide +kernel
theorem dX5_readProgram_80 : decode cX5_readProgram 80 = .ok (.invokestatic 112, 3) := by decide +kernel
theorem dX5_readProgram_83 : decode cX5_readProgram 83 = .ok (.if_icmp .ge 51, 3) := by decide +kernel
theorem dX5_readProgram_86 : decode cX5_readProgram 86 = .ok (.aload_n 0, 1) := by decide +kernel
theorem dX5_readProgram_87 : decode cX5_readProgram 87 = .ok (.getfield 92, 3) := by decide +kernel
theorem dX5_readProgram_90 : decode cX5_readProgram 90 = .ok (.iconst 1, 1) := by decide +kernel
theorem dX5_readProgram_91 : decode cX5_readProgram 91 = .ok (.if_icmp .eq 5, 3) := by decide +kernel
theorem dX5_readProgram_94 : decode cX5_readProgram 94 = .ok (.iconst 1, 1) := by decide +kernel
theorem dX5_readProgram_95 : decode cX5_readProgram 95 = .ok (.ireturn, 1) := by decide +kernel
theorem dX5_readProgram_96 : decode cX5_readProgram 96 = .ok (.aload_n 0, 1) := by decide +kernel
theorem dX5_readProgram_97 : decode cX5_readProgram 97 = .ok (.iload_n 1, 1) := by decide +kernel
theorem dX5_readProgram_98 : decode cX5_readProgram 98 = .ok (.iload_n 3, 1) := by decide +kernel
theorem dX5_readProgram_99 : decode cX5_readProgram 99 = .ok (.iload 4, 2) := by decide +kernel
theorem dX5_readProgram_101 : decode cX5_readProgram 101 = .ok (.invokevirtual 115, 3) := by decide +kernel
theorem dX5_readProgram_104 : decode cX5_readProgram 104 = .ok (.ifCond .ne 5, 3) := by decide +kernel
theorem dX5_readProgram_107 : decode cX5_readProgram 107 = .ok (.iconst 2, 1) := by decide +kernel
theorem dX5_readProgram_108 : decode cX5_readProgram 108 = .ok (.ireturn, 1) := by decide +kernel
theorem dX5_readProgram_109 : decode cX5_readProgram 109 = .ok (.aload_n 0, 1) := by decide +kernel
theorem dX5_readProgram_110 : decode cX5_readProgram 110 = .ok (.getfield 16, 3) := by decide +kernel
theorem dX5_readProgram_113 : decode cX5_readProgram 113 = .ok (.iconst 4, 1) := by decide +kernel
theorem dX5_readProgram_114 : decode cX5_readProgram 114 = .ok (.iload_n 2, 1) := by decide +kernel
theorem dX5_readProgram_115 : decode cX5_readProgram 115 = .ok (.imul, 1) := by decide +kernel
theorem dX5_readProgram_116 : decode cX5_readProgram 116 = .ok (.iload 4, 2) := by decide +kernel
theorem dX5_readProgram_118 : decode cX5_readProgram 118 = .ok (.iadd, 1) := by decide +kernel
theorem dX5_readProgram_119 : decode cX5_readProgram 119 = .ok (.aload_n 0, 1) := by decide +kernel
theorem dX5_readProgram_120 : decode cX5_readProgram 120 = .ok (.getfield 99, 3) := by decide +kernel
theorem dX5_readProgram_123 : decode cX5_readProgram 123 = .ok (.iastore, 1) := by decide +kernel
theorem dX5_readProgram_124 : decode cX5_readProgram 124 = .ok (.aload_n 0, 1) := by decide +kernel
theorem dX5_readProgram_125 : decode cX5_readProgram 125 = .ok (.invokevirtual 109, 3) := by decide +kernel
theorem dX5_readProgram_128 : decode cX5_readProgram 128 = .ok (.iinc 4 1, 3) := by decide +kernel
theorem dX5_readProgram_131 : decode cX5_readProgram 131 = .ok (.goto (-54), 3) := by decide +kernel
theorem dX5_readProgram_134 : decode cX5_readProgram 134 = .ok (.aload_n 0, 1) := by decide +kernel
theorem dX5_readProgram_135 : decode cX5_readProgram 135 = .ok (.getfield 92, 3) := by decide +kernel
theorem dX5_readProgram_138 : decode cX5_readProgram 138 = .ok (.iconst 2, 1) := by decide +kernel
theorem dX5_readProgram_139 : decode cX5_readProgram 139 = .ok (.if_icmp .eq 5, 3) := by decide +kernel
theorem dX5_readProgram_142 : decode cX5_readProgram 142 = .ok (.iconst 1, 1) := by decide +kernel
theorem dX5_readProgram_143 : decode cX5_readProgram 143 = .ok (.ireturn, 1) := by decide +kernel
theorem dX5_readProgram_144 : decode cX5_readProgram 144 = .ok (.aload_n 0, 1) := by decide +kernel
theorem dX5_readProgram_145 : decode cX5_readProgram 145 = .ok (.getfield 7, 3) := by decide +kernel
theorem dX5_readProgram_148 : decode cX5_readProgram 148 = .ok (.iconst 4, 1) := by decide +kernel
theorem dX5_readProgram_149 : decode cX5_readProgram 149 = .ok (.dup2, 1) := by decide +kernel
theorem dX5_readProgram_150 : decode cX5_readProgram 150 = .ok (.iaload, 1) := by decide +kernel
theorem dX5_readProgram_151 : decode cX5_readProgram 151 = .ok (.iconst 1, 1) := by decide +kernel
theorem dX5_readProgram_152 : decode cX5_readProgram 152 = .ok (.iadd, 1) := by decide +kernel
theorem dX5_readProgram_153 : decode cX5_readProgram 153 = .ok (.iastore, 1) := by decide +kernel
theorem dX5_readProgram_154 : decode cX5_readProgram 154 = .ok (.aload_n 0, 1) := by decide +kernel
theorem dX5_readProgram_155 : decode cX5_readProgram 155 = .ok (.invokevirtual 109, 3) := by decide +kernel
theorem dX5_readProgram_158 : decode cX5_readProgram 158 = .ok (.goto (-142), 3) := by decide +kernel
theorem dX5_readProgram_161 : decode cX5_readProgram 161 = .ok (.iconst 0, 1) := by decide +kernel
theorem dX5_readProgram_162 : decode cX5_readProgram 162 = .ok (.ireturn, 1) := by decide +kernel
theorem dX5_copyTo_0 : decode cX5_copyTo 0 = .ok (.aload_n 0, 1) := by decide +kernel
theorem dX5_copyTo_1 : decode cX5_copyTo 1 = .ok (.getfield 13, 3) := by decide +kernel
theorem dX5_copyTo_4 : decode cX5_copyTo 4 = .ok (.iload_n 2, 1) := by decide +kernel
theorem dX5_copyTo_5 : decode cX5_copyTo 5 = .ok (.aload_n 0, 1) := by decide +kernel
theorem dX5_copyTo_6 : decode cX5_copyTo 6 = .ok (.getfield 13, 3) := by decide +kernel
theorem dX5_copyTo_9 : decode cX5_copyTo 9 = .ok (.iload_n 1, 1) := by decide +kernel
theorem dX5_copyTo_10 : decode cX5_copyTo 10 = .ok (.iaload, 1) := by decide +kernel
theorem dX5_copyTo_11 : decode cX5_copyTo 11 = .ok (.iastore, 1) := by decide +kernel
theorem dX5_copyTo_12 : decode cX5_copyTo 12 = .ok (.iconst 0, 1) := by decide +kernel
theorem dX5_copyTo_13 : decode cX5_copyTo 13 = .ok (.istore_n 3, 1) := by decide +kernel
theorem dX5_copyTo_14 : decode cX5_copyTo 14 = .ok (.iload_n 3, 1) := by decide +kernel
theorem dX5_copyTo_15 : decode cX5_copyTo 15 = .ok (.iconst 4, 1) := by decide +kernel
theorem dX5_copyTo_16 : decode cX5_copyTo 16 = .ok (.if_icmp .ge 29, 3) := by decide +kernel
theorem dX5_copyTo_19 : decode cX5_copyTo 19 = .ok (.aload_n 0, 1) := by decide +kernel
theorem dX5_copyTo_20 : decode cX5_copyTo 20 = .ok (.getfield 16, 3) := by decide +kernel
theorem dX5_copyTo_23 : decode cX5_copyTo 23 = .ok (.iconst 4, 1) := by decide +kernel
theorem dX5_copyTo_24 : decode cX5_copyTo 24 = .ok (.iload_n 2, 1) := by decide +kernel
theorem dX5_copyTo_25 : decode cX5_copyTo 25 = .ok (.imul, 1) := by decide +kernel
theorem dX5_copyTo_26 : decode cX5_copyTo 26 = .ok (.iload_n 3, 1) := by decide +kernel
theorem dX5_copyTo_27 : decode cX5_copyTo 27 = .ok (.iadd, 1) := by decide +kernel
theorem dX5_copyTo_28 : decode cX5_copyTo 28 = .ok (.aload_n 0, 1) := by decide +kernel
theorem dX5_copyTo_29 : decode cX5_copyTo 29 = .ok (.getfield 16, 3) := by decide +kernel
theorem dX5_copyTo_32 : decode cX5_copyTo 32 = .ok (.iconst 4, 1) := by decide +kernel
theorem dX5_copyTo_33 : decode cX5_copyTo 33 = .ok (.iload_n 1, 1) := by decide +kernel
theorem dX5_copyTo_34 : decode cX5_copyTo 34 = .ok (.imul, 1) := by decide +kernel
theorem dX5_copyTo_35 : decode cX5_copyTo 35 = .ok (.iload_n 3, 1) := by decide +kernel
theorem dX5_copyTo_36 : decode cX5_copyTo 36 = .ok (.iadd, 1) := by decide +kernel
theorem dX5_copyTo_37 : decode cX5_copyTo 37 = .ok (.iaload, 1) := by decide +kernel
theorem dX5_copyTo_38 : decode cX5_copyTo 38 = .ok (.iastore, 1) := by decide +kernel
theorem dX5_copyTo_39 : decode cX5_copyTo 39 = .ok (.iinc 3 1, 3) := by decide +kernel
theorem dX5_copyTo_42 : decode cX5_copyTo 42 = .ok (.goto (-28), 3) := by decide +kernel
theorem dX5_copyTo_45 : decode cX5_copyTo 45 = .ok (.return_, 1) := by decide +kernel
theorem dX5_program_0 : decode cX5_program 0 = .ok (.iload_n 1, 1) := by decide +kernel
theorem dX5_program_1 : decode cX5_program 1 = .ok (.iconst 0, 1) := by decide +kernel
theorem dX5_program_2 : decode cX5_program 2 = .ok (.iconst 1, 1) := by decide +kernel
theorem dX5_program_3 : decode cX5_program 3 = .ok (.invokestatic 64, 3) := by decide +kernel
theorem dX5_program_6 : decode cX5_program 6 = .ok (.ifCond .ne 5, 3) := by decide +kernel
theorem dX5_program_9 : decode cX5_program 9 = .ok (.iconst (-1), 1) := by decide +kernel
theorem dX5_program_10 : decode cX5_program 10 = .ok (.ireturn, 1) := by decide +kernel
theorem dX5_program_11 : decode cX5_program 11 = .ok (.aload_n 0, 1) := by decide +kernel
theorem dX5_program_12 : decode cX5_program 12 = .ok (.aload_n 0, 1) := by decide +kernel
theorem dX5_program_13 : decode cX5_program 13 = .ok (.iload_n 1, 1) := by decide +kernel
theorem dX5_program_14 : decode cX5_program 14 = .ok (.invokevirtual 118, 3) := by decide +kernel
theorem dX5_program_17 : decode cX5_program 17 = .ok (.putfield 28, 3) := by decide +kernel
theorem dX5_program_20 : decode cX5_program 20 = .ok (.aload_n 0, 1) := by decide +kernel
theorem dX5_program_21 : decode cX5_program 21 = .ok (.aload_n 0, 1) := by decide +kernel
theorem dX5_program_22 : decode cX5_program 22 = .ok (.getfield 28, 3) := by decide +kernel
theorem dX5_program_25 : decode cX5_program 25 = .ok (.ifCond .ne 7, 3) := by decide +kernel
theorem dX5_program_28 : decode cX5_program 28 = .ok (.iconst (-1), 1) := by decide +kernel
theorem dX5_program_29 : decode cX5_program 29 = .ok (.goto 7, 3) := by decide +kernel
theorem dX5_program_32 : decode cX5_program 32 = .ok (.aload_n 0, 1) := by decide +kernel
theorem dX5_program_33 : decode cX5_program 33 = .ok (.getfield 89, 3) := by decide +kernel
theorem dX5_program_36 : decode cX5_program 36 = .ok (.putfield 32, 3) := by decide +kernel
theorem dX5_program_39 : decode cX5_program 39 = .ok (.aload_n 0, 1) := by decide +kernel
theorem dX5_program_40 : decode cX5_program 40 = .ok (.iconst 0, 1) := by decide +kernel
theorem dX5_program_41 : decode cX5_program 41 = .ok (.putfield 57, 3) := by decide +kernel
theorem dX5_program_44 : decode cX5_program 44 = .ok (.aload_n 0, 1) := by decide +kernel
theorem dX5_program_45 : decode cX5_program 45 = .ok (.getfield 28, 3) := by decide +kernel
theorem dX5_program_48 : decode cX5_program 48 = .ok (.ifCond .eq 5, 3) := by decide +kernel
theorem dX5_program_51 : decode cX5_program 51 = .ok (.iconst (-1), 1) := by decide +kernel
theorem dX5_program_52 : decode cX5_program 52 = .ok (.ireturn, 1) := by decide +kernel
theorem dX5_program_53 : decode cX5_program 53 = .ok (.aload_n 0, 1) := by decide +kernel
theorem dX5_program_54 : decode cX5_program 54 = .ok (.getfield 7, 3) := by decide +kernel
theorem dX5_program_57 : decode cX5_program 57 = .ok (.iload_n 1, 1) := by decide +kernel
theorem dX5_program_58 : decode cX5_program 58 = .ok (.aload_n 0, 1) := by decide +kernel
theorem dX5_program_59 : decode cX5_program 59 = .ok (.getfield 7, 3) := by decide +kernel
theorem dX5_program_62 : decode cX5_program 62 = .ok (.iconst 4, 1) := by decide +kernel
theorem dX5_program_63 : decode cX5_program 63 = .ok (.iaload, 1) := by decide +kernel
theorem dX5_program_64 : decode cX5_program 64 = .ok (.iastore, 1) := by decide +kernel
theorem dX5_program_65 : decode cX5_program 65 = .ok (.iconst 0, 1) := by decide +kernel
theorem dX5_program_66 : decode cX5_program 66 = .ok (.istore_n 2, 1) := by decide +kernel
theorem dX5_program_67 : decode cX5_program 67 = .ok (.iload_n 2, 1) := by decide +kernel
theorem dX5_program_68 : decode cX5_program 68 = .ok (.aload_n 0, 1) := by decide +kernel
theorem dX5_program_69 : decode cX5_program 69 = .ok (.getfield 7, 3) := by decide +kernel
theorem dX5_program_72 : decode cX5_program 72 = .ok (.iconst 4, 1) := by decide +kernel
theorem dX5_program_73 : decode cX5_program 73 = .ok (.iaload, 1) := by decide +kernel
theorem dX5_program_74 : decode cX5_program 74 = .ok (.if_icmp .ge 23, 3) := by decide +kernel
theorem dX5_program_77 : decode cX5_program 77 = .ok (.aload_n 0, 1) := by decide +kernel
theorem dX5_program_78 : decode cX5_program 78 = .ok (.bipush 32, 2) := by decide +kernel
theorem dX5_program_80 : decode cX5_program 80 = .ok (.iload_n 2, 1) := by decide +kernel
theorem dX5_program_81 : decode cX5_program 81 = .ok (.iadd, 1) := by decide +kernel
theorem dX5_program_82 : decode cX5_program 82 = .ok (.bipush 8, 2) := by decide +kernel
theorem dX5_program_84 : decode cX5_program 84 = .ok (.iload_n 1, 1) := by decide +kernel
theorem dX5_program_85 : decode cX5_program 85 = .ok (.imul, 1) := by decide +kernel
theorem dX5_program_86 : decode cX5_program 86 = .ok (.iload_n 2, 1) := by decide +kernel
theorem dX5_program_87 : decode cX5_program 87 = .ok (.iadd, 1) := by decide +kernel
theorem dX5_program_88 : decode cX5_program 88 = .ok (.invokevirtual 121, 3) := by decide +kernel
theorem dX5_program_91 : decode cX5_program 91 = .ok (.iinc 2 1, 3) := by decide +kernel
theorem dX5_program_94 : decode cX5_program 94 = .ok (.goto (-27), 3) := by decide +kernel
theorem dX5_program_97 : decode cX5_program 97 = .ok (.aload_n 0, 1) := by decide +kernel
theorem dX5_program_98 : decode cX5_program 98 = .ok (.iconst 0, 1) := by decide +kernel
theorem dX5_program_99 : decode cX5_program 99 = .ok (.putfield 125, 3) := by decide +kernel
theorem dX5_program_102 : decode cX5_program 102 = .ok (.aload_n 0, 1) := by decide +kernel
theorem dX5_program_103 : decode cX5_program 103 = .ok (.getfield 7, 3) := by decide +kernel
theorem dX5_program_106 : decode cX5_program 106 = .ok (.iload_n 1, 1) := by decide +kernel
theorem dX5_program_107 : decode cX5_program 107 = .ok (.iaload, 1) := by decide +kernel
theorem dX5_program_108 : decode cX5_program 108 = .ok (.ireturn, 1) := by decide +kernel
theorem dX5_fault_0 : decode cX5_fault 0 = .ok (.iload_n 1, 1) := by decide +kernel
theorem dX5_fault_1 : decode cX5_fault 1 = .ok (.ifCond .ne 10, 3) := by decide +kernel
theorem dX5_fault_4 : decode cX5_fault 4 = .ok (.aload_n 0, 1) := by decide +kernel
theorem dX5_fault_5 : decode cX5_fault 5 = .ok (.getfield 28, 3) := by decide +kernel
theorem dX5_fault_8 : decode cX5_fault 8 = .ok (.goto 16, 3) := by decide +kernel
theorem dX5_fault_11 : decode cX5_fault 11 = .ok (.iload_n 1, 1) := by decide +kernel
theorem dX5_fault_12 : decode cX5_fault 12 = .ok (.iconst 1, 1) := by decide +kernel
theorem dX5_fault_13 : decode cX5_fault 13 = .ok (.if_icmp .ne 10, 3) := by decide +kernel
theorem dX5_fault_16 : decode cX5_fault 16 = .ok (.aload_n 0, 1) := by decide +kernel
theorem dX5_fault_17 : decode cX5_fault 17 = .ok (.getfield 32, 3) := by decide +kernel
theorem dX5_fault_20 : decode cX5_fault 20 = .ok (.goto 4, 3) := by decide +kernel
theorem dX5_fault_23 : decode cX5_fault 23 = .ok (.iconst (-1), 1) := by decide +kernel
theorem dX5_fault_24 : decode cX5_fault 24 = .ok (.ireturn, 1) := by decide +kernel
theorem dX5_word_0 : decode cX5_word 0 = .ok (.iload_n 1, 1) := by decide +kernel
theorem dX5_word_1 : decode cX5_word 1 = .ok (.iconst 0, 1) := by decide +kernel
theorem dX5_word_2 : decode cX5_word 2 = .ok (.iconst 3, 1) := by decide +kernel
theorem dX5_word_3 : decode cX5_word 3 = .ok (.invokestatic 64, 3) := by decide +kernel
theorem dX5_word_6 : decode cX5_word 6 = .ok (.ifCond .eq 22, 3) := by decide +kernel
theorem dX5_word_9 : decode cX5_word 9 = .ok (.iload_n 2, 1) := by decide +kernel
theorem dX5_word_10 : decode cX5_word 10 = .ok (.iconst 0, 1) := by decide +kernel
theorem dX5_word_11 : decode cX5_word 11 = .ok (.iconst 3, 1) := by decide +kernel
theorem dX5_word_12 : decode cX5_word 12 = .ok (.invokestatic 64, 3) := by decide +kernel
theorem dX5_word_15 : decode cX5_word 15 = .ok (.ifCond .eq 13, 3) := by decide +kernel
theorem dX5_word_18 : decode cX5_word 18 = .ok (.iload_n 3, 1) := by decide +kernel
theorem dX5_word_19 : decode cX5_word 19 = .ok (.iconst 0, 1) := by decide +kernel
theorem dX5_word_20 : decode cX5_word 20 = .ok (.bipush 7, 2) := by decide +kernel
theorem dX5_word_22 : decode cX5_word 22 = .ok (.invokestatic 64, 3) := by decide +kernel
theorem dX5_word_25 : decode cX5_word 25 = .ok (.ifCond .ne 5, 3) := by decide +kernel
theorem dX5_word_28 : decode cX5_word 28 = .ok (.iconst 0, 1) := by decide +kernel
theorem dX5_word_29 : decode cX5_word 29 = .ok (.ireturn, 1) := by decide +kernel
theorem dX5_word_30 : decode cX5_word 30 = .ok (.aload_n 0, 1) := by decide +kernel
theorem dX5_word_31 : decode cX5_word 31 = .ok (.getfield 19, 3) := by decide +kernel
theorem dX5_word_34 : decode cX5_word 34 = .ok (.iload_n 1, 1) := by decide +kernel
theorem dX5_word_35 : decode cX5_word 35 = .ok (.iload_n 2, 1) := by decide +kernel
theorem dX5_word_36 : decode cX5_word 36 = .ok (.iastore, 1) := by decide +kernel
theorem dX5_word_37 : decode cX5_word 37 = .ok (.aload_n 0, 1) := by decide +kernel
theorem dX5_word_38 : decode cX5_word 38 = .ok (.getfield 22, 3) := by decide +kernel
theorem dX5_word_41 : decode cX5_word 41 = .ok (.iload_n 1, 1) := by decide +kernel
theorem dX5_word_42 : decode cX5_word 42 = .ok (.iload_n 3, 1) := by decide +kernel
theorem dX5_word_43 : decode cX5_word 43 = .ok (.iastore, 1) := by decide +kernel
theorem dX5_word_44 : decode cX5_word 44 = .ok (.aload_n 0, 1) := by decide +kernel
theorem dX5_word_45 : decode cX5_word 45 = .ok (.iconst 0, 1) := by decide +kernel
theorem dX5_word_46 : decode cX5_word 46 = .ok (.putfield 125, 3) := by decide +kernel
theorem dX5_word_49 : decode cX5_word 49 = .ok (.iconst 1, 1) := by decide +kernel
theorem dX5_word_50 : decode cX5_word 50 = .ok (.ireturn, 1) := by decide +kernel
theorem dX5_falls_0 : decode cX5_falls 0 = .ok (.aload_n 0, 1) := by decide +kernel
theorem dX5_falls_1 : decode cX5_falls 1 = .ok (.iload_n 1, 1) := by decide +kernel
theorem dX5_falls_2 : decode cX5_falls 2 = .ok (.putfield 129, 3) := by decide +kernel
theorem dX5_falls_5 : decode cX5_falls 5 = .ok (.aload_n 0, 1) := by decide +kernel
theorem dX5_falls_6 : decode cX5_falls 6 = .ok (.iconst 0, 1) := by decide +kernel
theorem dX5_falls_7 : decode cX5_falls 7 = .ok (.putfield 125, 3) := by decide +kernel
theorem dX5_falls_10 : decode cX5_falls 10 = .ok (.return_, 1) := by decide +kernel
theorem dX5_bits_0 : decode cX5_bits 0 = .ok (.lload_n 0, 1) := by decide +kernel
theorem dX5_bits_1 : decode cX5_bits 1 = .ok (.iload_n 2, 1) := by decide +kernel
theorem dX5_bits_2 : decode cX5_bits 2 = .ok (.lshr, 1) := by decide +kernel
theorem dX5_bits_3 : decode cX5_bits 3 = .ok (.l2i, 1) := by decide +kernel
theorem dX5_bits_4 : decode cX5_bits 4 = .ok (.iconst 1, 1) := by decide +kernel
theorem dX5_bits_5 : decode cX5_bits 5 = .ok (.iload_n 3, 1) := by decide +kernel
theorem dX5_bits_6 : decode cX5_bits 6 = .ok (.ishl, 1) := by decide +kernel
theorem dX5_bits_7 : decode cX5_bits 7 = .ok (.iconst 1, 1) := by decide +kernel
theorem dX5_bits_8 : decode cX5_bits 8 = .ok (.isub, 1) := by decide +kernel
theorem dX5_bits_9 : decode cX5_bits 9 = .ok (.iand, 1) := by decide +kernel
theorem dX5_bits_10 : decode cX5_bits 10 = .ok (.ireturn, 1) := by decide +kernel
theorem dX5_with_0 : decode cX5_with 0 = .ok (.lload_n 0, 1) := by decide +kernel
theorem dX5_with_1 : decode cX5_with 1 = .ok (.lconst 1, 1) := by decide +kernel
theorem dX5_with_2 : decode cX5_with 2 = .ok (.iload_n 3, 1) := by decide +kernel
theorem dX5_with_3 : decode cX5_with 3 = .ok (.lshl, 1) := by decide +kernel
theorem dX5_with_4 : decode cX5_with 4 = .ok (.lconst 1, 1) := by decide +kernel
theorem dX5_with_5 : decode cX5_with 5 = .ok (.lsub, 1) := by decide +kernel
theorem dX5_with_6 : decode cX5_with 6 = .ok (.iload_n 2, 1) := by decide +kernel
theorem dX5_with_7 : decode cX5_with 7 = .ok (.lshl, 1) := by decide +kernel
theorem dX5_with_8 : decode cX5_with 8 = .ok (.ldc2_w 132, 3) := by decide +kernel
theorem dX5_with_11 : decode cX5_with 11 = .ok (.lxor, 1) := by decide +kernel
theorem dX5_with_12 : decode cX5_with 12 = .ok (.land, 1) := by decide +kernel
theorem dX5_with_13 : decode cX5_with 13 = .ok (.iload 4, 2) := by decide +kernel
theorem dX5_with_15 : decode cX5_with 15 = .ok (.i2l, 1) := by decide +kernel
theorem dX5_with_16 : decode cX5_with 16 = .ok (.iload_n 2, 1) := by decide +kernel
theorem dX5_with_17 : decode cX5_with 17 = .ok (.lshl, 1) := by decide +kernel
theorem dX5_with_18 : decode cX5_with 18 = .ok (.lor, 1) := by decide +kernel
theorem dX5_with_19 : decode cX5_with 19 = .ok (.lreturn, 1) := by decide +kernel
theorem dX5_atOf_0 : decode cX5_atOf 0 = .ok (.lload_n 0, 1) := by decide +kernel
theorem dX5_atOf_1 : decode cX5_atOf 1 = .ok (.bipush 16, 2) := by decide +kernel
theorem dX5_atOf_3 : decode cX5_atOf 3 = .ok (.iconst 3, 1) := by decide +kernel
theorem dX5_atOf_4 : decode cX5_atOf 4 = .ok (.iload_n 2, 1) := by decide +kernel
theorem dX5_atOf_5 : decode cX5_atOf 5 = .ok (.imul, 1) := by decide +kernel
theorem dX5_atOf_6 : decode cX5_atOf 6 = .ok (.iadd, 1) := by decide +kernel
theorem dX5_atOf_7 : decode cX5_atOf 7 = .ok (.iconst 3, 1) := by decide +kernel
theorem dX5_atOf_8 : decode cX5_atOf 8 = .ok (.invokestatic 134, 3) := by decide +kernel
theorem dX5_atOf_11 : decode cX5_atOf 11 = .ok (.ireturn, 1) := by decide +kernel
theorem dX5_wishes_0 : decode cX5_wishes 0 = .ok (.lload_n 0, 1) := by decide +kernel
theorem dX5_wishes_1 : decode cX5_wishes 1 = .ok (.bipush 22, 2) := by decide +kernel
theorem dX5_wishes_3 : decode cX5_wishes 3 = .ok (.iconst 2, 1) := by decide +kernel
theorem dX5_wishes_4 : decode cX5_wishes 4 = .ok (.iload_n 2, 1) := by decide +kernel
theorem dX5_wishes_5 : decode cX5_wishes 5 = .ok (.imul, 1) := by decide +kernel
theorem dX5_wishes_6 : decode cX5_wishes 6 = .ok (.iadd, 1) := by decide +kernel
theorem dX5_wishes_7 : decode cX5_wishes 7 = .ok (.iconst 2, 1) := by decide +kernel
theorem dX5_wishes_8 : decode cX5_wishes 8 = .ok (.invokestatic 134, 3) := by decide +kernel
theorem dX5_wishes_11 : decode cX5_wishes 11 = .ok (.ireturn, 1) := by decide +kernel
theorem dX5_sortOf_0 : decode cX5_sortOf 0 = .ok (.aload_n 0, 1) := by decide +kernel
theorem dX5_sortOf_1 : decode cX5_sortOf 1 = .ok (.getfield 13, 3) := by decide +kernel
theorem dX5_sortOf_4 : decode cX5_sortOf 4 = .ok (.bipush 16, 2) := by decide +kernel
theorem dX5_sortOf_6 : decode cX5_sortOf 6 = .ok (.bipush 8, 2) := by decide +kernel
theorem dX5_sortOf_8 : decode cX5_sortOf 8 = .ok (.iload_n 3, 1) := by decide +kernel
theorem dX5_sortOf_9 : decode cX5_sortOf 9 = .ok (.imul, 1) := by decide +kernel
theorem dX5_sortOf_10 : decode cX5_sortOf 10 = .ok (.iadd, 1) := by decide +kernel
theorem dX5_sortOf_11 : decode cX5_sortOf 11 = .ok (.lload_n 1, 1) := by decide +kernel
theorem dX5_sortOf_12 : decode cX5_sortOf 12 = .ok (.bipush 26, 2) := by decide +kernel
theorem dX5_sortOf_14 : decode cX5_sortOf 14 = .ok (.bipush 9, 2) := by decide +kernel
theorem dX5_sortOf_16 : decode cX5_sortOf 16 = .ok (.iload_n 3, 1) := by decide +kernel
theorem dX5_sortOf_17 : decode cX5_sortOf 17 = .ok (.imul, 1) := by decide +kernel
theorem dX5_sortOf_18 : decode cX5_sortOf 18 = .ok (.iadd, 1) := by decide +kernel
theorem dX5_sortOf_19 : decode cX5_sortOf 19 = .ok (.iconst 3, 1) := by decide +kernel
theorem dX5_sortOf_20 : decode cX5_sortOf 20 = .ok (.iload 4, 2) := by decide +kernel
theorem dX5_sortOf_22 : decode cX5_sortOf 22 = .ok (.imul, 1) := by decide +kernel
theorem dX5_sortOf_23 : decode cX5_sortOf 23 = .ok (.iadd, 1) := by decide +kernel
theorem dX5_sortOf_24 : decode cX5_sortOf 24 = .ok (.iconst 3, 1) := by decide +kernel
theorem dX5_sortOf_25 : decode cX5_sortOf 25 = .ok (.invokestatic 134, 3) := by decide +kernel
theorem dX5_sortOf_28 : decode cX5_sortOf 28 = .ok (.iadd, 1) := by decide +kernel
theorem dX5_sortOf_29 : decode cX5_sortOf 29 = .ok (.iaload, 1) := by decide +kernel
theorem dX5_sortOf_30 : decode cX5_sortOf 30 = .ok (.ireturn, 1) := by decide +kernel
theorem dX5_hasGet_0 : decode cX5_hasGet 0 = .ok (.iconst 0, 1) := by decide +kernel
theorem dX5_hasGet_1 : decode cX5_hasGet 1 = .ok (.istore 4, 2) := by decide +kernel
theorem dX5_hasGet_3 : decode cX5_hasGet 3 = .ok (.iload 4, 2) := by decide +kernel
theorem dX5_hasGet_5 : decode cX5_hasGet 5 = .ok (.lload_n 1, 1) := by decide +kernel
theorem dX5_hasGet_6 : decode cX5_hasGet 6 = .ok (.iload_n 3, 1) := by decide +kernel
theorem dX5_hasGet_7 : decode cX5_hasGet 7 = .ok (.invokestatic 138, 3) := by decide +kernel
theorem dX5_hasGet_10 : decode cX5_hasGet 10 = .ok (.if_icmp .ge 23, 3) := by decide +kernel
theorem dX5_hasGet_13 : decode cX5_hasGet 13 = .ok (.aload_n 0, 1) := by decide +kernel
theorem dX5_hasGet_14 : decode cX5_hasGet 14 = .ok (.lload_n 1, 1) := by decide +kernel
theorem dX5_hasGet_15 : decode cX5_hasGet 15 = .ok (.iload_n 3, 1) := by decide +kernel
theorem dX5_hasGet_16 : decode cX5_hasGet 16 = .ok (.iload 4, 2) := by decide +kernel
theorem dX5_hasGet_18 : decode cX5_hasGet 18 = .ok (.invokevirtual 142, 3) := by decide +kernel
theorem dX5_hasGet_21 : decode cX5_hasGet 21 = .ok (.iconst 1, 1) := by decide +kernel
theorem dX5_hasGet_22 : decode cX5_hasGet 22 = .ok (.if_icmp .ne 5, 3) := by decide +kernel
theorem dX5_hasGet_25 : decode cX5_hasGet 25 = .ok (.iconst 1, 1) := by decide +kernel
theorem dX5_hasGet_26 : decode cX5_hasGet 26 = .ok (.ireturn, 1) := by decide +kernel
theorem dX5_hasGet_27 : decode cX5_hasGet 27 = .ok (.iinc 4 1, 3) := by decide +kernel
theorem dX5_hasGet_30 : decode cX5_hasGet 30 = .ok (.goto (-27), 3) := by decide +kernel
theorem dX5_hasGet_33 : decode cX5_hasGet 33 = .ok (.iconst 0, 1) := by decide +kernel
theorem dX5_hasGet_34 : decode cX5_hasGet 34 = .ok (.ireturn, 1) := by decide +kernel
theorem dX5_does_0 : decode cX5_does 0 = .ok (.lload_n 1, 1) := by decide +kernel
theorem dX5_does_1 : decode cX5_does 1 = .ok (.iload_n 3, 1) := by decide +kernel
theorem dX5_does_2 : decode cX5_does 2 = .ok (.invokestatic 145, 3) := by decide +kernel
theorem dX5_does_5 : decode cX5_does 5 = .ok (.istore 4, 2) := by decide +kernel
theorem dX5_does_7 : decode cX5_does 7 = .ok (.lload_n 1, 1) := by decide +kernel
theorem dX5_does_8 : decode cX5_does 8 = .ok (.iload_n 3, 1) := by decide +kernel
theorem dX5_does_9 : decode cX5_does 9 = .ok (.invokestatic 138, 3) := by decide +kernel
theorem dX5_does_12 : decode cX5_does 12 = .ok (.istore 5, 2) := by decide +kernel
theorem dX5_does_14 : decode cX5_does 14 = .ok (.lload_n 1, 1) := by decide +kernel
theorem dX5_does_15 : decode cX5_does 15 = .ok (.bipush 44, 2) := by decide +kernel
theorem dX5_does_17 : decode cX5_does 17 = .ok (.iload_n 3, 1) := by decide +kernel
theorem dX5_does_18 : decode cX5_does 18 = .ok (.iadd, 1) := by decide +kernel
theorem dX5_does_19 : decode cX5_does 19 = .ok (.iconst 1, 1) := by decide +kernel
theorem dX5_does_20 : decode cX5_does 20 = .ok (.invokestatic 134, 3) := by decide +kernel
theorem dX5_does_23 : decode cX5_does 23 = .ok (.iconst 1, 1) := by decide +kernel
theorem dX5_does_24 : decode cX5_does 24 = .ok (.if_icmp .eq 29, 3) := by decide +kernel
theorem dX5_does_27 : decode cX5_does 27 = .ok (.lload_n 1, 1) := by decide +kernel
theorem dX5_does_28 : decode cX5_does 28 = .ok (.bipush 46, 2) := by decide +kernel
theorem dX5_does_30 : decode cX5_does 30 = .ok (.iconst 2, 1) := by decide +kernel
theorem dX5_does_31 : decode cX5_does 31 = .ok (.invokestatic 134, 3) := by decide +kernel
theorem dX5_does_34 : decode cX5_does 34 = .ok (.iload_n 3, 1) := by decide +kernel
theorem dX5_does_35 : decode cX5_does 35 = .ok (.iconst 1, 1) := by decide +kernel
theorem dX5_does_36 : decode cX5_does 36 = .ok (.iadd, 1) := by decide +kernel
theorem dX5_does_37 : decode cX5_does 37 = .ok (.if_icmp .eq 16, 3) := by decide +kernel
theorem dX5_does_40 : decode cX5_does 40 = .ok (.iload 4, 2) := by decide +kernel
theorem dX5_does_42 : decode cX5_does 42 = .ok (.aload_n 0, 1) := by decide +kernel
theorem dX5_does_43 : decode cX5_does 43 = .ok (.getfield 7, 3) := by decide +kernel
theorem dX5_does_46 : decode cX5_does 46 = .ok (.iconst 2, 1) := by decide +kernel
theorem dX5_does_47 : decode cX5_does 47 = .ok (.iload_n 3, 1) := by decide +kernel
theorem dX5_does_48 : decode cX5_does 48 = .ok (.iadd, 1) := by decide +kernel
theorem dX5_does_49 : decode cX5_does 49 = .ok (.iaload, 1) := by decide +kernel
theorem dX5_does_50 : decode cX5_does 50 = .ok (.if_icmp .ne 7, 3) := by decide +kernel
theorem dX5_does_53 : decode cX5_does 53 = .ok (.ldc2_w 132, 3) := by decide +kernel
theorem dX5_does_56 : decode cX5_does 56 = .ok (.lreturn, 1) := by decide +kernel
theorem dX5_does_57 : decode cX5_does 57 = .ok (.bipush 16, 2) := by decide +kernel
theorem dX5_does_59 : decode cX5_does 59 = .ok (.bipush 8, 2) := by decide +kernel
theorem dX5_does_61 : decode cX5_does 61 = .ok (.iload_n 3, 1) := by decide +kernel
theorem dX5_does_62 : decode cX5_does 62 = .ok (.imul, 1) := by decide +kernel
theorem dX5_does_63 : decode cX5_does 63 = .ok (.iadd, 1) := by decide +kernel
theorem dX5_does_64 : decode cX5_does 64 = .ok (.iload 4, 2) := by decide +kernel
theorem dX5_does_66 : decode cX5_does 66 = .ok (.iadd, 1) := by decide +kernel
theorem dX5_does_67 : decode cX5_does 67 = .ok (.istore 6, 2) := by decide +kernel
theorem dX5_does_69 : decode cX5_does 69 = .ok (.aload_n 0, 1) := by decide +kernel
theorem dX5_does_70 : decode cX5_does 70 = .ok (.getfield 16, 3) := by decide +kernel
theorem dX5_does_73 : decode cX5_does 73 = .ok (.iconst 4, 1) := by decide +kernel
theorem dX5_does_74 : decode cX5_does 74 = .ok (.iload 6, 2) := by decide +kernel
theorem dX5_does_76 : decode cX5_does 76 = .ok (.imul, 1) := by decide +kernel
theorem dX5_does_77 : decode cX5_does 77 = .ok (.iaload, 1) := by decide +kernel
theorem dX5_does_78 : decode cX5_does 78 = .ok (.istore 7, 2) := by decide +kernel
theorem dX5_does_80 : decode cX5_does 80 = .ok (.aload_n 0, 1) := by decide +kernel
theorem dX5_does_81 : decode cX5_does 81 = .ok (.getfield 16, 3) := by decide +kernel
theorem dX5_does_84 : decode cX5_does 84 = .ok (.iconst 4, 1) := by decide +kernel
theorem dX5_does_85 : decode cX5_does 85 = .ok (.iload 6, 2) := by decide +kernel
theorem dX5_does_87 : decode cX5_does 87 = .ok (.imul, 1) := by decide +kernel
theorem dX5_does_88 : decode cX5_does 88 = .ok (.iconst 1, 1) := by decide +kernel
theorem dX5_does_89 : decode cX5_does 89 = .ok (.iadd, 1) := by decide +kernel
theorem dX5_does_90 : decode cX5_does 90 = .ok (.iaload, 1) := by decide +kernel
theorem dX5_does_91 : decode cX5_does 91 = .ok (.istore 8, 2) := by decide +kernel
theorem dX5_does_93 : decode cX5_does 93 = .ok (.lload_n 1, 1) := by decide +kernel
theorem dX5_does_94 : decode cX5_does 94 = .ok (.bipush 16, 2) := by decide +kernel
theorem dX5_does_96 : decode cX5_does 96 = .ok (.iconst 3, 1) := by decide +kernel
theorem dX5_does_97 : decode cX5_does 97 = .ok (.iload_n 3, 1) := by decide +kernel
theorem dX5_does_98 : decode cX5_does 98 = .ok (.imul, 1) := by decide +kernel
