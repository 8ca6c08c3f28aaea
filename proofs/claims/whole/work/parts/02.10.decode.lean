theorem dX0_init_0 : decode cX0_init 0 = .ok (.aload_n 0, 1) := by decide +kernel
theorem dX0_init_1 : decode cX0_init 1 = .ok (.invokespecial 3, 3) := by decide +kernel
theorem dX0_init_4 : decode cX0_init 4 = .ok (.aload_n 0, 1) := by decide +kernel
theorem dX0_init_5 : decode cX0_init 5 = .ok (.iconst 2, 1) := by decide +kernel
theorem dX0_init_6 : decode cX0_init 6 = .ok (.anewarray 9, 3) := by decide +kernel
theorem dX0_init_9 : decode cX0_init 9 = .ok (.dup, 1) := by decide +kernel
theorem dX0_init_10 : decode cX0_init 10 = .ok (.iconst 0, 1) := by decide +kernel
theorem dX0_init_11 : decode cX0_init 11 = .ok (.new 9, 3) := by decide +kernel
theorem dX0_init_14 : decode cX0_init 14 = .ok (.dup, 1) := by decide +kernel
theorem dX0_init_15 : decode cX0_init 15 = .ok (.invokespecial 11, 3) := by decide +kernel
theorem dX0_init_18 : decode cX0_init 18 = .ok (.aastore, 1) := by decide +kernel
theorem dX0_init_19 : decode cX0_init 19 = .ok (.dup, 1) := by decide +kernel
theorem dX0_init_20 : decode cX0_init 20 = .ok (.iconst 1, 1) := by decide +kernel
theorem dX0_init_21 : decode cX0_init 21 = .ok (.new 9, 3) := by decide +kernel
theorem dX0_init_24 : decode cX0_init 24 = .ok (.dup, 1) := by decide +kernel
theorem dX0_init_25 : decode cX0_init 25 = .ok (.invokespecial 11, 3) := by decide +kernel
theorem dX0_init_28 : decode cX0_init 28 = .ok (.aastore, 1) := by decide +kernel
theorem dX0_init_29 : decode cX0_init 29 = .ok (.putfield 12, 3) := by decide +kernel
theorem dX0_init_32 : decode cX0_init 32 = .ok (.aload_n 0, 1) := by decide +kernel
theorem dX0_init_33 : decode cX0_init 33 = .ok (.iconst 4, 1) := by decide +kernel
theorem dX0_init_34 : decode cX0_init 34 = .ok (.newarray .int, 2) := by decide +kernel
theorem dX0_init_36 : decode cX0_init 36 = .ok (.putfield 18, 3) := by decide +kernel
theorem dX0_init_39 : decode cX0_init 39 = .ok (.aload_n 0, 1) := by decide +kernel
theorem dX0_init_40 : decode cX0_init 40 = .ok (.iconst 4, 1) := by decide +kernel
theorem dX0_init_41 : decode cX0_init 41 = .ok (.newarray .int, 2) := by decide +kernel
theorem dX0_init_43 : decode cX0_init 43 = .ok (.dup, 1) := by decide +kernel
theorem dX0_init_44 : decode cX0_init 44 = .ok (.iconst 0, 1) := by decide +kernel
theorem dX0_init_45 : decode cX0_init 45 = .ok (.bipush 7, 2) := by decide +kernel
theorem dX0_init_47 : decode cX0_init 47 = .ok (.iastore, 1) := by decide +kernel
theorem dX0_init_48 : decode cX0_init 48 = .ok (.dup, 1) := by decide +kernel
theorem dX0_init_49 : decode cX0_init 49 = .ok (.iconst 1, 1) := by decide +kernel
theorem dX0_init_50 : decode cX0_init 50 = .ok (.bipush 7, 2) := by decide +kernel
theorem dX0_init_52 : decode cX0_init 52 = .ok (.iastore, 1) := by decide +kernel
theorem dX0_init_53 : decode cX0_init 53 = .ok (.dup, 1) := by decide +kernel
theorem dX0_init_54 : decode cX0_init 54 = .ok (.iconst 2, 1) := by decide +kernel
theorem dX0_init_55 : decode cX0_init 55 = .ok (.bipush 7, 2) := by decide +kernel
theorem dX0_init_57 : decode cX0_init 57 = .ok (.iastore, 1) := by decide +kernel
theorem dX0_init_58 : decode cX0_init 58 = .ok (.dup, 1) := by decide +kernel
theorem dX0_init_59 : decode cX0_init 59 = .ok (.iconst 3, 1) := by decide +kernel
theorem dX0_init_60 : decode cX0_init 60 = .ok (.bipush 7, 2) := by decide +kernel
theorem dX0_init_62 : decode cX0_init 62 = .ok (.iastore, 1) := by decide +kernel
theorem dX0_init_63 : decode cX0_init 63 = .ok (.putfield 22, 3) := by decide +kernel
theorem dX0_init_66 : decode cX0_init 66 = .ok (.aload_n 0, 1) := by decide +kernel
theorem dX0_init_67 : decode cX0_init 67 = .ok (.iconst 0, 1) := by decide +kernel
theorem dX0_init_68 : decode cX0_init 68 = .ok (.putfield 25, 3) := by decide +kernel
theorem dX0_init_71 : decode cX0_init 71 = .ok (.return_, 1) := by decide +kernel
theorem dX0_placesOf_0 : decode cX0_placesOf 0 = .ok (.iload_n 0, 1) := by decide +kernel
theorem dX0_placesOf_1 : decode cX0_placesOf 1 = .ok (.i2l, 1) := by decide +kernel
theorem dX0_placesOf_2 : decode cX0_placesOf 2 = .ok (.bipush 16, 2) := by decide +kernel
theorem dX0_placesOf_4 : decode cX0_placesOf 4 = .ok (.lshl, 1) := by decide +kernel
theorem dX0_placesOf_5 : decode cX0_placesOf 5 = .ok (.iload_n 1, 1) := by decide +kernel
theorem dX0_placesOf_6 : decode cX0_placesOf 6 = .ok (.i2l, 1) := by decide +kernel
theorem dX0_placesOf_7 : decode cX0_placesOf 7 = .ok (.bipush 19, 2) := by decide +kernel
theorem dX0_placesOf_9 : decode cX0_placesOf 9 = .ok (.lshl, 1) := by decide +kernel
theorem dX0_placesOf_10 : decode cX0_placesOf 10 = .ok (.lor, 1) := by decide +kernel
theorem dX0_placesOf_11 : decode cX0_placesOf 11 = .ok (.lreturn, 1) := by decide +kernel
theorem dX0_beginning_0 : decode cX0_beginning 0 = .ok (.lconst 0, 1) := by decide +kernel
theorem dX0_beginning_1 : decode cX0_beginning 1 = .ok (.lstore_n 1, 1) := by decide +kernel
theorem dX0_beginning_2 : decode cX0_beginning 2 = .ok (.iconst 0, 1) := by decide +kernel
theorem dX0_beginning_3 : decode cX0_beginning 3 = .ok (.istore_n 3, 1) := by decide +kernel
theorem dX0_beginning_4 : decode cX0_beginning 4 = .ok (.iload_n 3, 1) := by decide +kernel
theorem dX0_beginning_5 : decode cX0_beginning 5 = .ok (.iconst 4, 1) := by decide +kernel
theorem dX0_beginning_6 : decode cX0_beginning 6 = .ok (.if_icmp .ge 23, 3) := by decide +kernel
theorem dX0_beginning_9 : decode cX0_beginning 9 = .ok (.lload_n 1, 1) := by decide +kernel
theorem dX0_beginning_10 : decode cX0_beginning 10 = .ok (.aload_n 0, 1) := by decide +kernel
theorem dX0_beginning_11 : decode cX0_beginning 11 = .ok (.getfield 18, 3) := by decide +kernel
theorem dX0_beginning_14 : decode cX0_beginning 14 = .ok (.iload_n 3, 1) := by decide +kernel
theorem dX0_beginning_15 : decode cX0_beginning 15 = .ok (.iaload, 1) := by decide +kernel
theorem dX0_beginning_16 : decode cX0_beginning 16 = .ok (.i2l, 1) := by decide +kernel
theorem dX0_beginning_17 : decode cX0_beginning 17 = .ok (.iconst 2, 1) := by decide +kernel
theorem dX0_beginning_18 : decode cX0_beginning 18 = .ok (.iload_n 3, 1) := by decide +kernel
theorem dX0_beginning_19 : decode cX0_beginning 19 = .ok (.imul, 1) := by decide +kernel
theorem dX0_beginning_20 : decode cX0_beginning 20 = .ok (.lshl, 1) := by decide +kernel
theorem dX0_beginning_21 : decode cX0_beginning 21 = .ok (.lor, 1) := by decide +kernel
theorem dX0_beginning_22 : decode cX0_beginning 22 = .ok (.lstore_n 1, 1) := by decide +kernel
theorem dX0_beginning_23 : decode cX0_beginning 23 = .ok (.iinc 3 1, 3) := by decide +kernel
theorem dX0_beginning_26 : decode cX0_beginning 26 = .ok (.goto (-22), 3) := by decide +kernel
theorem dX0_beginning_29 : decode cX0_beginning 29 = .ok (.lload_n 1, 1) := by decide +kernel
theorem dX0_beginning_30 : decode cX0_beginning 30 = .ok (.lreturn, 1) := by decide +kernel
theorem dX0_goodEnd_0 : decode cX0_goodEnd 0 = .ok (.aload_n 0, 1) := by decide +kernel
theorem dX0_goodEnd_1 : decode cX0_goodEnd 1 = .ok (.getfield 12, 3) := by decide +kernel
theorem dX0_goodEnd_4 : decode cX0_goodEnd 4 = .ok (.iconst 0, 1) := by decide +kernel
theorem dX0_goodEnd_5 : decode cX0_goodEnd 5 = .ok (.aaload, 1) := by decide +kernel
theorem dX0_goodEnd_6 : decode cX0_goodEnd 6 = .ok (.getfield 29, 3) := by decide +kernel
theorem dX0_goodEnd_9 : decode cX0_goodEnd 9 = .ok (.aload_n 0, 1) := by decide +kernel
theorem dX0_goodEnd_10 : decode cX0_goodEnd 10 = .ok (.getfield 12, 3) := by decide +kernel
theorem dX0_goodEnd_13 : decode cX0_goodEnd 13 = .ok (.iconst 1, 1) := by decide +kernel
theorem dX0_goodEnd_14 : decode cX0_goodEnd 14 = .ok (.aaload, 1) := by decide +kernel
theorem dX0_goodEnd_15 : decode cX0_goodEnd 15 = .ok (.getfield 29, 3) := by decide +kernel
theorem dX0_goodEnd_18 : decode cX0_goodEnd 18 = .ok (.invokestatic 33, 3) := by decide +kernel
theorem dX0_goodEnd_21 : decode cX0_goodEnd 21 = .ok (.lreturn, 1) := by decide +kernel
theorem dX0_after_0 : decode cX0_after 0 = .ok (.iload_n 3, 1) := by decide +kernel
theorem dX0_after_1 : decode cX0_after 1 = .ok (.iconst 2, 1) := by decide +kernel
theorem dX0_after_2 : decode cX0_after 2 = .ok (.if_icmp .ge 10, 3) := by decide +kernel
theorem dX0_after_5 : decode cX0_after 5 = .ok (.aload_n 0, 1) := by decide +kernel
theorem dX0_after_6 : decode cX0_after 6 = .ok (.lload_n 1, 1) := by decide +kernel
theorem dX0_after_7 : decode cX0_after 7 = .ok (.iload_n 3, 1) := by decide +kernel
theorem dX0_after_8 : decode cX0_after 8 = .ok (.invokevirtual 37, 3) := by decide +kernel
theorem dX0_after_11 : decode cX0_after 11 = .ok (.lreturn, 1) := by decide +kernel
theorem dX0_after_12 : decode cX0_after 12 = .ok (.iload_n 3, 1) := by decide +kernel
theorem dX0_after_13 : decode cX0_after 13 = .ok (.bipush 8, 2) := by decide +kernel
theorem dX0_after_15 : decode cX0_after 15 = .ok (.if_icmp .ge 31, 3) := by decide +kernel
theorem dX0_after_18 : decode cX0_after 18 = .ok (.iload_n 3, 1) := by decide +kernel
theorem dX0_after_19 : decode cX0_after 19 = .ok (.iconst 5, 1) := by decide +kernel
theorem dX0_after_20 : decode cX0_after 20 = .ok (.if_icmp .ge 7, 3) := by decide +kernel
theorem dX0_after_23 : decode cX0_after 23 = .ok (.iconst 0, 1) := by decide +kernel
theorem dX0_after_24 : decode cX0_after 24 = .ok (.goto 4, 3) := by decide +kernel
theorem dX0_after_27 : decode cX0_after 27 = .ok (.iconst 1, 1) := by decide +kernel
theorem dX0_after_28 : decode cX0_after 28 = .ok (.istore 4, 2) := by decide +kernel
theorem dX0_after_30 : decode cX0_after 30 = .ok (.aload_n 0, 1) := by decide +kernel
theorem dX0_after_31 : decode cX0_after 31 = .ok (.lload_n 1, 1) := by decide +kernel
theorem dX0_after_32 : decode cX0_after 32 = .ok (.iload 4, 2) := by decide +kernel
theorem dX0_after_34 : decode cX0_after 34 = .ok (.iload_n 3, 1) := by decide +kernel
theorem dX0_after_35 : decode cX0_after 35 = .ok (.iconst 2, 1) := by decide +kernel
theorem dX0_after_36 : decode cX0_after 36 = .ok (.isub, 1) := by decide +kernel
theorem dX0_after_37 : decode cX0_after 37 = .ok (.iload 4, 2) := by decide +kernel
theorem dX0_after_39 : decode cX0_after 39 = .ok (.iconst 3, 1) := by decide +kernel
theorem dX0_after_40 : decode cX0_after 40 = .ok (.imul, 1) := by decide +kernel
theorem dX0_after_41 : decode cX0_after 41 = .ok (.isub, 1) := by decide +kernel
theorem dX0_after_42 : decode cX0_after 42 = .ok (.invokevirtual 41, 3) := by decide +kernel
theorem dX0_after_45 : decode cX0_after 45 = .ok (.lreturn, 1) := by decide +kernel
theorem dX0_after_46 : decode cX0_after 46 = .ok (.aload_n 0, 1) := by decide +kernel
theorem dX0_after_47 : decode cX0_after 47 = .ok (.getfield 25, 3) := by decide +kernel
theorem dX0_after_50 : decode cX0_after 50 = .ok (.ifCond .eq 13, 3) := by decide +kernel
theorem dX0_after_53 : decode cX0_after 53 = .ok (.lload_n 1, 1) := by decide +kernel
theorem dX0_after_54 : decode cX0_after 54 = .ok (.bipush 42, 2) := by decide +kernel
theorem dX0_after_56 : decode cX0_after 56 = .ok (.iconst 3, 1) := by decide +kernel
theorem dX0_after_57 : decode cX0_after 57 = .ok (.invokestatic 45, 3) := by decide +kernel
theorem dX0_after_60 : decode cX0_after 60 = .ok (.ifCond .eq 7, 3) := by decide +kernel
theorem dX0_after_63 : decode cX0_after 63 = .ok (.ldc2_w 49, 3) := by decide +kernel
theorem dX0_after_66 : decode cX0_after 66 = .ok (.lreturn, 1) := by decide +kernel
theorem dX0_after_67 : decode cX0_after 67 = .ok (.lload_n 1, 1) := by decide +kernel
theorem dX0_after_68 : decode cX0_after 68 = .ok (.lconst 1, 1) := by decide +kernel
theorem dX0_after_69 : decode cX0_after 69 = .ok (.bipush 42, 2) := by decide +kernel
theorem dX0_after_71 : decode cX0_after 71 = .ok (.iload_n 3, 1) := by decide +kernel
theorem dX0_after_72 : decode cX0_after 72 = .ok (.iadd, 1) := by decide +kernel
theorem dX0_after_73 : decode cX0_after 73 = .ok (.bipush 8, 2) := by decide +kernel
theorem dX0_after_75 : decode cX0_after 75 = .ok (.isub, 1) := by decide +kernel
theorem dX0_after_76 : decode cX0_after 76 = .ok (.lshl, 1) := by decide +kernel
theorem dX0_after_77 : decode cX0_after 77 = .ok (.lor, 1) := by decide +kernel
theorem dX0_after_78 : decode cX0_after 78 = .ok (.lreturn, 1) := by decide +kernel
theorem dX0_afterStatement_0 : decode cX0_afterStatement 0 = .ok (.lload_n 1, 1) := by decide +kernel
theorem dX0_afterStatement_1 : decode cX0_afterStatement 1 = .ok (.bipush 16, 2) := by decide +kernel
theorem dX0_afterStatement_3 : decode cX0_afterStatement 3 = .ok (.iconst 3, 1) := by decide +kernel
theorem dX0_afterStatement_4 : decode cX0_afterStatement 4 = .ok (.iload_n 3, 1) := by decide +kernel
theorem dX0_afterStatement_5 : decode cX0_afterStatement 5 = .ok (.imul, 1) := by decide +kernel
theorem dX0_afterStatement_6 : decode cX0_afterStatement 6 = .ok (.iadd, 1) := by decide +kernel
theorem dX0_afterStatement_7 : decode cX0_afterStatement 7 = .ok (.bipush 7, 2) := by decide +kernel
theorem dX0_afterStatement_9 : decode cX0_afterStatement 9 = .ok (.invokestatic 45, 3) := by decide +kernel
theorem dX0_afterStatement_12 : decode cX0_afterStatement 12 = .ok (.istore 4, 2) := by decide +kernel
theorem dX0_afterStatement_14 : decode cX0_afterStatement 14 = .ok (.aload_n 0, 1) := by decide +kernel
theorem dX0_afterStatement_15 : decode cX0_afterStatement 15 = .ok (.getfield 12, 3) := by decide +kernel
theorem dX0_afterStatement_18 : decode cX0_afterStatement 18 = .ok (.iload_n 3, 1) := by decide +kernel
theorem dX0_afterStatement_19 : decode cX0_afterStatement 19 = .ok (.aaload, 1) := by decide +kernel
theorem dX0_afterStatement_20 : decode cX0_afterStatement 20 = .ok (.astore 5, 2) := by decide +kernel
theorem dX0_afterStatement_22 : decode cX0_afterStatement 22 = .ok (.iload 4, 2) := by decide +kernel
theorem dX0_afterStatement_24 : decode cX0_afterStatement 24 = .ok (.aload 5, 2) := by decide +kernel
theorem dX0_afterStatement_26 : decode cX0_afterStatement 26 = .ok (.getfield 29, 3) := by decide +kernel
theorem dX0_afterStatement_29 : decode cX0_afterStatement 29 = .ok (.if_icmp .ge 11, 3) := by decide +kernel
theorem dX0_afterStatement_32 : decode cX0_afterStatement 32 = .ok (.lload_n 1, 1) := by decide +kernel
theorem dX0_afterStatement_33 : decode cX0_afterStatement 33 = .ok (.iload_n 3, 1) := by decide +kernel
theorem dX0_afterStatement_34 : decode cX0_afterStatement 34 = .ok (.invokestatic 51, 3) := by decide +kernel
theorem dX0_afterStatement_37 : decode cX0_afterStatement 37 = .ok (.ifCond .eq 7, 3) := by decide +kernel
theorem dX0_afterStatement_40 : decode cX0_afterStatement 40 = .ok (.ldc2_w 49, 3) := by decide +kernel
theorem dX0_afterStatement_43 : decode cX0_afterStatement 43 = .ok (.lreturn, 1) := by decide +kernel
theorem dX0_afterStatement_44 : decode cX0_afterStatement 44 = .ok (.lload_n 1, 1) := by decide +kernel
theorem dX0_afterStatement_45 : decode cX0_afterStatement 45 = .ok (.iload_n 3, 1) := by decide +kernel
theorem dX0_afterStatement_46 : decode cX0_afterStatement 46 = .ok (.invokestatic 55, 3) := by decide +kernel
theorem dX0_afterStatement_49 : decode cX0_afterStatement 49 = .ok (.istore 6, 2) := by decide +kernel
theorem dX0_afterStatement_51 : decode cX0_afterStatement 51 = .ok (.lload_n 1, 1) := by decide +kernel
theorem dX0_afterStatement_52 : decode cX0_afterStatement 52 = .ok (.lconst 1, 1) := by decide +kernel
theorem dX0_afterStatement_53 : decode cX0_afterStatement 53 = .ok (.bipush 16, 2) := by decide +kernel
theorem dX0_afterStatement_55 : decode cX0_afterStatement 55 = .ok (.iconst 3, 1) := by decide +kernel
theorem dX0_afterStatement_56 : decode cX0_afterStatement 56 = .ok (.iload_n 3, 1) := by decide +kernel
theorem dX0_afterStatement_57 : decode cX0_afterStatement 57 = .ok (.imul, 1) := by decide +kernel
theorem dX0_afterStatement_58 : decode cX0_afterStatement 58 = .ok (.iadd, 1) := by decide +kernel
theorem dX0_afterStatement_59 : decode cX0_afterStatement 59 = .ok (.lshl, 1) := by decide +kernel
theorem dX0_afterStatement_60 : decode cX0_afterStatement 60 = .ok (.ladd, 1) := by decide +kernel
theorem dX0_afterStatement_61 : decode cX0_afterStatement 61 = .ok (.lstore 7, 2) := by decide +kernel
theorem dX0_afterStatement_63 : decode cX0_afterStatement 63 = .ok (.aload 5, 2) := by decide +kernel
theorem dX0_afterStatement_65 : decode cX0_afterStatement 65 = .ok (.getfield 59, 3) := by decide +kernel
theorem dX0_afterStatement_68 : decode cX0_afterStatement 68 = .ok (.iload 4, 2) := by decide +kernel
theorem dX0_afterStatement_70 : decode cX0_afterStatement 70 = .ok (.iaload, 1) := by decide +kernel
theorem dX0_afterStatement_71 : decode cX0_afterStatement 71 = .ok (.tableswitch 191 4 8 #[33, 52, 66, 91, 125], 33) := by decide +kernel
theorem dX0_afterStatement_104 : decode cX0_afterStatement 104 = .ok (.aload 5, 2) := by decide +kernel
theorem dX0_afterStatement_106 : decode cX0_afterStatement 106 = .ok (.iload 6, 2) := by decide +kernel
theorem dX0_afterStatement_108 : decode cX0_afterStatement 108 = .ok (.invokestatic 62, 3) := by decide +kernel
theorem dX0_afterStatement_111 : decode cX0_afterStatement 111 = .ok (.ifCond .eq 9, 3) := by decide +kernel
theorem dX0_afterStatement_114 : decode cX0_afterStatement 114 = .ok (.ldc2_w 49, 3) := by decide +kernel
theorem dX0_afterStatement_117 : decode cX0_afterStatement 117 = .ok (.goto 5, 3) := by decide +kernel
theorem dX0_afterStatement_120 : decode cX0_afterStatement 120 = .ok (.lload 7, 2) := by decide +kernel
theorem dX0_afterStatement_122 : decode cX0_afterStatement 122 = .ok (.lreturn, 1) := by decide +kernel
theorem dX0_afterStatement_123 : decode cX0_afterStatement 123 = .ok (.iload 6, 2) := by decide +kernel
theorem dX0_afterStatement_125 : decode cX0_afterStatement 125 = .ok (.ifCond .ne 8, 3) := by decide +kernel
theorem dX0_afterStatement_128 : decode cX0_afterStatement 128 = .ok (.lload 7, 2) := by decide +kernel
theorem dX0_afterStatement_130 : decode cX0_afterStatement 130 = .ok (.goto 6, 3) := by decide +kernel
theorem dX0_afterStatement_133 : decode cX0_afterStatement 133 = .ok (.ldc2_w 49, 3) := by decide +kernel
theorem dX0_afterStatement_136 : decode cX0_afterStatement 136 = .ok (.lreturn, 1) := by decide +kernel
theorem dX0_afterStatement_137 : decode cX0_afterStatement 137 = .ok (.lload 7, 2) := by decide +kernel
theorem dX0_afterStatement_139 : decode cX0_afterStatement 139 = .ok (.iconst 2, 1) := by decide +kernel
theorem dX0_afterStatement_140 : decode cX0_afterStatement 140 = .ok (.aload 5, 2) := by decide +kernel
theorem dX0_afterStatement_142 : decode cX0_afterStatement 142 = .ok (.iload 4, 2) := by decide +kernel
theorem dX0_afterStatement_144 : decode cX0_afterStatement 144 = .ok (.iconst 0, 1) := by decide +kernel
theorem dX0_afterStatement_145 : decode cX0_afterStatement 145 = .ok (.invokevirtual 66, 3) := by decide +kernel
theorem dX0_afterStatement_148 : decode cX0_afterStatement 148 = .ok (.imul, 1) := by decide +kernel
theorem dX0_afterStatement_149 : decode cX0_afterStatement 149 = .ok (.iconst 3, 1) := by decide +kernel
theorem dX0_afterStatement_150 : decode cX0_afterStatement 150 = .ok (.aload 5, 2) := by decide +kernel
theorem dX0_afterStatement_152 : decode cX0_afterStatement 152 = .ok (.iload 4, 2) := by decide +kernel
theorem dX0_afterStatement_154 : decode cX0_afterStatement 154 = .ok (.iconst 1, 1) := by decide +kernel
theorem dX0_afterStatement_155 : decode cX0_afterStatement 155 = .ok (.invokevirtual 66, 3) := by decide +kernel
theorem dX0_afterStatement_158 : decode cX0_afterStatement 158 = .ok (.invokestatic 70, 3) := by decide +kernel
theorem dX0_afterStatement_161 : decode cX0_afterStatement 161 = .ok (.lreturn, 1) := by decide +kernel
theorem dX0_afterStatement_162 : decode cX0_afterStatement 162 = .ok (.lload 7, 2) := by decide +kernel
theorem dX0_afterStatement_164 : decode cX0_afterStatement 164 = .ok (.iload_n 3, 1) := by decide +kernel
theorem dX0_afterStatement_165 : decode cX0_afterStatement 165 = .ok (.aload 5, 2) := by decide +kernel
theorem dX0_afterStatement_167 : decode cX0_afterStatement 167 = .ok (.iload 4, 2) := by decide +kernel
theorem dX0_afterStatement_169 : decode cX0_afterStatement 169 = .ok (.iconst 1, 1) := by decide +kernel
theorem dX0_afterStatement_170 : decode cX0_afterStatement 170 = .ok (.invokevirtual 66, 3) := by decide +kernel
theorem dX0_afterStatement_173 : decode cX0_afterStatement 173 = .ok (.invokestatic 74, 3) := by decide +kernel
theorem dX0_afterStatement_176 : decode cX0_afterStatement 176 = .ok (.iconst 3, 1) := by decide +kernel
theorem dX0_afterStatement_177 : decode cX0_afterStatement 177 = .ok (.lload_n 1, 1) := by decide +kernel
theorem dX0_afterStatement_178 : decode cX0_afterStatement 178 = .ok (.iconst 2, 1) := by decide +kernel
theorem dX0_afterStatement_179 : decode cX0_afterStatement 179 = .ok (.aload 5, 2) := by decide +kernel
theorem dX0_afterStatement_181 : decode cX0_afterStatement 181 = .ok (.iload 4, 2) := by decide +kernel
theorem dX0_afterStatement_183 : decode cX0_afterStatement 183 = .ok (.iconst 0, 1) := by decide +kernel
theorem dX0_afterStatement_184 : decode cX0_afterStatement 184 = .ok (.invokevirtual 66, 3) := by decide +kernel
theorem dX0_afterStatement_187 : decode cX0_afterStatement 187 = .ok (.imul, 1) := by decide +kernel
theorem dX0_afterStatement_188 : decode cX0_afterStatement 188 = .ok (.iconst 3, 1) := by decide +kernel
theorem dX0_afterStatement_189 : decode cX0_afterStatement 189 = .ok (.invokestatic 45, 3) := by decide +kernel
theorem dX0_afterStatement_192 : decode cX0_afterStatement 192 = .ok (.invokestatic 70, 3) := by decide +kernel
theorem dX0_afterStatement_195 : decode cX0_afterStatement 195 = .ok (.lreturn, 1) := by decide +kernel
theorem dX0_afterStatement_196 : decode cX0_afterStatement 196 = .ok (.lload_n 1, 1) := by decide +kernel
theorem dX0_afterStatement_197 : decode cX0_afterStatement 197 = .ok (.iload_n 3, 1) := by decide +kernel
theorem dX0_afterStatement_198 : decode cX0_afterStatement 198 = .ok (.aload 5, 2) := by decide +kernel
theorem dX0_afterStatement_200 : decode cX0_afterStatement 200 = .ok (.iload 4, 2) := by decide +kernel
theorem dX0_afterStatement_202 : decode cX0_afterStatement 202 = .ok (.iconst 0, 1) := by decide +kernel
theorem dX0_afterStatement_203 : decode cX0_afterStatement 203 = .ok (.invokevirtual 66, 3) := by decide +kernel
theorem dX0_afterStatement_206 : decode cX0_afterStatement 206 = .ok (.invokestatic 74, 3) := by decide +kernel
theorem dX0_afterStatement_209 : decode cX0_afterStatement 209 = .ok (.iconst 3, 1) := by decide +kernel
theorem dX0_afterStatement_210 : decode cX0_afterStatement 210 = .ok (.invokestatic 45, 3) := by decide +kernel
theorem dX0_afterStatement_213 : decode cX0_afterStatement 213 = .ok (.aload 5, 2) := by decide +kernel
theorem dX0_afterStatement_215 : decode cX0_afterStatement 215 = .ok (.iload 4, 2) := by decide +kernel
theorem dX0_afterStatement_217 : decode cX0_afterStatement 217 = .ok (.iconst 1, 1) := by decide +kernel
theorem dX0_afterStatement_218 : decode cX0_afterStatement 218 = .ok (.invokevirtual 66, 3) := by decide +kernel
theorem dX0_afterStatement_221 : decode cX0_afterStatement 221 = .ok (.if_icmp .ne 7, 3) := by decide +kernel
theorem dX0_afterStatement_224 : decode cX0_afterStatement 224 = .ok (.iconst 1, 1) := by decide +kernel
theorem dX0_afterStatement_225 : decode cX0_afterStatement 225 = .ok (.goto 4, 3) := by decide +kernel
theorem dX0_afterStatement_228 : decode cX0_afterStatement 228 = .ok (.iconst 0, 1) := by decide +kernel
theorem dX0_afterStatement_229 : decode cX0_afterStatement 229 = .ok (.istore 9, 2) := by decide +kernel
theorem dX0_afterStatement_231 : decode cX0_afterStatement 231 = .ok (.iload 9, 2) := by decide +kernel
theorem dX0_afterStatement_233 : decode cX0_afterStatement 233 = .ok (.ifCond .eq 26, 3) := by decide +kernel
theorem dX0_afterStatement_236 : decode cX0_afterStatement 236 = .ok (.lload 7, 2) := by decide +kernel
theorem dX0_afterStatement_238 : decode cX0_afterStatement 238 = .ok (.bipush 16, 2) := by decide +kernel
theorem dX0_afterStatement_240 : decode cX0_afterStatement 240 = .ok (.iconst 3, 1) := by decide +kernel
theorem dX0_afterStatement_241 : decode cX0_afterStatement 241 = .ok (.iload_n 3, 1) := by decide +kernel
theorem dX0_afterStatement_242 : decode cX0_afterStatement 242 = .ok (.imul, 1) := by decide +kernel
theorem dX0_afterStatement_243 : decode cX0_afterStatement 243 = .ok (.iadd, 1) := by decide +kernel
theorem dX0_afterStatement_244 : decode cX0_afterStatement 244 = .ok (.bipush 7, 2) := by decide +kernel
theorem dX0_afterStatement_246 : decode cX0_afterStatement 246 = .ok (.aload 5, 2) := by decide +kernel
theorem dX0_afterStatement_248 : decode cX0_afterStatement 248 = .ok (.iload 4, 2) := by decide +kernel
theorem dX0_afterStatement_250 : decode cX0_afterStatement 250 = .ok (.invokevirtual 77, 3) := by decide +kernel
theorem dX0_afterStatement_253 : decode cX0_afterStatement 253 = .ok (.invokestatic 70, 3) := by decide +kernel
theorem dX0_afterStatement_256 : decode cX0_afterStatement 256 = .ok (.goto 5, 3) := by decide +kernel
theorem dX0_afterStatement_259 : decode cX0_afterStatement 259 = .ok (.lload 7, 2) := by decide +kernel
theorem dX0_afterStatement_261 : decode cX0_afterStatement 261 = .ok (.lreturn, 1) := by decide +kernel
theorem dX0_afterStatement_262 : decode cX0_afterStatement 262 = .ok (.lload 7, 2) := by decide +kernel
theorem dX0_afterStatement_264 : decode cX0_afterStatement 264 = .ok (.iload_n 3, 1) := by decide +kernel
theorem dX0_afterStatement_265 : decode cX0_afterStatement 265 = .ok (.iload 6, 2) := by decide +kernel
theorem dX0_afterStatement_267 : decode cX0_afterStatement 267 = .ok (.iload 4, 2) := by decide +kernel
theorem dX0_afterStatement_269 : decode cX0_afterStatement 269 = .ok (.invokestatic 81, 3) := by decide +kernel
theorem dX0_afterStatement_272 : decode cX0_afterStatement 272 = .ok (.lreturn, 1) := by decide +kernel
theorem dX0_afterWish_0 : decode cX0_afterWish 0 = .ok (.lload_n 1, 1) := by decide +kernel
theorem dX0_afterWish_1 : decode cX0_afterWish 1 = .ok (.iload_n 3, 1) := by decide +kernel
theorem dX0_afterWish_2 : decode cX0_afterWish 2 = .ok (.invokestatic 55, 3) := by decide +kernel
theorem dX0_afterWish_5 : decode cX0_afterWish 5 = .ok (.istore 5, 2) := by decide +kernel
theorem dX0_afterWish_7 : decode cX0_afterWish 7 = .ok (.iload 5, 2) := by decide +kernel
theorem dX0_afterWish_9 : decode cX0_afterWish 9 = .ok (.iload 4, 2) := by decide +kernel
theorem dX0_afterWish_11 : decode cX0_afterWish 11 = .ok (.invokestatic 84, 3) := by decide +kernel
theorem dX0_afterWish_14 : decode cX0_afterWish 14 = .ok (.istore 6, 2) := by decide +kernel
theorem dX0_afterWish_16 : decode cX0_afterWish 16 = .ok (.iload 6, 2) := by decide +kernel
theorem dX0_afterWish_18 : decode cX0_afterWish 18 = .ok (.iconst (-1), 1) := by decide +kernel
theorem dX0_afterWish_19 : decode cX0_afterWish 19 = .ok (.if_icmp .eq 19, 3) := by decide +kernel
theorem dX0_afterWish_22 : decode cX0_afterWish 22 = .ok (.aload_n 0, 1) := by decide +kernel
theorem dX0_afterWish_23 : decode cX0_afterWish 23 = .ok (.getfield 12, 3) := by decide +kernel
theorem dX0_afterWish_26 : decode cX0_afterWish 26 = .ok (.iload_n 3, 1) := by decide +kernel
theorem dX0_afterWish_27 : decode cX0_afterWish 27 = .ok (.aaload, 1) := by decide +kernel
theorem dX0_afterWish_28 : decode cX0_afterWish 28 = .ok (.iload 5, 2) := by decide +kernel
theorem dX0_afterWish_30 : decode cX0_afterWish 30 = .ok (.iload 4, 2) := by decide +kernel
theorem dX0_afterWish_32 : decode cX0_afterWish 32 = .ok (.invokestatic 87, 3) := by decide +kernel
theorem dX0_afterWish_35 : decode cX0_afterWish 35 = .ok (.ifCond .ne 7, 3) := by decide +kernel
theorem dX0_afterWish_38 : decode cX0_afterWish 38 = .ok (.ldc2_w 49, 3) := by decide +kernel
theorem dX0_afterWish_41 : decode cX0_afterWish 41 = .ok (.lreturn, 1) := by decide +kernel
theorem dX0_afterWish_42 : decode cX0_afterWish 42 = .ok (.lload_n 1, 1) := by decide +kernel
theorem dX0_afterWish_43 : decode cX0_afterWish 43 = .ok (.bipush 43, 2) := by decide +kernel
theorem dX0_afterWish_45 : decode cX0_afterWish 45 = .ok (.iload_n 3, 1) := by decide +kernel
theorem dX0_afterWish_46 : decode cX0_afterWish 46 = .ok (.isub, 1) := by decide +kernel
theorem dX0_afterWish_47 : decode cX0_afterWish 47 = .ok (.iconst 1, 1) := by decide +kernel
theorem dX0_afterWish_48 : decode cX0_afterWish 48 = .ok (.invokestatic 45, 3) := by decide +kernel
theorem dX0_afterWish_51 : decode cX0_afterWish 51 = .ok (.ifCond .eq 7, 3) := by decide +kernel
theorem dX0_afterWish_54 : decode cX0_afterWish 54 = .ok (.iconst 1, 1) := by decide +kernel
theorem dX0_afterWish_55 : decode cX0_afterWish 55 = .ok (.goto 4, 3) := by decide +kernel
theorem dX0_afterWish_58 : decode cX0_afterWish 58 = .ok (.iconst 0, 1) := by decide +kernel
theorem dX0_afterWish_59 : decode cX0_afterWish 59 = .ok (.istore 7, 2) := by decide +kernel
theorem dX0_afterWish_61 : decode cX0_afterWish 61 = .ok (.iload 7, 2) := by decide +kernel
theorem dX0_afterWish_63 : decode cX0_afterWish 63 = .ok (.ifCond .ne 18, 3) := by decide +kernel
theorem dX0_afterWish_66 : decode cX0_afterWish 66 = .ok (.aload_n 0, 1) := by decide +kernel
theorem dX0_afterWish_67 : decode cX0_afterWish 67 = .ok (.aload_n 0, 1) := by decide +kernel
theorem dX0_afterWish_68 : decode cX0_afterWish 68 = .ok (.getfield 12, 3) := by decide +kernel
theorem dX0_afterWish_71 : decode cX0_afterWish 71 = .ok (.iload_n 3, 1) := by decide +kernel
theorem dX0_afterWish_72 : decode cX0_afterWish 72 = .ok (.aaload, 1) := by decide +kernel
theorem dX0_afterWish_73 : decode cX0_afterWish 73 = .ok (.iload 6, 2) := by decide +kernel
theorem dX0_afterWish_75 : decode cX0_afterWish 75 = .ok (.invokevirtual 91, 3) := by decide +kernel
theorem dX0_afterWish_78 : decode cX0_afterWish 78 = .ok (.ifCond .ne 26, 3) := by decide +kernel
theorem dX0_afterWish_81 : decode cX0_afterWish 81 = .ok (.lload_n 1, 1) := by decide +kernel
theorem dX0_afterWish_82 : decode cX0_afterWish 82 = .ok (.bipush 22, 2) := by decide +kernel
theorem dX0_afterWish_84 : decode cX0_afterWish 84 = .ok (.bipush 9, 2) := by decide +kernel
theorem dX0_afterWish_86 : decode cX0_afterWish 86 = .ok (.iload_n 3, 1) := by decide +kernel
theorem dX0_afterWish_87 : decode cX0_afterWish 87 = .ok (.imul, 1) := by decide +kernel
theorem dX0_afterWish_88 : decode cX0_afterWish 88 = .ok (.iadd, 1) := by decide +kernel
theorem dX0_afterWish_89 : decode cX0_afterWish 89 = .ok (.sipush 511, 3) := by decide +kernel
theorem dX0_afterWish_92 : decode cX0_afterWish 92 = .ok (.iconst 0, 1) := by decide +kernel
theorem dX0_afterWish_93 : decode cX0_afterWish 93 = .ok (.invokestatic 70, 3) := by decide +kernel
theorem dX0_afterWish_96 : decode cX0_afterWish 96 = .ok (.lconst 1, 1) := by decide +kernel
theorem dX0_afterWish_97 : decode cX0_afterWish 97 = .ok (.bipush 40, 2) := by decide +kernel
theorem dX0_afterWish_99 : decode cX0_afterWish 99 = .ok (.iload_n 3, 1) := by decide +kernel
theorem dX0_afterWish_100 : decode cX0_afterWish 100 = .ok (.iadd, 1) := by decide +kernel
theorem dX0_afterWish_101 : decode cX0_afterWish 101 = .ok (.lshl, 1) := by decide +kernel
theorem dX0_afterWish_102 : decode cX0_afterWish 102 = .ok (.lor, 1) := by decide +kernel
theorem dX0_afterWish_103 : decode cX0_afterWish 103 = .ok (.lreturn, 1) := by decide +kernel
theorem dX0_afterWish_104 : decode cX0_afterWish 104 = .ok (.iload 5, 2) := by decide +kernel
theorem dX0_afterWish_106 : decode cX0_afterWish 106 = .ok (.iconst 1, 1) := by decide +kernel
theorem dX0_afterWish_107 : decode cX0_afterWish 107 = .ok (.iconst 3, 1) := by decide +kernel
theorem dX0_afterWish_108 : decode cX0_afterWish 108 = .ok (.iload 4, 2) := by decide +kernel
theorem dX0_afterWish_110 : decode cX0_afterWish 110 = .ok (.imul, 1) := by decide +kernel
theorem dX0_afterWish_111 : decode cX0_afterWish 111 = .ok (.ishl, 1) := by decide +kernel
theorem dX0_afterWish_112 : decode cX0_afterWish 112 = .ok (.iconst 1, 1) := by decide +kernel
theorem dX0_afterWish_113 : decode cX0_afterWish 113 = .ok (.isub, 1) := by decide +kernel
theorem dX0_afterWish_114 : decode cX0_afterWish 114 = .ok (.iand, 1) := by decide +kernel
theorem dX0_afterWish_115 : decode cX0_afterWish 115 = .ok (.istore 8, 2) := by decide +kernel
theorem dX0_afterWish_117 : decode cX0_afterWish 117 = .ok (.iload 5, 2) := by decide +kernel
theorem dX0_afterWish_119 : decode cX0_afterWish 119 = .ok (.iconst 3, 1) := by decide +kernel
theorem dX0_afterWish_120 : decode cX0_afterWish 120 = .ok (.iload 4, 2) := by decide +kernel
theorem dX0_afterWish_122 : decode cX0_afterWish 122 = .ok (.imul, 1) := by decide +kernel
theorem dX0_afterWish_123 : decode cX0_afterWish 123 = .ok (.iconst 3, 1) := by decide +kernel
theorem dX0_afterWish_124 : decode cX0_afterWish 124 = .ok (.iadd, 1) := by decide +kernel
theorem dX0_afterWish_125 : decode cX0_afterWish 125 = .ok (.ishr, 1) := by decide +kernel
theorem dX0_afterWish_126 : decode cX0_afterWish 126 = .ok (.istore 9, 2) := by decide +kernel
theorem dX0_afterWish_128 : decode cX0_afterWish 128 = .ok (.iload 8, 2) := by decide +kernel
theorem dX0_afterWish_130 : decode cX0_afterWish 130 = .ok (.iload 9, 2) := by decide +kernel
theorem dX0_afterWish_132 : decode cX0_afterWish 132 = .ok (.iconst 3, 1) := by decide +kernel
theorem dX0_afterWish_133 : decode cX0_afterWish 133 = .ok (.iload 4, 2) := by decide +kernel
theorem dX0_afterWish_135 : decode cX0_afterWish 135 = .ok (.imul, 1) := by decide +kernel
theorem dX0_afterWish_136 : decode cX0_afterWish 136 = .ok (.ishl, 1) := by decide +kernel
theorem dX0_afterWish_137 : decode cX0_afterWish 137 = .ok (.ior, 1) := by decide +kernel
theorem dX0_afterWish_138 : decode cX0_afterWish 138 = .ok (.istore 10, 2) := by decide +kernel
theorem dX0_afterWish_140 : decode cX0_afterWish 140 = .ok (.aload_n 0, 1) := by decide +kernel
theorem dX0_afterWish_141 : decode cX0_afterWish 141 = .ok (.lload_n 1, 1) := by decide +kernel
theorem dX0_afterWish_142 : decode cX0_afterWish 142 = .ok (.bipush 22, 2) := by decide +kernel
theorem dX0_afterWish_144 : decode cX0_afterWish 144 = .ok (.bipush 9, 2) := by decide +kernel
theorem dX0_afterWish_146 : decode cX0_afterWish 146 = .ok (.iload_n 3, 1) := by decide +kernel
theorem dX0_afterWish_147 : decode cX0_afterWish 147 = .ok (.imul, 1) := by decide +kernel
theorem dX0_afterWish_148 : decode cX0_afterWish 148 = .ok (.iadd, 1) := by decide +kernel
theorem dX0_afterWish_149 : decode cX0_afterWish 149 = .ok (.sipush 511, 3) := by decide +kernel
theorem dX0_afterWish_152 : decode cX0_afterWish 152 = .ok (.iload 10, 2) := by decide +kernel
theorem dX0_afterWish_154 : decode cX0_afterWish 154 = .ok (.invokestatic 70, 3) := by decide +kernel
theorem dX0_afterWish_157 : decode cX0_afterWish 157 = .ok (.iload_n 3, 1) := by decide +kernel
theorem dX0_afterWish_158 : decode cX0_afterWish 158 = .ok (.iload 6, 2) := by decide +kernel
theorem dX0_afterWish_160 : decode cX0_afterWish 160 = .ok (.invokevirtual 94, 3) := by decide +kernel
theorem dX0_afterWish_163 : decode cX0_afterWish 163 = .ok (.lreturn, 1) := by decide +kernel
theorem dX0_touched_0 : decode cX0_touched 0 = .ok (.aload_n 0, 1) := by decide +kernel
theorem dX0_touched_1 : decode cX0_touched 1 = .ok (.getfield 12, 3) := by decide +kernel
theorem dX0_touched_4 : decode cX0_touched 4 = .ok (.iload_n 3, 1) := by decide +kernel
theorem dX0_touched_5 : decode cX0_touched 5 = .ok (.aaload, 1) := by decide +kernel
theorem dX0_touched_6 : decode cX0_touched 6 = .ok (.astore 5, 2) := by decide +kernel
theorem dX0_touched_8 : decode cX0_touched 8 = .ok (.iconst 2, 1) := by decide +kernel
theorem dX0_touched_9 : decode cX0_touched 9 = .ok (.aload 5, 2) := by decide +kernel
theorem dX0_touched_11 : decode cX0_touched 11 = .ok (.iload 4, 2) := by decide +kernel
theorem dX0_touched_13 : decode cX0_touched 13 = .ok (.iconst 0, 1) := by decide +kernel
theorem dX0_touched_14 : decode cX0_touched 14 = .ok (.invokevirtual 66, 3) := by decide +kernel
theorem dX0_touched_17 : decode cX0_touched 17 = .ok (.imul, 1) := by decide +kernel
theorem dX0_touched_18 : decode cX0_touched 18 = .ok (.istore 6, 2) := by decide +kernel
theorem dX0_touched_20 : decode cX0_touched 20 = .ok (.lload_n 1, 1) := by decide +kernel
theorem dX0_touched_21 : decode cX0_touched 21 = .ok (.iload 6, 2) := by decide +kernel
theorem dX0_touched_23 : decode cX0_touched 23 = .ok (.iconst 3, 1) := by decide +kernel
theorem dX0_touched_24 : decode cX0_touched 24 = .ok (.invokestatic 45, 3) := by decide +kernel
theorem dX0_touched_27 : decode cX0_touched 27 = .ok (.istore 7, 2) := by decide +kernel
theorem dX0_touched_29 : decode cX0_touched 29 = .ok (.aload 5, 2) := by decide +kernel
theorem dX0_touched_31 : decode cX0_touched 31 = .ok (.getfield 59, 3) := by decide +kernel
theorem dX0_touched_34 : decode cX0_touched 34 = .ok (.iload 4, 2) := by decide +kernel
theorem dX0_touched_36 : decode cX0_touched 36 = .ok (.iaload, 1) := by decide +kernel
theorem dX0_touched_37 : decode cX0_touched 37 = .ok (.tableswitch 118 0 2 #[27, 43, 63], 27) := by decide +kernel
theorem dX0_touched_64 : decode cX0_touched 64 = .ok (.lload_n 1, 1) := by decide +kernel
theorem dX0_touched_65 : decode cX0_touched 65 = .ok (.iload 6, 2) := by decide +kernel
theorem dX0_touched_67 : decode cX0_touched 67 = .ok (.iconst 3, 1) := by decide +kernel
theorem dX0_touched_68 : decode cX0_touched 68 = .ok (.aload 5, 2) := by decide +kernel
theorem dX0_touched_70 : decode cX0_touched 70 = .ok (.iload 4, 2) := by decide +kernel
theorem dX0_touched_72 : decode cX0_touched 72 = .ok (.iconst 1, 1) := by decide +kernel
theorem dX0_touched_73 : decode cX0_touched 73 = .ok (.invokevirtual 66, 3) := by decide +kernel
theorem dX0_touched_76 : decode cX0_touched 76 = .ok (.invokestatic 70, 3) := by decide +kernel
theorem dX0_touched_79 : decode cX0_touched 79 = .ok (.lreturn, 1) := by decide +kernel
theorem dX0_touched_80 : decode cX0_touched 80 = .ok (.lload_n 1, 1) := by decide +kernel
theorem dX0_touched_81 : decode cX0_touched 81 = .ok (.iload_n 3, 1) := by decide +kernel
theorem dX0_touched_82 : decode cX0_touched 82 = .ok (.aload 5, 2) := by decide +kernel
theorem dX0_touched_84 : decode cX0_touched 84 = .ok (.iload 4, 2) := by decide +kernel
theorem dX0_touched_86 : decode cX0_touched 86 = .ok (.iconst 1, 1) := by decide +kernel
theorem dX0_touched_87 : decode cX0_touched 87 = .ok (.invokevirtual 66, 3) := by decide +kernel
theorem dX0_touched_90 : decode cX0_touched 90 = .ok (.invokestatic 74, 3) := by decide +kernel
theorem dX0_touched_93 : decode cX0_touched 93 = .ok (.iconst 3, 1) := by decide +kernel
theorem dX0_touched_94 : decode cX0_touched 94 = .ok (.iload 7, 2) := by decide +kernel
theorem dX0_touched_96 : decode cX0_touched 96 = .ok (.invokestatic 70, 3) := by decide +kernel
theorem dX0_touched_99 : decode cX0_touched 99 = .ok (.lreturn, 1) := by decide +kernel
theorem dX0_touched_100 : decode cX0_touched 100 = .ok (.iload 7, 2) := by decide +kernel
theorem dX0_touched_102 : decode cX0_touched 102 = .ok (.aload 5, 2) := by decide +kernel
theorem dX0_touched_104 : decode cX0_touched 104 = .ok (.iload 4, 2) := by decide +kernel
theorem dX0_touched_106 : decode cX0_touched 106 = .ok (.iconst 1, 1) := by decide +kernel
theorem dX0_touched_107 : decode cX0_touched 107 = .ok (.invokevirtual 66, 3) := by decide +kernel
theorem dX0_touched_110 : decode cX0_touched 110 = .ok (.if_icmp .ne 21, 3) := by decide +kernel
theorem dX0_touched_113 : decode cX0_touched 113 = .ok (.lload_n 1, 1) := by decide +kernel
theorem dX0_touched_114 : decode cX0_touched 114 = .ok (.iload 6, 2) := by decide +kernel
theorem dX0_touched_116 : decode cX0_touched 116 = .ok (.iconst 3, 1) := by decide +kernel
theorem dX0_touched_117 : decode cX0_touched 117 = .ok (.aload 5, 2) := by decide +kernel
theorem dX0_touched_119 : decode cX0_touched 119 = .ok (.iload 4, 2) := by decide +kernel
theorem dX0_touched_121 : decode cX0_touched 121 = .ok (.iconst 2, 1) := by decide +kernel
theorem dX0_touched_122 : decode cX0_touched 122 = .ok (.invokevirtual 66, 3) := by decide +kernel
theorem dX0_touched_125 : decode cX0_touched 125 = .ok (.invokestatic 70, 3) := by decide +kernel
theorem dX0_touched_128 : decode cX0_touched 128 = .ok (.goto 4, 3) := by decide +kernel
theorem dX0_touched_131 : decode cX0_touched 131 = .ok (.lload_n 1, 1) := by decide +kernel
theorem dX0_touched_132 : decode cX0_touched 132 = .ok (.lstore 8, 2) := by decide +kernel
theorem dX0_touched_134 : decode cX0_touched 134 = .ok (.lload 8, 2) := by decide +kernel
theorem dX0_touched_136 : decode cX0_touched 136 = .ok (.iload_n 3, 1) := by decide +kernel
theorem dX0_touched_137 : decode cX0_touched 137 = .ok (.aload 5, 2) := by decide +kernel
theorem dX0_touched_139 : decode cX0_touched 139 = .ok (.iload 4, 2) := by decide +kernel
theorem dX0_touched_141 : decode cX0_touched 141 = .ok (.iconst 3, 1) := by decide +kernel
theorem dX0_touched_142 : decode cX0_touched 142 = .ok (.invokevirtual 66, 3) := by decide +kernel
theorem dX0_touched_145 : decode cX0_touched 145 = .ok (.invokestatic 74, 3) := by decide +kernel
theorem dX0_touched_148 : decode cX0_touched 148 = .ok (.iconst 3, 1) := by decide +kernel
theorem dX0_touched_149 : decode cX0_touched 149 = .ok (.iload 7, 2) := by decide +kernel
theorem dX0_touched_151 : decode cX0_touched 151 = .ok (.invokestatic 70, 3) := by decide +kernel
theorem dX0_touched_154 : decode cX0_touched 154 = .ok (.lreturn, 1) := by decide +kernel
theorem dX0_touched_155 : decode cX0_touched 155 = .ok (.lload_n 1, 1) := by decide +kernel
theorem dX0_touched_156 : decode cX0_touched 156 = .ok (.iload 6, 2) := by decide +kernel
theorem dX0_touched_158 : decode cX0_touched 158 = .ok (.iconst 3, 1) := by decide +kernel
theorem dX0_touched_159 : decode cX0_touched 159 = .ok (.iload 7, 2) := by decide +kernel
theorem dX0_touched_161 : decode cX0_touched 161 = .ok (.aload 5, 2) := by decide +kernel
theorem dX0_touched_163 : decode cX0_touched 163 = .ok (.iload 4, 2) := by decide +kernel
theorem dX0_touched_165 : decode cX0_touched 165 = .ok (.iconst 1, 1) := by decide +kernel
theorem dX0_touched_166 : decode cX0_touched 166 = .ok (.invokevirtual 66, 3) := by decide +kernel
theorem dX0_touched_169 : decode cX0_touched 169 = .ok (.iadd, 1) := by decide +kernel
theorem dX0_touched_170 : decode cX0_touched 170 = .ok (.iconst 3, 1) := by decide +kernel
theorem dX0_touched_171 : decode cX0_touched 171 = .ok (.iand, 1) := by decide +kernel
theorem dX0_touched_172 : decode cX0_touched 172 = .ok (.invokestatic 70, 3) := by decide +kernel
theorem dX0_touched_175 : decode cX0_touched 175 = .ok (.lstore 10, 2) := by decide +kernel
theorem dX0_touched_177 : decode cX0_touched 177 = .ok (.lload 10, 2) := by decide +kernel
theorem dX0_touched_179 : decode cX0_touched 179 = .ok (.iload_n 3, 1) := by decide +kernel
theorem dX0_touched_180 : decode cX0_touched 180 = .ok (.aload 5, 2) := by decide +kernel
theorem dX0_touched_182 : decode cX0_touched 182 = .ok (.iload 4, 2) := by decide +kernel
theorem dX0_touched_184 : decode cX0_touched 184 = .ok (.iconst 2, 1) := by decide +kernel
theorem dX0_touched_185 : decode cX0_touched 185 = .ok (.invokevirtual 66, 3) := by decide +kernel
theorem dX0_touched_188 : decode cX0_touched 188 = .ok (.invokestatic 74, 3) := by decide +kernel
theorem dX0_touched_191 : decode cX0_touched 191 = .ok (.iconst 3, 1) := by decide +kernel
theorem dX0_touched_192 : decode cX0_touched 192 = .ok (.iload 7, 2) := by decide +kernel
theorem dX0_touched_194 : decode cX0_touched 194 = .ok (.invokestatic 70, 3) := by decide +kernel
theorem dX0_touched_197 : decode cX0_touched 197 = .ok (.lreturn, 1) := by decide +kernel
theorem dX0_hasRight_0 : decode cX0_hasRight 0 = .ok (.aload_n 1, 1) := by decide +kernel
theorem dX0_hasRight_1 : decode cX0_hasRight 1 = .ok (.iload_n 2, 1) := by decide +kernel
theorem dX0_hasRight_2 : decode cX0_hasRight 2 = .ok (.iconst 0, 1) := by decide +kernel
theorem dX0_hasRight_3 : decode cX0_hasRight 3 = .ok (.invokevirtual 66, 3) := by decide +kernel
theorem dX0_hasRight_6 : decode cX0_hasRight 6 = .ok (.istore_n 3, 1) := by decide +kernel
theorem dX0_hasRight_7 : decode cX0_hasRight 7 = .ok (.iload_n 3, 1) := by decide +kernel
theorem dX0_hasRight_8 : decode cX0_hasRight 8 = .ok (.ifCond .lt 8, 3) := by decide +kernel
theorem dX0_hasRight_11 : decode cX0_hasRight 11 = .ok (.iload_n 3, 1) := by decide +kernel
theorem dX0_hasRight_12 : decode cX0_hasRight 12 = .ok (.iconst 4, 1) := by decide +kernel
theorem dX0_hasRight_13 : decode cX0_hasRight 13 = .ok (.if_icmp .lt 5, 3) := by decide +kernel
theorem dX0_hasRight_16 : decode cX0_hasRight 16 = .ok (.iconst 0, 1) := by decide +kernel
theorem dX0_hasRight_17 : decode cX0_hasRight 17 = .ok (.ireturn, 1) := by decide +kernel
theorem dX0_hasRight_18 : decode cX0_hasRight 18 = .ok (.aload_n 1, 1) := by decide +kernel
theorem dX0_hasRight_19 : decode cX0_hasRight 19 = .ok (.getfield 59, 3) := by decide +kernel
theorem dX0_hasRight_22 : decode cX0_hasRight 22 = .ok (.iload_n 2, 1) := by decide +kernel
theorem dX0_hasRight_23 : decode cX0_hasRight 23 = .ok (.iaload, 1) := by decide +kernel
theorem dX0_hasRight_24 : decode cX0_hasRight 24 = .ok (.lookupswitch 62 #[(0, 28), (1, 45)], 28) := by decide +kernel
theorem dX0_hasRight_52 : decode cX0_hasRight 52 = .ok (.aload_n 0, 1) := by decide +kernel
theorem dX0_hasRight_53 : decode cX0_hasRight 53 = .ok (.getfield 22, 3) := by decide +kernel
theorem dX0_hasRight_56 : decode cX0_hasRight 56 = .ok (.iload_n 3, 1) := by decide +kernel
theorem dX0_hasRight_57 : decode cX0_hasRight 57 = .ok (.iaload, 1) := by decide +kernel
theorem dX0_hasRight_58 : decode cX0_hasRight 58 = .ok (.iconst 2, 1) := by decide +kernel
theorem dX0_hasRight_59 : decode cX0_hasRight 59 = .ok (.iand, 1) := by decide +kernel
theorem dX0_hasRight_60 : decode cX0_hasRight 60 = .ok (.ifCond .eq 7, 3) := by decide +kernel
theorem dX0_hasRight_63 : decode cX0_hasRight 63 = .ok (.iconst 1, 1) := by decide +kernel
theorem dX0_hasRight_64 : decode cX0_hasRight 64 = .ok (.goto 4, 3) := by decide +kernel
theorem dX0_hasRight_67 : decode cX0_hasRight 67 = .ok (.iconst 0, 1) := by decide +kernel
theorem dX0_hasRight_68 : decode cX0_hasRight 68 = .ok (.ireturn, 1) := by decide +kernel
theorem dX0_hasRight_69 : decode cX0_hasRight 69 = .ok (.aload_n 0, 1) := by decide +kernel
theorem dX0_hasRight_70 : decode cX0_hasRight 70 = .ok (.getfield 22, 3) := by decide +kernel
theorem dX0_hasRight_73 : decode cX0_hasRight 73 = .ok (.iload_n 3, 1) := by decide +kernel
theorem dX0_hasRight_74 : decode cX0_hasRight 74 = .ok (.iaload, 1) := by decide +kernel
theorem dX0_hasRight_75 : decode cX0_hasRight 75 = .ok (.iconst 1, 1) := by decide +kernel
theorem dX0_hasRight_76 : decode cX0_hasRight 76 = .ok (.iand, 1) := by decide +kernel
theorem dX0_hasRight_77 : decode cX0_hasRight 77 = .ok (.ifCond .eq 7, 3) := by decide +kernel
theorem dX0_hasRight_80 : decode cX0_hasRight 80 = .ok (.iconst 1, 1) := by decide +kernel
theorem dX0_hasRight_81 : decode cX0_hasRight 81 = .ok (.goto 4, 3) := by decide +kernel
theorem dX0_hasRight_84 : decode cX0_hasRight 84 = .ok (.iconst 0, 1) := by decide +kernel
theorem dX0_hasRight_85 : decode cX0_hasRight 85 = .ok (.ireturn, 1) := by decide +kernel
theorem dX0_hasRight_86 : decode cX0_hasRight 86 = .ok (.aload_n 0, 1) := by decide +kernel
theorem dX0_hasRight_87 : decode cX0_hasRight 87 = .ok (.getfield 22, 3) := by decide +kernel
theorem dX0_hasRight_90 : decode cX0_hasRight 90 = .ok (.iload_n 3, 1) := by decide +kernel
theorem dX0_hasRight_91 : decode cX0_hasRight 91 = .ok (.iaload, 1) := by decide +kernel
theorem dX0_hasRight_92 : decode cX0_hasRight 92 = .ok (.iconst 4, 1) := by decide +kernel
theorem dX0_hasRight_93 : decode cX0_hasRight 93 = .ok (.iand, 1) := by decide +kernel
theorem dX0_hasRight_94 : decode cX0_hasRight 94 = .ok (.ifCond .eq 7, 3) := by decide +kernel
theorem dX0_hasRight_97 : decode cX0_hasRight 97 = .ok (.iconst 1, 1) := by decide +kernel
theorem dX0_hasRight_98 : decode cX0_hasRight 98 = .ok (.goto 4, 3) := by decide +kernel
theorem dX0_hasRight_101 : decode cX0_hasRight 101 = .ok (.iconst 0, 1) := by decide +kernel
theorem dX0_hasRight_102 : decode cX0_hasRight 102 = .ok (.ireturn, 1) := by decide +kernel
theorem dX0_isStopped_0 : decode cX0_isStopped 0 = .ok (.lload_n 0, 1) := by decide +kernel
theorem dX0_isStopped_1 : decode cX0_isStopped 1 = .ok (.bipush 40, 2) := by decide +kernel
theorem dX0_isStopped_3 : decode cX0_isStopped 3 = .ok (.iload_n 2, 1) := by decide +kernel
theorem dX0_isStopped_4 : decode cX0_isStopped 4 = .ok (.iadd, 1) := by decide +kernel
theorem dX0_isStopped_5 : decode cX0_isStopped 5 = .ok (.iconst 1, 1) := by decide +kernel
theorem dX0_isStopped_6 : decode cX0_isStopped 6 = .ok (.invokestatic 45, 3) := by decide +kernel
theorem dX0_isStopped_9 : decode cX0_isStopped 9 = .ok (.ifCond .ne 15, 3) := by decide +kernel
theorem dX0_isStopped_12 : decode cX0_isStopped 12 = .ok (.lload_n 0, 1) := by decide +kernel
theorem dX0_isStopped_13 : decode cX0_isStopped 13 = .ok (.bipush 42, 2) := by decide +kernel
theorem dX0_isStopped_15 : decode cX0_isStopped 15 = .ok (.iload_n 2, 1) := by decide +kernel
theorem dX0_isStopped_16 : decode cX0_isStopped 16 = .ok (.iadd, 1) := by decide +kernel
theorem dX0_isStopped_17 : decode cX0_isStopped 17 = .ok (.iconst 1, 1) := by decide +kernel
theorem dX0_isStopped_18 : decode cX0_isStopped 18 = .ok (.invokestatic 45, 3) := by decide +kernel
theorem dX0_isStopped_21 : decode cX0_isStopped 21 = .ok (.ifCond .eq 7, 3) := by decide +kernel
theorem dX0_isStopped_24 : decode cX0_isStopped 24 = .ok (.iconst 1, 1) := by decide +kernel
theorem dX0_isStopped_25 : decode cX0_isStopped 25 = .ok (.goto 4, 3) := by decide +kernel
theorem dX0_isStopped_28 : decode cX0_isStopped 28 = .ok (.iconst 0, 1) := by decide +kernel
theorem dX0_isStopped_29 : decode cX0_isStopped 29 = .ok (.ireturn, 1) := by decide +kernel
theorem dX0_isGet_0 : decode cX0_isGet 0 = .ok (.iload_n 1, 1) := by decide +kernel
theorem dX0_isGet_1 : decode cX0_isGet 1 = .ok (.iload_n 2, 1) := by decide +kernel
theorem dX0_isGet_2 : decode cX0_isGet 2 = .ok (.invokestatic 84, 3) := by decide +kernel
theorem dX0_isGet_5 : decode cX0_isGet 5 = .ok (.istore_n 3, 1) := by decide +kernel
theorem dX0_isGet_6 : decode cX0_isGet 6 = .ok (.iload_n 3, 1) := by decide +kernel
theorem dX0_isGet_7 : decode cX0_isGet 7 = .ok (.iconst (-1), 1) := by decide +kernel
theorem dX0_isGet_8 : decode cX0_isGet 8 = .ok (.if_icmp .eq 17, 3) := by decide +kernel
theorem dX0_isGet_11 : decode cX0_isGet 11 = .ok (.aload_n 0, 1) := by decide +kernel
theorem dX0_isGet_12 : decode cX0_isGet 12 = .ok (.getfield 59, 3) := by decide +kernel
theorem dX0_isGet_15 : decode cX0_isGet 15 = .ok (.iload_n 3, 1) := by decide +kernel
theorem dX0_isGet_16 : decode cX0_isGet 16 = .ok (.iaload, 1) := by decide +kernel
theorem dX0_isGet_17 : decode cX0_isGet 17 = .ok (.iconst 1, 1) := by decide +kernel
theorem dX0_isGet_18 : decode cX0_isGet 18 = .ok (.if_icmp .ne 7, 3) := by decide +kernel
theorem dX0_isGet_21 : decode cX0_isGet 21 = .ok (.iconst 1, 1) := by decide +kernel
theorem dX0_isGet_22 : decode cX0_isGet 22 = .ok (.goto 4, 3) := by decide +kernel
theorem dX0_isGet_25 : decode cX0_isGet 25 = .ok (.iconst 0, 1) := by decide +kernel
theorem dX0_isGet_26 : decode cX0_isGet 26 = .ok (.ireturn, 1) := by decide +kernel
theorem dX0_hasGet_0 : decode cX0_hasGet 0 = .ok (.aload_n 0, 1) := by decide +kernel
theorem dX0_hasGet_1 : decode cX0_hasGet 1 = .ok (.iload_n 1, 1) := by decide +kernel
theorem dX0_hasGet_2 : decode cX0_hasGet 2 = .ok (.iconst 0, 1) := by decide +kernel
theorem dX0_hasGet_3 : decode cX0_hasGet 3 = .ok (.invokestatic 97, 3) := by decide +kernel
theorem dX0_hasGet_6 : decode cX0_hasGet 6 = .ok (.ifCond .ne 21, 3) := by decide +kernel
theorem dX0_hasGet_9 : decode cX0_hasGet 9 = .ok (.aload_n 0, 1) := by decide +kernel
theorem dX0_hasGet_10 : decode cX0_hasGet 10 = .ok (.iload_n 1, 1) := by decide +kernel
theorem dX0_hasGet_11 : decode cX0_hasGet 11 = .ok (.iconst 1, 1) := by decide +kernel
theorem dX0_hasGet_12 : decode cX0_hasGet 12 = .ok (.invokestatic 97, 3) := by decide +kernel
theorem dX0_hasGet_15 : decode cX0_hasGet 15 = .ok (.ifCond .ne 12, 3) := by decide +kernel
theorem dX0_hasGet_18 : decode cX0_hasGet 18 = .ok (.aload_n 0, 1) := by decide +kernel
theorem dX0_hasGet_19 : decode cX0_hasGet 19 = .ok (.iload_n 1, 1) := by decide +kernel
theorem dX0_hasGet_20 : decode cX0_hasGet 20 = .ok (.iconst 2, 1) := by decide +kernel
theorem dX0_hasGet_21 : decode cX0_hasGet 21 = .ok (.invokestatic 97, 3) := by decide +kernel
theorem dX0_hasGet_24 : decode cX0_hasGet 24 = .ok (.ifCond .eq 7, 3) := by decide +kernel
theorem dX0_hasGet_27 : decode cX0_hasGet 27 = .ok (.iconst 1, 1) := by decide +kernel
theorem dX0_hasGet_28 : decode cX0_hasGet 28 = .ok (.goto 4, 3) := by decide +kernel
theorem dX0_hasGet_31 : decode cX0_hasGet 31 = .ok (.iconst 0, 1) := by decide +kernel
theorem dX0_hasGet_32 : decode cX0_hasGet 32 = .ok (.ireturn, 1) := by decide +kernel
theorem dX0_mayBeDone_0 : decode cX0_mayBeDone 0 = .ok (.iload_n 2, 1) := by decide +kernel
theorem dX0_mayBeDone_1 : decode cX0_mayBeDone 1 = .ok (.ifCond .le 14, 3) := by decide +kernel
theorem dX0_mayBeDone_4 : decode cX0_mayBeDone 4 = .ok (.aload_n 0, 1) := by decide +kernel
theorem dX0_mayBeDone_5 : decode cX0_mayBeDone 5 = .ok (.iload_n 1, 1) := by decide +kernel
theorem dX0_mayBeDone_6 : decode cX0_mayBeDone 6 = .ok (.iload_n 2, 1) := by decide +kernel
theorem dX0_mayBeDone_7 : decode cX0_mayBeDone 7 = .ok (.invokestatic 97, 3) := by decide +kernel
theorem dX0_mayBeDone_10 : decode cX0_mayBeDone 10 = .ok (.ifCond .eq 5, 3) := by decide +kernel
theorem dX0_mayBeDone_13 : decode cX0_mayBeDone 13 = .ok (.iconst 0, 1) := by decide +kernel
theorem dX0_mayBeDone_14 : decode cX0_mayBeDone 14 = .ok (.ireturn, 1) := by decide +kernel
theorem dX0_mayBeDone_15 : decode cX0_mayBeDone 15 = .ok (.iconst 0, 1) := by decide +kernel
theorem dX0_mayBeDone_16 : decode cX0_mayBeDone 16 = .ok (.istore_n 3, 1) := by decide +kernel
theorem dX0_mayBeDone_17 : decode cX0_mayBeDone 17 = .ok (.iload_n 3, 1) := by decide +kernel
theorem dX0_mayBeDone_18 : decode cX0_mayBeDone 18 = .ok (.iload_n 2, 1) := by decide +kernel
theorem dX0_mayBeDone_19 : decode cX0_mayBeDone 19 = .ok (.if_icmp .ge 20, 3) := by decide +kernel
theorem dX0_mayBeDone_22 : decode cX0_mayBeDone 22 = .ok (.aload_n 0, 1) := by decide +kernel
theorem dX0_mayBeDone_23 : decode cX0_mayBeDone 23 = .ok (.iload_n 1, 1) := by decide +kernel
theorem dX0_mayBeDone_24 : decode cX0_mayBeDone 24 = .ok (.iload_n 3, 1) := by decide +kernel
theorem dX0_mayBeDone_25 : decode cX0_mayBeDone 25 = .ok (.invokestatic 97, 3) := by decide +kernel
theorem dX0_mayBeDone_28 : decode cX0_mayBeDone 28 = .ok (.ifCond .ne 5, 3) := by decide +kernel
theorem dX0_mayBeDone_31 : decode cX0_mayBeDone 31 = .ok (.iconst 0, 1) := by decide +kernel
theorem dX0_mayBeDone_32 : decode cX0_mayBeDone 32 = .ok (.ireturn, 1) := by decide +kernel
theorem dX0_mayBeDone_33 : decode cX0_mayBeDone 33 = .ok (.iinc 3 1, 3) := by decide +kernel
theorem dX0_mayBeDone_36 : decode cX0_mayBeDone 36 = .ok (.goto (-19), 3) := by decide +kernel
theorem dX0_mayBeDone_39 : decode cX0_mayBeDone 39 = .ok (.iconst 1, 1) := by decide +kernel
theorem dX0_mayBeDone_40 : decode cX0_mayBeDone 40 = .ok (.ireturn, 1) := by decide +kernel
theorem dX0_withWish_0 : decode cX0_withWish 0 = .ok (.iconst 0, 1) := by decide +kernel
theorem dX0_withWish_1 : decode cX0_withWish 1 = .ok (.istore 5, 2) := by decide +kernel
theorem dX0_withWish_3 : decode cX0_withWish 3 = .ok (.iload 5, 2) := by decide +kernel
theorem dX0_withWish_5 : decode cX0_withWish 5 = .ok (.iconst 3, 1) := by decide +kernel
theorem dX0_withWish_6 : decode cX0_withWish 6 = .ok (.if_icmp .ge 40, 3) := by decide +kernel
theorem dX0_withWish_9 : decode cX0_withWish 9 = .ok (.iload_n 3, 1) := by decide +kernel
theorem dX0_withWish_10 : decode cX0_withWish 10 = .ok (.iload 5, 2) := by decide +kernel
theorem dX0_withWish_12 : decode cX0_withWish 12 = .ok (.invokestatic 84, 3) := by decide +kernel
theorem dX0_withWish_15 : decode cX0_withWish 15 = .ok (.iconst (-1), 1) := by decide +kernel
theorem dX0_withWish_16 : decode cX0_withWish 16 = .ok (.if_icmp .ne 24, 3) := by decide +kernel
theorem dX0_withWish_19 : decode cX0_withWish 19 = .ok (.lload_n 0, 1) := by decide +kernel
theorem dX0_withWish_20 : decode cX0_withWish 20 = .ok (.iload 4, 2) := by decide +kernel
theorem dX0_withWish_22 : decode cX0_withWish 22 = .ok (.iconst 1, 1) := by decide +kernel
theorem dX0_withWish_23 : decode cX0_withWish 23 = .ok (.iadd, 1) := by decide +kernel
theorem dX0_withWish_24 : decode cX0_withWish 24 = .ok (.i2l, 1) := by decide +kernel
theorem dX0_withWish_25 : decode cX0_withWish 25 = .ok (.bipush 22, 2) := by decide +kernel
theorem dX0_withWish_27 : decode cX0_withWish 27 = .ok (.bipush 9, 2) := by decide +kernel
theorem dX0_withWish_29 : decode cX0_withWish 29 = .ok (.iload_n 2, 1) := by decide +kernel
theorem dX0_withWish_30 : decode cX0_withWish 30 = .ok (.imul, 1) := by decide +kernel
theorem dX0_withWish_31 : decode cX0_withWish 31 = .ok (.iadd, 1) := by decide +kernel
theorem dX0_withWish_32 : decode cX0_withWish 32 = .ok (.iconst 3, 1) := by decide +kernel
theorem dX0_withWish_33 : decode cX0_withWish 33 = .ok (.iload 5, 2) := by decide +kernel
theorem dX0_withWish_35 : decode cX0_withWish 35 = .ok (.imul, 1) := by decide +kernel
theorem dX0_withWish_36 : decode cX0_withWish 36 = .ok (.iadd, 1) := by decide +kernel
theorem dX0_withWish_37 : decode cX0_withWish 37 = .ok (.lshl, 1) := by decide +kernel
theorem dX0_withWish_38 : decode cX0_withWish 38 = .ok (.lor, 1) := by decide +kernel
theorem dX0_withWish_39 : decode cX0_withWish 39 = .ok (.lreturn, 1) := by decide +kernel
theorem dX0_withWish_40 : decode cX0_withWish 40 = .ok (.iinc 5 1, 3) := by decide +kernel
theorem dX0_withWish_43 : decode cX0_withWish 43 = .ok (.goto (-40), 3) := by decide +kernel
theorem dX0_withWish_46 : decode cX0_withWish 46 = .ok (.ldc2_w 49, 3) := by decide +kernel
theorem dX0_withWish_49 : decode cX0_withWish 49 = .ok (.lreturn, 1) := by decide +kernel
theorem dX0_queueOf_0 : decode cX0_queueOf 0 = .ok (.lload_n 0, 1) := by decide +kernel
theorem dX0_queueOf_1 : decode cX0_queueOf 1 = .ok (.bipush 22, 2) := by decide +kernel
theorem dX0_queueOf_3 : decode cX0_queueOf 3 = .ok (.bipush 9, 2) := by decide +kernel
theorem dX0_queueOf_5 : decode cX0_queueOf 5 = .ok (.iload_n 2, 1) := by decide +kernel
theorem dX0_queueOf_6 : decode cX0_queueOf 6 = .ok (.imul, 1) := by decide +kernel
theorem dX0_queueOf_7 : decode cX0_queueOf 7 = .ok (.iadd, 1) := by decide +kernel
theorem dX0_queueOf_8 : decode cX0_queueOf 8 = .ok (.sipush 511, 3) := by decide +kernel
theorem dX0_queueOf_11 : decode cX0_queueOf 11 = .ok (.invokestatic 45, 3) := by decide +kernel
theorem dX0_queueOf_14 : decode cX0_queueOf 14 = .ok (.ireturn, 1) := by decide +kernel
theorem dX0_wishAt_0 : decode cX0_wishAt 0 = .ok (.iload_n 0, 1) := by decide +kernel
theorem dX0_wishAt_1 : decode cX0_wishAt 1 = .ok (.iconst 3, 1) := by decide +kernel
theorem dX0_wishAt_2 : decode cX0_wishAt 2 = .ok (.iload_n 1, 1) := by decide +kernel
theorem dX0_wishAt_3 : decode cX0_wishAt 3 = .ok (.imul, 1) := by decide +kernel
theorem dX0_wishAt_4 : decode cX0_wishAt 4 = .ok (.ishr, 1) := by decide +kernel
theorem dX0_wishAt_5 : decode cX0_wishAt 5 = .ok (.bipush 7, 2) := by decide +kernel
theorem dX0_wishAt_7 : decode cX0_wishAt 7 = .ok (.iand, 1) := by decide +kernel
theorem dX0_wishAt_8 : decode cX0_wishAt 8 = .ok (.iconst 1, 1) := by decide +kernel
theorem dX0_wishAt_9 : decode cX0_wishAt 9 = .ok (.isub, 1) := by decide +kernel
theorem dX0_wishAt_10 : decode cX0_wishAt 10 = .ok (.ireturn, 1) := by decide +kernel
theorem dX0_registerAt_0 : decode cX0_registerAt 0 = .ok (.bipush 8, 2) := by decide +kernel
theorem dX0_registerAt_2 : decode cX0_registerAt 2 = .ok (.iconst 4, 1) := by decide +kernel
theorem dX0_registerAt_3 : decode cX0_registerAt 3 = .ok (.iload_n 0, 1) := by decide +kernel
theorem dX0_registerAt_4 : decode cX0_registerAt 4 = .ok (.imul, 1) := by decide +kernel
theorem dX0_registerAt_5 : decode cX0_registerAt 5 = .ok (.iadd, 1) := by decide +kernel
theorem dX0_registerAt_6 : decode cX0_registerAt 6 = .ok (.iconst 2, 1) := by decide +kernel
theorem dX0_registerAt_7 : decode cX0_registerAt 7 = .ok (.iload_n 1, 1) := by decide +kernel
theorem dX0_registerAt_8 : decode cX0_registerAt 8 = .ok (.imul, 1) := by decide +kernel
theorem dX0_registerAt_9 : decode cX0_registerAt 9 = .ok (.iadd, 1) := by decide +kernel
theorem dX0_registerAt_10 : decode cX0_registerAt 10 = .ok (.ireturn, 1) := by decide +kernel
theorem dX0_bits_0 : decode cX0_bits 0 = .ok (.lload_n 0, 1) := by decide +kernel
theorem dX0_bits_1 : decode cX0_bits 1 = .ok (.iload_n 2, 1) := by decide +kernel
theorem dX0_bits_2 : decode cX0_bits 2 = .ok (.lushr, 1) := by decide +kernel
theorem dX0_bits_3 : decode cX0_bits 3 = .ok (.l2i, 1) := by decide +kernel
theorem dX0_bits_4 : decode cX0_bits 4 = .ok (.iload_n 3, 1) := by decide +kernel
theorem dX0_bits_5 : decode cX0_bits 5 = .ok (.iand, 1) := by decide +kernel
theorem dX0_bits_6 : decode cX0_bits 6 = .ok (.ireturn, 1) := by decide +kernel
theorem dX0_with_0 : decode cX0_with 0 = .ok (.lload_n 0, 1) := by decide +kernel
theorem dX0_with_1 : decode cX0_with 1 = .ok (.iload_n 3, 1) := by decide +kernel
theorem dX0_with_2 : decode cX0_with 2 = .ok (.i2l, 1) := by decide +kernel
theorem dX0_with_3 : decode cX0_with 3 = .ok (.iload_n 2, 1) := by decide +kernel
theorem dX0_with_4 : decode cX0_with 4 = .ok (.lshl, 1) := by decide +kernel
theorem dX0_with_5 : decode cX0_with 5 = .ok (.ldc2_w 49, 3) := by decide +kernel
theorem dX0_with_8 : decode cX0_with 8 = .ok (.lxor, 1) := by decide +kernel
theorem dX0_with_9 : decode cX0_with 9 = .ok (.land, 1) := by decide +kernel
theorem dX0_with_10 : decode cX0_with 10 = .ok (.iload 4, 2) := by decide +kernel
theorem dX0_with_12 : decode cX0_with 12 = .ok (.i2l, 1) := by decide +kernel
theorem dX0_with_13 : decode cX0_with 13 = .ok (.iload_n 2, 1) := by decide +kernel
theorem dX0_with_14 : decode cX0_with 14 = .ok (.lshl, 1) := by decide +kernel
theorem dX0_with_15 : decode cX0_with 15 = .ok (.lor, 1) := by decide +kernel
theorem dX0_with_16 : decode cX0_with 16 = .ok (.lreturn, 1) := by decide +kernel
theorem dX1_init_0 : decode cX1_init 0 = .ok (.aload_n 0, 1) := by decide +kernel
theorem dX1_init_1 : decode cX1_init 1 = .ok (.invokespecial 3, 3) := by decide +kernel
theorem dX1_init_4 : decode cX1_init 4 = .ok (.aload_n 0, 1) := by decide +kernel
theorem dX1_init_5 : decode cX1_init 5 = .ok (.iconst 0, 1) := by decide +kernel
theorem dX1_init_6 : decode cX1_init 6 = .ok (.putfield 9, 3) := by decide +kernel
theorem dX1_init_9 : decode cX1_init 9 = .ok (.aload_n 0, 1) := by decide +kernel
theorem dX1_init_10 : decode cX1_init 10 = .ok (.bipush 8, 2) := by decide +kernel
theorem dX1_init_12 : decode cX1_init 12 = .ok (.newarray .int, 2) := by decide +kernel
theorem dX1_init_14 : decode cX1_init 14 = .ok (.putfield 15, 3) := by decide +kernel
theorem dX1_init_17 : decode cX1_init 17 = .ok (.aload_n 0, 1) := by decide +kernel
theorem dX1_init_18 : decode cX1_init 18 = .ok (.bipush 32, 2) := by decide +kernel
theorem dX1_init_20 : decode cX1_init 20 = .ok (.newarray .int, 2) := by decide +kernel
theorem dX1_init_22 : decode cX1_init 22 = .ok (.putfield 19, 3) := by decide +kernel
theorem dX1_init_25 : decode cX1_init 25 = .ok (.return_, 1) := by decide +kernel
theorem dX1_nameOf_0 : decode cX1_nameOf 0 = .ok (.iload_n 0, 1) := by decide +kernel
theorem dX1_nameOf_1 : decode cX1_nameOf 1 = .ok (.tableswitch 71 0 7 #[47, 50, 53, 56, 59, 62, 65, 68], 47) := by decide +kernel
theorem dX1_nameOf_48 : decode cX1_nameOf 48 = .ok (.ldc 22, 2) := by decide +kernel
theorem dX1_nameOf_50 : decode cX1_nameOf 50 = .ok (.areturn, 1) := by decide +kernel
theorem dX1_nameOf_51 : decode cX1_nameOf 51 = .ok (.ldc 24, 2) := by decide +kernel
theorem dX1_nameOf_53 : decode cX1_nameOf 53 = .ok (.areturn, 1) := by decide +kernel
theorem dX1_nameOf_54 : decode cX1_nameOf 54 = .ok (.ldc 26, 2) := by decide +kernel
theorem dX1_nameOf_56 : decode cX1_nameOf 56 = .ok (.areturn, 1) := by decide +kernel
theorem dX1_nameOf_57 : decode cX1_nameOf 57 = .ok (.ldc 28, 2) := by decide +kernel
theorem dX1_nameOf_59 : decode cX1_nameOf 59 = .ok (.areturn, 1) := by decide +kernel
theorem dX1_nameOf_60 : decode cX1_nameOf 60 = .ok (.ldc 30, 2) := by decide +kernel
theorem dX1_nameOf_62 : decode cX1_nameOf 62 = .ok (.areturn, 1) := by decide +kernel
theorem dX1_nameOf_63 : decode cX1_nameOf 63 = .ok (.ldc 32, 2) := by decide +kernel
theorem dX1_nameOf_65 : decode cX1_nameOf 65 = .ok (.areturn, 1) := by decide +kernel
theorem dX1_nameOf_66 : decode cX1_nameOf 66 = .ok (.ldc 34, 2) := by decide +kernel
theorem dX1_nameOf_68 : decode cX1_nameOf 68 = .ok (.areturn, 1) := by decide +kernel
theorem dX1_nameOf_69 : decode cX1_nameOf 69 = .ok (.ldc 36, 2) := by decide +kernel
theorem dX1_nameOf_71 : decode cX1_nameOf 71 = .ok (.areturn, 1) := by decide +kernel
theorem dX1_nameOf_72 : decode cX1_nameOf 72 = .ok (.ldc 38, 2) := by decide +kernel
theorem dX1_nameOf_74 : decode cX1_nameOf 74 = .ok (.areturn, 1) := by decide +kernel
theorem dX1_kindOf_0 : decode cX1_kindOf 0 = .ok (.iload_n 0, 1) := by decide +kernel
theorem dX1_kindOf_1 : decode cX1_kindOf 1 = .ok (.ifCond .lt 18, 3) := by decide +kernel
theorem dX1_kindOf_4 : decode cX1_kindOf 4 = .ok (.iload_n 0, 1) := by decide +kernel
theorem dX1_kindOf_5 : decode cX1_kindOf 5 = .ok (.bipush 9, 2) := by decide +kernel
theorem dX1_kindOf_7 : decode cX1_kindOf 7 = .ok (.if_icmp .ge 12, 3) := by decide +kernel
theorem dX1_kindOf_10 : decode cX1_kindOf 10 = .ok (.iload_n 1, 1) := by decide +kernel
theorem dX1_kindOf_11 : decode cX1_kindOf 11 = .ok (.ifCond .lt 8, 3) := by decide +kernel
theorem dX1_kindOf_14 : decode cX1_kindOf 14 = .ok (.iload_n 1, 1) := by decide +kernel
theorem dX1_kindOf_15 : decode cX1_kindOf 15 = .ok (.iconst 4, 1) := by decide +kernel
theorem dX1_kindOf_16 : decode cX1_kindOf 16 = .ok (.if_icmp .lt 5, 3) := by decide +kernel
theorem dX1_kindOf_19 : decode cX1_kindOf 19 = .ok (.iconst 0, 1) := by decide +kernel
theorem dX1_kindOf_20 : decode cX1_kindOf 20 = .ok (.ireturn, 1) := by decide +kernel
theorem dX1_kindOf_21 : decode cX1_kindOf 21 = .ok (.getstatic 40, 3) := by decide +kernel
theorem dX1_kindOf_24 : decode cX1_kindOf 24 = .ok (.iload_n 0, 1) := by decide +kernel
theorem dX1_kindOf_25 : decode cX1_kindOf 25 = .ok (.iconst 4, 1) := by decide +kernel
theorem dX1_kindOf_26 : decode cX1_kindOf 26 = .ok (.imul, 1) := by decide +kernel
theorem dX1_kindOf_27 : decode cX1_kindOf 27 = .ok (.iload_n 1, 1) := by decide +kernel
theorem dX1_kindOf_28 : decode cX1_kindOf 28 = .ok (.iadd, 1) := by decide +kernel
theorem dX1_kindOf_29 : decode cX1_kindOf 29 = .ok (.iaload, 1) := by decide +kernel
theorem dX1_kindOf_30 : decode cX1_kindOf 30 = .ok (.ireturn, 1) := by decide +kernel
theorem dX1_numbersOf_0 : decode cX1_numbersOf 0 = .ok (.iconst 0, 1) := by decide +kernel
theorem dX1_numbersOf_1 : decode cX1_numbersOf 1 = .ok (.istore_n 1, 1) := by decide +kernel
theorem dX1_numbersOf_2 : decode cX1_numbersOf 2 = .ok (.iload_n 1, 1) := by decide +kernel
theorem dX1_numbersOf_3 : decode cX1_numbersOf 3 = .ok (.iconst 4, 1) := by decide +kernel
theorem dX1_numbersOf_4 : decode cX1_numbersOf 4 = .ok (.if_icmp .ge 17, 3) := by decide +kernel
theorem dX1_numbersOf_7 : decode cX1_numbersOf 7 = .ok (.iload_n 0, 1) := by decide +kernel
theorem dX1_numbersOf_8 : decode cX1_numbersOf 8 = .ok (.iload_n 1, 1) := by decide +kernel
theorem dX1_numbersOf_9 : decode cX1_numbersOf 9 = .ok (.invokestatic 43, 3) := by decide +kernel
theorem dX1_numbersOf_12 : decode cX1_numbersOf 12 = .ok (.ifCond .eq 9, 3) := by decide +kernel
theorem dX1_numbersOf_15 : decode cX1_numbersOf 15 = .ok (.iinc 1 1, 3) := by decide +kernel
theorem dX1_numbersOf_18 : decode cX1_numbersOf 18 = .ok (.goto (-16), 3) := by decide +kernel
theorem dX1_numbersOf_21 : decode cX1_numbersOf 21 = .ok (.iload_n 1, 1) := by decide +kernel
theorem dX1_numbersOf_22 : decode cX1_numbersOf 22 = .ok (.ireturn, 1) := by decide +kernel
theorem dX1_isNumberOf_0 : decode cX1_isNumberOf 0 = .ok (.iload_n 0, 1) := by decide +kernel
theorem dX1_isNumberOf_1 : decode cX1_isNumberOf 1 = .ok (.tableswitch 89 1 4 #[31, 49, 67, 78], 31) := by decide +kernel
theorem dX1_isNumberOf_32 : decode cX1_isNumberOf 32 = .ok (.iload_n 1, 1) := by decide +kernel
theorem dX1_isNumberOf_33 : decode cX1_isNumberOf 33 = .ok (.iconst 4, 1) := by decide +kernel
theorem dX1_isNumberOf_34 : decode cX1_isNumberOf 34 = .ok (.if_icmp .ge 14, 3) := by decide +kernel
theorem dX1_isNumberOf_37 : decode cX1_isNumberOf 37 = .ok (.iload_n 1, 1) := by decide +kernel
theorem dX1_isNumberOf_38 : decode cX1_isNumberOf 38 = .ok (.iconst 2, 1) := by decide +kernel
theorem dX1_isNumberOf_39 : decode cX1_isNumberOf 39 = .ok (.idiv, 1) := by decide +kernel
theorem dX1_isNumberOf_40 : decode cX1_isNumberOf 40 = .ok (.iload_n 2, 1) := by decide +kernel
theorem dX1_isNumberOf_41 : decode cX1_isNumberOf 41 = .ok (.if_icmp .eq 7, 3) := by decide +kernel
theorem dX1_isNumberOf_44 : decode cX1_isNumberOf 44 = .ok (.iconst 1, 1) := by decide +kernel
theorem dX1_isNumberOf_45 : decode cX1_isNumberOf 45 = .ok (.goto 4, 3) := by decide +kernel
theorem dX1_isNumberOf_48 : decode cX1_isNumberOf 48 = .ok (.iconst 0, 1) := by decide +kernel
theorem dX1_isNumberOf_49 : decode cX1_isNumberOf 49 = .ok (.ireturn, 1) := by decide +kernel
theorem dX1_isNumberOf_50 : decode cX1_isNumberOf 50 = .ok (.iload_n 1, 1) := by decide +kernel
theorem dX1_isNumberOf_51 : decode cX1_isNumberOf 51 = .ok (.iconst 4, 1) := by decide +kernel
theorem dX1_isNumberOf_52 : decode cX1_isNumberOf 52 = .ok (.if_icmp .ge 14, 3) := by decide +kernel
theorem dX1_isNumberOf_55 : decode cX1_isNumberOf 55 = .ok (.iload_n 1, 1) := by decide +kernel
theorem dX1_isNumberOf_56 : decode cX1_isNumberOf 56 = .ok (.iconst 2, 1) := by decide +kernel
theorem dX1_isNumberOf_57 : decode cX1_isNumberOf 57 = .ok (.idiv, 1) := by decide +kernel
theorem dX1_isNumberOf_58 : decode cX1_isNumberOf 58 = .ok (.iload_n 2, 1) := by decide +kernel
theorem dX1_isNumberOf_59 : decode cX1_isNumberOf 59 = .ok (.if_icmp .ne 7, 3) := by decide +kernel
theorem dX1_isNumberOf_62 : decode cX1_isNumberOf 62 = .ok (.iconst 1, 1) := by decide +kernel
theorem dX1_isNumberOf_63 : decode cX1_isNumberOf 63 = .ok (.goto 4, 3) := by decide +kernel
theorem dX1_isNumberOf_66 : decode cX1_isNumberOf 66 = .ok (.iconst 0, 1) := by decide +kernel
theorem dX1_isNumberOf_67 : decode cX1_isNumberOf 67 = .ok (.ireturn, 1) := by decide +kernel
theorem dX1_isNumberOf_68 : decode cX1_isNumberOf 68 = .ok (.iload_n 1, 1) := by decide +kernel
theorem dX1_isNumberOf_69 : decode cX1_isNumberOf 69 = .ok (.iconst 2, 1) := by decide +kernel
theorem dX1_isNumberOf_70 : decode cX1_isNumberOf 70 = .ok (.if_icmp .ge 7, 3) := by decide +kernel
theorem dX1_isNumberOf_73 : decode cX1_isNumberOf 73 = .ok (.iconst 1, 1) := by decide +kernel
theorem dX1_isNumberOf_74 : decode cX1_isNumberOf 74 = .ok (.goto 4, 3) := by decide +kernel
theorem dX1_isNumberOf_77 : decode cX1_isNumberOf 77 = .ok (.iconst 0, 1) := by decide +kernel
theorem dX1_isNumberOf_78 : decode cX1_isNumberOf 78 = .ok (.ireturn, 1) := by decide +kernel
theorem dX1_isNumberOf_79 : decode cX1_isNumberOf 79 = .ok (.iload_n 1, 1) := by decide +kernel
theorem dX1_isNumberOf_80 : decode cX1_isNumberOf 80 = .ok (.iconst 4, 1) := by decide +kernel
theorem dX1_isNumberOf_81 : decode cX1_isNumberOf 81 = .ok (.if_icmp .ge 7, 3) := by decide +kernel
theorem dX1_isNumberOf_84 : decode cX1_isNumberOf 84 = .ok (.iconst 1, 1) := by decide +kernel
theorem dX1_isNumberOf_85 : decode cX1_isNumberOf 85 = .ok (.goto 4, 3) := by decide +kernel
theorem dX1_isNumberOf_88 : decode cX1_isNumberOf 88 = .ok (.iconst 0, 1) := by decide +kernel
theorem dX1_isNumberOf_89 : decode cX1_isNumberOf 89 = .ok (.ireturn, 1) := by decide +kernel
theorem dX1_isNumberOf_90 : decode cX1_isNumberOf 90 = .ok (.iload_n 1, 1) := by decide +kernel
theorem dX1_isNumberOf_91 : decode cX1_isNumberOf 91 = .ok (.iconst 1, 1) := by decide +kernel
theorem dX1_isNumberOf_92 : decode cX1_isNumberOf 92 = .ok (.if_icmp .lt 13, 3) := by decide +kernel
theorem dX1_isNumberOf_95 : decode cX1_isNumberOf 95 = .ok (.iload_n 1, 1) := by decide +kernel
theorem dX1_isNumberOf_96 : decode cX1_isNumberOf 96 = .ok (.bipush 7, 2) := by decide +kernel
theorem dX1_isNumberOf_98 : decode cX1_isNumberOf 98 = .ok (.if_icmp .gt 7, 3) := by decide +kernel
theorem dX1_isNumberOf_101 : decode cX1_isNumberOf 101 = .ok (.iconst 1, 1) := by decide +kernel
theorem dX1_isNumberOf_102 : decode cX1_isNumberOf 102 = .ok (.goto 4, 3) := by decide +kernel
theorem dX1_isNumberOf_105 : decode cX1_isNumberOf 105 = .ok (.iconst 0, 1) := by decide +kernel
theorem dX1_isNumberOf_106 : decode cX1_isNumberOf 106 = .ok (.ireturn, 1) := by decide +kernel
theorem dX1_number_0 : decode cX1_number 0 = .ok (.aload_n 0, 1) := by decide +kernel
theorem dX1_number_1 : decode cX1_number 1 = .ok (.getfield 19, 3) := by decide +kernel
theorem dX1_number_4 : decode cX1_number 4 = .ok (.iload_n 1, 1) := by decide +kernel
theorem dX1_number_5 : decode cX1_number 5 = .ok (.iconst 4, 1) := by decide +kernel
theorem dX1_number_6 : decode cX1_number 6 = .ok (.imul, 1) := by decide +kernel
theorem dX1_number_7 : decode cX1_number 7 = .ok (.iload_n 2, 1) := by decide +kernel
theorem dX1_number_8 : decode cX1_number 8 = .ok (.iadd, 1) := by decide +kernel
theorem dX1_number_9 : decode cX1_number 9 = .ok (.iaload, 1) := by decide +kernel
theorem dX1_number_10 : decode cX1_number 10 = .ok (.ireturn, 1) := by decide +kernel
theorem dX1_setNumber_0 : decode cX1_setNumber 0 = .ok (.aload_n 0, 1) := by decide +kernel
theorem dX1_setNumber_1 : decode cX1_setNumber 1 = .ok (.getfield 19, 3) := by decide +kernel
theorem dX1_setNumber_4 : decode cX1_setNumber 4 = .ok (.iload_n 1, 1) := by decide +kernel
theorem dX1_setNumber_5 : decode cX1_setNumber 5 = .ok (.iconst 4, 1) := by decide +kernel
theorem dX1_setNumber_6 : decode cX1_setNumber 6 = .ok (.imul, 1) := by decide +kernel
theorem dX1_setNumber_7 : decode cX1_setNumber 7 = .ok (.iload_n 2, 1) := by decide +kernel
theorem dX1_setNumber_8 : decode cX1_setNumber 8 = .ok (.iadd, 1) := by decide +kernel
theorem dX1_setNumber_9 : decode cX1_setNumber 9 = .ok (.iload_n 3, 1) := by decide +kernel
theorem dX1_setNumber_10 : decode cX1_setNumber 10 = .ok (.iastore, 1) := by decide +kernel
theorem dX1_setNumber_11 : decode cX1_setNumber 11 = .ok (.return_, 1) := by decide +kernel
theorem dX1_placeBehindIf_0 : decode cX1_placeBehindIf 0 = .ok (.iload_n 1, 1) := by decide +kernel
theorem dX1_placeBehindIf_1 : decode cX1_placeBehindIf 1 = .ok (.iconst 1, 1) := by decide +kernel
theorem dX1_placeBehindIf_2 : decode cX1_placeBehindIf 2 = .ok (.iadd, 1) := by decide +kernel
theorem dX1_placeBehindIf_3 : decode cX1_placeBehindIf 3 = .ok (.aload_n 0, 1) := by decide +kernel
theorem dX1_placeBehindIf_4 : decode cX1_placeBehindIf 4 = .ok (.iload_n 1, 1) := by decide +kernel
theorem dX1_placeBehindIf_5 : decode cX1_placeBehindIf 5 = .ok (.iconst 2, 1) := by decide +kernel
theorem dX1_placeBehindIf_6 : decode cX1_placeBehindIf 6 = .ok (.invokevirtual 47, 3) := by decide +kernel
theorem dX1_placeBehindIf_9 : decode cX1_placeBehindIf 9 = .ok (.iadd, 1) := by decide +kernel
theorem dX1_placeBehindIf_10 : decode cX1_placeBehindIf 10 = .ok (.aload_n 0, 1) := by decide +kernel
theorem dX1_placeBehindIf_11 : decode cX1_placeBehindIf 11 = .ok (.getfield 9, 3) := by decide +kernel
theorem dX1_placeBehindIf_14 : decode cX1_placeBehindIf 14 = .ok (.invokestatic 50, 3) := by decide +kernel
theorem dX1_placeBehindIf_17 : decode cX1_placeBehindIf 17 = .ok (.ireturn, 1) := by decide +kernel
theorem dX1_becomeFenced_0 : decode cX1_becomeFenced 0 = .ok (.aload_n 0, 1) := by decide +kernel
theorem dX1_becomeFenced_1 : decode cX1_becomeFenced 1 = .ok (.aload_n 1, 1) := by decide +kernel
theorem dX1_becomeFenced_2 : decode cX1_becomeFenced 2 = .ok (.getfield 9, 3) := by decide +kernel
theorem dX1_becomeFenced_5 : decode cX1_becomeFenced 5 = .ok (.iconst 1, 1) := by decide +kernel
theorem dX1_becomeFenced_6 : decode cX1_becomeFenced 6 = .ok (.iadd, 1) := by decide +kernel
theorem dX1_becomeFenced_7 : decode cX1_becomeFenced 7 = .ok (.bipush 7, 2) := by decide +kernel
theorem dX1_becomeFenced_9 : decode cX1_becomeFenced 9 = .ok (.invokestatic 50, 3) := by decide +kernel
theorem dX1_becomeFenced_12 : decode cX1_becomeFenced 12 = .ok (.putfield 9, 3) := by decide +kernel
theorem dX1_becomeFenced_15 : decode cX1_becomeFenced 15 = .ok (.iconst 0, 1) := by decide +kernel
theorem dX1_becomeFenced_16 : decode cX1_becomeFenced 16 = .ok (.istore_n 3, 1) := by decide +kernel
theorem dX1_becomeFenced_17 : decode cX1_becomeFenced 17 = .ok (.iload_n 3, 1) := by decide +kernel
theorem dX1_becomeFenced_18 : decode cX1_becomeFenced 18 = .ok (.aload_n 0, 1) := by decide +kernel
theorem dX1_becomeFenced_19 : decode cX1_becomeFenced 19 = .ok (.getfield 9, 3) := by decide +kernel
theorem dX1_becomeFenced_22 : decode cX1_becomeFenced 22 = .ok (.if_icmp .ge 42, 3) := by decide +kernel
theorem dX1_becomeFenced_25 : decode cX1_becomeFenced 25 = .ok (.iload_n 3, 1) := by decide +kernel
theorem dX1_becomeFenced_26 : decode cX1_becomeFenced 26 = .ok (.iload_n 2, 1) := by decide +kernel
theorem dX1_becomeFenced_27 : decode cX1_becomeFenced 27 = .ok (.if_icmp .ne 13, 3) := by decide +kernel
theorem dX1_becomeFenced_30 : decode cX1_becomeFenced 30 = .ok (.aload_n 0, 1) := by decide +kernel
theorem dX1_becomeFenced_31 : decode cX1_becomeFenced 31 = .ok (.getfield 15, 3) := by decide +kernel
theorem dX1_becomeFenced_34 : decode cX1_becomeFenced 34 = .ok (.iload_n 3, 1) := by decide +kernel
theorem dX1_becomeFenced_35 : decode cX1_becomeFenced 35 = .ok (.iconst 4, 1) := by decide +kernel
theorem dX1_becomeFenced_36 : decode cX1_becomeFenced 36 = .ok (.iastore, 1) := by decide +kernel
theorem dX1_becomeFenced_37 : decode cX1_becomeFenced 37 = .ok (.goto 21, 3) := by decide +kernel
theorem dX1_becomeFenced_40 : decode cX1_becomeFenced 40 = .ok (.aload_n 0, 1) := by decide +kernel
theorem dX1_becomeFenced_41 : decode cX1_becomeFenced 41 = .ok (.aload_n 1, 1) := by decide +kernel
theorem dX1_becomeFenced_42 : decode cX1_becomeFenced 42 = .ok (.iload_n 3, 1) := by decide +kernel
theorem dX1_becomeFenced_43 : decode cX1_becomeFenced 43 = .ok (.iload_n 2, 1) := by decide +kernel
theorem dX1_becomeFenced_44 : decode cX1_becomeFenced 44 = .ok (.if_icmp .ge 7, 3) := by decide +kernel
theorem dX1_becomeFenced_47 : decode cX1_becomeFenced 47 = .ok (.iload_n 3, 1) := by decide +kernel
theorem dX1_becomeFenced_48 : decode cX1_becomeFenced 48 = .ok (.goto 6, 3) := by decide +kernel
theorem dX1_becomeFenced_51 : decode cX1_becomeFenced 51 = .ok (.iload_n 3, 1) := by decide +kernel
theorem dX1_becomeFenced_52 : decode cX1_becomeFenced 52 = .ok (.iconst 1, 1) := by decide +kernel
theorem dX1_becomeFenced_53 : decode cX1_becomeFenced 53 = .ok (.isub, 1) := by decide +kernel
theorem dX1_becomeFenced_54 : decode cX1_becomeFenced 54 = .ok (.iload_n 3, 1) := by decide +kernel
theorem dX1_becomeFenced_55 : decode cX1_becomeFenced 55 = .ok (.invokevirtual 55, 3) := by decide +kernel
theorem dX1_becomeFenced_58 : decode cX1_becomeFenced 58 = .ok (.iinc 3 1, 3) := by decide +kernel
theorem dX1_becomeFenced_61 : decode cX1_becomeFenced 61 = .ok (.goto (-44), 3) := by decide +kernel
theorem dX1_becomeFenced_64 : decode cX1_becomeFenced 64 = .ok (.iconst 0, 1) := by decide +kernel
theorem dX1_becomeFenced_65 : decode cX1_becomeFenced 65 = .ok (.istore_n 3, 1) := by decide +kernel
theorem dX1_becomeFenced_66 : decode cX1_becomeFenced 66 = .ok (.iload_n 3, 1) := by decide +kernel
theorem dX1_becomeFenced_67 : decode cX1_becomeFenced 67 = .ok (.iload_n 2, 1) := by decide +kernel
theorem dX1_becomeFenced_68 : decode cX1_becomeFenced 68 = .ok (.if_icmp .ge 54, 3) := by decide +kernel
theorem dX1_becomeFenced_71 : decode cX1_becomeFenced 71 = .ok (.iload_n 3, 1) := by decide +kernel
theorem dX1_becomeFenced_72 : decode cX1_becomeFenced 72 = .ok (.aload_n 0, 1) := by decide +kernel
theorem dX1_becomeFenced_73 : decode cX1_becomeFenced 73 = .ok (.getfield 9, 3) := by decide +kernel
theorem dX1_becomeFenced_76 : decode cX1_becomeFenced 76 = .ok (.if_icmp .ge 46, 3) := by decide +kernel
theorem dX1_becomeFenced_79 : decode cX1_becomeFenced 79 = .ok (.aload_n 0, 1) := by decide +kernel
theorem dX1_becomeFenced_80 : decode cX1_becomeFenced 80 = .ok (.getfield 15, 3) := by decide +kernel
theorem dX1_becomeFenced_83 : decode cX1_becomeFenced 83 = .ok (.iload_n 3, 1) := by decide +kernel
theorem dX1_becomeFenced_84 : decode cX1_becomeFenced 84 = .ok (.iaload, 1) := by decide +kernel
theorem dX1_becomeFenced_85 : decode cX1_becomeFenced 85 = .ok (.bipush 8, 2) := by decide +kernel
theorem dX1_becomeFenced_87 : decode cX1_becomeFenced 87 = .ok (.if_icmp .ne 29, 3) := by decide +kernel
theorem dX1_becomeFenced_90 : decode cX1_becomeFenced 90 = .ok (.iload_n 3, 1) := by decide +kernel
theorem dX1_becomeFenced_91 : decode cX1_becomeFenced 91 = .ok (.aload_n 0, 1) := by decide +kernel
theorem dX1_becomeFenced_92 : decode cX1_becomeFenced 92 = .ok (.iload_n 3, 1) := by decide +kernel
theorem dX1_becomeFenced_93 : decode cX1_becomeFenced 93 = .ok (.iconst 2, 1) := by decide +kernel
theorem dX1_becomeFenced_94 : decode cX1_becomeFenced 94 = .ok (.invokevirtual 47, 3) := by decide +kernel
theorem dX1_becomeFenced_97 : decode cX1_becomeFenced 97 = .ok (.iadd, 1) := by decide +kernel
theorem dX1_becomeFenced_98 : decode cX1_becomeFenced 98 = .ok (.iload_n 2, 1) := by decide +kernel
theorem dX1_becomeFenced_99 : decode cX1_becomeFenced 99 = .ok (.if_icmp .lt 17, 3) := by decide +kernel
theorem dX1_becomeFenced_102 : decode cX1_becomeFenced 102 = .ok (.aload_n 0, 1) := by decide +kernel
theorem dX1_becomeFenced_103 : decode cX1_becomeFenced 103 = .ok (.iload_n 3, 1) := by decide +kernel
theorem dX1_becomeFenced_104 : decode cX1_becomeFenced 104 = .ok (.iconst 2, 1) := by decide +kernel
theorem dX1_becomeFenced_105 : decode cX1_becomeFenced 105 = .ok (.aload_n 0, 1) := by decide +kernel
theorem dX1_becomeFenced_106 : decode cX1_becomeFenced 106 = .ok (.iload_n 3, 1) := by decide +kernel
theorem dX1_becomeFenced_107 : decode cX1_becomeFenced 107 = .ok (.iconst 2, 1) := by decide +kernel
theorem dX1_becomeFenced_108 : decode cX1_becomeFenced 108 = .ok (.invokevirtual 47, 3) := by decide +kernel
theorem dX1_becomeFenced_111 : decode cX1_becomeFenced 111 = .ok (.iconst 1, 1) := by decide +kernel
theorem dX1_becomeFenced_112 : decode cX1_becomeFenced 112 = .ok (.iadd, 1) := by decide +kernel
theorem dX1_becomeFenced_113 : decode cX1_becomeFenced 113 = .ok (.invokevirtual 59, 3) := by decide +kernel
theorem dX1_becomeFenced_116 : decode cX1_becomeFenced 116 = .ok (.iinc 3 1, 3) := by decide +kernel
theorem dX1_becomeFenced_119 : decode cX1_becomeFenced 119 = .ok (.goto (-53), 3) := by decide +kernel
theorem dX1_becomeFenced_122 : decode cX1_becomeFenced 122 = .ok (.return_, 1) := by decide +kernel
theorem dX1_copy_0 : decode cX1_copy 0 = .ok (.aload_n 0, 1) := by decide +kernel
theorem dX1_copy_1 : decode cX1_copy 1 = .ok (.getfield 15, 3) := by decide +kernel
theorem dX1_copy_4 : decode cX1_copy 4 = .ok (.iload_n 3, 1) := by decide +kernel
theorem dX1_copy_5 : decode cX1_copy 5 = .ok (.aload_n 1, 1) := by decide +kernel
theorem dX1_copy_6 : decode cX1_copy 6 = .ok (.getfield 15, 3) := by decide +kernel
theorem dX1_copy_9 : decode cX1_copy 9 = .ok (.iload_n 2, 1) := by decide +kernel
theorem dX1_copy_10 : decode cX1_copy 10 = .ok (.iaload, 1) := by decide +kernel
theorem dX1_copy_11 : decode cX1_copy 11 = .ok (.iastore, 1) := by decide +kernel
theorem dX1_copy_12 : decode cX1_copy 12 = .ok (.iconst 0, 1) := by decide +kernel
theorem dX1_copy_13 : decode cX1_copy 13 = .ok (.istore 4, 2) := by decide +kernel
theorem dX1_copy_15 : decode cX1_copy 15 = .ok (.iload 4, 2) := by decide +kernel
theorem dX1_copy_17 : decode cX1_copy 17 = .ok (.iconst 4, 1) := by decide +kernel
theorem dX1_copy_18 : decode cX1_copy 18 = .ok (.if_icmp .ge 23, 3) := by decide +kernel
theorem dX1_copy_21 : decode cX1_copy 21 = .ok (.aload_n 0, 1) := by decide +kernel
theorem dX1_copy_22 : decode cX1_copy 22 = .ok (.iload_n 3, 1) := by decide +kernel
theorem dX1_copy_23 : decode cX1_copy 23 = .ok (.iload 4, 2) := by decide +kernel
theorem dX1_copy_25 : decode cX1_copy 25 = .ok (.aload_n 1, 1) := by decide +kernel
theorem dX1_copy_26 : decode cX1_copy 26 = .ok (.iload_n 2, 1) := by decide +kernel
theorem dX1_copy_27 : decode cX1_copy 27 = .ok (.iload 4, 2) := by decide +kernel
theorem dX1_copy_29 : decode cX1_copy 29 = .ok (.invokevirtual 47, 3) := by decide +kernel
theorem dX1_copy_32 : decode cX1_copy 32 = .ok (.invokevirtual 59, 3) := by decide +kernel
theorem dX1_copy_35 : decode cX1_copy 35 = .ok (.iinc 4 1, 3) := by decide +kernel
theorem dX1_copy_38 : decode cX1_copy 38 = .ok (.goto (-23), 3) := by decide +kernel
theorem dX1_copy_41 : decode cX1_copy 41 = .ok (.return_, 1) := by decide +kernel
theorem dX2_init_0 : decode cX2_init 0 = .ok (.aload_n 0, 1) := by decide +kernel
theorem dX2_init_1 : decode cX2_init 1 = .ok (.invokespecial 3, 3) := by decide +kernel
theorem dX2_init_4 : decode cX2_init 4 = .ok (.aload_n 0, 1) := by decide +kernel
theorem dX2_init_5 : decode cX2_init 5 = .ok (.iconst (-1), 1) := by decide +kernel
theorem dX2_init_6 : decode cX2_init 6 = .ok (.putfield 9, 3) := by decide +kernel
theorem dX2_init_9 : decode cX2_init 9 = .ok (.aload_n 0, 1) := by decide +kernel
theorem dX2_init_10 : decode cX2_init 10 = .ok (.iconst (-1), 1) := by decide +kernel
theorem dX2_init_11 : decode cX2_init 11 = .ok (.putfield 15, 3) := by decide +kernel
theorem dX2_init_14 : decode cX2_init 14 = .ok (.aload_n 0, 1) := by decide +kernel
theorem dX2_init_15 : decode cX2_init 15 = .ok (.iconst (-1), 1) := by decide +kernel
theorem dX2_init_16 : decode cX2_init 16 = .ok (.putfield 18, 3) := by decide +kernel
theorem dX2_init_19 : decode cX2_init 19 = .ok (.aload_n 0, 1) := by decide +kernel
theorem dX2_init_20 : decode cX2_init 20 = .ok (.iconst 0, 1) := by decide +kernel
theorem dX2_init_21 : decode cX2_init 21 = .ok (.putfield 21, 3) := by decide +kernel
theorem dX2_init_24 : decode cX2_init 24 = .ok (.return_, 1) := by decide +kernel
theorem dX2_read_0 : decode cX2_read 0 = .ok (.aload 4, 2) := by decide +kernel
theorem dX2_read_2 : decode cX2_read 2 = .ok (.iconst 0, 1) := by decide +kernel
theorem dX2_read_3 : decode cX2_read 3 = .ok (.putfield 24, 3) := by decide +kernel
theorem dX2_read_6 : decode cX2_read 6 = .ok (.aload_n 0, 1) := by decide +kernel
theorem dX2_read_7 : decode cX2_read 7 = .ok (.iconst (-1), 1) := by decide +kernel
theorem dX2_read_8 : decode cX2_read 8 = .ok (.putfield 18, 3) := by decide +kernel
theorem dX2_read_11 : decode cX2_read 11 = .ok (.aload_n 0, 1) := by decide +kernel
theorem dX2_read_12 : decode cX2_read 12 = .ok (.iconst 0, 1) := by decide +kernel
theorem dX2_read_13 : decode cX2_read 13 = .ok (.putfield 9, 3) := by decide +kernel
theorem dX2_read_16 : decode cX2_read 16 = .ok (.aload_n 0, 1) := by decide +kernel
theorem dX2_read_17 : decode cX2_read 17 = .ok (.iconst (-1), 1) := by decide +kernel
theorem dX2_read_18 : decode cX2_read 18 = .ok (.putfield 15, 3) := by decide +kernel
theorem dX2_read_21 : decode cX2_read 21 = .ok (.iconst 0, 1) := by decide +kernel
theorem dX2_read_22 : decode cX2_read 22 = .ok (.istore 5, 2) := by decide +kernel
theorem dX2_read_24 : decode cX2_read 24 = .ok (.iconst 0, 1) := by decide +kernel
theorem dX2_read_25 : decode cX2_read 25 = .ok (.istore 6, 2) := by decide +kernel
theorem dX2_read_27 : decode cX2_read 27 = .ok (.iload 6, 2) := by decide +kernel
theorem dX2_read_29 : decode cX2_read 29 = .ok (.iload_n 2, 1) := by decide +kernel
theorem dX2_read_30 : decode cX2_read 30 = .ok (.if_icmp .ge 54, 3) := by decide +kernel
theorem dX2_read_33 : decode cX2_read 33 = .ok (.aload_n 0, 1) := by decide +kernel
theorem dX2_read_34 : decode cX2_read 34 = .ok (.getfield 9, 3) := by decide +kernel
theorem dX2_read_37 : decode cX2_read 37 = .ok (.ifCond .ne 47, 3) := by decide +kernel
theorem dX2_read_40 : decode cX2_read 40 = .ok (.iload 6, 2) := by decide +kernel
theorem dX2_read_42 : decode cX2_read 42 = .ok (.iload 5, 2) := by decide +kernel
theorem dX2_read_44 : decode cX2_read 44 = .ok (.if_icmp .lt 34, 3) := by decide +kernel
theorem dX2_read_47 : decode cX2_read 47 = .ok (.aload_n 1, 1) := by decide +kernel
theorem dX2_read_48 : decode cX2_read 48 = .ok (.iload 6, 2) := by decide +kernel
theorem dX2_read_50 : decode cX2_read 50 = .ok (.baload, 1) := by decide +kernel
theorem dX2_read_51 : decode cX2_read 51 = .ok (.invokestatic 29, 3) := by decide +kernel
theorem dX2_read_54 : decode cX2_read 54 = .ok (.ifCond .ne 24, 3) := by decide +kernel
theorem dX2_read_57 : decode cX2_read 57 = .ok (.aload_n 1, 1) := by decide +kernel
theorem dX2_read_58 : decode cX2_read 58 = .ok (.iload 6, 2) := by decide +kernel
theorem dX2_read_60 : decode cX2_read 60 = .ok (.iload_n 2, 1) := by decide +kernel
theorem dX2_read_61 : decode cX2_read 61 = .ok (.invokestatic 33, 3) := by decide +kernel
theorem dX2_read_64 : decode cX2_read 64 = .ok (.istore 5, 2) := by decide +kernel
theorem dX2_read_66 : decode cX2_read 66 = .ok (.aload_n 0, 1) := by decide +kernel
theorem dX2_read_67 : decode cX2_read 67 = .ok (.aload_n 1, 1) := by decide +kernel
theorem dX2_read_68 : decode cX2_read 68 = .ok (.iload 6, 2) := by decide +kernel
theorem dX2_read_70 : decode cX2_read 70 = .ok (.iload 5, 2) := by decide +kernel
theorem dX2_read_72 : decode cX2_read 72 = .ok (.iload_n 3, 1) := by decide +kernel
theorem dX2_read_73 : decode cX2_read 73 = .ok (.aload 4, 2) := by decide +kernel
theorem dX2_read_75 : decode cX2_read 75 = .ok (.invokevirtual 37, 3) := by decide +kernel
theorem dX2_read_78 : decode cX2_read 78 = .ok (.iinc 6 1, 3) := by decide +kernel
theorem dX2_read_81 : decode cX2_read 81 = .ok (.goto (-54), 3) := by decide +kernel
theorem dX2_read_84 : decode cX2_read 84 = .ok (.aload_n 0, 1) := by decide +kernel
theorem dX2_read_85 : decode cX2_read 85 = .ok (.getfield 9, 3) := by decide +kernel
theorem dX2_read_88 : decode cX2_read 88 = .ok (.ifCond .ne 17, 3) := by decide +kernel
theorem dX2_read_91 : decode cX2_read 91 = .ok (.aload_n 0, 1) := by decide +kernel
theorem dX2_read_92 : decode cX2_read 92 = .ok (.getfield 18, 3) := by decide +kernel
theorem dX2_read_95 : decode cX2_read 95 = .ok (.iconst (-1), 1) := by decide +kernel
theorem dX2_read_96 : decode cX2_read 96 = .ok (.if_icmp .eq 9, 3) := by decide +kernel
theorem dX2_read_99 : decode cX2_read 99 = .ok (.aload_n 0, 1) := by decide +kernel
theorem dX2_read_100 : decode cX2_read 100 = .ok (.iconst 1, 1) := by decide +kernel
theorem dX2_read_101 : decode cX2_read 101 = .ok (.iload_n 2, 1) := by decide +kernel
theorem dX2_read_102 : decode cX2_read 102 = .ok (.invokevirtual 41, 3) := by decide +kernel
theorem dX2_read_105 : decode cX2_read 105 = .ok (.return_, 1) := by decide +kernel
theorem dX2_refuse_0 : decode cX2_refuse 0 = .ok (.aload_n 0, 1) := by decide +kernel
theorem dX2_refuse_1 : decode cX2_refuse 1 = .ok (.iload_n 1, 1) := by decide +kernel
theorem dX2_refuse_2 : decode cX2_refuse 2 = .ok (.putfield 9, 3) := by decide +kernel
theorem dX2_refuse_5 : decode cX2_refuse 5 = .ok (.aload_n 0, 1) := by decide +kernel
theorem dX2_refuse_6 : decode cX2_refuse 6 = .ok (.iload_n 2, 1) := by decide +kernel
theorem dX2_refuse_7 : decode cX2_refuse 7 = .ok (.putfield 15, 3) := by decide +kernel
theorem dX2_refuse_10 : decode cX2_refuse 10 = .ok (.return_, 1) := by decide +kernel
theorem dX2_take_0 : decode cX2_take 0 = .ok (.aload_n 1, 1) := by decide +kernel
theorem dX2_take_1 : decode cX2_take 1 = .ok (.iload_n 2, 1) := by decide +kernel
theorem dX2_take_2 : decode cX2_take 2 = .ok (.baload, 1) := by decide +kernel
theorem dX2_take_3 : decode cX2_take 3 = .ok (.invokestatic 45, 3) := by decide +kernel
theorem dX2_take_6 : decode cX2_take 6 = .ok (.ifCond .eq 15, 3) := by decide +kernel
theorem dX2_take_9 : decode cX2_take 9 = .ok (.aload_n 0, 1) := by decide +kernel
theorem dX2_take_10 : decode cX2_take 10 = .ok (.aload_n 1, 1) := by decide +kernel
theorem dX2_take_11 : decode cX2_take 11 = .ok (.iload_n 2, 1) := by decide +kernel
theorem dX2_take_12 : decode cX2_take 12 = .ok (.iload_n 3, 1) := by decide +kernel
theorem dX2_take_13 : decode cX2_take 13 = .ok (.aload 5, 2) := by decide +kernel
theorem dX2_take_15 : decode cX2_take 15 = .ok (.invokevirtual 48, 3) := by decide +kernel
theorem dX2_take_18 : decode cX2_take 18 = .ok (.goto 81, 3) := by decide +kernel
theorem dX2_take_21 : decode cX2_take 21 = .ok (.aload_n 1, 1) := by decide +kernel
theorem dX2_take_22 : decode cX2_take 22 = .ok (.iload_n 2, 1) := by decide +kernel
theorem dX2_take_23 : decode cX2_take 23 = .ok (.baload, 1) := by decide +kernel
theorem dX2_take_24 : decode cX2_take 24 = .ok (.invokestatic 52, 3) := by decide +kernel
theorem dX2_take_27 : decode cX2_take 27 = .ok (.ifCond .eq 17, 3) := by decide +kernel
theorem dX2_take_30 : decode cX2_take 30 = .ok (.aload_n 0, 1) := by decide +kernel
theorem dX2_take_31 : decode cX2_take 31 = .ok (.aload_n 1, 1) := by decide +kernel
theorem dX2_take_32 : decode cX2_take 32 = .ok (.iload_n 2, 1) := by decide +kernel
theorem dX2_take_33 : decode cX2_take 33 = .ok (.iload_n 3, 1) := by decide +kernel
theorem dX2_take_34 : decode cX2_take 34 = .ok (.iload 4, 2) := by decide +kernel
theorem dX2_take_36 : decode cX2_take 36 = .ok (.aload 5, 2) := by decide +kernel
theorem dX2_take_38 : decode cX2_take 38 = .ok (.invokevirtual 55, 3) := by decide +kernel
theorem dX2_take_41 : decode cX2_take 41 = .ok (.goto 58, 3) := by decide +kernel
theorem dX2_take_44 : decode cX2_take 44 = .ok (.aload_n 1, 1) := by decide +kernel
theorem dX2_take_45 : decode cX2_take 45 = .ok (.iload_n 2, 1) := by decide +kernel
theorem dX2_take_46 : decode cX2_take 46 = .ok (.baload, 1) := by decide +kernel
theorem dX2_take_47 : decode cX2_take 47 = .ok (.bipush 59, 2) := by decide +kernel
theorem dX2_take_49 : decode cX2_take 49 = .ok (.if_icmp .ne 44, 3) := by decide +kernel
theorem dX2_take_52 : decode cX2_take 52 = .ok (.aload_n 0, 1) := by decide +kernel
theorem dX2_take_53 : decode cX2_take 53 = .ok (.getfield 18, 3) := by decide +kernel
theorem dX2_take_56 : decode cX2_take 56 = .ok (.iconst (-1), 1) := by decide +kernel
theorem dX2_take_57 : decode cX2_take 57 = .ok (.if_icmp .eq 36, 3) := by decide +kernel
theorem dX2_take_60 : decode cX2_take 60 = .ok (.aload_n 0, 1) := by decide +kernel
theorem dX2_take_61 : decode cX2_take 61 = .ok (.getfield 21, 3) := by decide +kernel
theorem dX2_take_64 : decode cX2_take 64 = .ok (.aload_n 0, 1) := by decide +kernel
theorem dX2_take_65 : decode cX2_take 65 = .ok (.getfield 18, 3) := by decide +kernel
theorem dX2_take_68 : decode cX2_take 68 = .ok (.invokestatic 58, 3) := by decide +kernel
theorem dX2_take_71 : decode cX2_take 71 = .ok (.if_icmp .ne 22, 3) := by decide +kernel
theorem dX2_take_74 : decode cX2_take 74 = .ok (.aload_n 0, 1) := by decide +kernel
theorem dX2_take_75 : decode cX2_take 75 = .ok (.iconst (-1), 1) := by decide +kernel
theorem dX2_take_76 : decode cX2_take 76 = .ok (.putfield 18, 3) := by decide +kernel
theorem dX2_take_79 : decode cX2_take 79 = .ok (.aload 5, 2) := by decide +kernel
theorem dX2_take_81 : decode cX2_take 81 = .ok (.dup, 1) := by decide +kernel
theorem dX2_take_82 : decode cX2_take 82 = .ok (.getfield 24, 3) := by decide +kernel
theorem dX2_take_85 : decode cX2_take 85 = .ok (.iconst 1, 1) := by decide +kernel
theorem dX2_take_86 : decode cX2_take 86 = .ok (.iadd, 1) := by decide +kernel
theorem dX2_take_87 : decode cX2_take 87 = .ok (.putfield 24, 3) := by decide +kernel
theorem dX2_take_90 : decode cX2_take 90 = .ok (.goto 9, 3) := by decide +kernel
theorem dX2_take_93 : decode cX2_take 93 = .ok (.aload_n 0, 1) := by decide +kernel
theorem dX2_take_94 : decode cX2_take 94 = .ok (.iconst 1, 1) := by decide +kernel
theorem dX2_take_95 : decode cX2_take 95 = .ok (.iload_n 2, 1) := by decide +kernel
theorem dX2_take_96 : decode cX2_take 96 = .ok (.invokevirtual 41, 3) := by decide +kernel
theorem dX2_take_99 : decode cX2_take 99 = .ok (.return_, 1) := by decide +kernel
theorem dX2_takeName_0 : decode cX2_takeName 0 = .ok (.aload_n 0, 1) := by decide +kernel
theorem dX2_takeName_1 : decode cX2_takeName 1 = .ok (.getfield 18, 3) := by decide +kernel
theorem dX2_takeName_4 : decode cX2_takeName 4 = .ok (.iconst (-1), 1) := by decide +kernel
theorem dX2_takeName_5 : decode cX2_takeName 5 = .ok (.if_icmp .ne 12, 3) := by decide +kernel
theorem dX2_takeName_8 : decode cX2_takeName 8 = .ok (.aload_n 1, 1) := by decide +kernel
theorem dX2_takeName_9 : decode cX2_takeName 9 = .ok (.iload_n 2, 1) := by decide +kernel
theorem dX2_takeName_10 : decode cX2_takeName 10 = .ok (.iload_n 3, 1) := by decide +kernel
theorem dX2_takeName_11 : decode cX2_takeName 11 = .ok (.invokestatic 62, 3) := by decide +kernel
theorem dX2_takeName_14 : decode cX2_takeName 14 = .ok (.goto 4, 3) := by decide +kernel
theorem dX2_takeName_17 : decode cX2_takeName 17 = .ok (.iconst (-1), 1) := by decide +kernel
theorem dX2_takeName_18 : decode cX2_takeName 18 = .ok (.istore 5, 2) := by decide +kernel
theorem dX2_takeName_20 : decode cX2_takeName 20 = .ok (.iload 5, 2) := by decide +kernel
theorem dX2_takeName_22 : decode cX2_takeName 22 = .ok (.iconst (-1), 1) := by decide +kernel
theorem dX2_takeName_23 : decode cX2_takeName 23 = .ok (.if_icmp .ne 12, 3) := by decide +kernel
theorem dX2_takeName_26 : decode cX2_takeName 26 = .ok (.aload_n 0, 1) := by decide +kernel
theorem dX2_takeName_27 : decode cX2_takeName 27 = .ok (.iconst 1, 1) := by decide +kernel
theorem dX2_takeName_28 : decode cX2_takeName 28 = .ok (.iload_n 2, 1) := by decide +kernel
theorem dX2_takeName_29 : decode cX2_takeName 29 = .ok (.invokevirtual 41, 3) := by decide +kernel
theorem dX2_takeName_32 : decode cX2_takeName 32 = .ok (.goto 46, 3) := by decide +kernel
theorem dX2_takeName_35 : decode cX2_takeName 35 = .ok (.aload 4, 2) := by decide +kernel
theorem dX2_takeName_37 : decode cX2_takeName 37 = .ok (.getfield 24, 3) := by decide +kernel
theorem dX2_takeName_40 : decode cX2_takeName 40 = .ok (.bipush 7, 2) := by decide +kernel
theorem dX2_takeName_42 : decode cX2_takeName 42 = .ok (.if_icmp .lt 12, 3) := by decide +kernel
theorem dX2_takeName_45 : decode cX2_takeName 45 = .ok (.aload_n 0, 1) := by decide +kernel
theorem dX2_takeName_46 : decode cX2_takeName 46 = .ok (.iconst 3, 1) := by decide +kernel
theorem dX2_takeName_47 : decode cX2_takeName 47 = .ok (.iload_n 2, 1) := by decide +kernel
theorem dX2_takeName_48 : decode cX2_takeName 48 = .ok (.invokevirtual 41, 3) := by decide +kernel
theorem dX2_takeName_51 : decode cX2_takeName 51 = .ok (.goto 27, 3) := by decide +kernel
theorem dX2_takeName_54 : decode cX2_takeName 54 = .ok (.aload_n 0, 1) := by decide +kernel
theorem dX2_takeName_55 : decode cX2_takeName 55 = .ok (.iload 5, 2) := by decide +kernel
theorem dX2_takeName_57 : decode cX2_takeName 57 = .ok (.putfield 18, 3) := by decide +kernel
theorem dX2_takeName_60 : decode cX2_takeName 60 = .ok (.aload_n 0, 1) := by decide +kernel
theorem dX2_takeName_61 : decode cX2_takeName 61 = .ok (.iconst 0, 1) := by decide +kernel
theorem dX2_takeName_62 : decode cX2_takeName 62 = .ok (.putfield 21, 3) := by decide +kernel
theorem dX2_takeName_65 : decode cX2_takeName 65 = .ok (.aload 4, 2) := by decide +kernel
theorem dX2_takeName_67 : decode cX2_takeName 67 = .ok (.getfield 65, 3) := by decide +kernel
theorem dX2_takeName_70 : decode cX2_takeName 70 = .ok (.aload 4, 2) := by decide +kernel
theorem dX2_takeName_72 : decode cX2_takeName 72 = .ok (.getfield 24, 3) := by decide +kernel
theorem dX2_takeName_75 : decode cX2_takeName 75 = .ok (.iload 5, 2) := by decide +kernel
theorem dX2_takeName_77 : decode cX2_takeName 77 = .ok (.iastore, 1) := by decide +kernel
theorem dX2_takeName_78 : decode cX2_takeName 78 = .ok (.return_, 1) := by decide +kernel
theorem dX2_takeNumber_0 : decode cX2_takeNumber 0 = .ok (.aload_n 0, 1) := by decide +kernel
theorem dX2_takeNumber_1 : decode cX2_takeNumber 1 = .ok (.getfield 18, 3) := by decide +kernel
theorem dX2_takeNumber_4 : decode cX2_takeNumber 4 = .ok (.aload_n 0, 1) := by decide +kernel
theorem dX2_takeNumber_5 : decode cX2_takeNumber 5 = .ok (.getfield 21, 3) := by decide +kernel
theorem dX2_takeNumber_8 : decode cX2_takeNumber 8 = .ok (.invokestatic 69, 3) := by decide +kernel
theorem dX2_takeNumber_11 : decode cX2_takeNumber 11 = .ok (.istore 6, 2) := by decide +kernel
theorem dX2_takeNumber_13 : decode cX2_takeNumber 13 = .ok (.aload_n 1, 1) := by decide +kernel
theorem dX2_takeNumber_14 : decode cX2_takeNumber 14 = .ok (.iload_n 2, 1) := by decide +kernel
theorem dX2_takeNumber_15 : decode cX2_takeNumber 15 = .ok (.iload_n 3, 1) := by decide +kernel
theorem dX2_takeNumber_16 : decode cX2_takeNumber 16 = .ok (.invokestatic 73, 3) := by decide +kernel
theorem dX2_takeNumber_19 : decode cX2_takeNumber 19 = .ok (.istore 7, 2) := by decide +kernel
theorem dX2_takeNumber_21 : decode cX2_takeNumber 21 = .ok (.iload 6, 2) := by decide +kernel
theorem dX2_takeNumber_23 : decode cX2_takeNumber 23 = .ok (.ifCond .ne 12, 3) := by decide +kernel
theorem dX2_takeNumber_26 : decode cX2_takeNumber 26 = .ok (.aload_n 0, 1) := by decide +kernel
theorem dX2_takeNumber_27 : decode cX2_takeNumber 27 = .ok (.iconst 1, 1) := by decide +kernel
theorem dX2_takeNumber_28 : decode cX2_takeNumber 28 = .ok (.iload_n 2, 1) := by decide +kernel
theorem dX2_takeNumber_29 : decode cX2_takeNumber 29 = .ok (.invokevirtual 41, 3) := by decide +kernel
theorem dX2_takeNumber_32 : decode cX2_takeNumber 32 = .ok (.goto 50, 3) := by decide +kernel
theorem dX2_takeNumber_35 : decode cX2_takeNumber 35 = .ok (.iload 6, 2) := by decide +kernel
theorem dX2_takeNumber_37 : decode cX2_takeNumber 37 = .ok (.iload 7, 2) := by decide +kernel
theorem dX2_takeNumber_39 : decode cX2_takeNumber 39 = .ok (.iload 4, 2) := by decide +kernel
theorem dX2_takeNumber_41 : decode cX2_takeNumber 41 = .ok (.invokestatic 76, 3) := by decide +kernel
theorem dX2_takeNumber_44 : decode cX2_takeNumber 44 = .ok (.ifCond .ne 12, 3) := by decide +kernel
theorem dX2_takeNumber_47 : decode cX2_takeNumber 47 = .ok (.aload_n 0, 1) := by decide +kernel
theorem dX2_takeNumber_48 : decode cX2_takeNumber 48 = .ok (.iconst 2, 1) := by decide +kernel
theorem dX2_takeNumber_49 : decode cX2_takeNumber 49 = .ok (.iload_n 2, 1) := by decide +kernel
theorem dX2_takeNumber_50 : decode cX2_takeNumber 50 = .ok (.invokevirtual 41, 3) := by decide +kernel
theorem dX2_takeNumber_53 : decode cX2_takeNumber 53 = .ok (.goto 29, 3) := by decide +kernel
theorem dX2_takeNumber_56 : decode cX2_takeNumber 56 = .ok (.aload 5, 2) := by decide +kernel
theorem dX2_takeNumber_58 : decode cX2_takeNumber 58 = .ok (.aload 5, 2) := by decide +kernel
theorem dX2_takeNumber_60 : decode cX2_takeNumber 60 = .ok (.getfield 24, 3) := by decide +kernel
theorem dX2_takeNumber_63 : decode cX2_takeNumber 63 = .ok (.aload_n 0, 1) := by decide +kernel
theorem dX2_takeNumber_64 : decode cX2_takeNumber 64 = .ok (.getfield 21, 3) := by decide +kernel
theorem dX2_takeNumber_67 : decode cX2_takeNumber 67 = .ok (.iload 7, 2) := by decide +kernel
theorem dX2_takeNumber_69 : decode cX2_takeNumber 69 = .ok (.invokevirtual 80, 3) := by decide +kernel
theorem dX2_takeNumber_72 : decode cX2_takeNumber 72 = .ok (.aload_n 0, 1) := by decide +kernel
theorem dX2_takeNumber_73 : decode cX2_takeNumber 73 = .ok (.dup, 1) := by decide +kernel
theorem dX2_takeNumber_74 : decode cX2_takeNumber 74 = .ok (.getfield 21, 3) := by decide +kernel
theorem dX2_takeNumber_77 : decode cX2_takeNumber 77 = .ok (.iconst 1, 1) := by decide +kernel
theorem dX2_takeNumber_78 : decode cX2_takeNumber 78 = .ok (.iadd, 1) := by decide +kernel
theorem dX2_takeNumber_79 : decode cX2_takeNumber 79 = .ok (.putfield 21, 3) := by decide +kernel
theorem dX2_takeNumber_82 : decode cX2_takeNumber 82 = .ok (.return_, 1) := by decide +kernel
theorem dX2_sortNamed_0 : decode cX2_sortNamed 0 = .ok (.iconst 0, 1) := by decide +kernel
theorem dX2_sortNamed_1 : decode cX2_sortNamed 1 = .ok (.istore_n 3, 1) := by decide +kernel
theorem dX2_sortNamed_2 : decode cX2_sortNamed 2 = .ok (.iload_n 3, 1) := by decide +kernel
theorem dX2_sortNamed_3 : decode cX2_sortNamed 3 = .ok (.bipush 9, 2) := by decide +kernel
theorem dX2_sortNamed_5 : decode cX2_sortNamed 5 = .ok (.if_icmp .ge 24, 3) := by decide +kernel
theorem dX2_sortNamed_8 : decode cX2_sortNamed 8 = .ok (.aload_n 0, 1) := by decide +kernel
theorem dX2_sortNamed_9 : decode cX2_sortNamed 9 = .ok (.iload_n 1, 1) := by decide +kernel
theorem dX2_sortNamed_10 : decode cX2_sortNamed 10 = .ok (.iload_n 2, 1) := by decide +kernel
theorem dX2_sortNamed_11 : decode cX2_sortNamed 11 = .ok (.iload_n 3, 1) := by decide +kernel
theorem dX2_sortNamed_12 : decode cX2_sortNamed 12 = .ok (.invokestatic 84, 3) := by decide +kernel
theorem dX2_sortNamed_15 : decode cX2_sortNamed 15 = .ok (.invokestatic 88, 3) := by decide +kernel
theorem dX2_sortNamed_18 : decode cX2_sortNamed 18 = .ok (.ifCond .eq 5, 3) := by decide +kernel
theorem dX2_sortNamed_21 : decode cX2_sortNamed 21 = .ok (.iload_n 3, 1) := by decide +kernel
theorem dX2_sortNamed_22 : decode cX2_sortNamed 22 = .ok (.ireturn, 1) := by decide +kernel
theorem dX2_sortNamed_23 : decode cX2_sortNamed 23 = .ok (.iinc 3 1, 3) := by decide +kernel
theorem dX2_sortNamed_26 : decode cX2_sortNamed 26 = .ok (.goto (-24), 3) := by decide +kernel
theorem dX2_sortNamed_29 : decode cX2_sortNamed 29 = .ok (.iconst (-1), 1) := by decide +kernel
theorem dX2_sortNamed_30 : decode cX2_sortNamed 30 = .ok (.ireturn, 1) := by decide +kernel
theorem dX2_isName_0 : decode cX2_isName 0 = .ok (.iload_n 2, 1) := by decide +kernel
theorem dX2_isName_1 : decode cX2_isName 1 = .ok (.iload_n 1, 1) := by decide +kernel
theorem dX2_isName_2 : decode cX2_isName 2 = .ok (.isub, 1) := by decide +kernel
theorem dX2_isName_3 : decode cX2_isName 3 = .ok (.aload_n 3, 1) := by decide +kernel
theorem dX2_isName_4 : decode cX2_isName 4 = .ok (.invokevirtual 92, 3) := by decide +kernel
theorem dX2_isName_7 : decode cX2_isName 7 = .ok (.if_icmp .eq 5, 3) := by decide +kernel
theorem dX2_isName_10 : decode cX2_isName 10 = .ok (.iconst 0, 1) := by decide +kernel
theorem dX2_isName_11 : decode cX2_isName 11 = .ok (.ireturn, 1) := by decide +kernel
theorem dX2_isName_12 : decode cX2_isName 12 = .ok (.iload_n 1, 1) := by decide +kernel
theorem dX2_isName_13 : decode cX2_isName 13 = .ok (.istore 4, 2) := by decide +kernel
theorem dX2_isName_15 : decode cX2_isName 15 = .ok (.iload 4, 2) := by decide +kernel
theorem dX2_isName_17 : decode cX2_isName 17 = .ok (.iload_n 2, 1) := by decide +kernel
theorem dX2_isName_18 : decode cX2_isName 18 = .ok (.if_icmp .ge 26, 3) := by decide +kernel
theorem dX2_isName_21 : decode cX2_isName 21 = .ok (.aload_n 0, 1) := by decide +kernel
theorem dX2_isName_22 : decode cX2_isName 22 = .ok (.iload 4, 2) := by decide +kernel
theorem dX2_isName_24 : decode cX2_isName 24 = .ok (.baload, 1) := by decide +kernel
theorem dX2_isName_25 : decode cX2_isName 25 = .ok (.aload_n 3, 1) := by decide +kernel
theorem dX2_isName_26 : decode cX2_isName 26 = .ok (.iload 4, 2) := by decide +kernel
theorem dX2_isName_28 : decode cX2_isName 28 = .ok (.iload_n 1, 1) := by decide +kernel
theorem dX2_isName_29 : decode cX2_isName 29 = .ok (.isub, 1) := by decide +kernel
theorem dX2_isName_30 : decode cX2_isName 30 = .ok (.invokevirtual 98, 3) := by decide +kernel
theorem dX2_isName_33 : decode cX2_isName 33 = .ok (.if_icmp .eq 5, 3) := by decide +kernel
theorem dX2_isName_36 : decode cX2_isName 36 = .ok (.iconst 0, 1) := by decide +kernel
theorem dX2_isName_37 : decode cX2_isName 37 = .ok (.ireturn, 1) := by decide +kernel
theorem dX2_isName_38 : decode cX2_isName 38 = .ok (.iinc 4 1, 3) := by decide +kernel
theorem dX2_isName_41 : decode cX2_isName 41 = .ok (.goto (-26), 3) := by decide +kernel
theorem dX2_isName_44 : decode cX2_isName 44 = .ok (.iconst 1, 1) := by decide +kernel
theorem dX2_isName_45 : decode cX2_isName 45 = .ok (.ireturn, 1) := by decide +kernel
theorem dX2_numberOf_0 : decode cX2_numberOf 0 = .ok (.iconst 0, 1) := by decide +kernel
theorem dX2_numberOf_1 : decode cX2_numberOf 1 = .ok (.istore_n 3, 1) := by decide +kernel
theorem dX2_numberOf_2 : decode cX2_numberOf 2 = .ok (.iload_n 1, 1) := by decide +kernel
theorem dX2_numberOf_3 : decode cX2_numberOf 3 = .ok (.istore 4, 2) := by decide +kernel
theorem dX2_numberOf_5 : decode cX2_numberOf 5 = .ok (.iload 4, 2) := by decide +kernel
theorem dX2_numberOf_7 : decode cX2_numberOf 7 = .ok (.iload_n 2, 1) := by decide +kernel
theorem dX2_numberOf_8 : decode cX2_numberOf 8 = .ok (.if_icmp .ge 28, 3) := by decide +kernel
theorem dX2_numberOf_11 : decode cX2_numberOf 11 = .ok (.iload_n 3, 1) := by decide +kernel
theorem dX2_numberOf_12 : decode cX2_numberOf 12 = .ok (.bipush 10, 2) := by decide +kernel
theorem dX2_numberOf_14 : decode cX2_numberOf 14 = .ok (.imul, 1) := by decide +kernel
theorem dX2_numberOf_15 : decode cX2_numberOf 15 = .ok (.aload_n 0, 1) := by decide +kernel
theorem dX2_numberOf_16 : decode cX2_numberOf 16 = .ok (.iload 4, 2) := by decide +kernel
theorem dX2_numberOf_18 : decode cX2_numberOf 18 = .ok (.baload, 1) := by decide +kernel
theorem dX2_numberOf_19 : decode cX2_numberOf 19 = .ok (.iadd, 1) := by decide +kernel
theorem dX2_numberOf_20 : decode cX2_numberOf 20 = .ok (.bipush 48, 2) := by decide +kernel
theorem dX2_numberOf_22 : decode cX2_numberOf 22 = .ok (.isub, 1) := by decide +kernel
theorem dX2_numberOf_23 : decode cX2_numberOf 23 = .ok (.sipush 1000, 3) := by decide +kernel
theorem dX2_numberOf_26 : decode cX2_numberOf 26 = .ok (.invokestatic 102, 3) := by decide +kernel
theorem dX2_numberOf_29 : decode cX2_numberOf 29 = .ok (.istore_n 3, 1) := by decide +kernel
theorem dX2_numberOf_30 : decode cX2_numberOf 30 = .ok (.iinc 4 1, 3) := by decide +kernel
theorem dX2_numberOf_33 : decode cX2_numberOf 33 = .ok (.goto (-28), 3) := by decide +kernel
theorem dX2_numberOf_36 : decode cX2_numberOf 36 = .ok (.iload_n 3, 1) := by decide +kernel
theorem dX2_numberOf_37 : decode cX2_numberOf 37 = .ok (.ireturn, 1) := by decide +kernel
theorem dX2_tokenEnd_0 : decode cX2_tokenEnd 0 = .ok (.iload_n 1, 1) := by decide +kernel
theorem dX2_tokenEnd_1 : decode cX2_tokenEnd 1 = .ok (.iconst 1, 1) := by decide +kernel
theorem dX2_tokenEnd_2 : decode cX2_tokenEnd 2 = .ok (.iadd, 1) := by decide +kernel
theorem dX2_tokenEnd_3 : decode cX2_tokenEnd 3 = .ok (.istore_n 3, 1) := by decide +kernel
theorem dX2_tokenEnd_4 : decode cX2_tokenEnd 4 = .ok (.aload_n 0, 1) := by decide +kernel
theorem dX2_tokenEnd_5 : decode cX2_tokenEnd 5 = .ok (.iload_n 1, 1) := by decide +kernel
theorem dX2_tokenEnd_6 : decode cX2_tokenEnd 6 = .ok (.baload, 1) := by decide +kernel
theorem dX2_tokenEnd_7 : decode cX2_tokenEnd 7 = .ok (.invokestatic 45, 3) := by decide +kernel
theorem dX2_tokenEnd_10 : decode cX2_tokenEnd 10 = .ok (.ifCond .eq 23, 3) := by decide +kernel
theorem dX2_tokenEnd_13 : decode cX2_tokenEnd 13 = .ok (.iload_n 3, 1) := by decide +kernel
theorem dX2_tokenEnd_14 : decode cX2_tokenEnd 14 = .ok (.iload_n 2, 1) := by decide +kernel
theorem dX2_tokenEnd_15 : decode cX2_tokenEnd 15 = .ok (.if_icmp .ge 47, 3) := by decide +kernel
theorem dX2_tokenEnd_18 : decode cX2_tokenEnd 18 = .ok (.aload_n 0, 1) := by decide +kernel
theorem dX2_tokenEnd_19 : decode cX2_tokenEnd 19 = .ok (.iload_n 3, 1) := by decide +kernel
theorem dX2_tokenEnd_20 : decode cX2_tokenEnd 20 = .ok (.baload, 1) := by decide +kernel
theorem dX2_tokenEnd_21 : decode cX2_tokenEnd 21 = .ok (.invokestatic 45, 3) := by decide +kernel
theorem dX2_tokenEnd_24 : decode cX2_tokenEnd 24 = .ok (.ifCond .eq 38, 3) := by decide +kernel
theorem dX2_tokenEnd_27 : decode cX2_tokenEnd 27 = .ok (.iinc 3 1, 3) := by decide +kernel
theorem dX2_tokenEnd_30 : decode cX2_tokenEnd 30 = .ok (.goto (-17), 3) := by decide +kernel
theorem dX2_tokenEnd_33 : decode cX2_tokenEnd 33 = .ok (.aload_n 0, 1) := by decide +kernel
theorem dX2_tokenEnd_34 : decode cX2_tokenEnd 34 = .ok (.iload_n 1, 1) := by decide +kernel
theorem dX2_tokenEnd_35 : decode cX2_tokenEnd 35 = .ok (.baload, 1) := by decide +kernel
theorem dX2_tokenEnd_36 : decode cX2_tokenEnd 36 = .ok (.invokestatic 52, 3) := by decide +kernel
theorem dX2_tokenEnd_39 : decode cX2_tokenEnd 39 = .ok (.ifCond .eq 23, 3) := by decide +kernel
theorem dX2_tokenEnd_42 : decode cX2_tokenEnd 42 = .ok (.iload_n 3, 1) := by decide +kernel
theorem dX2_tokenEnd_43 : decode cX2_tokenEnd 43 = .ok (.iload_n 2, 1) := by decide +kernel
theorem dX2_tokenEnd_44 : decode cX2_tokenEnd 44 = .ok (.if_icmp .ge 18, 3) := by decide +kernel
theorem dX2_tokenEnd_47 : decode cX2_tokenEnd 47 = .ok (.aload_n 0, 1) := by decide +kernel
theorem dX2_tokenEnd_48 : decode cX2_tokenEnd 48 = .ok (.iload_n 3, 1) := by decide +kernel
theorem dX2_tokenEnd_49 : decode cX2_tokenEnd 49 = .ok (.baload, 1) := by decide +kernel
theorem dX2_tokenEnd_50 : decode cX2_tokenEnd 50 = .ok (.invokestatic 52, 3) := by decide +kernel
theorem dX2_tokenEnd_53 : decode cX2_tokenEnd 53 = .ok (.ifCond .eq 9, 3) := by decide +kernel
theorem dX2_tokenEnd_56 : decode cX2_tokenEnd 56 = .ok (.iinc 3 1, 3) := by decide +kernel
theorem dX2_tokenEnd_59 : decode cX2_tokenEnd 59 = .ok (.goto (-17), 3) := by decide +kernel
theorem dX2_tokenEnd_62 : decode cX2_tokenEnd 62 = .ok (.iload_n 3, 1) := by decide +kernel
theorem dX2_tokenEnd_63 : decode cX2_tokenEnd 63 = .ok (.ireturn, 1) := by decide +kernel
theorem dX2_isBlank_0 : decode cX2_isBlank 0 = .ok (.iload_n 0, 1) := by decide +kernel
theorem dX2_isBlank_1 : decode cX2_isBlank 1 = .ok (.bipush 32, 2) := by decide +kernel
theorem dX2_isBlank_3 : decode cX2_isBlank 3 = .ok (.if_icmp .eq 9, 3) := by decide +kernel
theorem dX2_isBlank_6 : decode cX2_isBlank 6 = .ok (.iload_n 0, 1) := by decide +kernel
theorem dX2_isBlank_7 : decode cX2_isBlank 7 = .ok (.bipush 10, 2) := by decide +kernel
theorem dX2_isBlank_9 : decode cX2_isBlank 9 = .ok (.if_icmp .ne 7, 3) := by decide +kernel
theorem dX2_isBlank_12 : decode cX2_isBlank 12 = .ok (.iconst 1, 1) := by decide +kernel
theorem dX2_isBlank_13 : decode cX2_isBlank 13 = .ok (.goto 4, 3) := by decide +kernel
theorem dX2_isBlank_16 : decode cX2_isBlank 16 = .ok (.iconst 0, 1) := by decide +kernel
theorem dX2_isBlank_17 : decode cX2_isBlank 17 = .ok (.ireturn, 1) := by decide +kernel
theorem dX2_isLetter_0 : decode cX2_isLetter 0 = .ok (.iload_n 0, 1) := by decide +kernel
theorem dX2_isLetter_1 : decode cX2_isLetter 1 = .ok (.bipush 97, 2) := by decide +kernel
theorem dX2_isLetter_3 : decode cX2_isLetter 3 = .ok (.if_icmp .lt 9, 3) := by decide +kernel
theorem dX2_isLetter_6 : decode cX2_isLetter 6 = .ok (.iload_n 0, 1) := by decide +kernel
theorem dX2_isLetter_7 : decode cX2_isLetter 7 = .ok (.bipush 122, 2) := by decide +kernel
theorem dX2_isLetter_9 : decode cX2_isLetter 9 = .ok (.if_icmp .le 15, 3) := by decide +kernel
theorem dX2_isLetter_12 : decode cX2_isLetter 12 = .ok (.iload_n 0, 1) := by decide +kernel
theorem dX2_isLetter_13 : decode cX2_isLetter 13 = .ok (.bipush 65, 2) := by decide +kernel
theorem dX2_isLetter_15 : decode cX2_isLetter 15 = .ok (.if_icmp .lt 13, 3) := by decide +kernel
theorem dX2_isLetter_18 : decode cX2_isLetter 18 = .ok (.iload_n 0, 1) := by decide +kernel
theorem dX2_isLetter_19 : decode cX2_isLetter 19 = .ok (.bipush 90, 2) := by decide +kernel
theorem dX2_isLetter_21 : decode cX2_isLetter 21 = .ok (.if_icmp .gt 7, 3) := by decide +kernel
theorem dX2_isLetter_24 : decode cX2_isLetter 24 = .ok (.iconst 1, 1) := by decide +kernel
theorem dX2_isLetter_25 : decode cX2_isLetter 25 = .ok (.goto 4, 3) := by decide +kernel
theorem dX2_isLetter_28 : decode cX2_isLetter 28 = .ok (.iconst 0, 1) := by decide +kernel
theorem dX2_isLetter_29 : decode cX2_isLetter 29 = .ok (.ireturn, 1) := by decide +kernel
theorem dX2_isDigit_0 : decode cX2_isDigit 0 = .ok (.iload_n 0, 1) := by decide +kernel
theorem dX2_isDigit_1 : decode cX2_isDigit 1 = .ok (.bipush 48, 2) := by decide +kernel
theorem dX2_isDigit_3 : decode cX2_isDigit 3 = .ok (.if_icmp .lt 13, 3) := by decide +kernel
theorem dX2_isDigit_6 : decode cX2_isDigit 6 = .ok (.iload_n 0, 1) := by decide +kernel
theorem dX2_isDigit_7 : decode cX2_isDigit 7 = .ok (.bipush 57, 2) := by decide +kernel
theorem dX2_isDigit_9 : decode cX2_isDigit 9 = .ok (.if_icmp .gt 7, 3) := by decide +kernel
theorem dX2_isDigit_12 : decode cX2_isDigit 12 = .ok (.iconst 1, 1) := by decide +kernel
theorem dX2_isDigit_13 : decode cX2_isDigit 13 = .ok (.goto 4, 3) := by decide +kernel
theorem dX2_isDigit_16 : decode cX2_isDigit 16 = .ok (.iconst 0, 1) := by decide +kernel
theorem dX2_isDigit_17 : decode cX2_isDigit 17 = .ok (.ireturn, 1) := by decide +kernel
theorem dX3_init_0 : decode cX3_init 0 = .ok (.aload_n 0, 1) := by decide +kernel
theorem dX3_init_1 : decode cX3_init 1 = .ok (.invokespecial 3, 3) := by decide +kernel
theorem dX3_init_4 : decode cX3_init 4 = .ok (.aload_n 0, 1) := by decide +kernel
theorem dX3_init_5 : decode cX3_init 5 = .ok (.sipush 700, 3) := by decide +kernel
theorem dX3_init_8 : decode cX3_init 8 = .ok (.newarray .long, 2) := by decide +kernel
theorem dX3_init_10 : decode cX3_init 10 = .ok (.putfield 11, 3) := by decide +kernel
theorem dX3_init_13 : decode cX3_init 13 = .ok (.aload_n 0, 1) := by decide +kernel
theorem dX3_init_14 : decode cX3_init 14 = .ok (.sipush 700, 3) := by decide +kernel
theorem dX3_init_17 : decode cX3_init 17 = .ok (.newarray .int, 2) := by decide +kernel
theorem dX3_init_19 : decode cX3_init 19 = .ok (.putfield 15, 3) := by decide +kernel
theorem dX3_init_22 : decode cX3_init 22 = .ok (.aload_n 0, 1) := by decide +kernel
theorem dX3_init_23 : decode cX3_init 23 = .ok (.sipush 1024, 3) := by decide +kernel
theorem dX3_init_26 : decode cX3_init 26 = .ok (.newarray .int, 2) := by decide +kernel
theorem dX3_init_28 : decode cX3_init 28 = .ok (.putfield 19, 3) := by decide +kernel
theorem dX3_init_31 : decode cX3_init 31 = .ok (.aload_n 0, 1) := by decide +kernel
theorem dX3_init_32 : decode cX3_init 32 = .ok (.iconst 0, 1) := by decide +kernel
theorem dX3_init_33 : decode cX3_init 33 = .ok (.putfield 22, 3) := by decide +kernel
theorem dX3_init_36 : decode cX3_init 36 = .ok (.aload_n 0, 1) := by decide +kernel
theorem dX3_init_37 : decode cX3_init 37 = .ok (.iconst 0, 1) := by decide +kernel
theorem dX3_init_38 : decode cX3_init 38 = .ok (.putfield 26, 3) := by decide +kernel
theorem dX3_init_41 : decode cX3_init 41 = .ok (.aload_n 0, 1) := by decide +kernel
theorem dX3_init_42 : decode cX3_init 42 = .ok (.iconst 0, 1) := by decide +kernel
theorem dX3_init_43 : decode cX3_init 43 = .ok (.putfield 29, 3) := by decide +kernel
theorem dX3_init_46 : decode cX3_init 46 = .ok (.aload_n 0, 1) := by decide +kernel
theorem dX3_init_47 : decode cX3_init 47 = .ok (.iconst 0, 1) := by decide +kernel
theorem dX3_init_48 : decode cX3_init 48 = .ok (.putfield 32, 3) := by decide +kernel
theorem dX3_init_51 : decode cX3_init 51 = .ok (.aload_n 0, 1) := by decide +kernel
theorem dX3_init_52 : decode cX3_init 52 = .ok (.iconst 0, 1) := by decide +kernel
theorem dX3_init_53 : decode cX3_init 53 = .ok (.putfield 35, 3) := by decide +kernel
theorem dX3_init_56 : decode cX3_init 56 = .ok (.aload_n 0, 1) := by decide +kernel
theorem dX3_init_57 : decode cX3_init 57 = .ok (.iconst 0, 1) := by decide +kernel
theorem dX3_init_58 : decode cX3_init 58 = .ok (.putfield 38, 3) := by decide +kernel
theorem dX3_init_61 : decode cX3_init 61 = .ok (.return_, 1) := by decide +kernel
theorem dX3_go_0 : decode cX3_go 0 = .ok (.aload_n 0, 1) := by decide +kernel
theorem dX3_go_1 : decode cX3_go 1 = .ok (.invokevirtual 42, 3) := by decide +kernel
theorem dX3_go_4 : decode cX3_go 4 = .ok (.aload_n 0, 1) := by decide +kernel
theorem dX3_go_5 : decode cX3_go 5 = .ok (.aload_n 1, 1) := by decide +kernel
theorem dX3_go_6 : decode cX3_go 6 = .ok (.invokevirtual 45, 3) := by decide +kernel
theorem dX3_go_9 : decode cX3_go 9 = .ok (.iconst 0, 1) := by decide +kernel
theorem dX3_go_10 : decode cX3_go 10 = .ok (.invokevirtual 51, 3) := by decide +kernel
theorem dX3_go_13 : decode cX3_go 13 = .ok (.pop, 1) := by decide +kernel
theorem dX3_go_14 : decode cX3_go 14 = .ok (.iconst 0, 1) := by decide +kernel
theorem dX3_go_15 : decode cX3_go 15 = .ok (.istore_n 2, 1) := by decide +kernel
theorem dX3_go_16 : decode cX3_go 16 = .ok (.iload_n 2, 1) := by decide +kernel
theorem dX3_go_17 : decode cX3_go 17 = .ok (.sipush 12000, 3) := by decide +kernel
theorem dX3_go_20 : decode cX3_go 20 = .ok (.if_icmp .ge 113, 3) := by decide +kernel
theorem dX3_go_23 : decode cX3_go 23 = .ok (.iload_n 2, 1) := by decide +kernel
theorem dX3_go_24 : decode cX3_go 24 = .ok (.aload_n 0, 1) := by decide +kernel
theorem dX3_go_25 : decode cX3_go 25 = .ok (.getfield 26, 3) := by decide +kernel
theorem dX3_go_28 : decode cX3_go 28 = .ok (.if_icmp .ge 105, 3) := by decide +kernel
theorem dX3_go_31 : decode cX3_go 31 = .ok (.aload_n 0, 1) := by decide +kernel
theorem dX3_go_32 : decode cX3_go 32 = .ok (.getfield 11, 3) := by decide +kernel
theorem dX3_go_35 : decode cX3_go 35 = .ok (.iload_n 2, 1) := by decide +kernel
theorem dX3_go_36 : decode cX3_go 36 = .ok (.laload, 1) := by decide +kernel
theorem dX3_go_37 : decode cX3_go 37 = .ok (.lstore_n 3, 1) := by decide +kernel
theorem dX3_go_38 : decode cX3_go 38 = .ok (.iconst 1, 1) := by decide +kernel
theorem dX3_go_39 : decode cX3_go 39 = .ok (.istore 5, 2) := by decide +kernel
theorem dX3_go_41 : decode cX3_go 41 = .ok (.iconst 0, 1) := by decide +kernel
theorem dX3_go_42 : decode cX3_go 42 = .ok (.istore 6, 2) := by decide +kernel
theorem dX3_go_44 : decode cX3_go 44 = .ok (.iload 6, 2) := by decide +kernel
theorem dX3_go_46 : decode cX3_go 46 = .ok (.bipush 10, 2) := by decide +kernel
theorem dX3_go_48 : decode cX3_go 48 = .ok (.if_icmp .ge 65, 3) := by decide +kernel
theorem dX3_go_51 : decode cX3_go 51 = .ok (.aload_n 1, 1) := by decide +kernel
theorem dX3_go_52 : decode cX3_go 52 = .ok (.lload_n 3, 1) := by decide +kernel
theorem dX3_go_53 : decode cX3_go 53 = .ok (.iload 6, 2) := by decide +kernel
theorem dX3_go_55 : decode cX3_go 55 = .ok (.invokevirtual 55, 3) := by decide +kernel
theorem dX3_go_58 : decode cX3_go 58 = .ok (.lstore 7, 2) := by decide +kernel
theorem dX3_go_60 : decode cX3_go 60 = .ok (.lload 7, 2) := by decide +kernel
theorem dX3_go_62 : decode cX3_go 62 = .ok (.ldc2_w 59, 3) := by decide +kernel
theorem dX3_go_65 : decode cX3_go 65 = .ok (.lcmp, 1) := by decide +kernel
theorem dX3_go_66 : decode cX3_go 66 = .ok (.ifCond .ne 6, 3) := by decide +kernel
theorem dX3_go_69 : decode cX3_go 69 = .ok (.goto 38, 3) := by decide +kernel
theorem dX3_go_72 : decode cX3_go 72 = .ok (.aload_n 0, 1) := by decide +kernel
theorem dX3_go_73 : decode cX3_go 73 = .ok (.lload 7, 2) := by decide +kernel
theorem dX3_go_75 : decode cX3_go 75 = .ok (.iload_n 2, 1) := by decide +kernel
theorem dX3_go_76 : decode cX3_go 76 = .ok (.iconst 4, 1) := by decide +kernel
theorem dX3_go_77 : decode cX3_go 77 = .ok (.ishl, 1) := by decide +kernel
theorem dX3_go_78 : decode cX3_go 78 = .ok (.iload 6, 2) := by decide +kernel
theorem dX3_go_80 : decode cX3_go 80 = .ok (.ior, 1) := by decide +kernel
theorem dX3_go_81 : decode cX3_go 81 = .ok (.invokevirtual 51, 3) := by decide +kernel
theorem dX3_go_84 : decode cX3_go 84 = .ok (.ifCond .ne 4, 3) := by decide +kernel
theorem dX3_go_87 : decode cX3_go 87 = .ok (.return_, 1) := by decide +kernel
theorem dX3_go_88 : decode cX3_go 88 = .ok (.iload 5, 2) := by decide +kernel
theorem dX3_go_90 : decode cX3_go 90 = .ok (.ifCond .eq 14, 3) := by decide +kernel
theorem dX3_go_93 : decode cX3_go 93 = .ok (.iload 6, 2) := by decide +kernel
theorem dX3_go_95 : decode cX3_go 95 = .ok (.bipush 8, 2) := by decide +kernel
theorem dX3_go_97 : decode cX3_go 97 = .ok (.if_icmp .lt 7, 3) := by decide +kernel
theorem dX3_go_100 : decode cX3_go 100 = .ok (.iconst 1, 1) := by decide +kernel
theorem dX3_go_101 : decode cX3_go 101 = .ok (.goto 4, 3) := by decide +kernel
theorem dX3_go_104 : decode cX3_go 104 = .ok (.iconst 0, 1) := by decide +kernel
theorem dX3_go_105 : decode cX3_go 105 = .ok (.istore 5, 2) := by decide +kernel
theorem dX3_go_107 : decode cX3_go 107 = .ok (.iinc 6 1, 3) := by decide +kernel
theorem dX3_go_110 : decode cX3_go 110 = .ok (.goto (-66), 3) := by decide +kernel
theorem dX3_go_113 : decode cX3_go 113 = .ok (.iload 5, 2) := by decide +kernel
theorem dX3_go_115 : decode cX3_go 115 = .ok (.ifCond .eq 12, 3) := by decide +kernel
theorem dX3_go_118 : decode cX3_go 118 = .ok (.aload_n 0, 1) := by decide +kernel
theorem dX3_go_119 : decode cX3_go 119 = .ok (.lload_n 3, 1) := by decide +kernel
theorem dX3_go_120 : decode cX3_go 120 = .ok (.aload_n 1, 1) := by decide +kernel
theorem dX3_go_121 : decode cX3_go 121 = .ok (.invokevirtual 61, 3) := by decide +kernel
theorem dX3_go_124 : decode cX3_go 124 = .ok (.invokevirtual 64, 3) := by decide +kernel
theorem dX3_go_127 : decode cX3_go 127 = .ok (.iinc 2 1, 3) := by decide +kernel
theorem dX3_go_130 : decode cX3_go 130 = .ok (.goto (-114), 3) := by decide +kernel
theorem dX3_go_133 : decode cX3_go 133 = .ok (.aload_n 0, 1) := by decide +kernel
theorem dX3_go_134 : decode cX3_go 134 = .ok (.iconst 1, 1) := by decide +kernel
theorem dX3_go_135 : decode cX3_go 135 = .ok (.putfield 38, 3) := by decide +kernel
theorem dX3_go_138 : decode cX3_go 138 = .ok (.return_, 1) := by decide +kernel
theorem dX3_clear_0 : decode cX3_clear 0 = .ok (.aload_n 0, 1) := by decide +kernel
theorem dX3_clear_1 : decode cX3_clear 1 = .ok (.getfield 22, 3) := by decide +kernel
theorem dX3_clear_4 : decode cX3_clear 4 = .ok (.ldc 68, 2) := by decide +kernel
theorem dX3_clear_6 : decode cX3_clear 6 = .ok (.if_icmp .lt 16, 3) := by decide +kernel
theorem dX3_clear_9 : decode cX3_clear 9 = .ok (.aload_n 0, 1) := by decide +kernel
theorem dX3_clear_10 : decode cX3_clear 10 = .ok (.getfield 19, 3) := by decide +kernel
theorem dX3_clear_13 : decode cX3_clear 13 = .ok (.iconst 0, 1) := by decide +kernel
theorem dX3_clear_14 : decode cX3_clear 14 = .ok (.invokestatic 69, 3) := by decide +kernel
theorem dX3_clear_17 : decode cX3_clear 17 = .ok (.aload_n 0, 1) := by decide +kernel
theorem dX3_clear_18 : decode cX3_clear 18 = .ok (.iconst 0, 1) := by decide +kernel
theorem dX3_clear_19 : decode cX3_clear 19 = .ok (.putfield 22, 3) := by decide +kernel
theorem dX3_clear_22 : decode cX3_clear 22 = .ok (.aload_n 0, 1) := by decide +kernel
theorem dX3_clear_23 : decode cX3_clear 23 = .ok (.dup, 1) := by decide +kernel
theorem dX3_clear_24 : decode cX3_clear 24 = .ok (.getfield 22, 3) := by decide +kernel
theorem dX3_clear_27 : decode cX3_clear 27 = .ok (.iconst 1, 1) := by decide +kernel
theorem dX3_clear_28 : decode cX3_clear 28 = .ok (.iadd, 1) := by decide +kernel
theorem dX3_clear_29 : decode cX3_clear 29 = .ok (.putfield 22, 3) := by decide +kernel
theorem dX3_clear_32 : decode cX3_clear 32 = .ok (.aload_n 0, 1) := by decide +kernel
theorem dX3_clear_33 : decode cX3_clear 33 = .ok (.iconst 0, 1) := by decide +kernel
theorem dX3_clear_34 : decode cX3_clear 34 = .ok (.putfield 26, 3) := by decide +kernel
theorem dX3_clear_37 : decode cX3_clear 37 = .ok (.aload_n 0, 1) := by decide +kernel
theorem dX3_clear_38 : decode cX3_clear 38 = .ok (.iconst 0, 1) := by decide +kernel
theorem dX3_clear_39 : decode cX3_clear 39 = .ok (.putfield 29, 3) := by decide +kernel
theorem dX3_clear_42 : decode cX3_clear 42 = .ok (.aload_n 0, 1) := by decide +kernel
theorem dX3_clear_43 : decode cX3_clear 43 = .ok (.iconst 0, 1) := by decide +kernel
theorem dX3_clear_44 : decode cX3_clear 44 = .ok (.putfield 32, 3) := by decide +kernel
theorem dX3_clear_47 : decode cX3_clear 47 = .ok (.aload_n 0, 1) := by decide +kernel
theorem dX3_clear_48 : decode cX3_clear 48 = .ok (.iconst 0, 1) := by decide +kernel
theorem dX3_clear_49 : decode cX3_clear 49 = .ok (.putfield 35, 3) := by decide +kernel
theorem dX3_clear_52 : decode cX3_clear 52 = .ok (.aload_n 0, 1) := by decide +kernel
theorem dX3_clear_53 : decode cX3_clear 53 = .ok (.iconst 0, 1) := by decide +kernel
theorem dX3_clear_54 : decode cX3_clear 54 = .ok (.putfield 38, 3) := by decide +kernel
theorem dX3_clear_57 : decode cX3_clear 57 = .ok (.return_, 1) := by decide +kernel
theorem dX3_countEnd_0 : decode cX3_countEnd 0 = .ok (.aload_n 0, 1) := by decide +kernel
theorem dX3_countEnd_1 : decode cX3_countEnd 1 = .ok (.dup, 1) := by decide +kernel
theorem dX3_countEnd_2 : decode cX3_countEnd 2 = .ok (.getfield 29, 3) := by decide +kernel
theorem dX3_countEnd_5 : decode cX3_countEnd 5 = .ok (.iconst 1, 1) := by decide +kernel
theorem dX3_countEnd_6 : decode cX3_countEnd 6 = .ok (.iadd, 1) := by decide +kernel
theorem dX3_countEnd_7 : decode cX3_countEnd 7 = .ok (.putfield 29, 3) := by decide +kernel
theorem dX3_countEnd_10 : decode cX3_countEnd 10 = .ok (.lload_n 1, 1) := by decide +kernel
theorem dX3_countEnd_11 : decode cX3_countEnd 11 = .ok (.ldc2_w 75, 3) := by decide +kernel
theorem dX3_countEnd_14 : decode cX3_countEnd 14 = .ok (.land, 1) := by decide +kernel
theorem dX3_countEnd_15 : decode cX3_countEnd 15 = .ok (.lload_n 3, 1) := by decide +kernel
theorem dX3_countEnd_16 : decode cX3_countEnd 16 = .ok (.lcmp, 1) := by decide +kernel
theorem dX3_countEnd_17 : decode cX3_countEnd 17 = .ok (.ifCond .ne 13, 3) := by decide +kernel
theorem dX3_countEnd_20 : decode cX3_countEnd 20 = .ok (.aload_n 0, 1) := by decide +kernel
theorem dX3_countEnd_21 : decode cX3_countEnd 21 = .ok (.dup, 1) := by decide +kernel
theorem dX3_countEnd_22 : decode cX3_countEnd 22 = .ok (.getfield 32, 3) := by decide +kernel
theorem dX3_countEnd_25 : decode cX3_countEnd 25 = .ok (.iconst 1, 1) := by decide +kernel
theorem dX3_countEnd_26 : decode cX3_countEnd 26 = .ok (.iadd, 1) := by decide +kernel
theorem dX3_countEnd_27 : decode cX3_countEnd 27 = .ok (.putfield 32, 3) := by decide +kernel
theorem dX3_countEnd_30 : decode cX3_countEnd 30 = .ok (.lload_n 1, 1) := by decide +kernel
theorem dX3_countEnd_31 : decode cX3_countEnd 31 = .ok (.bipush 40, 2) := by decide +kernel
theorem dX3_countEnd_33 : decode cX3_countEnd 33 = .ok (.lushr, 1) := by decide +kernel
theorem dX3_countEnd_34 : decode cX3_countEnd 34 = .ok (.ldc2_w 77, 3) := by decide +kernel
theorem dX3_countEnd_37 : decode cX3_countEnd 37 = .ok (.land, 1) := by decide +kernel
theorem dX3_countEnd_38 : decode cX3_countEnd 38 = .ok (.lconst 0, 1) := by decide +kernel
theorem dX3_countEnd_39 : decode cX3_countEnd 39 = .ok (.lcmp, 1) := by decide +kernel
theorem dX3_countEnd_40 : decode cX3_countEnd 40 = .ok (.ifCond .eq 13, 3) := by decide +kernel
theorem dX3_countEnd_43 : decode cX3_countEnd 43 = .ok (.aload_n 0, 1) := by decide +kernel
theorem dX3_countEnd_44 : decode cX3_countEnd 44 = .ok (.dup, 1) := by decide +kernel
theorem dX3_countEnd_45 : decode cX3_countEnd 45 = .ok (.getfield 35, 3) := by decide +kernel
theorem dX3_countEnd_48 : decode cX3_countEnd 48 = .ok (.iconst 1, 1) := by decide +kernel
theorem dX3_countEnd_49 : decode cX3_countEnd 49 = .ok (.iadd, 1) := by decide +kernel
theorem dX3_countEnd_50 : decode cX3_countEnd 50 = .ok (.putfield 35, 3) := by decide +kernel
theorem dX3_countEnd_53 : decode cX3_countEnd 53 = .ok (.return_, 1) := by decide +kernel
theorem dX3_take_0 : decode cX3_take 0 = .ok (.aload_n 0, 1) := by decide +kernel
theorem dX3_take_1 : decode cX3_take 1 = .ok (.lload_n 1, 1) := by decide +kernel
theorem dX3_take_2 : decode cX3_take 2 = .ok (.invokevirtual 79, 3) := by decide +kernel
theorem dX3_take_5 : decode cX3_take 5 = .ok (.istore 4, 2) := by decide +kernel
theorem dX3_take_7 : decode cX3_take 7 = .ok (.aload_n 0, 1) := by decide +kernel
theorem dX3_take_8 : decode cX3_take 8 = .ok (.iload 4, 2) := by decide +kernel
theorem dX3_take_10 : decode cX3_take 10 = .ok (.invokevirtual 83, 3) := by decide +kernel
theorem dX3_take_13 : decode cX3_take 13 = .ok (.ifCond .eq 5, 3) := by decide +kernel
theorem dX3_take_16 : decode cX3_take 16 = .ok (.iconst 1, 1) := by decide +kernel
theorem dX3_take_17 : decode cX3_take 17 = .ok (.ireturn, 1) := by decide +kernel
theorem dX3_take_18 : decode cX3_take 18 = .ok (.aload_n 0, 1) := by decide +kernel
theorem dX3_take_19 : decode cX3_take 19 = .ok (.getfield 26, 3) := by decide +kernel
theorem dX3_take_22 : decode cX3_take 22 = .ok (.sipush 12000, 3) := by decide +kernel
theorem dX3_take_25 : decode cX3_take 25 = .ok (.if_icmp .lt 5, 3) := by decide +kernel
theorem dX3_take_28 : decode cX3_take 28 = .ok (.iconst 0, 1) := by decide +kernel
theorem dX3_take_29 : decode cX3_take 29 = .ok (.ireturn, 1) := by decide +kernel
theorem dX3_take_30 : decode cX3_take 30 = .ok (.aload_n 0, 1) := by decide +kernel
theorem dX3_take_31 : decode cX3_take 31 = .ok (.getfield 26, 3) := by decide +kernel
theorem dX3_take_34 : decode cX3_take 34 = .ok (.aload_n 0, 1) := by decide +kernel
theorem dX3_take_35 : decode cX3_take 35 = .ok (.getfield 11, 3) := by decide +kernel
theorem dX3_take_38 : decode cX3_take 38 = .ok (.arraylength, 1) := by decide +kernel
theorem dX3_take_39 : decode cX3_take 39 = .ok (.if_icmp .lt 14, 3) := by decide +kernel
theorem dX3_take_42 : decode cX3_take 42 = .ok (.aload_n 0, 1) := by decide +kernel
theorem dX3_take_43 : decode cX3_take 43 = .ok (.invokevirtual 87, 3) := by decide +kernel
theorem dX3_take_46 : decode cX3_take 46 = .ok (.aload_n 0, 1) := by decide +kernel
theorem dX3_take_47 : decode cX3_take 47 = .ok (.lload_n 1, 1) := by decide +kernel
theorem dX3_take_48 : decode cX3_take 48 = .ok (.invokevirtual 79, 3) := by decide +kernel
theorem dX3_take_51 : decode cX3_take 51 = .ok (.istore 4, 2) := by decide +kernel
theorem dX3_take_53 : decode cX3_take 53 = .ok (.aload_n 0, 1) := by decide +kernel
theorem dX3_take_54 : decode cX3_take 54 = .ok (.getfield 11, 3) := by decide +kernel
theorem dX3_take_57 : decode cX3_take 57 = .ok (.aload_n 0, 1) := by decide +kernel
theorem dX3_take_58 : decode cX3_take 58 = .ok (.getfield 26, 3) := by decide +kernel
theorem dX3_take_61 : decode cX3_take 61 = .ok (.lload_n 1, 1) := by decide +kernel
theorem dX3_take_62 : decode cX3_take 62 = .ok (.lastore, 1) := by decide +kernel
theorem dX3_take_63 : decode cX3_take 63 = .ok (.aload_n 0, 1) := by decide +kernel
theorem dX3_take_64 : decode cX3_take 64 = .ok (.getfield 15, 3) := by decide +kernel
theorem dX3_take_67 : decode cX3_take 67 = .ok (.aload_n 0, 1) := by decide +kernel
theorem dX3_take_68 : decode cX3_take 68 = .ok (.getfield 26, 3) := by decide +kernel
theorem dX3_take_71 : decode cX3_take 71 = .ok (.iload_n 3, 1) := by decide +kernel
theorem dX3_take_72 : decode cX3_take 72 = .ok (.iastore, 1) := by decide +kernel
theorem dX3_take_73 : decode cX3_take 73 = .ok (.aload_n 0, 1) := by decide +kernel
theorem dX3_take_74 : decode cX3_take 74 = .ok (.getfield 19, 3) := by decide +kernel
theorem dX3_take_77 : decode cX3_take 77 = .ok (.iload 4, 2) := by decide +kernel
theorem dX3_take_79 : decode cX3_take 79 = .ok (.aload_n 0, 1) := by decide +kernel
theorem dX3_take_80 : decode cX3_take 80 = .ok (.getfield 22, 3) := by decide +kernel
theorem dX3_take_83 : decode cX3_take 83 = .ok (.bipush 14, 2) := by decide +kernel
theorem dX3_take_85 : decode cX3_take 85 = .ok (.ishl, 1) := by decide +kernel
theorem dX3_take_86 : decode cX3_take 86 = .ok (.aload_n 0, 1) := by decide +kernel
theorem dX3_take_87 : decode cX3_take 87 = .ok (.getfield 26, 3) := by decide +kernel
theorem dX3_take_90 : decode cX3_take 90 = .ok (.ior, 1) := by decide +kernel
theorem dX3_take_91 : decode cX3_take 91 = .ok (.iastore, 1) := by decide +kernel
theorem dX3_take_92 : decode cX3_take 92 = .ok (.aload_n 0, 1) := by decide +kernel
theorem dX3_take_93 : decode cX3_take 93 = .ok (.dup, 1) := by decide +kernel
theorem dX3_take_94 : decode cX3_take 94 = .ok (.getfield 26, 3) := by decide +kernel
theorem dX3_take_97 : decode cX3_take 97 = .ok (.iconst 1, 1) := by decide +kernel
theorem dX3_take_98 : decode cX3_take 98 = .ok (.iadd, 1) := by decide +kernel
theorem dX3_take_99 : decode cX3_take 99 = .ok (.putfield 26, 3) := by decide +kernel
theorem dX3_take_102 : decode cX3_take 102 = .ok (.iconst 1, 1) := by decide +kernel
theorem dX3_take_103 : decode cX3_take 103 = .ok (.ireturn, 1) := by decide +kernel
theorem dX3_makeLongRows_0 : decode cX3_makeLongRows 0 = .ok (.aload_n 0, 1) := by decide +kernel
theorem dX3_makeLongRows_1 : decode cX3_makeLongRows 1 = .ok (.aload_n 0, 1) := by decide +kernel
theorem dX3_makeLongRows_2 : decode cX3_makeLongRows 2 = .ok (.getfield 11, 3) := by decide +kernel
theorem dX3_makeLongRows_5 : decode cX3_makeLongRows 5 = .ok (.sipush 12000, 3) := by decide +kernel
theorem dX3_makeLongRows_8 : decode cX3_makeLongRows 8 = .ok (.invokestatic 90, 3) := by decide +kernel
theorem dX3_makeLongRows_11 : decode cX3_makeLongRows 11 = .ok (.putfield 11, 3) := by decide +kernel
theorem dX3_makeLongRows_14 : decode cX3_makeLongRows 14 = .ok (.aload_n 0, 1) := by decide +kernel
theorem dX3_makeLongRows_15 : decode cX3_makeLongRows 15 = .ok (.aload_n 0, 1) := by decide +kernel
theorem dX3_makeLongRows_16 : decode cX3_makeLongRows 16 = .ok (.getfield 15, 3) := by decide +kernel
theorem dX3_makeLongRows_19 : decode cX3_makeLongRows 19 = .ok (.sipush 12000, 3) := by decide +kernel
theorem dX3_makeLongRows_22 : decode cX3_makeLongRows 22 = .ok (.invokestatic 94, 3) := by decide +kernel
theorem dX3_makeLongRows_25 : decode cX3_makeLongRows 25 = .ok (.putfield 15, 3) := by decide +kernel
theorem dX3_makeLongRows_28 : decode cX3_makeLongRows 28 = .ok (.aload_n 0, 1) := by decide +kernel
theorem dX3_makeLongRows_29 : decode cX3_makeLongRows 29 = .ok (.sipush 16384, 3) := by decide +kernel
theorem dX3_makeLongRows_32 : decode cX3_makeLongRows 32 = .ok (.newarray .int, 2) := by decide +kernel
theorem dX3_makeLongRows_34 : decode cX3_makeLongRows 34 = .ok (.putfield 19, 3) := by decide +kernel
theorem dX3_makeLongRows_37 : decode cX3_makeLongRows 37 = .ok (.iconst 0, 1) := by decide +kernel
theorem dX3_makeLongRows_38 : decode cX3_makeLongRows 38 = .ok (.istore_n 1, 1) := by decide +kernel
theorem dX3_makeLongRows_39 : decode cX3_makeLongRows 39 = .ok (.iload_n 1, 1) := by decide +kernel
theorem dX3_makeLongRows_40 : decode cX3_makeLongRows 40 = .ok (.aload_n 0, 1) := by decide +kernel
theorem dX3_makeLongRows_41 : decode cX3_makeLongRows 41 = .ok (.getfield 26, 3) := by decide +kernel
theorem dX3_makeLongRows_44 : decode cX3_makeLongRows 44 = .ok (.if_icmp .ge 33, 3) := by decide +kernel
theorem dX3_makeLongRows_47 : decode cX3_makeLongRows 47 = .ok (.aload_n 0, 1) := by decide +kernel
theorem dX3_makeLongRows_48 : decode cX3_makeLongRows 48 = .ok (.getfield 19, 3) := by decide +kernel
theorem dX3_makeLongRows_51 : decode cX3_makeLongRows 51 = .ok (.aload_n 0, 1) := by decide +kernel
theorem dX3_makeLongRows_52 : decode cX3_makeLongRows 52 = .ok (.aload_n 0, 1) := by decide +kernel
theorem dX3_makeLongRows_53 : decode cX3_makeLongRows 53 = .ok (.getfield 11, 3) := by decide +kernel
theorem dX3_makeLongRows_56 : decode cX3_makeLongRows 56 = .ok (.iload_n 1, 1) := by decide +kernel
theorem dX3_makeLongRows_57 : decode cX3_makeLongRows 57 = .ok (.laload, 1) := by decide +kernel
theorem dX3_makeLongRows_58 : decode cX3_makeLongRows 58 = .ok (.invokevirtual 79, 3) := by decide +kernel
theorem dX3_makeLongRows_61 : decode cX3_makeLongRows 61 = .ok (.aload_n 0, 1) := by decide +kernel
theorem dX3_makeLongRows_62 : decode cX3_makeLongRows 62 = .ok (.getfield 22, 3) := by decide +kernel
theorem dX3_makeLongRows_65 : decode cX3_makeLongRows 65 = .ok (.bipush 14, 2) := by decide +kernel
theorem dX3_makeLongRows_67 : decode cX3_makeLongRows 67 = .ok (.ishl, 1) := by decide +kernel
theorem dX3_makeLongRows_68 : decode cX3_makeLongRows 68 = .ok (.iload_n 1, 1) := by decide +kernel
theorem dX3_makeLongRows_69 : decode cX3_makeLongRows 69 = .ok (.ior, 1) := by decide +kernel
theorem dX3_makeLongRows_70 : decode cX3_makeLongRows 70 = .ok (.iastore, 1) := by decide +kernel
theorem dX3_makeLongRows_71 : decode cX3_makeLongRows 71 = .ok (.iinc 1 1, 3) := by decide +kernel
theorem dX3_makeLongRows_74 : decode cX3_makeLongRows 74 = .ok (.goto (-35), 3) := by decide +kernel
theorem dX3_makeLongRows_77 : decode cX3_makeLongRows 77 = .ok (.return_, 1) := by decide +kernel
theorem dX3_slotOf_0 : decode cX3_slotOf 0 = .ok (.aload_n 0, 1) := by decide +kernel
theorem dX3_slotOf_1 : decode cX3_slotOf 1 = .ok (.getfield 19, 3) := by decide +kernel
theorem dX3_slotOf_4 : decode cX3_slotOf 4 = .ok (.arraylength, 1) := by decide +kernel
theorem dX3_slotOf_5 : decode cX3_slotOf 5 = .ok (.iconst 1, 1) := by decide +kernel
theorem dX3_slotOf_6 : decode cX3_slotOf 6 = .ok (.isub, 1) := by decide +kernel
theorem dX3_slotOf_7 : decode cX3_slotOf 7 = .ok (.istore_n 3, 1) := by decide +kernel
theorem dX3_slotOf_8 : decode cX3_slotOf 8 = .ok (.lload_n 1, 1) := by decide +kernel
theorem dX3_slotOf_9 : decode cX3_slotOf 9 = .ok (.ldc2_w 97, 3) := by decide +kernel
theorem dX3_slotOf_12 : decode cX3_slotOf 12 = .ok (.lmul, 1) := by decide +kernel
theorem dX3_slotOf_13 : decode cX3_slotOf 13 = .ok (.bipush 40, 2) := by decide +kernel
theorem dX3_slotOf_15 : decode cX3_slotOf 15 = .ok (.lushr, 1) := by decide +kernel
theorem dX3_slotOf_16 : decode cX3_slotOf 16 = .ok (.l2i, 1) := by decide +kernel
theorem dX3_slotOf_17 : decode cX3_slotOf 17 = .ok (.iload_n 3, 1) := by decide +kernel
theorem dX3_slotOf_18 : decode cX3_slotOf 18 = .ok (.iand, 1) := by decide +kernel
theorem dX3_slotOf_19 : decode cX3_slotOf 19 = .ok (.istore 4, 2) := by decide +kernel
theorem dX3_slotOf_21 : decode cX3_slotOf 21 = .ok (.iconst 0, 1) := by decide +kernel
theorem dX3_slotOf_22 : decode cX3_slotOf 22 = .ok (.istore 5, 2) := by decide +kernel
theorem dX3_slotOf_24 : decode cX3_slotOf 24 = .ok (.iload 5, 2) := by decide +kernel
theorem dX3_slotOf_26 : decode cX3_slotOf 26 = .ok (.iload_n 3, 1) := by decide +kernel
theorem dX3_slotOf_27 : decode cX3_slotOf 27 = .ok (.if_icmp .ge 50, 3) := by decide +kernel
theorem dX3_slotOf_30 : decode cX3_slotOf 30 = .ok (.aload_n 0, 1) := by decide +kernel
theorem dX3_slotOf_31 : decode cX3_slotOf 31 = .ok (.iload 4, 2) := by decide +kernel
theorem dX3_slotOf_33 : decode cX3_slotOf 33 = .ok (.invokevirtual 83, 3) := by decide +kernel
theorem dX3_slotOf_36 : decode cX3_slotOf 36 = .ok (.ifCond .eq 24, 3) := by decide +kernel
theorem dX3_slotOf_39 : decode cX3_slotOf 39 = .ok (.aload_n 0, 1) := by decide +kernel
theorem dX3_slotOf_40 : decode cX3_slotOf 40 = .ok (.getfield 11, 3) := by decide +kernel
theorem dX3_slotOf_43 : decode cX3_slotOf 43 = .ok (.aload_n 0, 1) := by decide +kernel
theorem dX3_slotOf_44 : decode cX3_slotOf 44 = .ok (.getfield 19, 3) := by decide +kernel
theorem dX3_slotOf_47 : decode cX3_slotOf 47 = .ok (.iload 4, 2) := by decide +kernel
theorem dX3_slotOf_49 : decode cX3_slotOf 49 = .ok (.iaload, 1) := by decide +kernel
theorem dX3_slotOf_50 : decode cX3_slotOf 50 = .ok (.sipush 16383, 3) := by decide +kernel
theorem dX3_slotOf_53 : decode cX3_slotOf 53 = .ok (.iand, 1) := by decide +kernel
theorem dX3_slotOf_54 : decode cX3_slotOf 54 = .ok (.laload, 1) := by decide +kernel
theorem dX3_slotOf_55 : decode cX3_slotOf 55 = .ok (.lload_n 1, 1) := by decide +kernel
theorem dX3_slotOf_56 : decode cX3_slotOf 56 = .ok (.lcmp, 1) := by decide +kernel
theorem dX3_slotOf_57 : decode cX3_slotOf 57 = .ok (.ifCond .ne 6, 3) := by decide +kernel
theorem dX3_slotOf_60 : decode cX3_slotOf 60 = .ok (.iload 4, 2) := by decide +kernel
theorem dX3_slotOf_62 : decode cX3_slotOf 62 = .ok (.ireturn, 1) := by decide +kernel
theorem dX3_slotOf_63 : decode cX3_slotOf 63 = .ok (.iload 4, 2) := by decide +kernel
theorem dX3_slotOf_65 : decode cX3_slotOf 65 = .ok (.iconst 1, 1) := by decide +kernel
theorem dX3_slotOf_66 : decode cX3_slotOf 66 = .ok (.iadd, 1) := by decide +kernel
theorem dX3_slotOf_67 : decode cX3_slotOf 67 = .ok (.iload_n 3, 1) := by decide +kernel
theorem dX3_slotOf_68 : decode cX3_slotOf 68 = .ok (.iand, 1) := by decide +kernel
theorem dX3_slotOf_69 : decode cX3_slotOf 69 = .ok (.istore 4, 2) := by decide +kernel
theorem dX3_slotOf_71 : decode cX3_slotOf 71 = .ok (.iinc 5 1, 3) := by decide +kernel
theorem dX3_slotOf_74 : decode cX3_slotOf 74 = .ok (.goto (-50), 3) := by decide +kernel
theorem dX3_slotOf_77 : decode cX3_slotOf 77 = .ok (.iload 4, 2) := by decide +kernel
theorem dX3_slotOf_79 : decode cX3_slotOf 79 = .ok (.ireturn, 1) := by decide +kernel
theorem dX3_isTaken_0 : decode cX3_isTaken 0 = .ok (.aload_n 0, 1) := by decide +kernel
theorem dX3_isTaken_1 : decode cX3_isTaken 1 = .ok (.getfield 19, 3) := by decide +kernel
theorem dX3_isTaken_4 : decode cX3_isTaken 4 = .ok (.iload_n 1, 1) := by decide +kernel
theorem dX3_isTaken_5 : decode cX3_isTaken 5 = .ok (.iaload, 1) := by decide +kernel
theorem dX3_isTaken_6 : decode cX3_isTaken 6 = .ok (.bipush 14, 2) := by decide +kernel
theorem dX3_isTaken_8 : decode cX3_isTaken 8 = .ok (.iushr, 1) := by decide +kernel
theorem dX3_isTaken_9 : decode cX3_isTaken 9 = .ok (.aload_n 0, 1) := by decide +kernel
theorem dX3_isTaken_10 : decode cX3_isTaken 10 = .ok (.getfield 22, 3) := by decide +kernel
theorem dX3_isTaken_13 : decode cX3_isTaken 13 = .ok (.if_icmp .ne 7, 3) := by decide +kernel
theorem dX3_isTaken_16 : decode cX3_isTaken 16 = .ok (.iconst 1, 1) := by decide +kernel
theorem dX3_isTaken_17 : decode cX3_isTaken 17 = .ok (.goto 4, 3) := by decide +kernel
theorem dX3_isTaken_20 : decode cX3_isTaken 20 = .ok (.iconst 0, 1) := by decide +kernel
theorem dX3_isTaken_21 : decode cX3_isTaken 21 = .ok (.ireturn, 1) := by decide +kernel
theorem dX3_first_0 : decode cX3_first 0 = .ok (.iconst 0, 1) := by decide +kernel
theorem dX3_first_1 : decode cX3_first 1 = .ok (.istore 5, 2) := by decide +kernel
theorem dX3_first_3 : decode cX3_first 3 = .ok (.iload 5, 2) := by decide +kernel
theorem dX3_first_5 : decode cX3_first 5 = .ok (.aload_n 0, 1) := by decide +kernel
theorem dX3_first_6 : decode cX3_first 6 = .ok (.getfield 26, 3) := by decide +kernel
theorem dX3_first_9 : decode cX3_first 9 = .ok (.if_icmp .ge 26, 3) := by decide +kernel
theorem dX3_first_12 : decode cX3_first 12 = .ok (.aload_n 0, 1) := by decide +kernel
theorem dX3_first_13 : decode cX3_first 13 = .ok (.getfield 11, 3) := by decide +kernel
theorem dX3_first_16 : decode cX3_first 16 = .ok (.iload 5, 2) := by decide +kernel
theorem dX3_first_18 : decode cX3_first 18 = .ok (.laload, 1) := by decide +kernel
theorem dX3_first_19 : decode cX3_first 19 = .ok (.lload_n 1, 1) := by decide +kernel
theorem dX3_first_20 : decode cX3_first 20 = .ok (.land, 1) := by decide +kernel
theorem dX3_first_21 : decode cX3_first 21 = .ok (.lload_n 3, 1) := by decide +kernel
theorem dX3_first_22 : decode cX3_first 22 = .ok (.lcmp, 1) := by decide +kernel
theorem dX3_first_23 : decode cX3_first 23 = .ok (.ifCond .ne 6, 3) := by decide +kernel
theorem dX3_first_26 : decode cX3_first 26 = .ok (.iload 5, 2) := by decide +kernel
theorem dX3_first_28 : decode cX3_first 28 = .ok (.ireturn, 1) := by decide +kernel
theorem dX3_first_29 : decode cX3_first 29 = .ok (.iinc 5 1, 3) := by decide +kernel
theorem dX3_first_32 : decode cX3_first 32 = .ok (.goto (-29), 3) := by decide +kernel
theorem dX3_first_35 : decode cX3_first 35 = .ok (.iconst (-1), 1) := by decide +kernel
theorem dX3_first_36 : decode cX3_first 36 = .ok (.ireturn, 1) := by decide +kernel
theorem dX3_mostSteps_0 : decode cX3_mostSteps 0 = .ok (.aload_n 0, 1) := by decide +kernel
theorem dX3_mostSteps_1 : decode cX3_mostSteps 1 = .ok (.aload_n 0, 1) := by decide +kernel
theorem dX3_mostSteps_2 : decode cX3_mostSteps 2 = .ok (.getfield 26, 3) := by decide +kernel
theorem dX3_mostSteps_5 : decode cX3_mostSteps 5 = .ok (.iconst 1, 1) := by decide +kernel
theorem dX3_mostSteps_6 : decode cX3_mostSteps 6 = .ok (.isub, 1) := by decide +kernel
theorem dX3_mostSteps_7 : decode cX3_mostSteps 7 = .ok (.invokevirtual 99, 3) := by decide +kernel
theorem dX3_mostSteps_10 : decode cX3_mostSteps 10 = .ok (.ireturn, 1) := by decide +kernel
theorem dX3_stepsTo_0 : decode cX3_stepsTo 0 = .ok (.iconst 0, 1) := by decide +kernel
theorem dX3_stepsTo_1 : decode cX3_stepsTo 1 = .ok (.istore_n 2, 1) := by decide +kernel
theorem dX3_stepsTo_2 : decode cX3_stepsTo 2 = .ok (.iload_n 1, 1) := by decide +kernel
theorem dX3_stepsTo_3 : decode cX3_stepsTo 3 = .ok (.istore_n 3, 1) := by decide +kernel
theorem dX3_stepsTo_4 : decode cX3_stepsTo 4 = .ok (.iload_n 3, 1) := by decide +kernel
theorem dX3_stepsTo_5 : decode cX3_stepsTo 5 = .ok (.ifCond .le 24, 3) := by decide +kernel
theorem dX3_stepsTo_8 : decode cX3_stepsTo 8 = .ok (.iload_n 2, 1) := by decide +kernel
theorem dX3_stepsTo_9 : decode cX3_stepsTo 9 = .ok (.bipush 32, 2) := by decide +kernel
theorem dX3_stepsTo_11 : decode cX3_stepsTo 11 = .ok (.if_icmp .ge 18, 3) := by decide +kernel
theorem dX3_stepsTo_14 : decode cX3_stepsTo 14 = .ok (.iinc 2 1, 3) := by decide +kernel
theorem dX3_stepsTo_17 : decode cX3_stepsTo 17 = .ok (.aload_n 0, 1) := by decide +kernel
theorem dX3_stepsTo_18 : decode cX3_stepsTo 18 = .ok (.getfield 15, 3) := by decide +kernel
theorem dX3_stepsTo_21 : decode cX3_stepsTo 21 = .ok (.iload_n 3, 1) := by decide +kernel
theorem dX3_stepsTo_22 : decode cX3_stepsTo 22 = .ok (.iaload, 1) := by decide +kernel
theorem dX3_stepsTo_23 : decode cX3_stepsTo 23 = .ok (.iconst 4, 1) := by decide +kernel
theorem dX3_stepsTo_24 : decode cX3_stepsTo 24 = .ok (.iushr, 1) := by decide +kernel
theorem dX3_stepsTo_25 : decode cX3_stepsTo 25 = .ok (.istore_n 3, 1) := by decide +kernel
theorem dX3_stepsTo_26 : decode cX3_stepsTo 26 = .ok (.goto (-22), 3) := by decide +kernel
theorem dX3_stepsTo_29 : decode cX3_stepsTo 29 = .ok (.iload_n 2, 1) := by decide +kernel
theorem dX3_stepsTo_30 : decode cX3_stepsTo 30 = .ok (.ireturn, 1) := by decide +kernel
theorem dX3_writeRow_0 : decode cX3_writeRow 0 = .ok (.aload_n 0, 1) := by decide +kernel
theorem dX3_writeRow_1 : decode cX3_writeRow 1 = .ok (.iload_n 1, 1) := by decide +kernel
theorem dX3_writeRow_2 : decode cX3_writeRow 2 = .ok (.invokevirtual 99, 3) := by decide +kernel
theorem dX3_writeRow_5 : decode cX3_writeRow 5 = .ok (.istore_n 3, 1) := by decide +kernel
theorem dX3_writeRow_6 : decode cX3_writeRow 6 = .ok (.iload_n 1, 1) := by decide +kernel
theorem dX3_writeRow_7 : decode cX3_writeRow 7 = .ok (.istore 4, 2) := by decide +kernel
theorem dX3_writeRow_9 : decode cX3_writeRow 9 = .ok (.iload_n 3, 1) := by decide +kernel
theorem dX3_writeRow_10 : decode cX3_writeRow 10 = .ok (.aload_n 2, 1) := by decide +kernel
theorem dX3_writeRow_11 : decode cX3_writeRow 11 = .ok (.arraylength, 1) := by decide +kernel
theorem dX3_writeRow_12 : decode cX3_writeRow 12 = .ok (.invokestatic 103, 3) := by decide +kernel
theorem dX3_writeRow_15 : decode cX3_writeRow 15 = .ok (.iconst 1, 1) := by decide +kernel
theorem dX3_writeRow_16 : decode cX3_writeRow 16 = .ok (.isub, 1) := by decide +kernel
theorem dX3_writeRow_17 : decode cX3_writeRow 17 = .ok (.istore 5, 2) := by decide +kernel
theorem dX3_writeRow_19 : decode cX3_writeRow 19 = .ok (.iload 5, 2) := by decide +kernel
theorem dX3_writeRow_21 : decode cX3_writeRow 21 = .ok (.ifCond .lt 34, 3) := by decide +kernel
