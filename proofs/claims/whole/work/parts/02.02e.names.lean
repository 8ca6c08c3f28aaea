theorem dX1_isNumberOf_34 : decode cX1_isNumberOf 34 = .ok (.if_icmp .ge 14, 3) := by decide +kernel
theorem dX1_isNumberOf_37 : decode cX1_isNumberOf 37 = .ok (.iload_n 1, 1) := by decide +kernel
theorem dX1_isNumberOf_38 : decode cX1_isNumberOf 38 = .ok (.iconst 2, 1) := by decide +kernel
theorem dX1_isNumberOf_39 : decode cX1_isNumberOf 39 = .ok (.idiv, 1) := by decide +kernel
theorem dX1_isNumberOf_40 : decode cX1_isNumberOf 40 = .ok (.iload_n 2, 1) := by decide +kernel
theorem dX1_isNumberOf_41 : decode cX1_isNumberOf 41 = .ok (.if_icmp .eq 7, 3) := by decide +kernel
theorem dX1_isNumberOf_44 : decode cX1_isNumberOf 44 = .ok (.iconst 1, 1) := by decide +kernel
theorem dX1_isNumberOf_45 : decode cX1_isNumberOf 45 = .ok (.goto 4, 3) := by decide +kernel
theorem dX1_isNumberOf_48 : decode cX1_isNumberOf 48 = .ok (.iconst 0, 1) := by decide +kernel
theorem dX1_isNumberOf_49 : decode cX1_isNumberOf 49 = .ok (.ireturn, 1) := by decide +kernel
theorem dX1_isNumberOf_50 : decode cX1_isNumberOf 50 = .ok (.iload_n 1, 1) := by decide +kernel
theorem dX1_isNumberOf_51 : decode cX1_isNumberOf 51 = .ok (.iconst 4, 1) := by decide +kernel
theorem dX1_isNumberOf_52 : decode cX1_isNumberOf 52 = .ok (.if_icmp .ge 14, 3) := by decide +kernel
theorem dX1_isNumberOf_55 : decode cX1_isNumberOf 55 = .ok (.iload_n 1, 1) := by decide +kernel
theorem dX1_isNumberOf_56 : decode cX1_isNumberOf 56 = .ok (.iconst 2, 1) := by decide +kernel
theorem dX1_isNumberOf_57 : decode cX1_isNumberOf 57 = .ok (.idiv, 1) := by decide +kernel
theorem dX1_isNumberOf_58 : decode cX1_isNumberOf 58 = .ok (.iload_n 2, 1) := by decide +kernel
theorem dX1_isNumberOf_59 : decode cX1_isNumberOf 59 = .ok (.if_icmp .ne 7, 3) := by decide +kernel
theorem dX1_isNumberOf_62 : decode cX1_isNumberOf 62 = .ok (.iconst 1, 1) := by decide +kernel
theorem dX1_isNumberOf_63 : decode cX1_isNumberOf 63 = .ok (.goto 4, 3) := by decide +kernel
theorem dX1_isNumberOf_66 : decode cX1_isNumberOf 66 = .ok (.iconst 0, 1) := by decide +kernel
theorem dX1_isNumberOf_67 : decode cX1_isNumberOf 67 = .ok (.ireturn, 1) := by decide +kernel
theorem dX1_isNumberOf_68 : decode cX1_isNumberOf 68 = .ok (.iload_n 1, 1) := by decide +kernel
theorem dX1_isNumberOf_69 : decode cX1_isNumberOf 69 = .ok (.iconst 2, 1) := by decide +kernel
theorem dX1_isNumberOf_70 : decode cX1_isNumberOf 70 = .ok (.if_icmp .ge 7, 3) := by decide +kernel
theorem dX1_isNumberOf_73 : decode cX1_isNumberOf 73 = .ok (.iconst 1, 1) := by decide +kernel
theorem dX1_isNumberOf_74 : decode cX1_isNumberOf 74 = .ok (.goto 4, 3) := by decide +kernel
theorem dX1_isNumberOf_77 : decode cX1_isNumberOf 77 = .ok (.iconst 0, 1) := by decide +kernel
theorem dX1_isNumberOf_78 : decode cX1_isNumberOf 78 = .ok (.ireturn, 1) := by decide +kernel
theorem dX1_isNumberOf_79 : decode cX1_isNumberOf 79 = .ok (.iload_n 1, 1) := by decide +kernel
theorem dX1_isNumberOf_80 : decode cX1_isNumberOf 80 = .ok (.iconst 4, 1) := by decide +kernel
theorem dX1_isNumberOf_81 : decode cX1_isNumberOf 81 = .ok (.if_icmp .ge 7, 3) := by decide +kernel
theorem dX1_isNumberOf_84 : decode cX1_isNumberOf 84 = .ok (.iconst 1, 1) := by decide +kernel
theorem dX1_isNumberOf_85 : decode cX1_isNumberOf 85 = .ok (.goto 4, 3) := by decide +kernel
theorem dX1_isNumberOf_88 : decode cX1_isNumberOf 88 = .ok (.iconst 0, 1) := by decide +kernel
theorem dX1_isNumberOf_89 : decode cX1_isNumberOf 89 = .ok (.ireturn, 1) := by decide +kernel
theorem dX1_isNumberOf_90 : decode cX1_isNumberOf 90 = .ok (.iload_n 1, 1) := by decide +kernel
theorem dX1_isNumberOf_91 : decode cX1_isNumberOf 91 = .ok (.iconst 1, 1) := by decide +kernel
theorem dX1_isNumberOf_92 : decode cX1_isNumberOf 92 = .ok (.if_icmp .lt 13, 3) := by decide +kernel
theorem dX1_isNumberOf_95 : decode cX1_isNumberOf 95 = .ok (.iload_n 1, 1) := by decide +kernel
theorem dX1_isNumberOf_96 : decode cX1_isNumberOf 96 = .ok (.bipush 7, 2) := by decide +kernel
theorem dX1_isNumberOf_98 : decode cX1_isNumberOf 98 = .ok (.if_icmp .gt 7, 3) := by decide +kernel
theorem dX1_isNumberOf_101 : decode cX1_isNumberOf 101 = .ok (.iconst 1, 1) := by decide +kernel
theorem dX1_isNumberOf_102 : decode cX1_isNumberOf 102 = .ok (.goto 4, 3) := by decide +kernel
theorem dX1_isNumberOf_105 : decode cX1_isNumberOf 105 = .ok (.iconst 0, 1) := by decide +kernel
theorem dX1_isNumberOf_106 : decode cX1_isNumberOf 106 = .ok (.ireturn, 1) := by decide +kernel
theorem dX1_number_0 : decode cX1_number 0 = .ok (.aload_n 0, 1) := by decide +kernel
theorem dX1_number_1 : decode cX1_number 1 = .ok (.getfield 19, 3) := by decide +kernel
theorem dX1_number_4 : decode cX1_number 4 = .ok (.iload_n 1, 1) := by decide +kernel
theorem dX1_number_5 : decode cX1_number 5 = .ok (.iconst 4, 1) := by decide +kernel
theorem dX1_number_6 : decode cX1_number 6 = .ok (.imul, 1) := by decide +kernel
theorem dX1_number_7 : decode cX1_number 7 = .ok (.iload_n 2, 1) := by decide +kernel
theorem dX1_number_8 : decode cX1_number 8 = .ok (.iadd, 1) := by decide +kernel
theorem dX1_number_9 : decode cX1_number 9 = .ok (.iaload, 1) := by decide +kernel
theorem dX1_number_10 : decode cX1_number 10 = .ok (.ireturn, 1) := by decide +kernel
theorem dX1_setNumber_0 : decode cX1_setNumber 0 = .ok (.aload_n 0, 1) := by decide +kernel
theorem dX1_setNumber_1 : decode cX1_setNumber 1 = .ok (.getfield 19, 3) := by decide +kernel
theorem dX1_setNumber_4 : decode cX1_setNumber 4 = .ok (.iload_n 1, 1) := by decide +kernel
theorem dX1_setNumber_5 : decode cX1_setNumber 5 = .ok (.iconst 4, 1) := by decide +kernel
theorem dX1_setNumber_6 : decode cX1_setNumber 6 = .ok (.imul, 1) := by decide +kernel
theorem dX1_setNumber_7 : decode cX1_setNumber 7 = .ok (.iload_n 2, 1) := by decide +kernel
theorem dX1_setNumber_8 : decode cX1_setNumber 8 = .ok (.iadd, 1) := by decide +kernel
theorem dX1_setNumber_9 : decode cX1_setNumber 9 = .ok (.iload_n 3, 1) := by decide +kernel
theorem dX1_setNumber_10 : decode cX1_setNumber 10 = .ok (.iastore, 1) := by decide +kernel
theorem dX1_setNumber_11 : decode cX1_setNumber 11 = .ok (.return_, 1) := by decide +kernel
set_option maxRecDepth 20000 in
theorem ggX1_placeBehindIf_X1_number : GoodIn wsX1_placeBehindIf wsX1_number := goodIn_r _ [10, 11, 12, 13, 14] (by decide +kernel) (by decide +kernel)
set_option maxRecDepth 20000 in
theorem gX1_placeBehindIf_X1_number : GoodIn wsX1_placeBehindIf (wsV RX1 47 RX1 yX1_number wsX1_number) := goodIn_app (goodIn_of _ (by decide +kernel)) ggX1_placeBehindIf_X1_number
theorem dX1_placeBehindIf_0 : decode cX1_placeBehindIf 0 = .ok (.iload_n 1, 1) := by decide +kernel
theorem dX1_placeBehindIf_1 : decode cX1_placeBehindIf 1 = .ok (.iconst 1, 1) := by decide +kernel
theorem dX1_placeBehindIf_2 : decode cX1_placeBehindIf 2 = .ok (.iadd, 1) := by decide +kernel
theorem dX1_placeBehindIf_3 : decode cX1_placeBehindIf 3 = .ok (.aload_n 0, 1) := by decide +kernel
theorem dX1_placeBehindIf_4 : decode cX1_placeBehindIf 4 = .ok (.iload_n 1, 1) := by decide +kernel
theorem dX1_placeBehindIf_5 : decode cX1_placeBehindIf 5 = .ok (.iconst 2, 1) := by decide +kernel
theorem dX1_placeBehindIf_6 : decode cX1_placeBehindIf 6 = .ok (.invokevirtual 47, 3) := by decide +kernel
theorem dX1_placeBehindIf_9 : decode cX1_placeBehindIf 9 = .ok (.iadd, 1) := by decide +kernel
theorem dX1_placeBehindIf_10 : decode cX1_placeBehindIf 10 = .ok (.aload_n 0, 1) := by decide +kernel
theorem dX1_placeBehindIf_11 : decode cX1_placeBehindIf 11 = .ok (.getfield 9, 3) := by decide +kernel
theorem dX1_placeBehindIf_14 : decode cX1_placeBehindIf 14 = .ok (.invokestatic 50, 3) := by decide +kernel
theorem dX1_placeBehindIf_17 : decode cX1_placeBehindIf 17 = .ok (.ireturn, 1) := by decide +kernel
set_option maxRecDepth 20000 in
theorem ggX1_becomeFenced_X1_copy : GoodIn wsX1_becomeFenced wsX1_copy := goodIn_r _ [11, 6, 12, 13, 14, 10, 15, 16, 17, 18, 19, 20, 21, 22, 23] (by decide +kernel) (by decide +kernel)
set_option maxRecDepth 20000 in
theorem gX1_becomeFenced_X1_copy : GoodIn wsX1_becomeFenced (wsV RX1 55 RX1 yX1_copy wsX1_copy) := goodIn_app (goodIn_of _ (by decide +kernel)) ggX1_becomeFenced_X1_copy
set_option maxRecDepth 20000 in
theorem ggX1_becomeFenced_X1_number : GoodIn wsX1_becomeFenced wsX1_number := goodIn_r _ [15, 16, 21, 22, 23] (by decide +kernel) (by decide +kernel)
set_option maxRecDepth 20000 in
theorem gX1_becomeFenced_X1_number : GoodIn wsX1_becomeFenced (wsV RX1 47 RX1 yX1_number wsX1_number) := goodIn_app (goodIn_of _ (by decide +kernel)) ggX1_becomeFenced_X1_number
set_option maxRecDepth 20000 in
theorem ggX1_becomeFenced_X1_setNumber : GoodIn wsX1_becomeFenced wsX1_setNumber := goodIn_r _ [20, 16, 21, 22, 23] (by decide +kernel) (by decide +kernel)
set_option maxRecDepth 20000 in
theorem gX1_becomeFenced_X1_setNumber : GoodIn wsX1_becomeFenced (wsV RX1 59 RX1 yX1_setNumber wsX1_setNumber) := goodIn_app (goodIn_of _ (by decide +kernel)) ggX1_becomeFenced_X1_setNumber
theorem dX1_becomeFenced_0 : decode cX1_becomeFenced 0 = .ok (.aload_n 0, 1) := by decide +kernel
theorem dX1_becomeFenced_1 : decode cX1_becomeFenced 1 = .ok (.aload_n 1, 1) := by decide +kernel
theorem dX1_becomeFenced_2 : decode cX1_becomeFenced 2 = .ok (.getfield 9, 3) := by decide +kernel
theorem dX1_becomeFenced_5 : decode cX1_becomeFenced 5 = .ok (.iconst 1, 1) := by decide +kernel
theorem dX1_becomeFenced_6 : decode cX1_becomeFenced 6 = .ok (.iadd, 1) := by decide +kernel
theorem dX1_becomeFenced_7 : decode cX1_becomeFenced 7 = .ok (.bipush 7, 2) := by decide +kernel
theorem dX1_becomeFenced_9 : decode cX1_becomeFenced 9 = .ok (.invokestatic 50, 3) := by decide +kernel
theorem dX1_becomeFenced_12 : decode cX1_becomeFenced 12 = .ok (.putfield 9, 3) := by decide +kernel
theorem dX1_becomeFenced_15 : decode cX1_becomeFenced 15 = .ok (.iconst 0, 1) := by decide +kernel
theorem dX1_becomeFenced_16 : decode cX1_becomeFenced 16 = .ok (.istore_n 3, 1) := by decide +kernel
theorem dX1_becomeFenced_17 : decode cX1_becomeFenced 17 = .ok (.iload_n 3, 1) := by decide +kernel
theorem dX1_becomeFenced_18 : decode cX1_becomeFenced 18 = .ok (.aload_n 0, 1) := by decide +kernel
theorem dX1_becomeFenced_19 : decode cX1_becomeFenced 19 = .ok (.getfield 9, 3) := by decide +kernel
theorem dX1_becomeFenced_22 : decode cX1_becomeFenced 22 = .ok (.if_icmp .ge 42, 3) := by decide +kernel
theorem dX1_becomeFenced_25 : decode cX1_becomeFenced 25 = .ok (.iload_n 3, 1) := by decide +kernel
theorem dX1_becomeFenced_26 : decode cX1_becomeFenced 26 = .ok (.iload_n 2, 1) := by decide +kernel
theorem dX1_becomeFenced_27 : decode cX1_becomeFenced 27 = .ok (.if_icmp .ne 13, 3) := by decide +kernel
theorem dX1_becomeFenced_30 : decode cX1_becomeFenced 30 = .ok (.aload_n 0, 1) := by decide +kernel
theorem dX1_becomeFenced_31 : decode cX1_becomeFenced 31 = .ok (.getfield 15, 3) := by decide +kernel
theorem dX1_becomeFenced_34 : decode cX1_becomeFenced 34 = .ok (.iload_n 3, 1) := by decide +kernel
theorem dX1_becomeFenced_35 : decode cX1_becomeFenced 35 = .ok (.iconst 4, 1) := by decide +kernel
theorem dX1_becomeFenced_36 : decode cX1_becomeFenced 36 = .ok (.iastore, 1) := by decide +kernel
theorem dX1_becomeFenced_37 : decode cX1_becomeFenced 37 = .ok (.goto 21, 3) := by decide +kernel
theorem dX1_becomeFenced_40 : decode cX1_becomeFenced 40 = .ok (.aload_n 0, 1) := by decide +kernel
theorem dX1_becomeFenced_41 : decode cX1_becomeFenced 41 = .ok (.aload_n 1, 1) := by decide +kernel
theorem dX1_becomeFenced_42 : decode cX1_becomeFenced 42 = .ok (.iload_n 3, 1) := by decide +kernel
theorem dX1_becomeFenced_43 : decode cX1_becomeFenced 43 = .ok (.iload_n 2, 1) := by decide +kernel
theorem dX1_becomeFenced_44 : decode cX1_becomeFenced 44 = .ok (.if_icmp .ge 7, 3) := by decide +kernel
theorem dX1_becomeFenced_47 : decode cX1_becomeFenced 47 = .ok (.iload_n 3, 1) := by decide +kernel
theorem dX1_becomeFenced_48 : decode cX1_becomeFenced 48 = .ok (.goto 6, 3) := by decide +kernel
theorem dX1_becomeFenced_51 : decode cX1_becomeFenced 51 = .ok (.iload_n 3, 1) := by decide +kernel
theorem dX1_becomeFenced_52 : decode cX1_becomeFenced 52 = .ok (.iconst 1, 1) := by decide +kernel
theorem dX1_becomeFenced_53 : decode cX1_becomeFenced 53 = .ok (.isub, 1) := by decide +kernel
theorem dX1_becomeFenced_54 : decode cX1_becomeFenced 54 = .ok (.iload_n 3, 1) := by decide +kernel
theorem dX1_becomeFenced_55 : decode cX1_becomeFenced 55 = .ok (.invokevirtual 55, 3) := by decide +kernel
theorem dX1_becomeFenced_58 : decode cX1_becomeFenced 58 = .ok (.iinc 3 1, 3) := by decide +kernel
theorem dX1_becomeFenced_61 : decode cX1_becomeFenced 61 = .ok (.goto (-44), 3) := by decide +kernel
theorem dX1_becomeFenced_64 : decode cX1_becomeFenced 64 = .ok (.iconst 0, 1) := by decide +kernel
theorem dX1_becomeFenced_65 : decode cX1_becomeFenced 65 = .ok (.istore_n 3, 1) := by decide +kernel
theorem dX1_becomeFenced_66 : decode cX1_becomeFenced 66 = .ok (.iload_n 3, 1) := by decide +kernel
theorem dX1_becomeFenced_67 : decode cX1_becomeFenced 67 = .ok (.iload_n 2, 1) := by decide +kernel
theorem dX1_becomeFenced_68 : decode cX1_becomeFenced 68 = .ok (.if_icmp .ge 54, 3) := by decide +kernel
theorem dX1_becomeFenced_71 : decode cX1_becomeFenced 71 = .ok (.iload_n 3, 1) := by decide +kernel
theorem dX1_becomeFenced_72 : decode cX1_becomeFenced 72 = .ok (.aload_n 0, 1) := by decide +kernel
theorem dX1_becomeFenced_73 : decode cX1_becomeFenced 73 = .ok (.getfield 9, 3) := by decide +kernel
theorem dX1_becomeFenced_76 : decode cX1_becomeFenced 76 = .ok (.if_icmp .ge 46, 3) := by decide +kernel
theorem dX1_becomeFenced_79 : decode cX1_becomeFenced 79 = .ok (.aload_n 0, 1) := by decide +kernel
theorem dX1_becomeFenced_80 : decode cX1_becomeFenced 80 = .ok (.getfield 15, 3) := by decide +kernel
theorem dX1_becomeFenced_83 : decode cX1_becomeFenced 83 = .ok (.iload_n 3, 1) := by decide +kernel
theorem dX1_becomeFenced_84 : decode cX1_becomeFenced 84 = .ok (.iaload, 1) := by decide +kernel
theorem dX1_becomeFenced_85 : decode cX1_becomeFenced 85 = .ok (.bipush 8, 2) := by decide +kernel
theorem dX1_becomeFenced_87 : decode cX1_becomeFenced 87 = .ok (.if_icmp .ne 29, 3) := by decide +kernel
theorem dX1_becomeFenced_90 : decode cX1_becomeFenced 90 = .ok (.iload_n 3, 1) := by decide +kernel
theorem dX1_becomeFenced_91 : decode cX1_becomeFenced 91 = .ok (.aload_n 0, 1) := by decide +kernel
theorem dX1_becomeFenced_92 : decode cX1_becomeFenced 92 = .ok (.iload_n 3, 1) := by decide +kernel
theorem dX1_becomeFenced_93 : decode cX1_becomeFenced 93 = .ok (.iconst 2, 1) := by decide +kernel
theorem dX1_becomeFenced_94 : decode cX1_becomeFenced 94 = .ok (.invokevirtual 47, 3) := by decide +kernel
theorem dX1_becomeFenced_97 : decode cX1_becomeFenced 97 = .ok (.iadd, 1) := by decide +kernel
theorem dX1_becomeFenced_98 : decode cX1_becomeFenced 98 = .ok (.iload_n 2, 1) := by decide +kernel
theorem dX1_becomeFenced_99 : decode cX1_becomeFenced 99 = .ok (.if_icmp .lt 17, 3) := by decide +kernel
theorem dX1_becomeFenced_102 : decode cX1_becomeFenced 102 = .ok (.aload_n 0, 1) := by decide +kernel
theorem dX1_becomeFenced_103 : decode cX1_becomeFenced 103 = .ok (.iload_n 3, 1) := by decide +kernel
theorem dX1_becomeFenced_104 : decode cX1_becomeFenced 104 = .ok (.iconst 2, 1) := by decide +kernel
theorem dX1_becomeFenced_105 : decode cX1_becomeFenced 105 = .ok (.aload_n 0, 1) := by decide +kernel
theorem dX1_becomeFenced_106 : decode cX1_becomeFenced 106 = .ok (.iload_n 3, 1) := by decide +kernel
theorem dX1_becomeFenced_107 : decode cX1_becomeFenced 107 = .ok (.iconst 2, 1) := by decide +kernel
theorem dX1_becomeFenced_108 : decode cX1_becomeFenced 108 = .ok (.invokevirtual 47, 3) := by decide +kernel
theorem dX1_becomeFenced_111 : decode cX1_becomeFenced 111 = .ok (.iconst 1, 1) := by decide +kernel
theorem dX1_becomeFenced_112 : decode cX1_becomeFenced 112 = .ok (.iadd, 1) := by decide +kernel
theorem dX1_becomeFenced_113 : decode cX1_becomeFenced 113 = .ok (.invokevirtual 59, 3) := by decide +kernel
theorem dX1_becomeFenced_116 : decode cX1_becomeFenced 116 = .ok (.iinc 3 1, 3) := by decide +kernel
theorem dX1_becomeFenced_119 : decode cX1_becomeFenced 119 = .ok (.goto (-53), 3) := by decide +kernel
theorem dX1_becomeFenced_122 : decode cX1_becomeFenced 122 = .ok (.return_, 1) := by decide +kernel
set_option maxRecDepth 20000 in
theorem ggX1_copy_X1_number : GoodIn wsX1_copy wsX1_number := goodIn_r _ [6, 7, 12, 13, 14] (by decide +kernel) (by decide +kernel)
set_option maxRecDepth 20000 in
theorem gX1_copy_X1_number : GoodIn wsX1_copy (wsV RX1 47 RX1 yX1_number wsX1_number) := goodIn_app (goodIn_of _ (by decide +kernel)) ggX1_copy_X1_number
set_option maxRecDepth 20000 in
theorem ggX1_copy_X1_setNumber : GoodIn wsX1_copy wsX1_setNumber := goodIn_r _ [11, 7, 12, 13, 14] (by decide +kernel) (by decide +kernel)
set_option maxRecDepth 20000 in
theorem gX1_copy_X1_setNumber : GoodIn wsX1_copy (wsV RX1 59 RX1 yX1_setNumber wsX1_setNumber) := goodIn_app (goodIn_of _ (by decide +kernel)) ggX1_copy_X1_setNumber
theorem dX1_copy_0 : decode cX1_copy 0 = .ok (.aload_n 0, 1) := by decide +kernel
theorem dX1_copy_1 : decode cX1_copy 1 = .ok (.getfield 15, 3) := by decide +kernel
theorem dX1_copy_4 : decode cX1_copy 4 = .ok (.iload_n 3, 1) := by decide +kernel
theorem dX1_copy_5 : decode cX1_copy 5 = .ok (.aload_n 1, 1) := by decide +kernel
theorem dX1_copy_6 : decode cX1_copy 6 = .ok (.getfield 15, 3) := by decide +kernel
theorem dX1_copy_9 : decode cX1_copy 9 = .ok (.iload_n 2, 1) := by decide +kernel
theorem dX1_copy_10 : decode cX1_copy 10 = .ok (.iaload, 1) := by decide +kernel
theorem dX1_copy_11 : decode cX1_copy 11 = .ok (.iastore, 1) := by decide +kernel
theorem dX1_copy_12 : decode cX1_copy 12 = .ok (.iconst 0, 1) := by decide +kernel
theorem dX1_copy_13 : decode cX1_copy 13 = .ok (.istore 4, 2) := by decide +kernel
theorem dX1_copy_15 : decode cX1_copy 15 = .ok (.iload 4, 2) := by decide +kernel
theorem dX1_copy_17 : decode cX1_copy 17 = .ok (.iconst 4, 1) := by decide +kernel
theorem dX1_copy_18 : decode cX1_copy 18 = .ok (.if_icmp .ge 23, 3) := by decide +kernel
theorem dX1_copy_21 : decode cX1_copy 21 = .ok (.aload_n 0, 1) := by decide +kernel
theorem dX1_copy_22 : decode cX1_copy 22 = .ok (.iload_n 3, 1) := by decide +kernel
theorem dX1_copy_23 : decode cX1_copy 23 = .ok (.iload 4, 2) := by decide +kernel
theorem dX1_copy_25 : decode cX1_copy 25 = .ok (.aload_n 1, 1) := by decide +kernel
theorem dX1_copy_26 : decode cX1_copy 26 = .ok (.iload_n 2, 1) := by decide +kernel
theorem dX1_copy_27 : decode cX1_copy 27 = .ok (.iload 4, 2) := by decide +kernel
theorem dX1_copy_29 : decode cX1_copy 29 = .ok (.invokevirtual 47, 3) := by decide +kernel
theorem dX1_copy_32 : decode cX1_copy 32 = .ok (.invokevirtual 59, 3) := by decide +kernel
theorem dX1_copy_35 : decode cX1_copy 35 = .ok (.iinc 4 1, 3) := by decide +kernel
theorem dX1_copy_38 : decode cX1_copy 38 = .ok (.goto (-23), 3) := by decide +kernel
theorem dX1_copy_41 : decode cX1_copy 41 = .ok (.return_, 1) := by decide +kernel
theorem dX2_init_0 : decode cX2_init 0 = .ok (.aload_n 0, 1) := by decide +kernel
theorem dX2_init_1 : decode cX2_init 1 = .ok (.invokespecial 3, 3) := by decide +kernel
theorem dX2_init_4 : decode cX2_init 4 = .ok (.aload_n 0, 1) := by decide +kernel
theorem dX2_init_5 : decode cX2_init 5 = .ok (.iconst (-1), 1) := by decide +kernel
theorem dX2_init_6 : decode cX2_init 6 = .ok (.putfield 9, 3) := by decide +kernel
theorem dX2_init_9 : decode cX2_init 9 = .ok (.aload_n 0, 1) := by decide +kernel
theorem dX2_init_10 : decode cX2_init 10 = .ok (.iconst (-1), 1) := by decide +kernel
theorem dX2_init_11 : decode cX2_init 11 = .ok (.putfield 15, 3) := by decide +kernel
theorem dX2_init_14 : decode cX2_init 14 = .ok (.aload_n 0, 1) := by decide +kernel
theorem dX2_init_15 : decode cX2_init 15 = .ok (.iconst (-1), 1) := by decide +kernel
