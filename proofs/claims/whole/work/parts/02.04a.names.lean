set_option maxRecDepth 20000 in
theorem gX4_missing_X4_isTold : GoodIn wsX4_missing (wsV RX4 93 RX4 yX4_isTold wsX4_isTold) := goodIn_app (goodIn_of _ (by decide +kernel)) ggX4_missing_X4_isTold
set_option maxRecDepth 20000 in
theorem ggX4_missing_X4_firstState : GoodIn wsX4_missing wsX4_firstState := goodIn_r _ [177, 17, 178, 179, 1, 180, 166, 45, 167, 181, 182, 183, 22, 184, 24, 25, 185, 186, 6, 187, 188, 189, 162, 163, 164, 102, 103, 165, 208, 209, 210, 211, 212, 213, 214, 215, 216, 217, 225, 226, 227, 228, 229, 230, 231, 232, 233, 218, 219, 220, 221, 222, 223, 224] (by decide +kernel) (by decide +kernel)
set_option maxRecDepth 20000 in
theorem gX4_missing_X4_firstState : GoodIn wsX4_missing (wsV RX4 124 RX4 yX4_firstState wsX4_firstState) := goodIn_app (goodIn_of _ (by decide +kernel)) ggX4_missing_X4_firstState
set_option maxRecDepth 20000 in
theorem ggX4_missing_X4_firstStateBehindFence : GoodIn wsX4_missing wsX4_firstStateBehindFence := goodIn_r _ [193, 1, 2, 194, 17, 16, 18, 195, 196, 197, 126, 198, 139, 140, 78, 79, 80, 199, 200, 201, 202, 203, 141, 124, 125, 127, 128, 204, 205, 206, 207, 19, 20, 21, 22, 23, 24, 25, 26, 27, 28, 29, 30, 31, 32, 33, 34, 35, 36, 37, 38, 39, 40, 41, 42, 43, 44, 45, 46, 47, 48, 49, 50, 51, 52, 53, 54, 55, 56, 57, 58, 59, 60, 61, 62, 63, 64, 65, 66, 67, 68, 69, 70, 71, 72, 73, 74, 75, 76, 77, 81, 82, 83, 84, 85, 86, 87, 88, 89, 90, 91, 92, 93, 94, 95, 96, 97, 98, 99, 100, 101, 102, 103, 104, 105, 106, 107, 108, 109, 110, 111, 112, 113, 114, 115, 116, 117, 118, 119, 120, 121, 122, 123, 129, 130, 131, 132, 133, 134, 135, 136, 137, 138, 142, 143, 144, 145, 146, 147, 148, 149, 150, 151, 152, 153, 154, 155, 156, 157, 158, 159, 160, 161, 162, 163, 164, 165, 166, 167, 168, 169, 170, 171, 172, 173, 174, 175, 176, 6, 177, 178, 179, 180, 181, 182, 183, 184, 185, 186, 187, 188, 189, 208, 209, 210, 211, 212, 213, 214, 215, 216, 217, 218, 219, 220, 221, 225, 226, 227, 228, 229, 230, 231, 232, 233, 222, 223, 224] (by decide +kernel) (by decide +kernel)
set_option maxRecDepth 20000 in
theorem gX4_missing_X4_firstStateBehindFence : GoodIn wsX4_missing (wsV RX4 127 RX4 yX4_firstStateBehindFence wsX4_firstStateBehindFence) := goodIn_app (goodIn_of _ (by decide +kernel)) ggX4_missing_X4_firstStateBehindFence
theorem dX4_missing_0 : decode cX4_missing 0 = .ok (.iload_n 1, 1) := by decide +kernel
theorem dX4_missing_1 : decode cX4_missing 1 = .ok (.ifCond .eq 14, 3) := by decide +kernel
theorem dX4_missing_4 : decode cX4_missing 4 = .ok (.iload_n 2, 1) := by decide +kernel
theorem dX4_missing_5 : decode cX4_missing 5 = .ok (.iload_n 3, 1) := by decide +kernel
theorem dX4_missing_6 : decode cX4_missing 6 = .ok (.invokestatic 121, 3) := by decide +kernel
theorem dX4_missing_9 : decode cX4_missing 9 = .ok (.ifCond .ne 17, 3) := by decide +kernel
theorem dX4_missing_12 : decode cX4_missing 12 = .ok (.goto 12, 3) := by decide +kernel
theorem dX4_missing_15 : decode cX4_missing 15 = .ok (.aload_n 0, 1) := by decide +kernel
theorem dX4_missing_16 : decode cX4_missing 16 = .ok (.iload_n 2, 1) := by decide +kernel
theorem dX4_missing_17 : decode cX4_missing 17 = .ok (.iload_n 3, 1) := by decide +kernel
theorem dX4_missing_18 : decode cX4_missing 18 = .ok (.invokevirtual 113, 3) := by decide +kernel
theorem dX4_missing_21 : decode cX4_missing 21 = .ok (.ifCond .ne 5, 3) := by decide +kernel
theorem dX4_missing_24 : decode cX4_missing 24 = .ok (.iconst (-1), 1) := by decide +kernel
theorem dX4_missing_25 : decode cX4_missing 25 = .ok (.ireturn, 1) := by decide +kernel
theorem dX4_missing_26 : decode cX4_missing 26 = .ok (.aload_n 0, 1) := by decide +kernel
theorem dX4_missing_27 : decode cX4_missing 27 = .ok (.invokevirtual 93, 3) := by decide +kernel
theorem dX4_missing_30 : decode cX4_missing 30 = .ok (.ifCond .ne 6, 3) := by decide +kernel
theorem dX4_missing_33 : decode cX4_missing 33 = .ok (.bipush (-2), 2) := by decide +kernel
theorem dX4_missing_35 : decode cX4_missing 35 = .ok (.ireturn, 1) := by decide +kernel
theorem dX4_missing_36 : decode cX4_missing 36 = .ok (.aload_n 0, 1) := by decide +kernel
theorem dX4_missing_37 : decode cX4_missing 37 = .ok (.iload_n 1, 1) := by decide +kernel
theorem dX4_missing_38 : decode cX4_missing 38 = .ok (.iload_n 2, 1) := by decide +kernel
theorem dX4_missing_39 : decode cX4_missing 39 = .ok (.iload_n 3, 1) := by decide +kernel
theorem dX4_missing_40 : decode cX4_missing 40 = .ok (.invokevirtual 124, 3) := by decide +kernel
theorem dX4_missing_43 : decode cX4_missing 43 = .ok (.iconst (-1), 1) := by decide +kernel
theorem dX4_missing_44 : decode cX4_missing 44 = .ok (.if_icmp .ne 5, 3) := by decide +kernel
theorem dX4_missing_47 : decode cX4_missing 47 = .ok (.iconst (-1), 1) := by decide +kernel
theorem dX4_missing_48 : decode cX4_missing 48 = .ok (.ireturn, 1) := by decide +kernel
theorem dX4_missing_49 : decode cX4_missing 49 = .ok (.iconst 0, 1) := by decide +kernel
theorem dX4_missing_50 : decode cX4_missing 50 = .ok (.istore 4, 2) := by decide +kernel
theorem dX4_missing_52 : decode cX4_missing 52 = .ok (.iload 4, 2) := by decide +kernel
theorem dX4_missing_54 : decode cX4_missing 54 = .ok (.iconst 2, 1) := by decide +kernel
theorem dX4_missing_55 : decode cX4_missing 55 = .ok (.if_icmp .ge 86, 3) := by decide +kernel
theorem dX4_missing_58 : decode cX4_missing 58 = .ok (.aload_n 0, 1) := by decide +kernel
theorem dX4_missing_59 : decode cX4_missing 59 = .ok (.getfield 37, 3) := by decide +kernel
theorem dX4_missing_62 : decode cX4_missing 62 = .ok (.getfield 74, 3) := by decide +kernel
theorem dX4_missing_65 : decode cX4_missing 65 = .ok (.iload 4, 2) := by decide +kernel
theorem dX4_missing_67 : decode cX4_missing 67 = .ok (.aaload, 1) := by decide +kernel
theorem dX4_missing_68 : decode cX4_missing 68 = .ok (.getfield 78, 3) := by decide +kernel
theorem dX4_missing_71 : decode cX4_missing 71 = .ok (.istore 5, 2) := by decide +kernel
theorem dX4_missing_73 : decode cX4_missing 73 = .ok (.iconst 0, 1) := by decide +kernel
theorem dX4_missing_74 : decode cX4_missing 74 = .ok (.istore 6, 2) := by decide +kernel
theorem dX4_missing_76 : decode cX4_missing 76 = .ok (.iload 6, 2) := by decide +kernel
theorem dX4_missing_78 : decode cX4_missing 78 = .ok (.iload 5, 2) := by decide +kernel
theorem dX4_missing_80 : decode cX4_missing 80 = .ok (.if_icmp .ge 55, 3) := by decide +kernel
theorem dX4_missing_83 : decode cX4_missing 83 = .ok (.iload 5, 2) := by decide +kernel
theorem dX4_missing_85 : decode cX4_missing 85 = .ok (.bipush 7, 2) := by decide +kernel
theorem dX4_missing_87 : decode cX4_missing 87 = .ok (.if_icmp .ge 48, 3) := by decide +kernel
theorem dX4_missing_90 : decode cX4_missing 90 = .ok (.aload_n 0, 1) := by decide +kernel
theorem dX4_missing_91 : decode cX4_missing 91 = .ok (.iload 4, 2) := by decide +kernel
theorem dX4_missing_93 : decode cX4_missing 93 = .ok (.iload 6, 2) := by decide +kernel
theorem dX4_missing_95 : decode cX4_missing 95 = .ok (.iload_n 1, 1) := by decide +kernel
theorem dX4_missing_96 : decode cX4_missing 96 = .ok (.iload_n 2, 1) := by decide +kernel
theorem dX4_missing_97 : decode cX4_missing 97 = .ok (.iload_n 3, 1) := by decide +kernel
theorem dX4_missing_98 : decode cX4_missing 98 = .ok (.invokevirtual 127, 3) := by decide +kernel
theorem dX4_missing_101 : decode cX4_missing 101 = .ok (.istore 7, 2) := by decide +kernel
theorem dX4_missing_103 : decode cX4_missing 103 = .ok (.iload 7, 2) := by decide +kernel
theorem dX4_missing_105 : decode cX4_missing 105 = .ok (.ifCond .ge 24, 3) := by decide +kernel
theorem dX4_missing_108 : decode cX4_missing 108 = .ok (.iload 7, 2) := by decide +kernel
theorem dX4_missing_110 : decode cX4_missing 110 = .ok (.bipush (-2), 2) := by decide +kernel
theorem dX4_missing_112 : decode cX4_missing 112 = .ok (.if_icmp .ne 8, 3) := by decide +kernel
theorem dX4_missing_115 : decode cX4_missing 115 = .ok (.bipush (-2), 2) := by decide +kernel
theorem dX4_missing_117 : decode cX4_missing 117 = .ok (.goto 11, 3) := by decide +kernel
theorem dX4_missing_120 : decode cX4_missing 120 = .ok (.bipush 8, 2) := by decide +kernel
theorem dX4_missing_122 : decode cX4_missing 122 = .ok (.iload 4, 2) := by decide +kernel
theorem dX4_missing_124 : decode cX4_missing 124 = .ok (.imul, 1) := by decide +kernel
theorem dX4_missing_125 : decode cX4_missing 125 = .ok (.iload 6, 2) := by decide +kernel
theorem dX4_missing_127 : decode cX4_missing 127 = .ok (.iadd, 1) := by decide +kernel
theorem dX4_missing_128 : decode cX4_missing 128 = .ok (.ireturn, 1) := by decide +kernel
theorem dX4_missing_129 : decode cX4_missing 129 = .ok (.iinc 6 1, 3) := by decide +kernel
theorem dX4_missing_132 : decode cX4_missing 132 = .ok (.goto (-56), 3) := by decide +kernel
theorem dX4_missing_135 : decode cX4_missing 135 = .ok (.iinc 4 1, 3) := by decide +kernel
theorem dX4_missing_138 : decode cX4_missing 138 = .ok (.goto (-86), 3) := by decide +kernel
theorem dX4_missing_141 : decode cX4_missing 141 = .ok (.iconst (-1), 1) := by decide +kernel
theorem dX4_missing_142 : decode cX4_missing 142 = .ok (.ireturn, 1) := by decide +kernel
set_option maxRecDepth 20000 in
theorem ggX4_statement_X4_isHost : GoodIn wsX4_statement wsX4_isHost := goodIn_r _ [8] (by decide +kernel) (by decide +kernel)
set_option maxRecDepth 20000 in
theorem gX4_statement_X4_isHost : GoodIn wsX4_statement (va_wsS RX4 63 yX4_isHost wsX4_isHost) := goodIn_app (goodIn_of _ (by decide +kernel)) ggX4_statement_X4_isHost
set_option maxRecDepth 20000 in
theorem ggX4_statement_X1_numbersOf : GoodIn wsX4_statement wsX1_numbersOf := goodIn_r _ [12, 13, 14, 11, 15, 16] (by decide +kernel) (by decide +kernel)
set_option maxRecDepth 20000 in
theorem gX4_statement_X1_numbersOf : GoodIn wsX4_statement (va_wsS RX4 134 yX1_numbersOf wsX1_numbersOf) := goodIn_app (goodIn_of _ (by decide +kernel)) ggX4_statement_X1_numbersOf
set_option maxRecDepth 20000 in
theorem ggX4_statement_X1_number : GoodIn wsX4_statement wsX1_number := goodIn_r _ [20, 21, 36, 37, 38] (by decide +kernel) (by decide +kernel)
set_option maxRecDepth 20000 in
theorem gX4_statement_X1_number : GoodIn wsX4_statement (wsV RX4 138 RX1 yX1_number wsX1_number) := goodIn_app (goodIn_of _ (by decide +kernel)) ggX4_statement_X1_number
theorem dX4_statement_0 : decode cX4_statement 0 = .ok (.iload_n 1, 1) := by decide +kernel
theorem dX4_statement_1 : decode cX4_statement 1 = .ok (.invokestatic 63, 3) := by decide +kernel
theorem dX4_statement_4 : decode cX4_statement 4 = .ok (.ifCond .eq 23, 3) := by decide +kernel
theorem dX4_statement_7 : decode cX4_statement 7 = .ok (.iload_n 2, 1) := by decide +kernel
theorem dX4_statement_8 : decode cX4_statement 8 = .ok (.ifCond .lt 19, 3) := by decide +kernel
theorem dX4_statement_11 : decode cX4_statement 11 = .ok (.iload_n 2, 1) := by decide +kernel
theorem dX4_statement_12 : decode cX4_statement 12 = .ok (.aload_n 0, 1) := by decide +kernel
theorem dX4_statement_13 : decode cX4_statement 13 = .ok (.getfield 37, 3) := by decide +kernel
theorem dX4_statement_16 : decode cX4_statement 16 = .ok (.getfield 74, 3) := by decide +kernel
theorem dX4_statement_19 : decode cX4_statement 19 = .ok (.iload_n 1, 1) := by decide +kernel
theorem dX4_statement_20 : decode cX4_statement 20 = .ok (.aaload, 1) := by decide +kernel
theorem dX4_statement_21 : decode cX4_statement 21 = .ok (.getfield 78, 3) := by decide +kernel
theorem dX4_statement_24 : decode cX4_statement 24 = .ok (.if_icmp .lt 5, 3) := by decide +kernel
theorem dX4_statement_27 : decode cX4_statement 27 = .ok (.iconst (-1), 1) := by decide +kernel
theorem dX4_statement_28 : decode cX4_statement 28 = .ok (.ireturn, 1) := by decide +kernel
theorem dX4_statement_29 : decode cX4_statement 29 = .ok (.aload_n 0, 1) := by decide +kernel
theorem dX4_statement_30 : decode cX4_statement 30 = .ok (.getfield 37, 3) := by decide +kernel
theorem dX4_statement_33 : decode cX4_statement 33 = .ok (.getfield 74, 3) := by decide +kernel
theorem dX4_statement_36 : decode cX4_statement 36 = .ok (.iload_n 1, 1) := by decide +kernel
theorem dX4_statement_37 : decode cX4_statement 37 = .ok (.aaload, 1) := by decide +kernel
theorem dX4_statement_38 : decode cX4_statement 38 = .ok (.astore 4, 2) := by decide +kernel
theorem dX4_statement_40 : decode cX4_statement 40 = .ok (.iload_n 3, 1) := by decide +kernel
theorem dX4_statement_41 : decode cX4_statement 41 = .ok (.ifCond .ne 11, 3) := by decide +kernel
theorem dX4_statement_44 : decode cX4_statement 44 = .ok (.aload 4, 2) := by decide +kernel
theorem dX4_statement_46 : decode cX4_statement 46 = .ok (.getfield 131, 3) := by decide +kernel
theorem dX4_statement_49 : decode cX4_statement 49 = .ok (.iload_n 2, 1) := by decide +kernel
theorem dX4_statement_50 : decode cX4_statement 50 = .ok (.iaload, 1) := by decide +kernel
theorem dX4_statement_51 : decode cX4_statement 51 = .ok (.ireturn, 1) := by decide +kernel
theorem dX4_statement_52 : decode cX4_statement 52 = .ok (.iload_n 3, 1) := by decide +kernel
theorem dX4_statement_53 : decode cX4_statement 53 = .ok (.iconst 1, 1) := by decide +kernel
theorem dX4_statement_54 : decode cX4_statement 54 = .ok (.if_icmp .lt 17, 3) := by decide +kernel
theorem dX4_statement_57 : decode cX4_statement 57 = .ok (.iload_n 3, 1) := by decide +kernel
theorem dX4_statement_58 : decode cX4_statement 58 = .ok (.aload 4, 2) := by decide +kernel
theorem dX4_statement_60 : decode cX4_statement 60 = .ok (.getfield 131, 3) := by decide +kernel
theorem dX4_statement_63 : decode cX4_statement 63 = .ok (.iload_n 2, 1) := by decide +kernel
theorem dX4_statement_64 : decode cX4_statement 64 = .ok (.iaload, 1) := by decide +kernel
theorem dX4_statement_65 : decode cX4_statement 65 = .ok (.invokestatic 134, 3) := by decide +kernel
theorem dX4_statement_68 : decode cX4_statement 68 = .ok (.if_icmp .le 5, 3) := by decide +kernel
theorem dX4_statement_71 : decode cX4_statement 71 = .ok (.iconst (-1), 1) := by decide +kernel
theorem dX4_statement_72 : decode cX4_statement 72 = .ok (.ireturn, 1) := by decide +kernel
theorem dX4_statement_73 : decode cX4_statement 73 = .ok (.aload 4, 2) := by decide +kernel
theorem dX4_statement_75 : decode cX4_statement 75 = .ok (.iload_n 2, 1) := by decide +kernel
theorem dX4_statement_76 : decode cX4_statement 76 = .ok (.iload_n 3, 1) := by decide +kernel
theorem dX4_statement_77 : decode cX4_statement 77 = .ok (.iconst 1, 1) := by decide +kernel
theorem dX4_statement_78 : decode cX4_statement 78 = .ok (.isub, 1) := by decide +kernel
theorem dX4_statement_79 : decode cX4_statement 79 = .ok (.invokevirtual 138, 3) := by decide +kernel
theorem dX4_statement_82 : decode cX4_statement 82 = .ok (.ireturn, 1) := by decide +kernel
set_option maxRecDepth 20000 in
theorem ggX4_about_X4_isHost : GoodIn wsX4_about wsX4_isHost := goodIn_r _ [11] (by decide +kernel) (by decide +kernel)
set_option maxRecDepth 20000 in
theorem gX4_about_X4_isHost : GoodIn wsX4_about (va_wsS RX4 63 yX4_isHost wsX4_isHost) := goodIn_app (goodIn_of _ (by decide +kernel)) ggX4_about_X4_isHost
theorem dX4_about_0 : decode cX4_about 0 = .ok (.iload_n 1, 1) := by decide +kernel
theorem dX4_about_1 : decode cX4_about 1 = .ok (.invokestatic 63, 3) := by decide +kernel
theorem dX4_about_4 : decode cX4_about 4 = .ok (.ifCond .eq 16, 3) := by decide +kernel
theorem dX4_about_7 : decode cX4_about 7 = .ok (.aload_n 0, 1) := by decide +kernel
theorem dX4_about_8 : decode cX4_about 8 = .ok (.getfield 37, 3) := by decide +kernel
theorem dX4_about_11 : decode cX4_about 11 = .ok (.getfield 74, 3) := by decide +kernel
theorem dX4_about_14 : decode cX4_about 14 = .ok (.iload_n 1, 1) := by decide +kernel
theorem dX4_about_15 : decode cX4_about 15 = .ok (.aaload, 1) := by decide +kernel
theorem dX4_about_16 : decode cX4_about 16 = .ok (.getfield 78, 3) := by decide +kernel
theorem dX4_about_19 : decode cX4_about 19 = .ok (.ireturn, 1) := by decide +kernel
theorem dX4_about_20 : decode cX4_about 20 = .ok (.iload_n 1, 1) := by decide +kernel
theorem dX4_about_21 : decode cX4_about 21 = .ok (.iconst 2, 1) := by decide +kernel
theorem dX4_about_22 : decode cX4_about 22 = .ok (.if_icmp .ne 8, 3) := by decide +kernel
theorem dX4_about_25 : decode cX4_about 25 = .ok (.aload_n 0, 1) := by decide +kernel
theorem dX4_about_26 : decode cX4_about 26 = .ok (.getfield 13, 3) := by decide +kernel
theorem dX4_about_29 : decode cX4_about 29 = .ok (.ireturn, 1) := by decide +kernel
theorem dX4_about_30 : decode cX4_about 30 = .ok (.iload_n 1, 1) := by decide +kernel
theorem dX4_about_31 : decode cX4_about 31 = .ok (.iconst 3, 1) := by decide +kernel
theorem dX4_about_32 : decode cX4_about 32 = .ok (.if_icmp .ne 19, 3) := by decide +kernel
theorem dX4_about_35 : decode cX4_about 35 = .ok (.aload_n 0, 1) := by decide +kernel
theorem dX4_about_36 : decode cX4_about 36 = .ok (.getfield 37, 3) := by decide +kernel
theorem dX4_about_39 : decode cX4_about 39 = .ok (.getfield 90, 3) := by decide +kernel
theorem dX4_about_42 : decode cX4_about 42 = .ok (.ifCond .eq 7, 3) := by decide +kernel
theorem dX4_about_45 : decode cX4_about 45 = .ok (.iconst 1, 1) := by decide +kernel
theorem dX4_about_46 : decode cX4_about 46 = .ok (.goto 4, 3) := by decide +kernel
theorem dX4_about_49 : decode cX4_about 49 = .ok (.iconst 0, 1) := by decide +kernel
theorem dX4_about_50 : decode cX4_about 50 = .ok (.ireturn, 1) := by decide +kernel
theorem dX4_about_51 : decode cX4_about 51 = .ok (.iload_n 1, 1) := by decide +kernel
theorem dX4_about_52 : decode cX4_about 52 = .ok (.bipush 10, 2) := by decide +kernel
theorem dX4_about_54 : decode cX4_about 54 = .ok (.if_icmp .lt 22, 3) := by decide +kernel
theorem dX4_about_57 : decode cX4_about 57 = .ok (.iload_n 1, 1) := by decide +kernel
theorem dX4_about_58 : decode cX4_about 58 = .ok (.bipush 14, 2) := by decide +kernel
theorem dX4_about_60 : decode cX4_about 60 = .ok (.if_icmp .ge 16, 3) := by decide +kernel
theorem dX4_about_63 : decode cX4_about 63 = .ok (.aload_n 0, 1) := by decide +kernel
theorem dX4_about_64 : decode cX4_about 64 = .ok (.getfield 37, 3) := by decide +kernel
theorem dX4_about_67 : decode cX4_about 67 = .ok (.getfield 84, 3) := by decide +kernel
theorem dX4_about_70 : decode cX4_about 70 = .ok (.iload_n 1, 1) := by decide +kernel
theorem dX4_about_71 : decode cX4_about 71 = .ok (.bipush 10, 2) := by decide +kernel
theorem dX4_about_73 : decode cX4_about 73 = .ok (.isub, 1) := by decide +kernel
theorem dX4_about_74 : decode cX4_about 74 = .ok (.iaload, 1) := by decide +kernel
theorem dX4_about_75 : decode cX4_about 75 = .ok (.ireturn, 1) := by decide +kernel
theorem dX4_about_76 : decode cX4_about 76 = .ok (.iload_n 1, 1) := by decide +kernel
theorem dX4_about_77 : decode cX4_about 77 = .ok (.bipush 20, 2) := by decide +kernel
theorem dX4_about_79 : decode cX4_about 79 = .ok (.if_icmp .lt 22, 3) := by decide +kernel
theorem dX4_about_82 : decode cX4_about 82 = .ok (.iload_n 1, 1) := by decide +kernel
theorem dX4_about_83 : decode cX4_about 83 = .ok (.bipush 24, 2) := by decide +kernel
theorem dX4_about_85 : decode cX4_about 85 = .ok (.if_icmp .ge 16, 3) := by decide +kernel
theorem dX4_about_88 : decode cX4_about 88 = .ok (.aload_n 0, 1) := by decide +kernel
theorem dX4_about_89 : decode cX4_about 89 = .ok (.getfield 37, 3) := by decide +kernel
theorem dX4_about_92 : decode cX4_about 92 = .ok (.getfield 87, 3) := by decide +kernel
theorem dX4_about_95 : decode cX4_about 95 = .ok (.iload_n 1, 1) := by decide +kernel
theorem dX4_about_96 : decode cX4_about 96 = .ok (.bipush 20, 2) := by decide +kernel
theorem dX4_about_98 : decode cX4_about 98 = .ok (.isub, 1) := by decide +kernel
theorem dX4_about_99 : decode cX4_about 99 = .ok (.iaload, 1) := by decide +kernel
theorem dX4_about_100 : decode cX4_about 100 = .ok (.ireturn, 1) := by decide +kernel
theorem dX4_about_101 : decode cX4_about 101 = .ok (.iconst (-1), 1) := by decide +kernel
theorem dX4_about_102 : decode cX4_about 102 = .ok (.ireturn, 1) := by decide +kernel
theorem dX4_isHost_0 : decode cX4_isHost 0 = .ok (.iload_n 0, 1) := by decide +kernel
theorem dX4_isHost_1 : decode cX4_isHost 1 = .ok (.ifCond .lt 12, 3) := by decide +kernel
theorem dX4_isHost_4 : decode cX4_isHost 4 = .ok (.iload_n 0, 1) := by decide +kernel
theorem dX4_isHost_5 : decode cX4_isHost 5 = .ok (.iconst 2, 1) := by decide +kernel
theorem dX4_isHost_6 : decode cX4_isHost 6 = .ok (.if_icmp .ge 7, 3) := by decide +kernel
theorem dX4_isHost_9 : decode cX4_isHost 9 = .ok (.iconst 1, 1) := by decide +kernel
theorem dX4_isHost_10 : decode cX4_isHost 10 = .ok (.goto 4, 3) := by decide +kernel
theorem dX4_isHost_13 : decode cX4_isHost 13 = .ok (.iconst 0, 1) := by decide +kernel
theorem dX4_isHost_14 : decode cX4_isHost 14 = .ok (.ireturn, 1) := by decide +kernel
theorem dX4_arePlaces_0 : decode cX4_arePlaces 0 = .ok (.iload_n 1, 1) := by decide +kernel
theorem dX4_arePlaces_1 : decode cX4_arePlaces 1 = .ok (.ifCond .lt 43, 3) := by decide +kernel
theorem dX4_arePlaces_4 : decode cX4_arePlaces 4 = .ok (.iload_n 1, 1) := by decide +kernel
theorem dX4_arePlaces_5 : decode cX4_arePlaces 5 = .ok (.aload_n 0, 1) := by decide +kernel
theorem dX4_arePlaces_6 : decode cX4_arePlaces 6 = .ok (.getfield 37, 3) := by decide +kernel
theorem dX4_arePlaces_9 : decode cX4_arePlaces 9 = .ok (.getfield 74, 3) := by decide +kernel
theorem dX4_arePlaces_12 : decode cX4_arePlaces 12 = .ok (.iconst 0, 1) := by decide +kernel
theorem dX4_arePlaces_13 : decode cX4_arePlaces 13 = .ok (.aaload, 1) := by decide +kernel
theorem dX4_arePlaces_14 : decode cX4_arePlaces 14 = .ok (.getfield 78, 3) := by decide +kernel
theorem dX4_arePlaces_17 : decode cX4_arePlaces 17 = .ok (.if_icmp .gt 27, 3) := by decide +kernel
theorem dX4_arePlaces_20 : decode cX4_arePlaces 20 = .ok (.iload_n 2, 1) := by decide +kernel
theorem dX4_arePlaces_21 : decode cX4_arePlaces 21 = .ok (.ifCond .lt 23, 3) := by decide +kernel
theorem dX4_arePlaces_24 : decode cX4_arePlaces 24 = .ok (.iload_n 2, 1) := by decide +kernel
theorem dX4_arePlaces_25 : decode cX4_arePlaces 25 = .ok (.aload_n 0, 1) := by decide +kernel
theorem dX4_arePlaces_26 : decode cX4_arePlaces 26 = .ok (.getfield 37, 3) := by decide +kernel
theorem dX4_arePlaces_29 : decode cX4_arePlaces 29 = .ok (.getfield 74, 3) := by decide +kernel
theorem dX4_arePlaces_32 : decode cX4_arePlaces 32 = .ok (.iconst 1, 1) := by decide +kernel
theorem dX4_arePlaces_33 : decode cX4_arePlaces 33 = .ok (.aaload, 1) := by decide +kernel
theorem dX4_arePlaces_34 : decode cX4_arePlaces 34 = .ok (.getfield 78, 3) := by decide +kernel
theorem dX4_arePlaces_37 : decode cX4_arePlaces 37 = .ok (.if_icmp .gt 7, 3) := by decide +kernel
theorem dX4_arePlaces_40 : decode cX4_arePlaces 40 = .ok (.iconst 1, 1) := by decide +kernel
theorem dX4_arePlaces_41 : decode cX4_arePlaces 41 = .ok (.goto 4, 3) := by decide +kernel
theorem dX4_arePlaces_44 : decode cX4_arePlaces 44 = .ok (.iconst 0, 1) := by decide +kernel
theorem dX4_arePlaces_45 : decode cX4_arePlaces 45 = .ok (.ireturn, 1) := by decide +kernel
theorem dX4_isOutcome_0 : decode cX4_isOutcome 0 = .ok (.iload_n 0, 1) := by decide +kernel
theorem dX4_isOutcome_1 : decode cX4_isOutcome 1 = .ok (.ifCond .lt 24, 3) := by decide +kernel
theorem dX4_isOutcome_4 : decode cX4_isOutcome 4 = .ok (.iload_n 0, 1) := by decide +kernel
theorem dX4_isOutcome_5 : decode cX4_isOutcome 5 = .ok (.sipush 256, 3) := by decide +kernel
theorem dX4_isOutcome_8 : decode cX4_isOutcome 8 = .ok (.if_icmp .ge 17, 3) := by decide +kernel
theorem dX4_isOutcome_11 : decode cX4_isOutcome 11 = .ok (.iload_n 1, 1) := by decide +kernel
theorem dX4_isOutcome_12 : decode cX4_isOutcome 12 = .ok (.ifCond .lt 13, 3) := by decide +kernel
theorem dX4_isOutcome_15 : decode cX4_isOutcome 15 = .ok (.iload_n 1, 1) := by decide +kernel
theorem dX4_isOutcome_16 : decode cX4_isOutcome 16 = .ok (.bipush 16, 2) := by decide +kernel
theorem dX4_isOutcome_18 : decode cX4_isOutcome 18 = .ok (.if_icmp .ge 7, 3) := by decide +kernel
theorem dX4_isOutcome_21 : decode cX4_isOutcome 21 = .ok (.iconst 1, 1) := by decide +kernel
theorem dX4_isOutcome_22 : decode cX4_isOutcome 22 = .ok (.goto 4, 3) := by decide +kernel
theorem dX4_isOutcome_25 : decode cX4_isOutcome 25 = .ok (.iconst 0, 1) := by decide +kernel
theorem dX4_isOutcome_26 : decode cX4_isOutcome 26 = .ok (.ireturn, 1) := by decide +kernel
set_option maxRecDepth 20000 in
theorem ggX4_isTold_X3_go : GoodIn wsX4_isTold wsX3_go := goodIn_r _ [9, 10, 11, 12, 13, 14, 15, 16, 8, 17, 18, 19, 20, 21, 22, 23, 24, 25, 26, 27, 28, 29, 30, 31, 32, 33, 34, 35, 36, 37, 38, 39, 40, 41, 42, 43, 44, 45, 46, 47, 48, 49, 50, 51, 52, 53, 54, 55, 56, 57, 58, 59, 60, 61, 62, 63, 64, 65, 66, 67, 68, 69, 70, 71, 72, 73, 74, 75, 76, 77, 78, 79, 80, 81, 82, 83, 84, 85, 86, 87, 88, 89, 90, 91, 92, 93, 94, 95, 96, 97, 98, 99, 100, 101, 102, 103, 104, 105, 106, 107, 108, 109, 110, 111, 112, 113, 114, 115, 116, 117, 118, 119, 120, 121, 122, 123, 124, 125, 126, 127, 128, 129, 130, 131, 132, 133, 134, 135, 136, 137, 138, 139, 140, 141, 142, 143, 144, 145, 146, 147, 148, 149, 150, 151, 152, 153, 154, 155, 156, 157, 158, 159, 170, 171, 172, 173, 174, 175, 176, 177, 178, 179, 180, 181, 182, 183, 184, 185] (by decide +kernel) (by decide +kernel)
set_option maxRecDepth 20000 in
theorem gX4_isTold_X3_go : GoodIn wsX4_isTold (wsV RX4 142 RX3 yX3_go wsX3_go) := goodIn_app (goodIn_of _ (by decide +kernel)) ggX4_isTold_X3_go
theorem dX4_isTold_0 : decode cX4_isTold 0 = .ok (.aload_n 0, 1) := by decide +kernel
theorem dX4_isTold_1 : decode cX4_isTold 1 = .ok (.getfield 48, 3) := by decide +kernel
theorem dX4_isTold_4 : decode cX4_isTold 4 = .ok (.ifCond .ne 19, 3) := by decide +kernel
theorem dX4_isTold_7 : decode cX4_isTold 7 = .ok (.aload_n 0, 1) := by decide +kernel
theorem dX4_isTold_8 : decode cX4_isTold 8 = .ok (.getfield 44, 3) := by decide +kernel
theorem dX4_isTold_11 : decode cX4_isTold 11 = .ok (.aload_n 0, 1) := by decide +kernel
theorem dX4_isTold_12 : decode cX4_isTold 12 = .ok (.getfield 37, 3) := by decide +kernel
theorem dX4_isTold_15 : decode cX4_isTold 15 = .ok (.invokevirtual 142, 3) := by decide +kernel
theorem dX4_isTold_18 : decode cX4_isTold 18 = .ok (.aload_n 0, 1) := by decide +kernel
theorem dX4_isTold_19 : decode cX4_isTold 19 = .ok (.iconst 1, 1) := by decide +kernel
theorem dX4_isTold_20 : decode cX4_isTold 20 = .ok (.putfield 48, 3) := by decide +kernel
theorem dX4_isTold_23 : decode cX4_isTold 23 = .ok (.aload_n 0, 1) := by decide +kernel
theorem dX4_isTold_24 : decode cX4_isTold 24 = .ok (.getfield 44, 3) := by decide +kernel
theorem dX4_isTold_27 : decode cX4_isTold 27 = .ok (.getfield 146, 3) := by decide +kernel
theorem dX4_isTold_30 : decode cX4_isTold 30 = .ok (.ireturn, 1) := by decide +kernel
set_option maxRecDepth 20000 in
theorem ggX4_fewestSteps_X4_isTold : GoodIn wsX4_fewestSteps wsX4_isTold := goodIn_r _ [8, 9, 1, 10, 11, 12, 13, 14, 15, 16, 17, 18, 19, 20, 21, 22, 23, 24, 25, 26, 27, 28, 29, 30, 31, 32, 33, 34, 35, 36, 37, 38, 39, 40, 41, 42, 43, 44, 45, 46, 47, 48, 49, 50, 51, 52, 53, 54, 55, 56, 57, 58, 59, 60, 61, 62, 63, 64, 65, 66, 67, 68, 69, 70, 71, 72, 73, 74, 75, 76, 77, 78, 79, 80, 81, 82, 83, 84, 85, 86, 87, 88, 89, 90, 91, 92, 93, 94, 95, 96, 97, 98, 99, 100, 101, 102, 103, 104, 105, 106, 107, 108, 109, 110, 111, 112, 113, 114, 115, 116, 117, 118, 119, 120, 121, 122, 123, 124, 125, 126, 127, 128, 129, 130, 131, 132, 133, 134, 135, 136, 137, 138, 139, 140, 141, 142, 143, 144, 145, 146, 147, 148, 149, 150, 151, 152, 153, 154, 155, 156, 157, 158, 159, 160, 161, 162, 163, 164, 165, 166, 192, 193, 194, 195, 196, 197, 198, 199, 200, 201, 202, 203, 204, 205, 206, 207, 208, 209, 210, 211, 212, 213, 214, 215, 216, 217] (by decide +kernel) (by decide +kernel)
set_option maxRecDepth 20000 in
theorem gX4_fewestSteps_X4_isTold : GoodIn wsX4_fewestSteps (wsV RX4 93 RX4 yX4_isTold wsX4_isTold) := goodIn_app (goodIn_of _ (by decide +kernel)) ggX4_fewestSteps_X4_isTold
set_option maxRecDepth 20000 in
theorem ggX4_fewestSteps_X4_firstState : GoodIn wsX4_fewestSteps wsX4_firstState := goodIn_r _ [170, 1, 171, 172, 10, 173, 159, 38, 160, 174, 175, 176, 15, 177, 17, 18, 178, 179, 7, 180, 181, 182, 155, 156, 157, 95, 96, 158, 192, 193, 194, 195, 196, 197, 198, 199, 200, 201, 202, 203, 204, 205, 206, 207, 208, 209, 210, 211, 212, 213, 214, 215, 216, 217] (by decide +kernel) (by decide +kernel)
set_option maxRecDepth 20000 in
theorem gX4_fewestSteps_X4_firstState : GoodIn wsX4_fewestSteps (wsV RX4 124 RX4 yX4_firstState wsX4_firstState) := goodIn_app (goodIn_of _ (by decide +kernel)) ggX4_fewestSteps_X4_firstState
set_option maxRecDepth 20000 in
theorem ggX4_fewestSteps_X3_writeRow : GoodIn wsX4_fewestSteps wsX3_writeRow := goodIn_r _ [186, 187, 71, 72, 73, 45, 188, 189, 190, 15, 191, 202, 203, 204, 205, 206, 207, 208, 209, 210] (by decide +kernel) (by decide +kernel)
set_option maxRecDepth 20000 in
theorem gX4_fewestSteps_X3_writeRow : GoodIn wsX4_fewestSteps (wsV RX4 148 RX3 yX3_writeRow wsX3_writeRow) := goodIn_app (goodIn_of _ (by decide +kernel)) ggX4_fewestSteps_X3_writeRow
theorem dX4_fewestSteps_0 : decode cX4_fewestSteps 0 = .ok (.aload_n 0, 1) := by decide +kernel
theorem dX4_fewestSteps_1 : decode cX4_fewestSteps 1 = .ok (.invokevirtual 93, 3) := by decide +kernel
theorem dX4_fewestSteps_4 : decode cX4_fewestSteps 4 = .ok (.ifCond .ne 6, 3) := by decide +kernel
theorem dX4_fewestSteps_7 : decode cX4_fewestSteps 7 = .ok (.bipush (-2), 2) := by decide +kernel
theorem dX4_fewestSteps_9 : decode cX4_fewestSteps 9 = .ok (.ireturn, 1) := by decide +kernel
theorem dX4_fewestSteps_10 : decode cX4_fewestSteps 10 = .ok (.aload_n 0, 1) := by decide +kernel
theorem dX4_fewestSteps_11 : decode cX4_fewestSteps 11 = .ok (.iload_n 1, 1) := by decide +kernel
theorem dX4_fewestSteps_12 : decode cX4_fewestSteps 12 = .ok (.iload_n 2, 1) := by decide +kernel
theorem dX4_fewestSteps_13 : decode cX4_fewestSteps 13 = .ok (.iload_n 3, 1) := by decide +kernel
theorem dX4_fewestSteps_14 : decode cX4_fewestSteps 14 = .ok (.invokevirtual 124, 3) := by decide +kernel
theorem dX4_fewestSteps_17 : decode cX4_fewestSteps 17 = .ok (.istore 4, 2) := by decide +kernel
theorem dX4_fewestSteps_19 : decode cX4_fewestSteps 19 = .ok (.iload 4, 2) := by decide +kernel
theorem dX4_fewestSteps_21 : decode cX4_fewestSteps 21 = .ok (.iconst (-1), 1) := by decide +kernel
theorem dX4_fewestSteps_22 : decode cX4_fewestSteps 22 = .ok (.if_icmp .ne 5, 3) := by decide +kernel
theorem dX4_fewestSteps_25 : decode cX4_fewestSteps 25 = .ok (.iconst (-1), 1) := by decide +kernel
theorem dX4_fewestSteps_26 : decode cX4_fewestSteps 26 = .ok (.ireturn, 1) := by decide +kernel
theorem dX4_fewestSteps_27 : decode cX4_fewestSteps 27 = .ok (.aload_n 0, 1) := by decide +kernel
theorem dX4_fewestSteps_28 : decode cX4_fewestSteps 28 = .ok (.aload_n 0, 1) := by decide +kernel
theorem dX4_fewestSteps_29 : decode cX4_fewestSteps 29 = .ok (.getfield 44, 3) := by decide +kernel
theorem dX4_fewestSteps_32 : decode cX4_fewestSteps 32 = .ok (.iload 4, 2) := by decide +kernel
theorem dX4_fewestSteps_34 : decode cX4_fewestSteps 34 = .ok (.aload_n 0, 1) := by decide +kernel
theorem dX4_fewestSteps_35 : decode cX4_fewestSteps 35 = .ok (.getfield 52, 3) := by decide +kernel
theorem dX4_fewestSteps_38 : decode cX4_fewestSteps 38 = .ok (.invokevirtual 148, 3) := by decide +kernel
theorem dX4_fewestSteps_41 : decode cX4_fewestSteps 41 = .ok (.putfield 56, 3) := by decide +kernel
theorem dX4_fewestSteps_44 : decode cX4_fewestSteps 44 = .ok (.aload_n 0, 1) := by decide +kernel
theorem dX4_fewestSteps_45 : decode cX4_fewestSteps 45 = .ok (.getfield 56, 3) := by decide +kernel
theorem dX4_fewestSteps_48 : decode cX4_fewestSteps 48 = .ok (.ireturn, 1) := by decide +kernel
set_option maxRecDepth 20000 in
theorem ggX4_firstState_X0_placesOf : GoodIn wsX4_firstState wsX0_placesOf := goodIn_r _ [8] (by decide +kernel) (by decide +kernel)
set_option maxRecDepth 20000 in
theorem gX4_firstState_X0_placesOf : GoodIn wsX4_firstState (va_wsS RX4 154 yX0_placesOf wsX0_placesOf) := goodIn_app (goodIn_of _ (by decide +kernel)) ggX4_firstState_X0_placesOf
set_option maxRecDepth 20000 in
theorem ggX4_firstState_X3_first : GoodIn wsX4_firstState wsX3_first := goodIn_r _ [13, 14, 15, 38, 39, 40, 41, 42, 43, 44, 45, 46] (by decide +kernel) (by decide +kernel)
set_option maxRecDepth 20000 in
theorem gX4_firstState_X3_first : GoodIn wsX4_firstState (wsV RX4 158 RX3 yX3_first wsX3_first) := goodIn_app (goodIn_of _ (by decide +kernel)) ggX4_firstState_X3_first
set_option maxRecDepth 20000 in
theorem ggX4_firstState_X4_wordsMask : GoodIn wsX4_firstState wsX4_wordsMask := goodIn_r _ [19, 20] (by decide +kernel) (by decide +kernel)
set_option maxRecDepth 20000 in
theorem gX4_firstState_X4_wordsMask : GoodIn wsX4_firstState (va_wsS RX4 162 yX4_wordsMask wsX4_wordsMask) := goodIn_app (goodIn_of _ (by decide +kernel)) ggX4_firstState_X4_wordsMask
set_option maxRecDepth 20000 in
theorem ggX4_firstState_X0_goodEnd : GoodIn wsX4_firstState wsX0_goodEnd := goodIn_r _ [24, 25, 26, 27, 6, 7, 8, 47, 48, 49, 50, 51, 52, 53] (by decide +kernel) (by decide +kernel)
set_option maxRecDepth 20000 in
theorem gX4_firstState_X0_goodEnd : GoodIn wsX4_firstState (wsV RX4 168 RX0 yX0_goodEnd wsX0_goodEnd) := goodIn_app (goodIn_of _ (by decide +kernel)) ggX4_firstState_X0_goodEnd
theorem dX4_firstState_0 : decode cX4_firstState 0 = .ok (.iload_n 1, 1) := by decide +kernel
theorem dX4_firstState_1 : decode cX4_firstState 1 = .ok (.ifCond .ne 19, 3) := by decide +kernel
theorem dX4_firstState_4 : decode cX4_firstState 4 = .ok (.aload_n 0, 1) := by decide +kernel
theorem dX4_firstState_5 : decode cX4_firstState 5 = .ok (.getfield 44, 3) := by decide +kernel
theorem dX4_firstState_8 : decode cX4_firstState 8 = .ok (.ldc2_w 152, 3) := by decide +kernel
theorem dX4_firstState_11 : decode cX4_firstState 11 = .ok (.iload_n 2, 1) := by decide +kernel
theorem dX4_firstState_12 : decode cX4_firstState 12 = .ok (.iload_n 3, 1) := by decide +kernel
theorem dX4_firstState_13 : decode cX4_firstState 13 = .ok (.invokestatic 154, 3) := by decide +kernel
theorem dX4_firstState_16 : decode cX4_firstState 16 = .ok (.invokevirtual 158, 3) := by decide +kernel
theorem dX4_firstState_19 : decode cX4_firstState 19 = .ok (.ireturn, 1) := by decide +kernel
theorem dX4_firstState_20 : decode cX4_firstState 20 = .ok (.iload_n 3, 1) := by decide +kernel
theorem dX4_firstState_21 : decode cX4_firstState 21 = .ok (.invokestatic 162, 3) := by decide +kernel
theorem dX4_firstState_24 : decode cX4_firstState 24 = .ok (.lstore 4, 2) := by decide +kernel
theorem dX4_firstState_26 : decode cX4_firstState 26 = .ok (.aload_n 0, 1) := by decide +kernel
theorem dX4_firstState_27 : decode cX4_firstState 27 = .ok (.getfield 44, 3) := by decide +kernel
theorem dX4_firstState_30 : decode cX4_firstState 30 = .ok (.ldc2_w 166, 3) := by decide +kernel
theorem dX4_firstState_33 : decode cX4_firstState 33 = .ok (.lload 4, 2) := by decide +kernel
theorem dX4_firstState_35 : decode cX4_firstState 35 = .ok (.lor, 1) := by decide +kernel
theorem dX4_firstState_36 : decode cX4_firstState 36 = .ok (.aload_n 0, 1) := by decide +kernel
theorem dX4_firstState_37 : decode cX4_firstState 37 = .ok (.getfield 37, 3) := by decide +kernel
theorem dX4_firstState_40 : decode cX4_firstState 40 = .ok (.invokevirtual 168, 3) := by decide +kernel
theorem dX4_firstState_43 : decode cX4_firstState 43 = .ok (.iload_n 2, 1) := by decide +kernel
theorem dX4_firstState_44 : decode cX4_firstState 44 = .ok (.i2l, 1) := by decide +kernel
theorem dX4_firstState_45 : decode cX4_firstState 45 = .ok (.lload 4, 2) := by decide +kernel
theorem dX4_firstState_47 : decode cX4_firstState 47 = .ok (.land, 1) := by decide +kernel
theorem dX4_firstState_48 : decode cX4_firstState 48 = .ok (.lor, 1) := by decide +kernel
theorem dX4_firstState_49 : decode cX4_firstState 49 = .ok (.invokevirtual 158, 3) := by decide +kernel
theorem dX4_firstState_52 : decode cX4_firstState 52 = .ok (.ireturn, 1) := by decide +kernel
theorem dX4_wordsMask_0 : decode cX4_wordsMask 0 = .ok (.lconst 0, 1) := by decide +kernel
theorem dX4_wordsMask_1 : decode cX4_wordsMask 1 = .ok (.lstore_n 1, 1) := by decide +kernel
theorem dX4_wordsMask_2 : decode cX4_wordsMask 2 = .ok (.iconst 0, 1) := by decide +kernel
theorem dX4_wordsMask_3 : decode cX4_wordsMask 3 = .ok (.istore_n 3, 1) := by decide +kernel
theorem dX4_wordsMask_4 : decode cX4_wordsMask 4 = .ok (.iload_n 3, 1) := by decide +kernel
theorem dX4_wordsMask_5 : decode cX4_wordsMask 5 = .ok (.iconst 4, 1) := by decide +kernel
theorem dX4_wordsMask_6 : decode cX4_wordsMask 6 = .ok (.if_icmp .ge 27, 3) := by decide +kernel
theorem dX4_wordsMask_9 : decode cX4_wordsMask 9 = .ok (.iload_n 0, 1) := by decide +kernel
theorem dX4_wordsMask_10 : decode cX4_wordsMask 10 = .ok (.iload_n 3, 1) := by decide +kernel
theorem dX4_wordsMask_11 : decode cX4_wordsMask 11 = .ok (.ishr, 1) := by decide +kernel
theorem dX4_wordsMask_12 : decode cX4_wordsMask 12 = .ok (.iconst 1, 1) := by decide +kernel
theorem dX4_wordsMask_13 : decode cX4_wordsMask 13 = .ok (.iand, 1) := by decide +kernel
theorem dX4_wordsMask_14 : decode cX4_wordsMask 14 = .ok (.ifCond .eq 13, 3) := by decide +kernel
theorem dX4_wordsMask_17 : decode cX4_wordsMask 17 = .ok (.lload_n 1, 1) := by decide +kernel
theorem dX4_wordsMask_18 : decode cX4_wordsMask 18 = .ok (.ldc2_w 172, 3) := by decide +kernel
theorem dX4_wordsMask_21 : decode cX4_wordsMask 21 = .ok (.iconst 2, 1) := by decide +kernel
theorem dX4_wordsMask_22 : decode cX4_wordsMask 22 = .ok (.iload_n 3, 1) := by decide +kernel
theorem dX4_wordsMask_23 : decode cX4_wordsMask 23 = .ok (.imul, 1) := by decide +kernel
theorem dX4_wordsMask_24 : decode cX4_wordsMask 24 = .ok (.lshl, 1) := by decide +kernel
theorem dX4_wordsMask_25 : decode cX4_wordsMask 25 = .ok (.lor, 1) := by decide +kernel
theorem dX4_wordsMask_26 : decode cX4_wordsMask 26 = .ok (.lstore_n 1, 1) := by decide +kernel
theorem dX4_wordsMask_27 : decode cX4_wordsMask 27 = .ok (.iinc 3 1, 3) := by decide +kernel
theorem dX4_wordsMask_30 : decode cX4_wordsMask 30 = .ok (.goto (-26), 3) := by decide +kernel
theorem dX4_wordsMask_33 : decode cX4_wordsMask 33 = .ok (.lload_n 1, 1) := by decide +kernel
theorem dX4_wordsMask_34 : decode cX4_wordsMask 34 = .ok (.lreturn, 1) := by decide +kernel
set_option maxRecDepth 20000 in
theorem ggX4_firstStateBehindFence_X1_becomeFenced : GoodIn wsX4_firstStateBehindFence wsX1_becomeFenced := goodIn_r _ [11, 12, 13, 14, 15, 16, 17, 18, 19, 20, 10, 21, 22, 23, 24, 25, 26, 27, 28, 29, 30, 215, 216, 217] (by decide +kernel) (by decide +kernel)
set_option maxRecDepth 20000 in
theorem gX4_firstStateBehindFence_X1_becomeFenced : GoodIn wsX4_firstStateBehindFence (wsV RX4 174 RX1 yX1_becomeFenced wsX1_becomeFenced) := goodIn_app (goodIn_of _ (by decide +kernel)) ggX4_firstStateBehindFence_X1_becomeFenced
set_option maxRecDepth 20000 in
theorem ggX4_firstStateBehindFence_X3_go : GoodIn wsX4_firstStateBehindFence wsX3_go := goodIn_r _ [35, 36, 37, 38, 39, 40, 41, 42, 34, 43, 44, 45, 46, 47, 48, 49, 50, 51, 52, 53, 54, 55, 56, 57, 58, 59, 60, 61, 62, 63, 64, 65, 66, 67, 68, 69, 70, 71, 72, 73, 74, 75, 76, 77, 78, 79, 80, 81, 82, 83, 84, 85, 86, 87, 88, 89, 14, 15, 16, 90, 91, 92, 93, 94, 95, 96, 97, 98, 99, 100, 101, 102, 103, 104, 105, 106, 107, 108, 109, 110, 111, 112, 113, 114, 115, 116, 117, 118, 119, 120, 121, 122, 123, 124, 125, 126, 127, 128, 129, 130, 131, 132, 23, 24, 10, 25, 26, 133, 134, 135, 136, 137, 138, 139, 140, 141, 142, 12, 13, 22, 143, 144, 145, 146, 147, 148, 149, 150, 151, 152, 153, 154, 155, 156, 157, 158, 159, 160, 161, 162, 163, 164, 165, 166, 167, 168, 169, 170, 171, 172, 173, 174, 206, 207, 208, 209, 210, 211, 212, 213, 214, 202, 203, 204, 205, 215, 216, 217] (by decide +kernel) (by decide +kernel)
set_option maxRecDepth 20000 in
theorem gX4_firstStateBehindFence_X3_go : GoodIn wsX4_firstStateBehindFence (wsV RX4 142 RX3 yX3_go wsX3_go) := goodIn_app (goodIn_of _ (by decide +kernel)) ggX4_firstStateBehindFence_X3_go
set_option maxRecDepth 20000 in
theorem ggX4_firstStateBehindFence_X4_firstState : GoodIn wsX4_firstStateBehindFence wsX4_firstState := goodIn_r _ [179, 4, 180, 181, 1, 182, 167, 57, 168, 183, 184, 185, 34, 186, 36, 37, 187, 188, 178, 189, 190, 191, 163, 164, 165, 111, 112, 166, 192, 193, 194, 195, 196, 197, 198, 199, 200, 201, 206, 207, 208, 209, 210, 211, 212, 213, 214, 202, 203, 204, 205, 215, 216, 217] (by decide +kernel) (by decide +kernel)
set_option maxRecDepth 20000 in
theorem gX4_firstStateBehindFence_X4_firstState : GoodIn wsX4_firstStateBehindFence (wsV RX4 124 RX4 yX4_firstState wsX4_firstState) := goodIn_app (goodIn_of _ (by decide +kernel)) ggX4_firstStateBehindFence_X4_firstState
theorem dX4_firstStateBehindFence_0 : decode cX4_firstStateBehindFence 0 = .ok (.aload_n 0, 1) := by decide +kernel
theorem dX4_firstStateBehindFence_1 : decode cX4_firstStateBehindFence 1 = .ok (.getfield 37, 3) := by decide +kernel
theorem dX4_firstStateBehindFence_4 : decode cX4_firstStateBehindFence 4 = .ok (.getfield 74, 3) := by decide +kernel
theorem dX4_firstStateBehindFence_7 : decode cX4_firstStateBehindFence 7 = .ok (.iload_n 1, 1) := by decide +kernel
theorem dX4_firstStateBehindFence_8 : decode cX4_firstStateBehindFence 8 = .ok (.aaload, 1) := by decide +kernel
theorem dX4_firstStateBehindFence_9 : decode cX4_firstStateBehindFence 9 = .ok (.astore 6, 2) := by decide +kernel
theorem dX4_firstStateBehindFence_11 : decode cX4_firstStateBehindFence 11 = .ok (.aload_n 0, 1) := by decide +kernel
theorem dX4_firstStateBehindFence_12 : decode cX4_firstStateBehindFence 12 = .ok (.getfield 31, 3) := by decide +kernel
theorem dX4_firstStateBehindFence_15 : decode cX4_firstStateBehindFence 15 = .ok (.aload 6, 2) := by decide +kernel
theorem dX4_firstStateBehindFence_17 : decode cX4_firstStateBehindFence 17 = .ok (.iload_n 2, 1) := by decide +kernel
theorem dX4_firstStateBehindFence_18 : decode cX4_firstStateBehindFence 18 = .ok (.invokevirtual 174, 3) := by decide +kernel
theorem dX4_firstStateBehindFence_21 : decode cX4_firstStateBehindFence 21 = .ok (.aload_n 0, 1) := by decide +kernel
theorem dX4_firstStateBehindFence_22 : decode cX4_firstStateBehindFence 22 = .ok (.getfield 37, 3) := by decide +kernel
theorem dX4_firstStateBehindFence_25 : decode cX4_firstStateBehindFence 25 = .ok (.getfield 74, 3) := by decide +kernel
theorem dX4_firstStateBehindFence_28 : decode cX4_firstStateBehindFence 28 = .ok (.iload_n 1, 1) := by decide +kernel
theorem dX4_firstStateBehindFence_29 : decode cX4_firstStateBehindFence 29 = .ok (.aload_n 0, 1) := by decide +kernel
theorem dX4_firstStateBehindFence_30 : decode cX4_firstStateBehindFence 30 = .ok (.getfield 31, 3) := by decide +kernel
theorem dX4_firstStateBehindFence_33 : decode cX4_firstStateBehindFence 33 = .ok (.aastore, 1) := by decide +kernel
theorem dX4_firstStateBehindFence_34 : decode cX4_firstStateBehindFence 34 = .ok (.aload_n 0, 1) := by decide +kernel
theorem dX4_firstStateBehindFence_35 : decode cX4_firstStateBehindFence 35 = .ok (.getfield 44, 3) := by decide +kernel
theorem dX4_firstStateBehindFence_38 : decode cX4_firstStateBehindFence 38 = .ok (.aload_n 0, 1) := by decide +kernel
theorem dX4_firstStateBehindFence_39 : decode cX4_firstStateBehindFence 39 = .ok (.getfield 37, 3) := by decide +kernel
theorem dX4_firstStateBehindFence_42 : decode cX4_firstStateBehindFence 42 = .ok (.invokevirtual 142, 3) := by decide +kernel
theorem dX4_firstStateBehindFence_45 : decode cX4_firstStateBehindFence 45 = .ok (.aload_n 0, 1) := by decide +kernel
theorem dX4_firstStateBehindFence_46 : decode cX4_firstStateBehindFence 46 = .ok (.iconst 0, 1) := by decide +kernel
theorem dX4_firstStateBehindFence_47 : decode cX4_firstStateBehindFence 47 = .ok (.putfield 48, 3) := by decide +kernel
theorem dX4_firstStateBehindFence_50 : decode cX4_firstStateBehindFence 50 = .ok (.bipush (-2), 2) := by decide +kernel
theorem dX4_firstStateBehindFence_52 : decode cX4_firstStateBehindFence 52 = .ok (.istore 7, 2) := by decide +kernel
theorem dX4_firstStateBehindFence_54 : decode cX4_firstStateBehindFence 54 = .ok (.aload_n 0, 1) := by decide +kernel
theorem dX4_firstStateBehindFence_55 : decode cX4_firstStateBehindFence 55 = .ok (.getfield 44, 3) := by decide +kernel
theorem dX4_firstStateBehindFence_58 : decode cX4_firstStateBehindFence 58 = .ok (.getfield 146, 3) := by decide +kernel
theorem dX4_firstStateBehindFence_61 : decode cX4_firstStateBehindFence 61 = .ok (.ifCond .eq 21, 3) := by decide +kernel
theorem dX4_firstStateBehindFence_64 : decode cX4_firstStateBehindFence 64 = .ok (.iload_n 3, 1) := by decide +kernel
theorem dX4_firstStateBehindFence_65 : decode cX4_firstStateBehindFence 65 = .ok (.ifCond .eq 17, 3) := by decide +kernel
theorem dX4_firstStateBehindFence_68 : decode cX4_firstStateBehindFence 68 = .ok (.aload_n 0, 1) := by decide +kernel
theorem dX4_firstStateBehindFence_69 : decode cX4_firstStateBehindFence 69 = .ok (.iconst 1, 1) := by decide +kernel
theorem dX4_firstStateBehindFence_70 : decode cX4_firstStateBehindFence 70 = .ok (.iload 4, 2) := by decide +kernel
theorem dX4_firstStateBehindFence_72 : decode cX4_firstStateBehindFence 72 = .ok (.iload 5, 2) := by decide +kernel
theorem dX4_firstStateBehindFence_74 : decode cX4_firstStateBehindFence 74 = .ok (.invokevirtual 124, 3) := by decide +kernel
theorem dX4_firstStateBehindFence_77 : decode cX4_firstStateBehindFence 77 = .ok (.istore 7, 2) := by decide +kernel
theorem dX4_firstStateBehindFence_79 : decode cX4_firstStateBehindFence 79 = .ok (.goto 59, 3) := by decide +kernel
theorem dX4_firstStateBehindFence_82 : decode cX4_firstStateBehindFence 82 = .ok (.aload_n 0, 1) := by decide +kernel
theorem dX4_firstStateBehindFence_83 : decode cX4_firstStateBehindFence 83 = .ok (.getfield 44, 3) := by decide +kernel
theorem dX4_firstStateBehindFence_86 : decode cX4_firstStateBehindFence 86 = .ok (.getfield 146, 3) := by decide +kernel
theorem dX4_firstStateBehindFence_89 : decode cX4_firstStateBehindFence 89 = .ok (.ifCond .eq 49, 3) := by decide +kernel
theorem dX4_firstStateBehindFence_92 : decode cX4_firstStateBehindFence 92 = .ok (.aload_n 0, 1) := by decide +kernel
theorem dX4_firstStateBehindFence_93 : decode cX4_firstStateBehindFence 93 = .ok (.iconst 0, 1) := by decide +kernel
theorem dX4_firstStateBehindFence_94 : decode cX4_firstStateBehindFence 94 = .ok (.iload_n 1, 1) := by decide +kernel
theorem dX4_firstStateBehindFence_95 : decode cX4_firstStateBehindFence 95 = .ok (.ifCond .ne 16, 3) := by decide +kernel
theorem dX4_firstStateBehindFence_98 : decode cX4_firstStateBehindFence 98 = .ok (.iload 4, 2) := by decide +kernel
theorem dX4_firstStateBehindFence_100 : decode cX4_firstStateBehindFence 100 = .ok (.iload_n 2, 1) := by decide +kernel
theorem dX4_firstStateBehindFence_101 : decode cX4_firstStateBehindFence 101 = .ok (.if_icmp .lt 10, 3) := by decide +kernel
theorem dX4_firstStateBehindFence_104 : decode cX4_firstStateBehindFence 104 = .ok (.iload 4, 2) := by decide +kernel
theorem dX4_firstStateBehindFence_106 : decode cX4_firstStateBehindFence 106 = .ok (.iconst 1, 1) := by decide +kernel
theorem dX4_firstStateBehindFence_107 : decode cX4_firstStateBehindFence 107 = .ok (.iadd, 1) := by decide +kernel
theorem dX4_firstStateBehindFence_108 : decode cX4_firstStateBehindFence 108 = .ok (.goto 5, 3) := by decide +kernel
theorem dX4_firstStateBehindFence_111 : decode cX4_firstStateBehindFence 111 = .ok (.iload 4, 2) := by decide +kernel
theorem dX4_firstStateBehindFence_113 : decode cX4_firstStateBehindFence 113 = .ok (.iload_n 1, 1) := by decide +kernel
theorem dX4_firstStateBehindFence_114 : decode cX4_firstStateBehindFence 114 = .ok (.iconst 1, 1) := by decide +kernel
theorem dX4_firstStateBehindFence_115 : decode cX4_firstStateBehindFence 115 = .ok (.if_icmp .ne 16, 3) := by decide +kernel
theorem dX4_firstStateBehindFence_118 : decode cX4_firstStateBehindFence 118 = .ok (.iload 5, 2) := by decide +kernel
theorem dX4_firstStateBehindFence_120 : decode cX4_firstStateBehindFence 120 = .ok (.iload_n 2, 1) := by decide +kernel
theorem dX4_firstStateBehindFence_121 : decode cX4_firstStateBehindFence 121 = .ok (.if_icmp .lt 10, 3) := by decide +kernel
theorem dX4_firstStateBehindFence_124 : decode cX4_firstStateBehindFence 124 = .ok (.iload 5, 2) := by decide +kernel
theorem dX4_firstStateBehindFence_126 : decode cX4_firstStateBehindFence 126 = .ok (.iconst 1, 1) := by decide +kernel
theorem dX4_firstStateBehindFence_127 : decode cX4_firstStateBehindFence 127 = .ok (.iadd, 1) := by decide +kernel
theorem dX4_firstStateBehindFence_128 : decode cX4_firstStateBehindFence 128 = .ok (.goto 5, 3) := by decide +kernel
theorem dX4_firstStateBehindFence_131 : decode cX4_firstStateBehindFence 131 = .ok (.iload 5, 2) := by decide +kernel
theorem dX4_firstStateBehindFence_133 : decode cX4_firstStateBehindFence 133 = .ok (.invokevirtual 124, 3) := by decide +kernel
theorem dX4_firstStateBehindFence_136 : decode cX4_firstStateBehindFence 136 = .ok (.istore 7, 2) := by decide +kernel
theorem dX4_firstStateBehindFence_138 : decode cX4_firstStateBehindFence 138 = .ok (.aload_n 0, 1) := by decide +kernel
theorem dX4_firstStateBehindFence_139 : decode cX4_firstStateBehindFence 139 = .ok (.getfield 37, 3) := by decide +kernel
theorem dX4_firstStateBehindFence_142 : decode cX4_firstStateBehindFence 142 = .ok (.getfield 74, 3) := by decide +kernel
theorem dX4_firstStateBehindFence_145 : decode cX4_firstStateBehindFence 145 = .ok (.iload_n 1, 1) := by decide +kernel
theorem dX4_firstStateBehindFence_146 : decode cX4_firstStateBehindFence 146 = .ok (.aload 6, 2) := by decide +kernel
theorem dX4_firstStateBehindFence_148 : decode cX4_firstStateBehindFence 148 = .ok (.aastore, 1) := by decide +kernel
theorem dX4_firstStateBehindFence_149 : decode cX4_firstStateBehindFence 149 = .ok (.iload 7, 2) := by decide +kernel
theorem dX4_firstStateBehindFence_151 : decode cX4_firstStateBehindFence 151 = .ok (.ireturn, 1) := by decide +kernel
theorem dX5_init_0 : decode cX5_init 0 = .ok (.aload_n 0, 1) := by decide +kernel
theorem dX5_init_1 : decode cX5_init 1 = .ok (.invokespecial 1, 3) := by decide +kernel
theorem dX5_init_4 : decode cX5_init 4 = .ok (.aload_n 0, 1) := by decide +kernel
theorem dX5_init_5 : decode cX5_init 5 = .ok (.iconst 5, 1) := by decide +kernel
theorem dX5_init_6 : decode cX5_init 6 = .ok (.newarray .int, 2) := by decide +kernel
theorem dX5_init_8 : decode cX5_init 8 = .ok (.putfield 7, 3) := by decide +kernel
theorem dX5_init_11 : decode cX5_init 11 = .ok (.aload_n 0, 1) := by decide +kernel
theorem dX5_init_12 : decode cX5_init 12 = .ok (.bipush 40, 2) := by decide +kernel
theorem dX5_init_14 : decode cX5_init 14 = .ok (.newarray .int, 2) := by decide +kernel
theorem dX5_init_16 : decode cX5_init 16 = .ok (.putfield 13, 3) := by decide +kernel
theorem dX5_init_19 : decode cX5_init 19 = .ok (.aload_n 0, 1) := by decide +kernel
theorem dX5_init_20 : decode cX5_init 20 = .ok (.sipush 160, 3) := by decide +kernel
theorem dX5_init_23 : decode cX5_init 23 = .ok (.newarray .int, 2) := by decide +kernel
theorem dX5_init_25 : decode cX5_init 25 = .ok (.putfield 16, 3) := by decide +kernel
theorem dX5_init_28 : decode cX5_init 28 = .ok (.aload_n 0, 1) := by decide +kernel
theorem dX5_init_29 : decode cX5_init 29 = .ok (.iconst 4, 1) := by decide +kernel
theorem dX5_init_30 : decode cX5_init 30 = .ok (.newarray .int, 2) := by decide +kernel
theorem dX5_init_32 : decode cX5_init 32 = .ok (.putfield 19, 3) := by decide +kernel
theorem dX5_init_35 : decode cX5_init 35 = .ok (.aload_n 0, 1) := by decide +kernel
theorem dX5_init_36 : decode cX5_init 36 = .ok (.iconst 4, 1) := by decide +kernel
theorem dX5_init_37 : decode cX5_init 37 = .ok (.newarray .int, 2) := by decide +kernel
theorem dX5_init_39 : decode cX5_init 39 = .ok (.putfield 22, 3) := by decide +kernel
theorem dX5_init_42 : decode cX5_init 42 = .ok (.aload_n 0, 1) := by decide +kernel
theorem dX5_init_43 : decode cX5_init 43 = .ok (.sipush 200, 3) := by decide +kernel
theorem dX5_init_46 : decode cX5_init 46 = .ok (.newarray .int, 2) := by decide +kernel
theorem dX5_init_48 : decode cX5_init 48 = .ok (.putfield 25, 3) := by decide +kernel
theorem dX5_init_51 : decode cX5_init 51 = .ok (.aload_n 0, 1) := by decide +kernel
theorem dX5_init_52 : decode cX5_init 52 = .ok (.iconst (-1), 1) := by decide +kernel
theorem dX5_init_53 : decode cX5_init 53 = .ok (.putfield 28, 3) := by decide +kernel
theorem dX5_init_56 : decode cX5_init 56 = .ok (.aload_n 0, 1) := by decide +kernel
theorem dX5_init_57 : decode cX5_init 57 = .ok (.iconst (-1), 1) := by decide +kernel
theorem dX5_init_58 : decode cX5_init 58 = .ok (.putfield 32, 3) := by decide +kernel
theorem dX5_init_61 : decode cX5_init 61 = .ok (.aload_n 0, 1) := by decide +kernel
theorem dX5_init_62 : decode cX5_init 62 = .ok (.sipush 12001, 3) := by decide +kernel
theorem dX5_init_65 : decode cX5_init 65 = .ok (.newarray .long, 2) := by decide +kernel
theorem dX5_init_67 : decode cX5_init 67 = .ok (.putfield 35, 3) := by decide +kernel
theorem dX5_init_70 : decode cX5_init 70 = .ok (.aload_n 0, 1) := by decide +kernel
theorem dX5_init_71 : decode cX5_init 71 = .ok (.sipush 12001, 3) := by decide +kernel
theorem dX5_init_74 : decode cX5_init 74 = .ok (.newarray .int, 2) := by decide +kernel
theorem dX5_init_76 : decode cX5_init 76 = .ok (.putfield 39, 3) := by decide +kernel
theorem dX5_init_79 : decode cX5_init 79 = .ok (.aload_n 0, 1) := by decide +kernel
theorem dX5_init_80 : decode cX5_init 80 = .ok (.sipush 12001, 3) := by decide +kernel
theorem dX5_init_83 : decode cX5_init 83 = .ok (.newarray .byte, 2) := by decide +kernel
theorem dX5_init_85 : decode cX5_init 85 = .ok (.putfield 42, 3) := by decide +kernel
theorem dX5_init_88 : decode cX5_init 88 = .ok (.aload_n 0, 1) := by decide +kernel
theorem dX5_init_89 : decode cX5_init 89 = .ok (.sipush 12001, 3) := by decide +kernel
theorem dX5_init_92 : decode cX5_init 92 = .ok (.newarray .short, 2) := by decide +kernel
theorem dX5_init_94 : decode cX5_init 94 = .ok (.putfield 46, 3) := by decide +kernel
theorem dX5_init_97 : decode cX5_init 97 = .ok (.aload_n 0, 1) := by decide +kernel
theorem dX5_init_98 : decode cX5_init 98 = .ok (.ldc 50, 2) := by decide +kernel
theorem dX5_init_100 : decode cX5_init 100 = .ok (.newarray .int, 2) := by decide +kernel
theorem dX5_init_102 : decode cX5_init 102 = .ok (.putfield 51, 3) := by decide +kernel
theorem dX5_init_105 : decode cX5_init 105 = .ok (.aload_n 0, 1) := by decide +kernel
theorem dX5_init_106 : decode cX5_init 106 = .ok (.bipush 64, 2) := by decide +kernel
theorem dX5_init_108 : decode cX5_init 108 = .ok (.newarray .int, 2) := by decide +kernel
theorem dX5_init_110 : decode cX5_init 110 = .ok (.putfield 54, 3) := by decide +kernel
theorem dX5_init_113 : decode cX5_init 113 = .ok (.iconst 0, 1) := by decide +kernel
theorem dX5_init_114 : decode cX5_init 114 = .ok (.istore_n 1, 1) := by decide +kernel
theorem dX5_init_115 : decode cX5_init 115 = .ok (.iload_n 1, 1) := by decide +kernel
theorem dX5_init_116 : decode cX5_init 116 = .ok (.iconst 4, 1) := by decide +kernel
theorem dX5_init_117 : decode cX5_init 117 = .ok (.if_icmp .ge 17, 3) := by decide +kernel
theorem dX5_init_120 : decode cX5_init 120 = .ok (.aload_n 0, 1) := by decide +kernel
theorem dX5_init_121 : decode cX5_init 121 = .ok (.getfield 22, 3) := by decide +kernel
theorem dX5_init_124 : decode cX5_init 124 = .ok (.iload_n 1, 1) := by decide +kernel
theorem dX5_init_125 : decode cX5_init 125 = .ok (.bipush 7, 2) := by decide +kernel
theorem dX5_init_127 : decode cX5_init 127 = .ok (.iastore, 1) := by decide +kernel
theorem dX5_init_128 : decode cX5_init 128 = .ok (.iinc 1 1, 3) := by decide +kernel
theorem dX5_init_131 : decode cX5_init 131 = .ok (.goto (-16), 3) := by decide +kernel
theorem dX5_init_134 : decode cX5_init 134 = .ok (.return_, 1) := by decide +kernel
theorem dX5_isIn_0 : decode cX5_isIn 0 = .ok (.iload_n 0, 1) := by decide +kernel
theorem dX5_isIn_1 : decode cX5_isIn 1 = .ok (.iload_n 1, 1) := by decide +kernel
theorem dX5_isIn_2 : decode cX5_isIn 2 = .ok (.if_icmp .lt 12, 3) := by decide +kernel
theorem dX5_isIn_5 : decode cX5_isIn 5 = .ok (.iload_n 0, 1) := by decide +kernel
theorem dX5_isIn_6 : decode cX5_isIn 6 = .ok (.iload_n 2, 1) := by decide +kernel
theorem dX5_isIn_7 : decode cX5_isIn 7 = .ok (.if_icmp .gt 7, 3) := by decide +kernel
theorem dX5_isIn_10 : decode cX5_isIn 10 = .ok (.iconst 1, 1) := by decide +kernel
theorem dX5_isIn_11 : decode cX5_isIn 11 = .ok (.goto 4, 3) := by decide +kernel
theorem dX5_isIn_14 : decode cX5_isIn 14 = .ok (.iconst 0, 1) := by decide +kernel
theorem dX5_isIn_15 : decode cX5_isIn 15 = .ok (.ireturn, 1) := by decide +kernel
theorem dX5_four_0 : decode cX5_four 0 = .ok (.bipush 24, 2) := by decide +kernel
theorem dX5_four_2 : decode cX5_four 2 = .ok (.istore_n 2, 1) := by decide +kernel
theorem dX5_four_3 : decode cX5_four 3 = .ok (.iload_n 2, 1) := by decide +kernel
theorem dX5_four_4 : decode cX5_four 4 = .ok (.ifCond .lt 35, 3) := by decide +kernel
theorem dX5_four_7 : decode cX5_four 7 = .ok (.aload_n 0, 1) := by decide +kernel
theorem dX5_four_8 : decode cX5_four 8 = .ok (.getfield 25, 3) := by decide +kernel
theorem dX5_four_11 : decode cX5_four 11 = .ok (.aload_n 0, 1) := by decide +kernel
theorem dX5_four_12 : decode cX5_four 12 = .ok (.getfield 57, 3) := by decide +kernel
theorem dX5_four_15 : decode cX5_four 15 = .ok (.iload_n 1, 1) := by decide +kernel
theorem dX5_four_16 : decode cX5_four 16 = .ok (.iload_n 2, 1) := by decide +kernel
theorem dX5_four_17 : decode cX5_four 17 = .ok (.ishr, 1) := by decide +kernel
theorem dX5_four_18 : decode cX5_four 18 = .ok (.sipush 255, 3) := by decide +kernel
theorem dX5_four_21 : decode cX5_four 21 = .ok (.iand, 1) := by decide +kernel
theorem dX5_four_22 : decode cX5_four 22 = .ok (.iastore, 1) := by decide +kernel
theorem dX5_four_23 : decode cX5_four 23 = .ok (.aload_n 0, 1) := by decide +kernel
theorem dX5_four_24 : decode cX5_four 24 = .ok (.dup, 1) := by decide +kernel
theorem dX5_four_25 : decode cX5_four 25 = .ok (.getfield 57, 3) := by decide +kernel
theorem dX5_four_28 : decode cX5_four 28 = .ok (.iconst 1, 1) := by decide +kernel
theorem dX5_four_29 : decode cX5_four 29 = .ok (.iadd, 1) := by decide +kernel
theorem dX5_four_30 : decode cX5_four 30 = .ok (.putfield 57, 3) := by decide +kernel
theorem dX5_four_33 : decode cX5_four 33 = .ok (.iinc 2 (-8), 3) := by decide +kernel
theorem dX5_four_36 : decode cX5_four 36 = .ok (.goto (-33), 3) := by decide +kernel
theorem dX5_four_39 : decode cX5_four 39 = .ok (.return_, 1) := by decide +kernel
set_option maxRecDepth 20000 in
theorem ggX5_feed_X5_four : GoodIn wsX5_feed wsX5_four := goodIn_r _ [6, 7, 1, 8, 9, 10, 11, 12, 13, 14, 15, 16, 17, 18, 19, 20, 21, 22, 23, 24, 25, 26, 27, 28, 29, 30] (by decide +kernel) (by decide +kernel)
set_option maxRecDepth 20000 in
theorem gX5_feed_X5_four : GoodIn wsX5_feed (wsV RX5 60 RX5 yX5_four wsX5_four) := goodIn_app (goodIn_of _ (by decide +kernel)) ggX5_feed_X5_four
theorem dX5_feed_0 : decode cX5_feed 0 = .ok (.aload_n 0, 1) := by decide +kernel
theorem dX5_feed_1 : decode cX5_feed 1 = .ok (.getfield 57, 3) := by decide +kernel
theorem dX5_feed_4 : decode cX5_feed 4 = .ok (.bipush 20, 2) := by decide +kernel
theorem dX5_feed_6 : decode cX5_feed 6 = .ok (.iadd, 1) := by decide +kernel
theorem dX5_feed_7 : decode cX5_feed 7 = .ok (.sipush 200, 3) := by decide +kernel
theorem dX5_feed_10 : decode cX5_feed 10 = .ok (.if_icmp .le 5, 3) := by decide +kernel
theorem dX5_feed_13 : decode cX5_feed 13 = .ok (.iconst (-1), 1) := by decide +kernel
theorem dX5_feed_14 : decode cX5_feed 14 = .ok (.ireturn, 1) := by decide +kernel
theorem dX5_feed_15 : decode cX5_feed 15 = .ok (.aload_n 0, 1) := by decide +kernel
theorem dX5_feed_16 : decode cX5_feed 16 = .ok (.iload_n 1, 1) := by decide +kernel
theorem dX5_feed_17 : decode cX5_feed 17 = .ok (.invokevirtual 60, 3) := by decide +kernel
theorem dX5_feed_20 : decode cX5_feed 20 = .ok (.aload_n 0, 1) := by decide +kernel
