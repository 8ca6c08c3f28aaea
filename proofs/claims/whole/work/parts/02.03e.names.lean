theorem dX4_program_74 : decode cX4_program 74 = .ok (.aload_n 0, 1) := by decide +kernel
theorem dX4_program_75 : decode cX4_program 75 = .ok (.iconst 0, 1) := by decide +kernel
theorem dX4_program_76 : decode cX4_program 76 = .ok (.putfield 48, 3) := by decide +kernel
theorem dX4_program_79 : decode cX4_program 79 = .ok (.aload_n 0, 1) := by decide +kernel
theorem dX4_program_80 : decode cX4_program 80 = .ok (.getfield 37, 3) := by decide +kernel
theorem dX4_program_83 : decode cX4_program 83 = .ok (.getfield 74, 3) := by decide +kernel
theorem dX4_program_86 : decode cX4_program 86 = .ok (.iload_n 1, 1) := by decide +kernel
theorem dX4_program_87 : decode cX4_program 87 = .ok (.aaload, 1) := by decide +kernel
theorem dX4_program_88 : decode cX4_program 88 = .ok (.getfield 78, 3) := by decide +kernel
theorem dX4_program_91 : decode cX4_program 91 = .ok (.ireturn, 1) := by decide +kernel
theorem dX4_fault_0 : decode cX4_fault 0 = .ok (.iload_n 1, 1) := by decide +kernel
theorem dX4_fault_1 : decode cX4_fault 1 = .ok (.ifCond .ne 11, 3) := by decide +kernel
theorem dX4_fault_4 : decode cX4_fault 4 = .ok (.aload_n 0, 1) := by decide +kernel
theorem dX4_fault_5 : decode cX4_fault 5 = .ok (.getfield 20, 3) := by decide +kernel
theorem dX4_fault_8 : decode cX4_fault 8 = .ok (.getfield 71, 3) := by decide +kernel
theorem dX4_fault_11 : decode cX4_fault 11 = .ok (.ireturn, 1) := by decide +kernel
theorem dX4_fault_12 : decode cX4_fault 12 = .ok (.iload_n 1, 1) := by decide +kernel
theorem dX4_fault_13 : decode cX4_fault 13 = .ok (.iconst 1, 1) := by decide +kernel
theorem dX4_fault_14 : decode cX4_fault 14 = .ok (.if_icmp .ne 13, 3) := by decide +kernel
theorem dX4_fault_17 : decode cX4_fault 17 = .ok (.aload_n 0, 1) := by decide +kernel
theorem dX4_fault_18 : decode cX4_fault 18 = .ok (.getfield 20, 3) := by decide +kernel
theorem dX4_fault_21 : decode cX4_fault 21 = .ok (.getfield 81, 3) := by decide +kernel
theorem dX4_fault_24 : decode cX4_fault 24 = .ok (.goto 4, 3) := by decide +kernel
theorem dX4_fault_27 : decode cX4_fault 27 = .ok (.iconst (-1), 1) := by decide +kernel
theorem dX4_fault_28 : decode cX4_fault 28 = .ok (.ireturn, 1) := by decide +kernel
theorem dX4_word_0 : decode cX4_word 0 = .ok (.iload_n 1, 1) := by decide +kernel
theorem dX4_word_1 : decode cX4_word 1 = .ok (.ifCond .lt 27, 3) := by decide +kernel
theorem dX4_word_4 : decode cX4_word 4 = .ok (.iload_n 1, 1) := by decide +kernel
theorem dX4_word_5 : decode cX4_word 5 = .ok (.iconst 4, 1) := by decide +kernel
theorem dX4_word_6 : decode cX4_word 6 = .ok (.if_icmp .ge 22, 3) := by decide +kernel
theorem dX4_word_9 : decode cX4_word 9 = .ok (.iload_n 2, 1) := by decide +kernel
theorem dX4_word_10 : decode cX4_word 10 = .ok (.ifCond .lt 18, 3) := by decide +kernel
theorem dX4_word_13 : decode cX4_word 13 = .ok (.iload_n 2, 1) := by decide +kernel
theorem dX4_word_14 : decode cX4_word 14 = .ok (.iconst 4, 1) := by decide +kernel
theorem dX4_word_15 : decode cX4_word 15 = .ok (.if_icmp .ge 13, 3) := by decide +kernel
theorem dX4_word_18 : decode cX4_word 18 = .ok (.iload_n 3, 1) := by decide +kernel
theorem dX4_word_19 : decode cX4_word 19 = .ok (.ifCond .lt 9, 3) := by decide +kernel
theorem dX4_word_22 : decode cX4_word 22 = .ok (.iload_n 3, 1) := by decide +kernel
theorem dX4_word_23 : decode cX4_word 23 = .ok (.bipush 7, 2) := by decide +kernel
theorem dX4_word_25 : decode cX4_word 25 = .ok (.if_icmp .le 5, 3) := by decide +kernel
theorem dX4_word_28 : decode cX4_word 28 = .ok (.iconst 0, 1) := by decide +kernel
theorem dX4_word_29 : decode cX4_word 29 = .ok (.ireturn, 1) := by decide +kernel
theorem dX4_word_30 : decode cX4_word 30 = .ok (.aload_n 0, 1) := by decide +kernel
theorem dX4_word_31 : decode cX4_word 31 = .ok (.getfield 37, 3) := by decide +kernel
theorem dX4_word_34 : decode cX4_word 34 = .ok (.getfield 84, 3) := by decide +kernel
theorem dX4_word_37 : decode cX4_word 37 = .ok (.iload_n 1, 1) := by decide +kernel
theorem dX4_word_38 : decode cX4_word 38 = .ok (.iload_n 2, 1) := by decide +kernel
theorem dX4_word_39 : decode cX4_word 39 = .ok (.iastore, 1) := by decide +kernel
theorem dX4_word_40 : decode cX4_word 40 = .ok (.aload_n 0, 1) := by decide +kernel
theorem dX4_word_41 : decode cX4_word 41 = .ok (.getfield 37, 3) := by decide +kernel
theorem dX4_word_44 : decode cX4_word 44 = .ok (.getfield 87, 3) := by decide +kernel
theorem dX4_word_47 : decode cX4_word 47 = .ok (.iload_n 1, 1) := by decide +kernel
theorem dX4_word_48 : decode cX4_word 48 = .ok (.iload_n 3, 1) := by decide +kernel
theorem dX4_word_49 : decode cX4_word 49 = .ok (.iastore, 1) := by decide +kernel
theorem dX4_word_50 : decode cX4_word 50 = .ok (.aload_n 0, 1) := by decide +kernel
theorem dX4_word_51 : decode cX4_word 51 = .ok (.iconst 0, 1) := by decide +kernel
theorem dX4_word_52 : decode cX4_word 52 = .ok (.putfield 48, 3) := by decide +kernel
theorem dX4_word_55 : decode cX4_word 55 = .ok (.iconst 1, 1) := by decide +kernel
theorem dX4_word_56 : decode cX4_word 56 = .ok (.ireturn, 1) := by decide +kernel
theorem dX4_falls_0 : decode cX4_falls 0 = .ok (.aload_n 0, 1) := by decide +kernel
theorem dX4_falls_1 : decode cX4_falls 1 = .ok (.getfield 37, 3) := by decide +kernel
theorem dX4_falls_4 : decode cX4_falls 4 = .ok (.iload_n 1, 1) := by decide +kernel
theorem dX4_falls_5 : decode cX4_falls 5 = .ok (.putfield 90, 3) := by decide +kernel
theorem dX4_falls_8 : decode cX4_falls 8 = .ok (.aload_n 0, 1) := by decide +kernel
theorem dX4_falls_9 : decode cX4_falls 9 = .ok (.iconst 0, 1) := by decide +kernel
theorem dX4_falls_10 : decode cX4_falls 10 = .ok (.putfield 48, 3) := by decide +kernel
theorem dX4_falls_13 : decode cX4_falls 13 = .ok (.return_, 1) := by decide +kernel
set_option maxRecDepth 20000 in
theorem ggX4_walk_X4_isTold : GoodIn wsX4_walk wsX4_isTold := goodIn_r _ [7, 8, 1, 9, 10, 11, 12, 13, 14, 15, 16, 17, 18, 19, 20, 21, 22, 23, 24, 25, 26, 27, 28, 29, 30, 31, 32, 33, 34, 35, 36, 37, 38, 39, 40, 41, 42, 43, 44, 45, 46, 47, 48, 49, 50, 51, 52, 53, 54, 55, 56, 57, 58, 59, 60, 61, 62, 63, 64, 65, 66, 67, 68, 69, 70, 71, 72, 73, 74, 75, 76, 77, 78, 79, 80, 81, 82, 83, 84, 85, 86, 87, 88, 89, 90, 91, 92, 93, 94, 95, 96, 97, 98, 99, 100, 101, 102, 103, 104, 105, 106, 107, 108, 109, 110, 111, 112, 113, 114, 115, 116, 117, 118, 119, 120, 121, 122, 123, 124, 125, 126, 127, 128, 129, 130, 131, 132, 133, 134, 135, 136, 137, 138, 139, 140, 141, 142, 143, 144, 145, 146, 147, 148, 149, 150, 151, 152, 153, 154, 155, 156, 157, 158, 159, 160, 161, 162, 163, 164, 165, 166, 167, 168, 169, 170, 171, 172, 173, 174, 175, 176, 177, 178, 179, 180, 181, 182, 183, 184, 185, 186, 187, 188, 189, 190, 191] (by decide +kernel) (by decide +kernel)
set_option maxRecDepth 20000 in
theorem gX4_walk_X4_isTold : GoodIn wsX4_walk (wsV RX4 93 RX4 yX4_isTold wsX4_isTold) := goodIn_app (goodIn_of _ (by decide +kernel)) ggX4_walk_X4_isTold
theorem dX4_walk_0 : decode cX4_walk 0 = .ok (.aload_n 0, 1) := by decide +kernel
theorem dX4_walk_1 : decode cX4_walk 1 = .ok (.invokevirtual 93, 3) := by decide +kernel
theorem dX4_walk_4 : decode cX4_walk 4 = .ok (.ifCond .eq 13, 3) := by decide +kernel
theorem dX4_walk_7 : decode cX4_walk 7 = .ok (.aload_n 0, 1) := by decide +kernel
theorem dX4_walk_8 : decode cX4_walk 8 = .ok (.getfield 44, 3) := by decide +kernel
theorem dX4_walk_11 : decode cX4_walk 11 = .ok (.getfield 97, 3) := by decide +kernel
theorem dX4_walk_14 : decode cX4_walk 14 = .ok (.goto 5, 3) := by decide +kernel
theorem dX4_walk_17 : decode cX4_walk 17 = .ok (.bipush (-2), 2) := by decide +kernel
theorem dX4_walk_19 : decode cX4_walk 19 = .ok (.ireturn, 1) := by decide +kernel
set_option maxRecDepth 20000 in
theorem ggX4_ends_X4_isTold : GoodIn wsX4_ends wsX4_isTold := goodIn_r _ [9, 10, 1, 11, 12, 13, 14, 15, 16, 17, 18, 19, 20, 21, 22, 23, 24, 25, 26, 27, 28, 29, 30, 31, 32, 33, 34, 35, 36, 37, 38, 39, 40, 41, 42, 43, 44, 45, 46, 47, 48, 49, 50, 51, 52, 53, 54, 55, 56, 57, 58, 59, 60, 61, 62, 63, 64, 65, 66, 67, 68, 69, 70, 71, 72, 73, 74, 75, 76, 77, 78, 79, 80, 81, 82, 83, 84, 85, 86, 87, 88, 89, 90, 91, 92, 93, 94, 95, 96, 97, 98, 99, 100, 101, 102, 103, 104, 105, 106, 107, 108, 109, 110, 111, 112, 113, 114, 115, 116, 117, 118, 119, 120, 121, 122, 123, 124, 125, 126, 127, 128, 129, 130, 131, 132, 133, 134, 135, 136, 137, 138, 139, 140, 141, 142, 143, 144, 145, 146, 147, 148, 149, 150, 151, 152, 153, 154, 155, 156, 157, 158, 159, 160, 161, 162, 163, 164, 165, 166, 167, 176, 177, 178, 179, 180, 181, 182, 183, 184, 185, 186, 187, 188, 189, 190, 191, 192, 193, 194, 195, 196, 197, 198, 199, 200, 201] (by decide +kernel) (by decide +kernel)
set_option maxRecDepth 20000 in
theorem gX4_ends_X4_isTold : GoodIn wsX4_ends (wsV RX4 93 RX4 yX4_isTold wsX4_isTold) := goodIn_app (goodIn_of _ (by decide +kernel)) ggX4_ends_X4_isTold
set_option maxRecDepth 20000 in
theorem ggX4_ends_X3_mostSteps : GoodIn wsX4_ends wsX3_mostSteps := goodIn_r _ [171, 18, 172, 173, 174, 16, 175, 46, 186, 187, 188, 189, 190, 191, 192, 193, 194] (by decide +kernel) (by decide +kernel)
set_option maxRecDepth 20000 in
theorem gX4_ends_X3_mostSteps : GoodIn wsX4_ends (wsV RX4 109 RX3 yX3_mostSteps wsX3_mostSteps) := goodIn_app (goodIn_of _ (by decide +kernel)) ggX4_ends_X3_mostSteps
theorem dX4_ends_0 : decode cX4_ends 0 = .ok (.iload_n 1, 1) := by decide +kernel
theorem dX4_ends_1 : decode cX4_ends 1 = .ok (.ifCond .lt 8, 3) := by decide +kernel
theorem dX4_ends_4 : decode cX4_ends 4 = .ok (.iload_n 1, 1) := by decide +kernel
theorem dX4_ends_5 : decode cX4_ends 5 = .ok (.iconst 3, 1) := by decide +kernel
theorem dX4_ends_6 : decode cX4_ends 6 = .ok (.if_icmp .le 5, 3) := by decide +kernel
theorem dX4_ends_9 : decode cX4_ends 9 = .ok (.iconst (-1), 1) := by decide +kernel
theorem dX4_ends_10 : decode cX4_ends 10 = .ok (.ireturn, 1) := by decide +kernel
theorem dX4_ends_11 : decode cX4_ends 11 = .ok (.aload_n 0, 1) := by decide +kernel
theorem dX4_ends_12 : decode cX4_ends 12 = .ok (.invokevirtual 93, 3) := by decide +kernel
theorem dX4_ends_15 : decode cX4_ends 15 = .ok (.ifCond .ne 6, 3) := by decide +kernel
theorem dX4_ends_18 : decode cX4_ends 18 = .ok (.bipush (-2), 2) := by decide +kernel
theorem dX4_ends_20 : decode cX4_ends 20 = .ok (.ireturn, 1) := by decide +kernel
theorem dX4_ends_21 : decode cX4_ends 21 = .ok (.iload_n 1, 1) := by decide +kernel
theorem dX4_ends_22 : decode cX4_ends 22 = .ok (.tableswitch 50 0 2 #[26, 34, 42], 26) := by decide +kernel
theorem dX4_ends_48 : decode cX4_ends 48 = .ok (.aload_n 0, 1) := by decide +kernel
theorem dX4_ends_49 : decode cX4_ends 49 = .ok (.getfield 44, 3) := by decide +kernel
theorem dX4_ends_52 : decode cX4_ends 52 = .ok (.getfield 100, 3) := by decide +kernel
theorem dX4_ends_55 : decode cX4_ends 55 = .ok (.ireturn, 1) := by decide +kernel
theorem dX4_ends_56 : decode cX4_ends 56 = .ok (.aload_n 0, 1) := by decide +kernel
theorem dX4_ends_57 : decode cX4_ends 57 = .ok (.getfield 44, 3) := by decide +kernel
theorem dX4_ends_60 : decode cX4_ends 60 = .ok (.getfield 103, 3) := by decide +kernel
theorem dX4_ends_63 : decode cX4_ends 63 = .ok (.ireturn, 1) := by decide +kernel
theorem dX4_ends_64 : decode cX4_ends 64 = .ok (.aload_n 0, 1) := by decide +kernel
theorem dX4_ends_65 : decode cX4_ends 65 = .ok (.getfield 44, 3) := by decide +kernel
theorem dX4_ends_68 : decode cX4_ends 68 = .ok (.getfield 106, 3) := by decide +kernel
theorem dX4_ends_71 : decode cX4_ends 71 = .ok (.ireturn, 1) := by decide +kernel
theorem dX4_ends_72 : decode cX4_ends 72 = .ok (.aload_n 0, 1) := by decide +kernel
theorem dX4_ends_73 : decode cX4_ends 73 = .ok (.getfield 44, 3) := by decide +kernel
theorem dX4_ends_76 : decode cX4_ends 76 = .ok (.invokevirtual 109, 3) := by decide +kernel
theorem dX4_ends_79 : decode cX4_ends 79 = .ok (.ireturn, 1) := by decide +kernel
set_option maxRecDepth 20000 in
theorem ggX4_both_X4_arePlaces : GoodIn wsX4_both wsX4_arePlaces := goodIn_r _ [5, 6, 7, 8, 202, 203, 204, 205, 206, 207, 208, 209, 210, 211, 212, 213, 214, 215, 216, 217, 218] (by decide +kernel) (by decide +kernel)
set_option maxRecDepth 20000 in
theorem gX4_both_X4_arePlaces : GoodIn wsX4_both (wsV RX4 113 RX4 yX4_arePlaces wsX4_arePlaces) := goodIn_app (goodIn_of _ (by decide +kernel)) ggX4_both_X4_arePlaces
set_option maxRecDepth 20000 in
theorem ggX4_both_X4_fewestSteps : GoodIn wsX4_both wsX4_fewestSteps := goodIn_r _ [12, 13, 14, 15, 16, 17, 18, 4, 19, 20, 6, 21, 22, 23, 24, 25, 26, 27, 28, 29, 30, 31, 32, 33, 34, 35, 36, 37, 38, 39, 40, 41, 42, 43, 44, 45, 46, 47, 48, 49, 50, 51, 52, 53, 54, 55, 56, 57, 58, 59, 60, 61, 62, 63, 64, 65, 66, 67, 68, 69, 70, 71, 72, 73, 74, 75, 76, 77, 78, 79, 80, 81, 82, 83, 84, 85, 86, 87, 88, 89, 90, 91, 92, 93, 94, 95, 96, 97, 98, 99, 100, 101, 102, 103, 104, 105, 106, 107, 108, 109, 110, 111, 112, 113, 114, 115, 116, 117, 118, 119, 120, 121, 122, 123, 124, 125, 126, 127, 128, 129, 130, 131, 132, 133, 134, 135, 136, 137, 138, 139, 140, 141, 142, 143, 144, 145, 146, 147, 148, 149, 150, 151, 152, 153, 154, 155, 156, 157, 158, 159, 160, 161, 162, 163, 164, 165, 166, 167, 168, 169, 170, 171, 172, 173, 174, 175, 176, 177, 178, 179, 180, 181, 182, 183, 184, 185, 186, 187, 188, 189, 190, 191, 192, 193, 194, 195, 196, 197, 198, 199, 200, 201, 202, 203, 204, 205, 206, 207, 208, 209, 210, 211, 219, 220, 221, 222, 223, 224, 225, 226, 227, 212, 213, 214, 215, 216, 217, 218] (by decide +kernel) (by decide +kernel)
set_option maxRecDepth 20000 in
theorem gX4_both_X4_fewestSteps : GoodIn wsX4_both (wsV RX4 117 RX4 yX4_fewestSteps wsX4_fewestSteps) := goodIn_app (goodIn_of _ (by decide +kernel)) ggX4_both_X4_fewestSteps
theorem dX4_both_0 : decode cX4_both 0 = .ok (.aload_n 0, 1) := by decide +kernel
theorem dX4_both_1 : decode cX4_both 1 = .ok (.iload_n 1, 1) := by decide +kernel
theorem dX4_both_2 : decode cX4_both 2 = .ok (.iload_n 2, 1) := by decide +kernel
theorem dX4_both_3 : decode cX4_both 3 = .ok (.invokevirtual 113, 3) := by decide +kernel
theorem dX4_both_6 : decode cX4_both 6 = .ok (.ifCond .eq 13, 3) := by decide +kernel
theorem dX4_both_9 : decode cX4_both 9 = .ok (.aload_n 0, 1) := by decide +kernel
theorem dX4_both_10 : decode cX4_both 10 = .ok (.iconst 0, 1) := by decide +kernel
theorem dX4_both_11 : decode cX4_both 11 = .ok (.iload_n 1, 1) := by decide +kernel
theorem dX4_both_12 : decode cX4_both 12 = .ok (.iload_n 2, 1) := by decide +kernel
theorem dX4_both_13 : decode cX4_both 13 = .ok (.invokevirtual 117, 3) := by decide +kernel
theorem dX4_both_16 : decode cX4_both 16 = .ok (.goto 4, 3) := by decide +kernel
theorem dX4_both_19 : decode cX4_both 19 = .ok (.iconst (-1), 1) := by decide +kernel
theorem dX4_both_20 : decode cX4_both 20 = .ok (.ireturn, 1) := by decide +kernel
set_option maxRecDepth 20000 in
theorem ggX4_outcome_X4_isOutcome : GoodIn wsX4_outcome wsX4_isOutcome := goodIn_r _ [4] (by decide +kernel) (by decide +kernel)
set_option maxRecDepth 20000 in
theorem gX4_outcome_X4_isOutcome : GoodIn wsX4_outcome (va_wsS RX4 121 yX4_isOutcome wsX4_isOutcome) := goodIn_app (goodIn_of _ (by decide +kernel)) ggX4_outcome_X4_isOutcome
set_option maxRecDepth 20000 in
theorem ggX4_outcome_X4_fewestSteps : GoodIn wsX4_outcome wsX4_fewestSteps := goodIn_r _ [8, 9, 10, 11, 12, 13, 14, 3, 15, 16, 17, 18, 19, 20, 21, 22, 23, 24, 25, 26, 27, 28, 29, 30, 31, 32, 33, 34, 35, 36, 37, 38, 39, 40, 41, 42, 43, 44, 45, 46, 47, 48, 49, 50, 51, 52, 53, 54, 55, 56, 57, 58, 59, 60, 61, 62, 63, 64, 65, 66, 67, 68, 69, 70, 71, 72, 73, 74, 75, 76, 77, 78, 79, 80, 81, 82, 83, 84, 85, 86, 87, 88, 89, 90, 91, 92, 93, 94, 95, 96, 97, 98, 99, 100, 101, 102, 103, 104, 105, 106, 107, 108, 109, 110, 111, 112, 113, 114, 115, 116, 117, 118, 119, 120, 121, 122, 123, 124, 125, 126, 127, 128, 129, 130, 131, 132, 133, 134, 135, 136, 137, 138, 139, 140, 141, 142, 143, 144, 145, 146, 147, 148, 149, 150, 151, 152, 153, 154, 155, 156, 157, 158, 159, 160, 161, 162, 163, 164, 165, 166, 167, 168, 169, 170, 171, 172, 173, 174, 175, 176, 177, 178, 179, 180, 181, 182, 183, 184, 185, 186, 187, 188, 189, 190, 191, 192, 193, 194, 195, 196, 197, 198, 199, 200, 201, 202, 203, 204, 205, 206, 207, 208, 209, 210, 211, 212, 213, 214, 215, 216, 217, 218, 219, 220, 221, 222, 223, 224] (by decide +kernel) (by decide +kernel)
set_option maxRecDepth 20000 in
theorem gX4_outcome_X4_fewestSteps : GoodIn wsX4_outcome (wsV RX4 117 RX4 yX4_fewestSteps wsX4_fewestSteps) := goodIn_app (goodIn_of _ (by decide +kernel)) ggX4_outcome_X4_fewestSteps
theorem dX4_outcome_0 : decode cX4_outcome 0 = .ok (.iload_n 1, 1) := by decide +kernel
theorem dX4_outcome_1 : decode cX4_outcome 1 = .ok (.iload_n 2, 1) := by decide +kernel
theorem dX4_outcome_2 : decode cX4_outcome 2 = .ok (.invokestatic 121, 3) := by decide +kernel
theorem dX4_outcome_5 : decode cX4_outcome 5 = .ok (.ifCond .eq 13, 3) := by decide +kernel
theorem dX4_outcome_8 : decode cX4_outcome 8 = .ok (.aload_n 0, 1) := by decide +kernel
theorem dX4_outcome_9 : decode cX4_outcome 9 = .ok (.iconst 1, 1) := by decide +kernel
theorem dX4_outcome_10 : decode cX4_outcome 10 = .ok (.iload_n 1, 1) := by decide +kernel
theorem dX4_outcome_11 : decode cX4_outcome 11 = .ok (.iload_n 2, 1) := by decide +kernel
theorem dX4_outcome_12 : decode cX4_outcome 12 = .ok (.invokevirtual 117, 3) := by decide +kernel
theorem dX4_outcome_15 : decode cX4_outcome 15 = .ok (.goto 4, 3) := by decide +kernel
theorem dX4_outcome_18 : decode cX4_outcome 18 = .ok (.iconst (-1), 1) := by decide +kernel
theorem dX4_outcome_19 : decode cX4_outcome 19 = .ok (.ireturn, 1) := by decide +kernel
theorem dX4_step_0 : decode cX4_step 0 = .ok (.iload_n 1, 1) := by decide +kernel
theorem dX4_step_1 : decode cX4_step 1 = .ok (.ifCond .lt 26, 3) := by decide +kernel
theorem dX4_step_4 : decode cX4_step 4 = .ok (.iload_n 1, 1) := by decide +kernel
theorem dX4_step_5 : decode cX4_step 5 = .ok (.aload_n 0, 1) := by decide +kernel
theorem dX4_step_6 : decode cX4_step 6 = .ok (.getfield 56, 3) := by decide +kernel
theorem dX4_step_9 : decode cX4_step 9 = .ok (.if_icmp .ge 18, 3) := by decide +kernel
theorem dX4_step_12 : decode cX4_step 12 = .ok (.iload_n 1, 1) := by decide +kernel
theorem dX4_step_13 : decode cX4_step 13 = .ok (.bipush 32, 2) := by decide +kernel
theorem dX4_step_15 : decode cX4_step 15 = .ok (.if_icmp .ge 12, 3) := by decide +kernel
theorem dX4_step_18 : decode cX4_step 18 = .ok (.aload_n 0, 1) := by decide +kernel
theorem dX4_step_19 : decode cX4_step 19 = .ok (.getfield 52, 3) := by decide +kernel
theorem dX4_step_22 : decode cX4_step 22 = .ok (.iload_n 1, 1) := by decide +kernel
theorem dX4_step_23 : decode cX4_step 23 = .ok (.iaload, 1) := by decide +kernel
theorem dX4_step_24 : decode cX4_step 24 = .ok (.goto 4, 3) := by decide +kernel
theorem dX4_step_27 : decode cX4_step 27 = .ok (.iconst (-1), 1) := by decide +kernel
theorem dX4_step_28 : decode cX4_step 28 = .ok (.ireturn, 1) := by decide +kernel
set_option maxRecDepth 20000 in
theorem ggX4_missing_X4_isOutcome : GoodIn wsX4_missing wsX4_isOutcome := goodIn_r _ [7] (by decide +kernel) (by decide +kernel)
set_option maxRecDepth 20000 in
theorem gX4_missing_X4_isOutcome : GoodIn wsX4_missing (va_wsS RX4 121 yX4_isOutcome wsX4_isOutcome) := goodIn_app (goodIn_of _ (by decide +kernel)) ggX4_missing_X4_isOutcome
set_option maxRecDepth 20000 in
theorem ggX4_missing_X4_arePlaces : GoodIn wsX4_missing wsX4_arePlaces := goodIn_r _ [11, 1, 2, 3, 208, 209, 210, 211, 212, 213, 214, 215, 216, 217, 218, 219, 220, 221, 222, 223, 224] (by decide +kernel) (by decide +kernel)
set_option maxRecDepth 20000 in
theorem gX4_missing_X4_arePlaces : GoodIn wsX4_missing (wsV RX4 113 RX4 yX4_arePlaces wsX4_arePlaces) := goodIn_app (goodIn_of _ (by decide +kernel)) ggX4_missing_X4_arePlaces
set_option maxRecDepth 20000 in
theorem ggX4_missing_X4_isTold : GoodIn wsX4_missing wsX4_isTold := goodIn_r _ [15, 16, 17, 1, 18, 19, 20, 21, 22, 23, 24, 25, 26, 27, 28, 29, 30, 31, 32, 33, 34, 35, 36, 37, 38, 39, 40, 41, 42, 43, 44, 45, 46, 47, 48, 49, 50, 51, 52, 53, 54, 55, 56, 57, 58, 59, 60, 61, 62, 63, 64, 65, 66, 67, 68, 69, 70, 71, 72, 73, 74, 75, 76, 77, 78, 79, 80, 81, 82, 83, 84, 85, 86, 87, 88, 89, 90, 91, 92, 93, 94, 95, 96, 97, 98, 99, 100, 101, 102, 103, 104, 105, 106, 107, 108, 109, 110, 111, 112, 113, 114, 115, 116, 117, 118, 119, 120, 121, 122, 123, 124, 125, 126, 127, 128, 129, 130, 131, 132, 133, 134, 135, 136, 137, 138, 139, 140, 141, 142, 143, 144, 145, 146, 147, 148, 149, 150, 151, 152, 153, 154, 155, 156, 157, 158, 159, 160, 161, 162, 163, 164, 165, 166, 167, 168, 169, 170, 171, 172, 173, 208, 209, 210, 211, 212, 213, 214, 215, 216, 217, 225, 226, 227, 228, 229, 230, 231, 232, 233, 218, 219, 220, 221, 222, 223, 224] (by decide +kernel) (by decide +kernel)
