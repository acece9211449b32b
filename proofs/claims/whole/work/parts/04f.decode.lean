theorem d_Te_takeAmount_65 : decode b_Te_takeAmount 65 = .ok (.iload_n 1, 1) := by decide +kernel
theorem d_Te_takeAmount_66 : decode b_Te_takeAmount 66 = .ok (.isub, 1) := by decide +kernel
theorem d_Te_takeAmount_67 : decode b_Te_takeAmount 67 = .ok (.istore_n 3, 1) := by decide +kernel
theorem d_Te_takeAmount_68 : decode b_Te_takeAmount 68 = .ok (.iload_n 3, 1) := by decide +kernel
theorem d_Te_takeAmount_69 : decode b_Te_takeAmount 69 = .ok (.ifCond .eq 18, 3) := by decide +kernel
theorem d_Te_takeAmount_72 : decode b_Te_takeAmount 72 = .ok (.iload_n 3, 1) := by decide +kernel
theorem d_Te_takeAmount_73 : decode b_Te_takeAmount 73 = .ok (.iconst 1, 1) := by decide +kernel
theorem d_Te_takeAmount_74 : decode b_Te_takeAmount 74 = .ok (.if_icmp .le 18, 3) := by decide +kernel
theorem d_Te_takeAmount_77 : decode b_Te_takeAmount 77 = .ok (.aload_n 0, 1) := by decide +kernel
theorem d_Te_takeAmount_78 : decode b_Te_takeAmount 78 = .ok (.iload_n 1, 1) := by decide +kernel
theorem d_Te_takeAmount_79 : decode b_Te_takeAmount 79 = .ok (.invokevirtual 76, 3) := by decide +kernel
theorem d_Te_takeAmount_82 : decode b_Te_takeAmount 82 = .ok (.bipush 48, 2) := by decide +kernel
theorem d_Te_takeAmount_84 : decode b_Te_takeAmount 84 = .ok (.if_icmp .ne 8, 3) := by decide +kernel
theorem d_Te_takeAmount_87 : decode b_Te_takeAmount 87 = .ok (.aload_n 0, 1) := by decide +kernel
theorem d_Te_takeAmount_88 : decode b_Te_takeAmount 88 = .ok (.iconst 0, 1) := by decide +kernel
theorem d_Te_takeAmount_89 : decode b_Te_takeAmount 89 = .ok (.putfield 72, 3) := by decide +kernel
theorem d_Te_takeAmount_92 : decode b_Te_takeAmount 92 = .ok (.iload_n 2, 1) := by decide +kernel
theorem d_Te_takeAmount_93 : decode b_Te_takeAmount 93 = .ok (.ireturn, 1) := by decide +kernel
theorem d_Te_isDigit_0 : decode b_Te_isDigit 0 = .ok (.iload_n 0, 1) := by decide +kernel
theorem d_Te_isDigit_1 : decode b_Te_isDigit 1 = .ok (.bipush 48, 2) := by decide +kernel
theorem d_Te_isDigit_3 : decode b_Te_isDigit 3 = .ok (.if_icmp .lt 13, 3) := by decide +kernel
theorem d_Te_isDigit_6 : decode b_Te_isDigit 6 = .ok (.iload_n 0, 1) := by decide +kernel
theorem d_Te_isDigit_7 : decode b_Te_isDigit 7 = .ok (.bipush 57, 2) := by decide +kernel
theorem d_Te_isDigit_9 : decode b_Te_isDigit 9 = .ok (.if_icmp .gt 7, 3) := by decide +kernel
theorem d_Te_isDigit_12 : decode b_Te_isDigit 12 = .ok (.iconst 1, 1) := by decide +kernel
theorem d_Te_isDigit_13 : decode b_Te_isDigit 13 = .ok (.goto 4, 3) := by decide +kernel
theorem d_Te_isDigit_16 : decode b_Te_isDigit 16 = .ok (.iconst 0, 1) := by decide +kernel
theorem d_Te_isDigit_17 : decode b_Te_isDigit 17 = .ok (.ireturn, 1) := by decide +kernel
theorem d_Wa_init_0 : decode b_Wa_init 0 = .ok (.aload_n 0, 1) := by decide +kernel
theorem d_Wa_init_1 : decode b_Wa_init 1 = .ok (.invokespecial 3, 3) := by decide +kernel
theorem d_Wa_init_4 : decode b_Wa_init 4 = .ok (.aload_n 0, 1) := by decide +kernel
theorem d_Wa_init_5 : decode b_Wa_init 5 = .ok (.sipush 160, 3) := by decide +kernel
theorem d_Wa_init_8 : decode b_Wa_init 8 = .ok (.newarray .int, 2) := by decide +kernel
theorem d_Wa_init_10 : decode b_Wa_init 10 = .ok (.putfield 9, 3) := by decide +kernel
theorem d_Wa_init_13 : decode b_Wa_init 13 = .ok (.aload_n 0, 1) := by decide +kernel
theorem d_Wa_init_14 : decode b_Wa_init 14 = .ok (.sipush 160, 3) := by decide +kernel
theorem d_Wa_init_17 : decode b_Wa_init 17 = .ok (.newarray .boolean, 2) := by decide +kernel
theorem d_Wa_init_19 : decode b_Wa_init 19 = .ok (.putfield 15, 3) := by decide +kernel
theorem d_Wa_init_22 : decode b_Wa_init 22 = .ok (.return_, 1) := by decide +kernel
theorem d_Wa_count_0 : decode b_Wa_count 0 = .ok (.aload_n 0, 1) := by decide +kernel
theorem d_Wa_count_1 : decode b_Wa_count 1 = .ok (.getfield 19, 3) := by decide +kernel
theorem d_Wa_count_4 : decode b_Wa_count 4 = .ok (.ireturn, 1) := by decide +kernel
theorem d_Wa_start_0 : decode b_Wa_start 0 = .ok (.iconst 0, 1) := by decide +kernel
theorem d_Wa_start_1 : decode b_Wa_start 1 = .ok (.istore_n 2, 1) := by decide +kernel
theorem d_Wa_start_2 : decode b_Wa_start 2 = .ok (.iload_n 2, 1) := by decide +kernel
theorem d_Wa_start_3 : decode b_Wa_start 3 = .ok (.sipush 160, 3) := by decide +kernel
theorem d_Wa_start_6 : decode b_Wa_start 6 = .ok (.if_icmp .ge 16, 3) := by decide +kernel
theorem d_Wa_start_9 : decode b_Wa_start 9 = .ok (.aload_n 0, 1) := by decide +kernel
theorem d_Wa_start_10 : decode b_Wa_start 10 = .ok (.getfield 15, 3) := by decide +kernel
theorem d_Wa_start_13 : decode b_Wa_start 13 = .ok (.iload_n 2, 1) := by decide +kernel
theorem d_Wa_start_14 : decode b_Wa_start 14 = .ok (.iconst 0, 1) := by decide +kernel
theorem d_Wa_start_15 : decode b_Wa_start 15 = .ok (.bastore, 1) := by decide +kernel
theorem d_Wa_start_16 : decode b_Wa_start 16 = .ok (.iinc 2 1, 3) := by decide +kernel
theorem d_Wa_start_19 : decode b_Wa_start 19 = .ok (.goto (-17), 3) := by decide +kernel
theorem d_Wa_start_22 : decode b_Wa_start 22 = .ok (.aload_n 0, 1) := by decide +kernel
theorem d_Wa_start_23 : decode b_Wa_start 23 = .ok (.iload_n 1, 1) := by decide +kernel
theorem d_Wa_start_24 : decode b_Wa_start 24 = .ok (.sipush 160, 3) := by decide +kernel
theorem d_Wa_start_27 : decode b_Wa_start 27 = .ok (.invokestatic 23, 3) := by decide +kernel
theorem d_Wa_start_30 : decode b_Wa_start 30 = .ok (.putfield 29, 3) := by decide +kernel
theorem d_Wa_start_33 : decode b_Wa_start 33 = .ok (.aload_n 0, 1) := by decide +kernel
theorem d_Wa_start_34 : decode b_Wa_start 34 = .ok (.iconst 0, 1) := by decide +kernel
theorem d_Wa_start_35 : decode b_Wa_start 35 = .ok (.putfield 19, 3) := by decide +kernel
theorem d_Wa_start_38 : decode b_Wa_start 38 = .ok (.return_, 1) := by decide +kernel
theorem d_Wa_cameTo_0 : decode b_Wa_cameTo 0 = .ok (.iload_n 1, 1) := by decide +kernel
theorem d_Wa_cameTo_1 : decode b_Wa_cameTo 1 = .ok (.ifCond .lt 24, 3) := by decide +kernel
theorem d_Wa_cameTo_4 : decode b_Wa_cameTo 4 = .ok (.iload_n 1, 1) := by decide +kernel
theorem d_Wa_cameTo_5 : decode b_Wa_cameTo 5 = .ok (.aload_n 0, 1) := by decide +kernel
theorem d_Wa_cameTo_6 : decode b_Wa_cameTo 6 = .ok (.getfield 29, 3) := by decide +kernel
theorem d_Wa_cameTo_9 : decode b_Wa_cameTo 9 = .ok (.if_icmp .ge 16, 3) := by decide +kernel
theorem d_Wa_cameTo_12 : decode b_Wa_cameTo 12 = .ok (.aload_n 0, 1) := by decide +kernel
theorem d_Wa_cameTo_13 : decode b_Wa_cameTo 13 = .ok (.getfield 15, 3) := by decide +kernel
theorem d_Wa_cameTo_16 : decode b_Wa_cameTo 16 = .ok (.iload_n 1, 1) := by decide +kernel
theorem d_Wa_cameTo_17 : decode b_Wa_cameTo 17 = .ok (.baload, 1) := by decide +kernel
theorem d_Wa_cameTo_18 : decode b_Wa_cameTo 18 = .ok (.ifCond .eq 7, 3) := by decide +kernel
theorem d_Wa_cameTo_21 : decode b_Wa_cameTo 21 = .ok (.iconst 1, 1) := by decide +kernel
theorem d_Wa_cameTo_22 : decode b_Wa_cameTo 22 = .ok (.goto 4, 3) := by decide +kernel
theorem d_Wa_cameTo_25 : decode b_Wa_cameTo 25 = .ok (.iconst 0, 1) := by decide +kernel
theorem d_Wa_cameTo_26 : decode b_Wa_cameTo 26 = .ok (.ireturn, 1) := by decide +kernel
theorem d_Wa_comeTo_0 : decode b_Wa_comeTo 0 = .ok (.iload_n 1, 1) := by decide +kernel
theorem d_Wa_comeTo_1 : decode b_Wa_comeTo 1 = .ok (.ifCond .lt 57, 3) := by decide +kernel
theorem d_Wa_comeTo_4 : decode b_Wa_comeTo 4 = .ok (.iload_n 1, 1) := by decide +kernel
theorem d_Wa_comeTo_5 : decode b_Wa_comeTo 5 = .ok (.aload_n 0, 1) := by decide +kernel
theorem d_Wa_comeTo_6 : decode b_Wa_comeTo 6 = .ok (.getfield 29, 3) := by decide +kernel
theorem d_Wa_comeTo_9 : decode b_Wa_comeTo 9 = .ok (.if_icmp .ge 49, 3) := by decide +kernel
theorem d_Wa_comeTo_12 : decode b_Wa_comeTo 12 = .ok (.aload_n 0, 1) := by decide +kernel
theorem d_Wa_comeTo_13 : decode b_Wa_comeTo 13 = .ok (.getfield 15, 3) := by decide +kernel
theorem d_Wa_comeTo_16 : decode b_Wa_comeTo 16 = .ok (.iload_n 1, 1) := by decide +kernel
theorem d_Wa_comeTo_17 : decode b_Wa_comeTo 17 = .ok (.baload, 1) := by decide +kernel
theorem d_Wa_comeTo_18 : decode b_Wa_comeTo 18 = .ok (.ifCond .ne 40, 3) := by decide +kernel
theorem d_Wa_comeTo_21 : decode b_Wa_comeTo 21 = .ok (.aload_n 0, 1) := by decide +kernel
theorem d_Wa_comeTo_22 : decode b_Wa_comeTo 22 = .ok (.getfield 19, 3) := by decide +kernel
theorem d_Wa_comeTo_25 : decode b_Wa_comeTo 25 = .ok (.sipush 160, 3) := by decide +kernel
theorem d_Wa_comeTo_28 : decode b_Wa_comeTo 28 = .ok (.if_icmp .ge 30, 3) := by decide +kernel
theorem d_Wa_comeTo_31 : decode b_Wa_comeTo 31 = .ok (.aload_n 0, 1) := by decide +kernel
theorem d_Wa_comeTo_32 : decode b_Wa_comeTo 32 = .ok (.getfield 15, 3) := by decide +kernel
theorem d_Wa_comeTo_35 : decode b_Wa_comeTo 35 = .ok (.iload_n 1, 1) := by decide +kernel
theorem d_Wa_comeTo_36 : decode b_Wa_comeTo 36 = .ok (.iconst 1, 1) := by decide +kernel
theorem d_Wa_comeTo_37 : decode b_Wa_comeTo 37 = .ok (.bastore, 1) := by decide +kernel
theorem d_Wa_comeTo_38 : decode b_Wa_comeTo 38 = .ok (.aload_n 0, 1) := by decide +kernel
theorem d_Wa_comeTo_39 : decode b_Wa_comeTo 39 = .ok (.getfield 9, 3) := by decide +kernel
theorem d_Wa_comeTo_42 : decode b_Wa_comeTo 42 = .ok (.aload_n 0, 1) := by decide +kernel
theorem d_Wa_comeTo_43 : decode b_Wa_comeTo 43 = .ok (.getfield 19, 3) := by decide +kernel
theorem d_Wa_comeTo_46 : decode b_Wa_comeTo 46 = .ok (.iload_n 1, 1) := by decide +kernel
theorem d_Wa_comeTo_47 : decode b_Wa_comeTo 47 = .ok (.iastore, 1) := by decide +kernel
theorem d_Wa_comeTo_48 : decode b_Wa_comeTo 48 = .ok (.aload_n 0, 1) := by decide +kernel
theorem d_Wa_comeTo_49 : decode b_Wa_comeTo 49 = .ok (.dup, 1) := by decide +kernel
theorem d_Wa_comeTo_50 : decode b_Wa_comeTo 50 = .ok (.getfield 19, 3) := by decide +kernel
theorem d_Wa_comeTo_53 : decode b_Wa_comeTo 53 = .ok (.iconst 1, 1) := by decide +kernel
theorem d_Wa_comeTo_54 : decode b_Wa_comeTo 54 = .ok (.iadd, 1) := by decide +kernel
theorem d_Wa_comeTo_55 : decode b_Wa_comeTo 55 = .ok (.putfield 19, 3) := by decide +kernel
theorem d_Wa_comeTo_58 : decode b_Wa_comeTo 58 = .ok (.return_, 1) := by decide +kernel
theorem d_Wa_follow_0 : decode b_Wa_follow 0 = .ok (.iconst 0, 1) := by decide +kernel
theorem d_Wa_follow_1 : decode b_Wa_follow 1 = .ok (.istore_n 3, 1) := by decide +kernel
theorem d_Wa_follow_2 : decode b_Wa_follow 2 = .ok (.iload_n 3, 1) := by decide +kernel
theorem d_Wa_follow_3 : decode b_Wa_follow 3 = .ok (.aload_n 0, 1) := by decide +kernel
theorem d_Wa_follow_4 : decode b_Wa_follow 4 = .ok (.getfield 19, 3) := by decide +kernel
theorem d_Wa_follow_7 : decode b_Wa_follow 7 = .ok (.if_icmp .ge 28, 3) := by decide +kernel
theorem d_Wa_follow_10 : decode b_Wa_follow 10 = .ok (.iload_n 3, 1) := by decide +kernel
theorem d_Wa_follow_11 : decode b_Wa_follow 11 = .ok (.sipush 160, 3) := by decide +kernel
theorem d_Wa_follow_14 : decode b_Wa_follow 14 = .ok (.if_icmp .ge 21, 3) := by decide +kernel
theorem d_Wa_follow_17 : decode b_Wa_follow 17 = .ok (.aload_n 0, 1) := by decide +kernel
theorem d_Wa_follow_18 : decode b_Wa_follow 18 = .ok (.aload_n 1, 1) := by decide +kernel
theorem d_Wa_follow_19 : decode b_Wa_follow 19 = .ok (.aload_n 0, 1) := by decide +kernel
theorem d_Wa_follow_20 : decode b_Wa_follow 20 = .ok (.getfield 9, 3) := by decide +kernel
theorem d_Wa_follow_23 : decode b_Wa_follow 23 = .ok (.iload_n 3, 1) := by decide +kernel
theorem d_Wa_follow_24 : decode b_Wa_follow 24 = .ok (.iaload, 1) := by decide +kernel
theorem d_Wa_follow_25 : decode b_Wa_follow 25 = .ok (.iload_n 2, 1) := by decide +kernel
theorem d_Wa_follow_26 : decode b_Wa_follow 26 = .ok (.invokevirtual 32, 3) := by decide +kernel
theorem d_Wa_follow_29 : decode b_Wa_follow 29 = .ok (.iinc 3 1, 3) := by decide +kernel
theorem d_Wa_follow_32 : decode b_Wa_follow 32 = .ok (.goto (-30), 3) := by decide +kernel
theorem d_Wa_follow_35 : decode b_Wa_follow 35 = .ok (.return_, 1) := by decide +kernel
theorem d_Wa_comeToSuccessors_0 : decode b_Wa_comeToSuccessors 0 = .ok (.aload_n 1, 1) := by decide +kernel
theorem d_Wa_comeToSuccessors_1 : decode b_Wa_comeToSuccessors 1 = .ok (.iload_n 2, 1) := by decide +kernel
theorem d_Wa_comeToSuccessors_2 : decode b_Wa_comeToSuccessors 2 = .ok (.invokevirtual 36, 3) := by decide +kernel
theorem d_Wa_comeToSuccessors_5 : decode b_Wa_comeToSuccessors 5 = .ok (.istore 4, 2) := by decide +kernel
theorem d_Wa_comeToSuccessors_7 : decode b_Wa_comeToSuccessors 7 = .ok (.iload 4, 2) := by decide +kernel
theorem d_Wa_comeToSuccessors_9 : decode b_Wa_comeToSuccessors 9 = .ok (.iconst (-1), 1) := by decide +kernel
theorem d_Wa_comeToSuccessors_10 : decode b_Wa_comeToSuccessors 10 = .ok (.if_icmp .ne 4, 3) := by decide +kernel
theorem d_Wa_comeToSuccessors_13 : decode b_Wa_comeToSuccessors 13 = .ok (.return_, 1) := by decide +kernel
theorem d_Wa_comeToSuccessors_14 : decode b_Wa_comeToSuccessors 14 = .ok (.iload_n 2, 1) := by decide +kernel
theorem d_Wa_comeToSuccessors_15 : decode b_Wa_comeToSuccessors 15 = .ok (.iload 4, 2) := by decide +kernel
theorem d_Wa_comeToSuccessors_17 : decode b_Wa_comeToSuccessors 17 = .ok (.invokestatic 42, 3) := by decide +kernel
theorem d_Wa_comeToSuccessors_20 : decode b_Wa_comeToSuccessors 20 = .ok (.iadd, 1) := by decide +kernel
theorem d_Wa_comeToSuccessors_21 : decode b_Wa_comeToSuccessors 21 = .ok (.istore 5, 2) := by decide +kernel
theorem d_Wa_comeToSuccessors_23 : decode b_Wa_comeToSuccessors 23 = .ok (.iload 4, 2) := by decide +kernel
theorem d_Wa_comeToSuccessors_25 : decode b_Wa_comeToSuccessors 25 = .ok (.invokestatic 47, 3) := by decide +kernel
theorem d_Wa_comeToSuccessors_28 : decode b_Wa_comeToSuccessors 28 = .ok (.ifCond .eq 9, 3) := by decide +kernel
theorem d_Wa_comeToSuccessors_31 : decode b_Wa_comeToSuccessors 31 = .ok (.aload_n 0, 1) := by decide +kernel
theorem d_Wa_comeToSuccessors_32 : decode b_Wa_comeToSuccessors 32 = .ok (.iload 5, 2) := by decide +kernel
theorem d_Wa_comeToSuccessors_34 : decode b_Wa_comeToSuccessors 34 = .ok (.invokevirtual 51, 3) := by decide +kernel
theorem d_Wa_comeToSuccessors_37 : decode b_Wa_comeToSuccessors 37 = .ok (.iload 4, 2) := by decide +kernel
theorem d_Wa_comeToSuccessors_39 : decode b_Wa_comeToSuccessors 39 = .ok (.bipush 10, 2) := by decide +kernel
theorem d_Wa_comeToSuccessors_41 : decode b_Wa_comeToSuccessors 41 = .ok (.if_icmp .ne 17, 3) := by decide +kernel
theorem d_Wa_comeToSuccessors_44 : decode b_Wa_comeToSuccessors 44 = .ok (.aload_n 0, 1) := by decide +kernel
theorem d_Wa_comeToSuccessors_45 : decode b_Wa_comeToSuccessors 45 = .ok (.iload 5, 2) := by decide +kernel
theorem d_Wa_comeToSuccessors_47 : decode b_Wa_comeToSuccessors 47 = .ok (.aload_n 1, 1) := by decide +kernel
theorem d_Wa_comeToSuccessors_48 : decode b_Wa_comeToSuccessors 48 = .ok (.iload_n 2, 1) := by decide +kernel
theorem d_Wa_comeToSuccessors_49 : decode b_Wa_comeToSuccessors 49 = .ok (.iload 4, 2) := by decide +kernel
theorem d_Wa_comeToSuccessors_51 : decode b_Wa_comeToSuccessors 51 = .ok (.invokevirtual 55, 3) := by decide +kernel
theorem d_Wa_comeToSuccessors_54 : decode b_Wa_comeToSuccessors 54 = .ok (.iadd, 1) := by decide +kernel
theorem d_Wa_comeToSuccessors_55 : decode b_Wa_comeToSuccessors 55 = .ok (.invokevirtual 51, 3) := by decide +kernel
theorem d_Wa_comeToSuccessors_58 : decode b_Wa_comeToSuccessors 58 = .ok (.iload 4, 2) := by decide +kernel
theorem d_Wa_comeToSuccessors_60 : decode b_Wa_comeToSuccessors 60 = .ok (.bipush 7, 2) := by decide +kernel
theorem d_Wa_comeToSuccessors_62 : decode b_Wa_comeToSuccessors 62 = .ok (.if_icmp .eq 21, 3) := by decide +kernel
theorem d_Wa_comeToSuccessors_65 : decode b_Wa_comeToSuccessors 65 = .ok (.iload 4, 2) := by decide +kernel
theorem d_Wa_comeToSuccessors_67 : decode b_Wa_comeToSuccessors 67 = .ok (.bipush 9, 2) := by decide +kernel
theorem d_Wa_comeToSuccessors_69 : decode b_Wa_comeToSuccessors 69 = .ok (.if_icmp .eq 14, 3) := by decide +kernel
theorem d_Wa_comeToSuccessors_72 : decode b_Wa_comeToSuccessors 72 = .ok (.iload 4, 2) := by decide +kernel
theorem d_Wa_comeToSuccessors_74 : decode b_Wa_comeToSuccessors 74 = .ok (.bipush 8, 2) := by decide +kernel
theorem d_Wa_comeToSuccessors_76 : decode b_Wa_comeToSuccessors 76 = .ok (.if_icmp .ne 18, 3) := by decide +kernel
theorem d_Wa_comeToSuccessors_79 : decode b_Wa_comeToSuccessors 79 = .ok (.iload_n 3, 1) := by decide +kernel
theorem d_Wa_comeToSuccessors_80 : decode b_Wa_comeToSuccessors 80 = .ok (.ifCond .eq 14, 3) := by decide +kernel
theorem d_Wa_comeToSuccessors_83 : decode b_Wa_comeToSuccessors 83 = .ok (.aload_n 0, 1) := by decide +kernel
theorem d_Wa_comeToSuccessors_84 : decode b_Wa_comeToSuccessors 84 = .ok (.aload_n 1, 1) := by decide +kernel
theorem d_Wa_comeToSuccessors_85 : decode b_Wa_comeToSuccessors 85 = .ok (.iload_n 2, 1) := by decide +kernel
theorem d_Wa_comeToSuccessors_86 : decode b_Wa_comeToSuccessors 86 = .ok (.iload 4, 2) := by decide +kernel
theorem d_Wa_comeToSuccessors_88 : decode b_Wa_comeToSuccessors 88 = .ok (.invokevirtual 55, 3) := by decide +kernel
theorem d_Wa_comeToSuccessors_91 : decode b_Wa_comeToSuccessors 91 = .ok (.invokevirtual 51, 3) := by decide +kernel
theorem d_Wa_comeToSuccessors_94 : decode b_Wa_comeToSuccessors 94 = .ok (.return_, 1) := by decide +kernel
theorem d_La_law_0 : decode code 0 = .ok (.new 7, 3) := by decide +kernel
theorem d_La_law_3 : decode code 3 = .ok (.dup, 1) := by decide +kernel
theorem d_La_law_4 : decode code 4 = .ok (.invokespecial 9, 3) := by decide +kernel
theorem d_La_law_7 : decode code 7 = .ok (.astore_n 1, 1) := by decide +kernel
theorem d_La_law_8 : decode code 8 = .ok (.new 10, 3) := by decide +kernel
theorem d_La_law_11 : decode code 11 = .ok (.dup, 1) := by decide +kernel
theorem d_La_law_12 : decode code 12 = .ok (.invokespecial 12, 3) := by decide +kernel
theorem d_La_law_15 : decode code 15 = .ok (.astore_n 2, 1) := by decide +kernel
theorem d_La_law_16 : decode code 16 = .ok (.iconst 0, 1) := by decide +kernel
theorem d_La_law_17 : decode code 17 = .ok (.istore_n 3, 1) := by decide +kernel
theorem d_La_law_18 : decode code 18 = .ok (.iload_n 3, 1) := by decide +kernel
theorem d_La_law_19 : decode code 19 = .ok (.aload_n 0, 1) := by decide +kernel
theorem d_La_law_20 : decode code 20 = .ok (.arraylength, 1) := by decide +kernel
theorem d_La_law_21 : decode code 21 = .ok (.iconst 3, 1) := by decide +kernel
theorem d_La_law_22 : decode code 22 = .ok (.isub, 1) := by decide +kernel
theorem d_La_law_23 : decode code 23 = .ok (.if_icmp .gt 438, 3) := by decide +kernel
theorem d_La_law_26 : decode code 26 = .ok (.aload_n 0, 1) := by decide +kernel
theorem d_La_law_27 : decode code 27 = .ok (.iload_n 3, 1) := by decide +kernel
theorem d_La_law_28 : decode code 28 = .ok (.iaload, 1) := by decide +kernel
theorem d_La_law_29 : decode code 29 = .ok (.bipush 31, 2) := by decide +kernel
theorem d_La_law_31 : decode code 31 = .ok (.iand, 1) := by decide +kernel
theorem d_La_law_32 : decode code 32 = .ok (.tableswitch 423 0 16 #[84, 117, 140, 151, 164, 187, 210, 233, 246, 269, 292, 305, 318, 331, 354, 387, 400], 84) := by decide +kernel
theorem d_La_law_116 : decode code 116 = .ok (.aload_n 1, 1) := by decide +kernel
theorem d_La_law_117 : decode code 117 = .ok (.aload_n 0, 1) := by decide +kernel
theorem d_La_law_118 : decode code 118 = .ok (.iload_n 3, 1) := by decide +kernel
theorem d_La_law_119 : decode code 119 = .ok (.iconst 1, 1) := by decide +kernel
theorem d_La_law_120 : decode code 120 = .ok (.iadd, 1) := by decide +kernel
theorem d_La_law_121 : decode code 121 = .ok (.iaload, 1) := by decide +kernel
theorem d_La_law_122 : decode code 122 = .ok (.aload_n 0, 1) := by decide +kernel
theorem d_La_law_123 : decode code 123 = .ok (.iload_n 3, 1) := by decide +kernel
theorem d_La_law_124 : decode code 124 = .ok (.iconst 2, 1) := by decide +kernel
theorem d_La_law_125 : decode code 125 = .ok (.iadd, 1) := by decide +kernel
theorem d_La_law_126 : decode code 126 = .ok (.iaload, 1) := by decide +kernel
theorem d_La_law_127 : decode code 127 = .ok (.invokevirtual 13, 3) := by decide +kernel
theorem d_La_law_130 : decode code 130 = .ok (.aload_n 2, 1) := by decide +kernel
theorem d_La_law_131 : decode code 131 = .ok (.aload_n 0, 1) := by decide +kernel
theorem d_La_law_132 : decode code 132 = .ok (.iload_n 3, 1) := by decide +kernel
theorem d_La_law_133 : decode code 133 = .ok (.iconst 1, 1) := by decide +kernel
theorem d_La_law_134 : decode code 134 = .ok (.iadd, 1) := by decide +kernel
theorem d_La_law_135 : decode code 135 = .ok (.iaload, 1) := by decide +kernel
theorem d_La_law_136 : decode code 136 = .ok (.aload_n 0, 1) := by decide +kernel
theorem d_La_law_137 : decode code 137 = .ok (.iload_n 3, 1) := by decide +kernel
theorem d_La_law_138 : decode code 138 = .ok (.iconst 2, 1) := by decide +kernel
theorem d_La_law_139 : decode code 139 = .ok (.iadd, 1) := by decide +kernel
theorem d_La_law_140 : decode code 140 = .ok (.iaload, 1) := by decide +kernel
theorem d_La_law_141 : decode code 141 = .ok (.invokevirtual 17, 3) := by decide +kernel
theorem d_La_law_144 : decode code 144 = .ok (.if_icmp .eq 311, 3) := by decide +kernel
theorem d_La_law_147 : decode code 147 = .ok (.iconst 0, 1) := by decide +kernel
theorem d_La_law_148 : decode code 148 = .ok (.ireturn, 1) := by decide +kernel
theorem d_La_law_149 : decode code 149 = .ok (.aload_n 1, 1) := by decide +kernel
theorem d_La_law_150 : decode code 150 = .ok (.aload_n 0, 1) := by decide +kernel
theorem d_La_law_151 : decode code 151 = .ok (.iload_n 3, 1) := by decide +kernel
theorem d_La_law_152 : decode code 152 = .ok (.iconst 1, 1) := by decide +kernel
theorem d_La_law_153 : decode code 153 = .ok (.iadd, 1) := by decide +kernel
theorem d_La_law_154 : decode code 154 = .ok (.iaload, 1) := by decide +kernel
theorem d_La_law_155 : decode code 155 = .ok (.invokevirtual 18, 3) := by decide +kernel
theorem d_La_law_158 : decode code 158 = .ok (.aload_n 2, 1) := by decide +kernel
theorem d_La_law_159 : decode code 159 = .ok (.aload_n 0, 1) := by decide +kernel
theorem d_La_law_160 : decode code 160 = .ok (.iload_n 3, 1) := by decide +kernel
theorem d_La_law_161 : decode code 161 = .ok (.iconst 1, 1) := by decide +kernel
theorem d_La_law_162 : decode code 162 = .ok (.iadd, 1) := by decide +kernel
theorem d_La_law_163 : decode code 163 = .ok (.iaload, 1) := by decide +kernel
theorem d_La_law_164 : decode code 164 = .ok (.invokevirtual 22, 3) := by decide +kernel
theorem d_La_law_167 : decode code 167 = .ok (.if_icmp .eq 288, 3) := by decide +kernel
theorem d_La_law_170 : decode code 170 = .ok (.iconst 0, 1) := by decide +kernel
theorem d_La_law_171 : decode code 171 = .ok (.ireturn, 1) := by decide +kernel
theorem d_La_law_172 : decode code 172 = .ok (.aload_n 1, 1) := by decide +kernel
theorem d_La_law_173 : decode code 173 = .ok (.invokevirtual 23, 3) := by decide +kernel
theorem d_La_law_176 : decode code 176 = .ok (.aload_n 2, 1) := by decide +kernel
theorem d_La_law_177 : decode code 177 = .ok (.invokevirtual 26, 3) := by decide +kernel
theorem d_La_law_180 : decode code 180 = .ok (.goto 275, 3) := by decide +kernel
theorem d_La_law_183 : decode code 183 = .ok (.aload_n 1, 1) := by decide +kernel
theorem d_La_law_184 : decode code 184 = .ok (.invokevirtual 27, 3) := by decide +kernel
theorem d_La_law_187 : decode code 187 = .ok (.aload_n 2, 1) := by decide +kernel
theorem d_La_law_188 : decode code 188 = .ok (.invokevirtual 31, 3) := by decide +kernel
theorem d_La_law_191 : decode code 191 = .ok (.if_icmp .eq 264, 3) := by decide +kernel
theorem d_La_law_194 : decode code 194 = .ok (.iconst 0, 1) := by decide +kernel
theorem d_La_law_195 : decode code 195 = .ok (.ireturn, 1) := by decide +kernel
theorem d_La_law_196 : decode code 196 = .ok (.aload_n 1, 1) := by decide +kernel
theorem d_La_law_197 : decode code 197 = .ok (.aload_n 0, 1) := by decide +kernel
theorem d_La_law_198 : decode code 198 = .ok (.iload_n 3, 1) := by decide +kernel
theorem d_La_law_199 : decode code 199 = .ok (.iconst 1, 1) := by decide +kernel
theorem d_La_law_200 : decode code 200 = .ok (.iadd, 1) := by decide +kernel
theorem d_La_law_201 : decode code 201 = .ok (.iaload, 1) := by decide +kernel
theorem d_La_law_202 : decode code 202 = .ok (.invokevirtual 32, 3) := by decide +kernel
theorem d_La_law_205 : decode code 205 = .ok (.aload_n 2, 1) := by decide +kernel
theorem d_La_law_206 : decode code 206 = .ok (.aload_n 0, 1) := by decide +kernel
theorem d_La_law_207 : decode code 207 = .ok (.iload_n 3, 1) := by decide +kernel
theorem d_La_law_208 : decode code 208 = .ok (.iconst 1, 1) := by decide +kernel
theorem d_La_law_209 : decode code 209 = .ok (.iadd, 1) := by decide +kernel
theorem d_La_law_210 : decode code 210 = .ok (.iaload, 1) := by decide +kernel
theorem d_La_law_211 : decode code 211 = .ok (.invokevirtual 36, 3) := by decide +kernel
theorem d_La_law_214 : decode code 214 = .ok (.if_icmp .eq 241, 3) := by decide +kernel
theorem d_La_law_217 : decode code 217 = .ok (.iconst 0, 1) := by decide +kernel
theorem d_La_law_218 : decode code 218 = .ok (.ireturn, 1) := by decide +kernel
theorem d_La_law_219 : decode code 219 = .ok (.aload_n 1, 1) := by decide +kernel
theorem d_La_law_220 : decode code 220 = .ok (.aload_n 0, 1) := by decide +kernel
theorem d_La_law_221 : decode code 221 = .ok (.iload_n 3, 1) := by decide +kernel
theorem d_La_law_222 : decode code 222 = .ok (.iconst 1, 1) := by decide +kernel
theorem d_La_law_223 : decode code 223 = .ok (.iadd, 1) := by decide +kernel
theorem d_La_law_224 : decode code 224 = .ok (.iaload, 1) := by decide +kernel
theorem d_La_law_225 : decode code 225 = .ok (.invokevirtual 37, 3) := by decide +kernel
theorem d_La_law_228 : decode code 228 = .ok (.aload_n 2, 1) := by decide +kernel
theorem d_La_law_229 : decode code 229 = .ok (.aload_n 0, 1) := by decide +kernel
theorem d_La_law_230 : decode code 230 = .ok (.iload_n 3, 1) := by decide +kernel
theorem d_La_law_231 : decode code 231 = .ok (.iconst 1, 1) := by decide +kernel
theorem d_La_law_232 : decode code 232 = .ok (.iadd, 1) := by decide +kernel
theorem d_La_law_233 : decode code 233 = .ok (.iaload, 1) := by decide +kernel
theorem d_La_law_234 : decode code 234 = .ok (.invokevirtual 40, 3) := by decide +kernel
theorem d_La_law_237 : decode code 237 = .ok (.if_icmp .eq 218, 3) := by decide +kernel
theorem d_La_law_240 : decode code 240 = .ok (.iconst 0, 1) := by decide +kernel
theorem d_La_law_241 : decode code 241 = .ok (.ireturn, 1) := by decide +kernel
theorem d_La_law_242 : decode code 242 = .ok (.aload_n 1, 1) := by decide +kernel
theorem d_La_law_243 : decode code 243 = .ok (.aload_n 0, 1) := by decide +kernel
theorem d_La_law_244 : decode code 244 = .ok (.iload_n 3, 1) := by decide +kernel
theorem d_La_law_245 : decode code 245 = .ok (.iconst 1, 1) := by decide +kernel
theorem d_La_law_246 : decode code 246 = .ok (.iadd, 1) := by decide +kernel
theorem d_La_law_247 : decode code 247 = .ok (.iaload, 1) := by decide +kernel
theorem d_La_law_248 : decode code 248 = .ok (.invokevirtual 41, 3) := by decide +kernel
theorem d_La_law_251 : decode code 251 = .ok (.aload_n 2, 1) := by decide +kernel
theorem d_La_law_252 : decode code 252 = .ok (.aload_n 0, 1) := by decide +kernel
theorem d_La_law_253 : decode code 253 = .ok (.iload_n 3, 1) := by decide +kernel
theorem d_La_law_254 : decode code 254 = .ok (.iconst 1, 1) := by decide +kernel
theorem d_La_law_255 : decode code 255 = .ok (.iadd, 1) := by decide +kernel
theorem d_La_law_256 : decode code 256 = .ok (.iaload, 1) := by decide +kernel
theorem d_La_law_257 : decode code 257 = .ok (.invokevirtual 44, 3) := by decide +kernel
theorem d_La_law_260 : decode code 260 = .ok (.if_icmp .eq 195, 3) := by decide +kernel
theorem d_La_law_263 : decode code 263 = .ok (.iconst 0, 1) := by decide +kernel
theorem d_La_law_264 : decode code 264 = .ok (.ireturn, 1) := by decide +kernel
theorem d_La_law_265 : decode code 265 = .ok (.aload_n 1, 1) := by decide +kernel
theorem d_La_law_266 : decode code 266 = .ok (.invokevirtual 45, 3) := by decide +kernel
theorem d_La_law_269 : decode code 269 = .ok (.aload_n 2, 1) := by decide +kernel
theorem d_La_law_270 : decode code 270 = .ok (.invokevirtual 48, 3) := by decide +kernel
theorem d_La_law_273 : decode code 273 = .ok (.if_icmp .eq 182, 3) := by decide +kernel
theorem d_La_law_276 : decode code 276 = .ok (.iconst 0, 1) := by decide +kernel
theorem d_La_law_277 : decode code 277 = .ok (.ireturn, 1) := by decide +kernel
theorem d_La_law_278 : decode code 278 = .ok (.aload_n 1, 1) := by decide +kernel
theorem d_La_law_279 : decode code 279 = .ok (.aload_n 0, 1) := by decide +kernel
theorem d_La_law_280 : decode code 280 = .ok (.iload_n 3, 1) := by decide +kernel
theorem d_La_law_281 : decode code 281 = .ok (.iconst 1, 1) := by decide +kernel
theorem d_La_law_282 : decode code 282 = .ok (.iadd, 1) := by decide +kernel
theorem d_La_law_283 : decode code 283 = .ok (.iaload, 1) := by decide +kernel
theorem d_La_law_284 : decode code 284 = .ok (.invokevirtual 49, 3) := by decide +kernel
theorem d_La_law_287 : decode code 287 = .ok (.aload_n 2, 1) := by decide +kernel
theorem d_La_law_288 : decode code 288 = .ok (.aload_n 0, 1) := by decide +kernel
theorem d_La_law_289 : decode code 289 = .ok (.iload_n 3, 1) := by decide +kernel
theorem d_La_law_290 : decode code 290 = .ok (.iconst 1, 1) := by decide +kernel
theorem d_La_law_291 : decode code 291 = .ok (.iadd, 1) := by decide +kernel
theorem d_La_law_292 : decode code 292 = .ok (.iaload, 1) := by decide +kernel
theorem d_La_law_293 : decode code 293 = .ok (.invokevirtual 52, 3) := by decide +kernel
theorem d_La_law_296 : decode code 296 = .ok (.if_icmp .eq 159, 3) := by decide +kernel
theorem d_La_law_299 : decode code 299 = .ok (.iconst 0, 1) := by decide +kernel
theorem d_La_law_300 : decode code 300 = .ok (.ireturn, 1) := by decide +kernel
theorem d_La_law_301 : decode code 301 = .ok (.aload_n 1, 1) := by decide +kernel
theorem d_La_law_302 : decode code 302 = .ok (.aload_n 0, 1) := by decide +kernel
theorem d_La_law_303 : decode code 303 = .ok (.iload_n 3, 1) := by decide +kernel
theorem d_La_law_304 : decode code 304 = .ok (.iconst 1, 1) := by decide +kernel
theorem d_La_law_305 : decode code 305 = .ok (.iadd, 1) := by decide +kernel
theorem d_La_law_306 : decode code 306 = .ok (.iaload, 1) := by decide +kernel
theorem d_La_law_307 : decode code 307 = .ok (.invokevirtual 53, 3) := by decide +kernel
theorem d_La_law_310 : decode code 310 = .ok (.aload_n 2, 1) := by decide +kernel
theorem d_La_law_311 : decode code 311 = .ok (.aload_n 0, 1) := by decide +kernel
theorem d_La_law_312 : decode code 312 = .ok (.iload_n 3, 1) := by decide +kernel
theorem d_La_law_313 : decode code 313 = .ok (.iconst 1, 1) := by decide +kernel
theorem d_La_law_314 : decode code 314 = .ok (.iadd, 1) := by decide +kernel
theorem d_La_law_315 : decode code 315 = .ok (.iaload, 1) := by decide +kernel
theorem d_La_law_316 : decode code 316 = .ok (.invokevirtual 56, 3) := by decide +kernel
theorem d_La_law_319 : decode code 319 = .ok (.if_icmp .eq 136, 3) := by decide +kernel
theorem d_La_law_322 : decode code 322 = .ok (.iconst 0, 1) := by decide +kernel
theorem d_La_law_323 : decode code 323 = .ok (.ireturn, 1) := by decide +kernel
theorem d_La_law_324 : decode code 324 = .ok (.aload_n 1, 1) := by decide +kernel
theorem d_La_law_325 : decode code 325 = .ok (.invokevirtual 57, 3) := by decide +kernel
theorem d_La_law_328 : decode code 328 = .ok (.aload_n 2, 1) := by decide +kernel
theorem d_La_law_329 : decode code 329 = .ok (.invokevirtual 60, 3) := by decide +kernel
theorem d_La_law_332 : decode code 332 = .ok (.if_icmp .eq 123, 3) := by decide +kernel
theorem d_La_law_335 : decode code 335 = .ok (.iconst 0, 1) := by decide +kernel
theorem d_La_law_336 : decode code 336 = .ok (.ireturn, 1) := by decide +kernel
theorem d_La_law_337 : decode code 337 = .ok (.aload_n 1, 1) := by decide +kernel
theorem d_La_law_338 : decode code 338 = .ok (.invokevirtual 61, 3) := by decide +kernel
theorem d_La_law_341 : decode code 341 = .ok (.aload_n 2, 1) := by decide +kernel
theorem d_La_law_342 : decode code 342 = .ok (.invokevirtual 64, 3) := by decide +kernel
theorem d_La_law_345 : decode code 345 = .ok (.if_icmp .eq 110, 3) := by decide +kernel
theorem d_La_law_348 : decode code 348 = .ok (.iconst 0, 1) := by decide +kernel
theorem d_La_law_349 : decode code 349 = .ok (.ireturn, 1) := by decide +kernel
theorem d_La_law_350 : decode code 350 = .ok (.aload_n 1, 1) := by decide +kernel
theorem d_La_law_351 : decode code 351 = .ok (.invokevirtual 65, 3) := by decide +kernel
theorem d_La_law_354 : decode code 354 = .ok (.aload_n 2, 1) := by decide +kernel
theorem d_La_law_355 : decode code 355 = .ok (.invokevirtual 68, 3) := by decide +kernel
theorem d_La_law_358 : decode code 358 = .ok (.if_icmp .eq 97, 3) := by decide +kernel
theorem d_La_law_361 : decode code 361 = .ok (.iconst 0, 1) := by decide +kernel
theorem d_La_law_362 : decode code 362 = .ok (.ireturn, 1) := by decide +kernel
theorem d_La_law_363 : decode code 363 = .ok (.aload_n 1, 1) := by decide +kernel
theorem d_La_law_364 : decode code 364 = .ok (.aload_n 0, 1) := by decide +kernel
theorem d_La_law_365 : decode code 365 = .ok (.iload_n 3, 1) := by decide +kernel
theorem d_La_law_366 : decode code 366 = .ok (.iconst 1, 1) := by decide +kernel
theorem d_La_law_367 : decode code 367 = .ok (.iadd, 1) := by decide +kernel
theorem d_La_law_368 : decode code 368 = .ok (.iaload, 1) := by decide +kernel
theorem d_La_law_369 : decode code 369 = .ok (.invokevirtual 69, 3) := by decide +kernel
theorem d_La_law_372 : decode code 372 = .ok (.aload_n 2, 1) := by decide +kernel
theorem d_La_law_373 : decode code 373 = .ok (.aload_n 0, 1) := by decide +kernel
theorem d_La_law_374 : decode code 374 = .ok (.iload_n 3, 1) := by decide +kernel
theorem d_La_law_375 : decode code 375 = .ok (.iconst 1, 1) := by decide +kernel
theorem d_La_law_376 : decode code 376 = .ok (.iadd, 1) := by decide +kernel
theorem d_La_law_377 : decode code 377 = .ok (.iaload, 1) := by decide +kernel
theorem d_La_law_378 : decode code 378 = .ok (.invokevirtual 72, 3) := by decide +kernel
theorem d_La_law_381 : decode code 381 = .ok (.if_icmp .eq 74, 3) := by decide +kernel
theorem d_La_law_384 : decode code 384 = .ok (.iconst 0, 1) := by decide +kernel
theorem d_La_law_385 : decode code 385 = .ok (.ireturn, 1) := by decide +kernel
theorem d_La_law_386 : decode code 386 = .ok (.aload_n 1, 1) := by decide +kernel
theorem d_La_law_387 : decode code 387 = .ok (.aload_n 0, 1) := by decide +kernel
theorem d_La_law_388 : decode code 388 = .ok (.iload_n 3, 1) := by decide +kernel
theorem d_La_law_389 : decode code 389 = .ok (.iconst 1, 1) := by decide +kernel
theorem d_La_law_390 : decode code 390 = .ok (.iadd, 1) := by decide +kernel
theorem d_La_law_391 : decode code 391 = .ok (.iaload, 1) := by decide +kernel
theorem d_La_law_392 : decode code 392 = .ok (.aload_n 0, 1) := by decide +kernel
theorem d_La_law_393 : decode code 393 = .ok (.iload_n 3, 1) := by decide +kernel
theorem d_La_law_394 : decode code 394 = .ok (.iconst 2, 1) := by decide +kernel
theorem d_La_law_395 : decode code 395 = .ok (.iadd, 1) := by decide +kernel
theorem d_La_law_396 : decode code 396 = .ok (.iaload, 1) := by decide +kernel
theorem d_La_law_397 : decode code 397 = .ok (.invokevirtual 73, 3) := by decide +kernel
theorem d_La_law_400 : decode code 400 = .ok (.aload_n 2, 1) := by decide +kernel
theorem d_La_law_401 : decode code 401 = .ok (.aload_n 0, 1) := by decide +kernel
theorem d_La_law_402 : decode code 402 = .ok (.iload_n 3, 1) := by decide +kernel
theorem d_La_law_403 : decode code 403 = .ok (.iconst 1, 1) := by decide +kernel
theorem d_La_law_404 : decode code 404 = .ok (.iadd, 1) := by decide +kernel
theorem d_La_law_405 : decode code 405 = .ok (.iaload, 1) := by decide +kernel
theorem d_La_law_406 : decode code 406 = .ok (.aload_n 0, 1) := by decide +kernel
theorem d_La_law_407 : decode code 407 = .ok (.iload_n 3, 1) := by decide +kernel
theorem d_La_law_408 : decode code 408 = .ok (.iconst 2, 1) := by decide +kernel
theorem d_La_law_409 : decode code 409 = .ok (.iadd, 1) := by decide +kernel
theorem d_La_law_410 : decode code 410 = .ok (.iaload, 1) := by decide +kernel
theorem d_La_law_411 : decode code 411 = .ok (.invokevirtual 77, 3) := by decide +kernel
theorem d_La_law_414 : decode code 414 = .ok (.if_icmp .eq 41, 3) := by decide +kernel
theorem d_La_law_417 : decode code 417 = .ok (.iconst 0, 1) := by decide +kernel
theorem d_La_law_418 : decode code 418 = .ok (.ireturn, 1) := by decide +kernel
theorem d_La_law_419 : decode code 419 = .ok (.aload_n 1, 1) := by decide +kernel
theorem d_La_law_420 : decode code 420 = .ok (.invokevirtual 78, 3) := by decide +kernel
theorem d_La_law_423 : decode code 423 = .ok (.aload_n 2, 1) := by decide +kernel
theorem d_La_law_424 : decode code 424 = .ok (.invokevirtual 81, 3) := by decide +kernel
theorem d_La_law_427 : decode code 427 = .ok (.if_icmp .eq 28, 3) := by decide +kernel
theorem d_La_law_430 : decode code 430 = .ok (.iconst 0, 1) := by decide +kernel
theorem d_La_law_431 : decode code 431 = .ok (.ireturn, 1) := by decide +kernel
theorem d_La_law_432 : decode code 432 = .ok (.aload_n 1, 1) := by decide +kernel
theorem d_La_law_433 : decode code 433 = .ok (.aload_n 0, 1) := by decide +kernel
theorem d_La_law_434 : decode code 434 = .ok (.iload_n 3, 1) := by decide +kernel
theorem d_La_law_435 : decode code 435 = .ok (.iconst 1, 1) := by decide +kernel
theorem d_La_law_436 : decode code 436 = .ok (.iadd, 1) := by decide +kernel
theorem d_La_law_437 : decode code 437 = .ok (.iaload, 1) := by decide +kernel
theorem d_La_law_438 : decode code 438 = .ok (.invokevirtual 82, 3) := by decide +kernel
theorem d_La_law_441 : decode code 441 = .ok (.aload_n 2, 1) := by decide +kernel
theorem d_La_law_442 : decode code 442 = .ok (.aload_n 0, 1) := by decide +kernel
theorem d_La_law_443 : decode code 443 = .ok (.iload_n 3, 1) := by decide +kernel
theorem d_La_law_444 : decode code 444 = .ok (.iconst 1, 1) := by decide +kernel
theorem d_La_law_445 : decode code 445 = .ok (.iadd, 1) := by decide +kernel
theorem d_La_law_446 : decode code 446 = .ok (.iaload, 1) := by decide +kernel
theorem d_La_law_447 : decode code 447 = .ok (.invokevirtual 85, 3) := by decide +kernel
theorem d_La_law_450 : decode code 450 = .ok (.if_icmp .eq 5, 3) := by decide +kernel
theorem d_La_law_453 : decode code 453 = .ok (.iconst 0, 1) := by decide +kernel
theorem d_La_law_454 : decode code 454 = .ok (.ireturn, 1) := by decide +kernel
theorem d_La_law_455 : decode code 455 = .ok (.iinc 3 3, 3) := by decide +kernel
theorem d_La_law_458 : decode code 458 = .ok (.goto (-440), 3) := by decide +kernel
theorem d_La_law_461 : decode code 461 = .ok (.iconst 1, 1) := by decide +kernel
theorem d_La_law_462 : decode code 462 = .ok (.ireturn, 1) := by decide +kernel
theorem d_St_length_0 : decode b_St_length 0 = .ok (.aload_n 0, 1) := by decide +kernel
theorem d_St_length_1 : decode b_St_length 1 = .ok (.getfield 9, 3) := by decide +kernel
theorem d_St_length_4 : decode b_St_length 4 = .ok (.arraylength, 1) := by decide +kernel
theorem d_St_length_5 : decode b_St_length 5 = .ok (.aload_n 0, 1) := by decide +kernel
theorem d_St_length_6 : decode b_St_length 6 = .ok (.invokevirtual 335, 3) := by decide +kernel
theorem d_St_length_9 : decode b_St_length 9 = .ok (.ishr, 1) := by decide +kernel
theorem d_St_length_10 : decode b_St_length 10 = .ok (.ireturn, 1) := by decide +kernel
theorem d_St_coder_0 : decode b_St_coder 0 = .ok (.getstatic 38, 3) := by decide +kernel
theorem d_St_coder_3 : decode b_St_coder 3 = .ok (.ifCond .eq 10, 3) := by decide +kernel
theorem d_St_coder_6 : decode b_St_coder 6 = .ok (.aload_n 0, 1) := by decide +kernel
theorem d_St_coder_7 : decode b_St_coder 7 = .ok (.getfield 15, 3) := by decide +kernel
theorem d_St_coder_10 : decode b_St_coder 10 = .ok (.goto 4, 3) := by decide +kernel
theorem d_St_coder_13 : decode b_St_coder 13 = .ok (.iconst 1, 1) := by decide +kernel
theorem d_St_coder_14 : decode b_St_coder 14 = .ok (.ireturn, 1) := by decide +kernel
theorem d_St_charAt_0 : decode b_St_charAt 0 = .ok (.aload_n 0, 1) := by decide +kernel
theorem d_St_charAt_1 : decode b_St_charAt 1 = .ok (.invokevirtual 492, 3) := by decide +kernel
theorem d_St_charAt_4 : decode b_St_charAt 4 = .ok (.ifCond .eq 12, 3) := by decide +kernel
theorem d_St_charAt_7 : decode b_St_charAt 7 = .ok (.aload_n 0, 1) := by decide +kernel
theorem d_St_charAt_8 : decode b_St_charAt 8 = .ok (.getfield 9, 3) := by decide +kernel
theorem d_St_charAt_11 : decode b_St_charAt 11 = .ok (.iload_n 1, 1) := by decide +kernel
theorem d_St_charAt_12 : decode b_St_charAt 12 = .ok (.invokestatic 495, 3) := by decide +kernel
theorem d_St_charAt_15 : decode b_St_charAt 15 = .ok (.ireturn, 1) := by decide +kernel
theorem d_St_charAt_16 : decode b_St_charAt 16 = .ok (.aload_n 0, 1) := by decide +kernel
theorem d_St_charAt_17 : decode b_St_charAt 17 = .ok (.getfield 9, 3) := by decide +kernel
theorem d_St_charAt_20 : decode b_St_charAt 20 = .ok (.iload_n 1, 1) := by decide +kernel
theorem d_St_charAt_21 : decode b_St_charAt 21 = .ok (.invokestatic 498, 3) := by decide +kernel
theorem d_St_charAt_24 : decode b_St_charAt 24 = .ok (.ireturn, 1) := by decide +kernel
theorem d_St_isLatin1_0 : decode b_St_isLatin1 0 = .ok (.getstatic 38, 3) := by decide +kernel
theorem d_St_isLatin1_3 : decode b_St_isLatin1 3 = .ok (.ifCond .eq 14, 3) := by decide +kernel
theorem d_St_isLatin1_6 : decode b_St_isLatin1 6 = .ok (.aload_n 0, 1) := by decide +kernel
theorem d_St_isLatin1_7 : decode b_St_isLatin1 7 = .ok (.getfield 15, 3) := by decide +kernel
theorem d_St_isLatin1_10 : decode b_St_isLatin1 10 = .ok (.ifCond .ne 7, 3) := by decide +kernel
theorem d_St_isLatin1_13 : decode b_St_isLatin1 13 = .ok (.iconst 1, 1) := by decide +kernel
theorem d_St_isLatin1_14 : decode b_St_isLatin1 14 = .ok (.goto 4, 3) := by decide +kernel
theorem d_St_isLatin1_17 : decode b_St_isLatin1 17 = .ok (.iconst 0, 1) := by decide +kernel
theorem d_St_isLatin1_18 : decode b_St_isLatin1 18 = .ok (.ireturn, 1) := by decide +kernel
theorem d_Sl_charAt_0 : decode b_Sl_charAt 0 = .ok (.iload_n 1, 1) := by decide +kernel
theorem d_Sl_charAt_1 : decode b_Sl_charAt 1 = .ok (.aload_n 0, 1) := by decide +kernel
