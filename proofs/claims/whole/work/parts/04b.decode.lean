theorem d_Mo_has_16 : decode b_Mo_has 16 = .ok (.iconst 0, 1) := by decide +kernel
theorem d_Mo_has_17 : decode b_Mo_has 17 = .ok (.ireturn, 1) := by decide +kernel
theorem d_Mo_enter_0 : decode b_Mo_enter 0 = .ok (.aload_n 0, 1) := by decide +kernel
theorem d_Mo_enter_1 : decode b_Mo_enter 1 = .ok (.iload_n 1, 1) := by decide +kernel
theorem d_Mo_enter_2 : decode b_Mo_enter 2 = .ok (.invokevirtual 36, 3) := by decide +kernel
theorem d_Mo_enter_5 : decode b_Mo_enter 5 = .ok (.ifCond .eq 12, 3) := by decide +kernel
theorem d_Mo_enter_8 : decode b_Mo_enter 8 = .ok (.aload_n 0, 1) := by decide +kernel
theorem d_Mo_enter_9 : decode b_Mo_enter 9 = .ok (.getfield 40, 3) := by decide +kernel
theorem d_Mo_enter_12 : decode b_Mo_enter 12 = .ok (.bipush 16, 2) := by decide +kernel
theorem d_Mo_enter_14 : decode b_Mo_enter 14 = .ok (.if_icmp .ne 5, 3) := by decide +kernel
theorem d_Mo_enter_17 : decode b_Mo_enter 17 = .ok (.iconst 0, 1) := by decide +kernel
theorem d_Mo_enter_18 : decode b_Mo_enter 18 = .ok (.ireturn, 1) := by decide +kernel
theorem d_Mo_enter_19 : decode b_Mo_enter 19 = .ok (.iconst 0, 1) := by decide +kernel
theorem d_Mo_enter_20 : decode b_Mo_enter 20 = .ok (.istore_n 2, 1) := by decide +kernel
theorem d_Mo_enter_21 : decode b_Mo_enter 21 = .ok (.iload_n 2, 1) := by decide +kernel
theorem d_Mo_enter_22 : decode b_Mo_enter 22 = .ok (.aload_n 0, 1) := by decide +kernel
theorem d_Mo_enter_23 : decode b_Mo_enter 23 = .ok (.getfield 40, 3) := by decide +kernel
theorem d_Mo_enter_26 : decode b_Mo_enter 26 = .ok (.if_icmp .ge 21, 3) := by decide +kernel
theorem d_Mo_enter_29 : decode b_Mo_enter 29 = .ok (.aload_n 0, 1) := by decide +kernel
theorem d_Mo_enter_30 : decode b_Mo_enter 30 = .ok (.getfield 13, 3) := by decide +kernel
theorem d_Mo_enter_33 : decode b_Mo_enter 33 = .ok (.iload_n 2, 1) := by decide +kernel
theorem d_Mo_enter_34 : decode b_Mo_enter 34 = .ok (.iaload, 1) := by decide +kernel
theorem d_Mo_enter_35 : decode b_Mo_enter 35 = .ok (.iload_n 1, 1) := by decide +kernel
theorem d_Mo_enter_36 : decode b_Mo_enter 36 = .ok (.if_icmp .ne 5, 3) := by decide +kernel
theorem d_Mo_enter_39 : decode b_Mo_enter 39 = .ok (.iconst 0, 1) := by decide +kernel
theorem d_Mo_enter_40 : decode b_Mo_enter 40 = .ok (.ireturn, 1) := by decide +kernel
theorem d_Mo_enter_41 : decode b_Mo_enter 41 = .ok (.iinc 2 1, 3) := by decide +kernel
theorem d_Mo_enter_44 : decode b_Mo_enter 44 = .ok (.goto (-23), 3) := by decide +kernel
theorem d_Mo_enter_47 : decode b_Mo_enter 47 = .ok (.aload_n 0, 1) := by decide +kernel
theorem d_Mo_enter_48 : decode b_Mo_enter 48 = .ok (.getfield 13, 3) := by decide +kernel
theorem d_Mo_enter_51 : decode b_Mo_enter 51 = .ok (.aload_n 0, 1) := by decide +kernel
theorem d_Mo_enter_52 : decode b_Mo_enter 52 = .ok (.getfield 40, 3) := by decide +kernel
theorem d_Mo_enter_55 : decode b_Mo_enter 55 = .ok (.iload_n 1, 1) := by decide +kernel
theorem d_Mo_enter_56 : decode b_Mo_enter 56 = .ok (.iastore, 1) := by decide +kernel
theorem d_Mo_enter_57 : decode b_Mo_enter 57 = .ok (.aload_n 0, 1) := by decide +kernel
theorem d_Mo_enter_58 : decode b_Mo_enter 58 = .ok (.aload_n 0, 1) := by decide +kernel
theorem d_Mo_enter_59 : decode b_Mo_enter 59 = .ok (.getfield 40, 3) := by decide +kernel
theorem d_Mo_enter_62 : decode b_Mo_enter 62 = .ok (.iconst 1, 1) := by decide +kernel
theorem d_Mo_enter_63 : decode b_Mo_enter 63 = .ok (.iadd, 1) := by decide +kernel
theorem d_Mo_enter_64 : decode b_Mo_enter 64 = .ok (.putfield 40, 3) := by decide +kernel
theorem d_Mo_enter_67 : decode b_Mo_enter 67 = .ok (.iconst 1, 1) := by decide +kernel
theorem d_Mo_enter_68 : decode b_Mo_enter 68 = .ok (.ireturn, 1) := by decide +kernel
theorem d_Mo_clear_0 : decode b_Mo_clear 0 = .ok (.aload_n 0, 1) := by decide +kernel
theorem d_Mo_clear_1 : decode b_Mo_clear 1 = .ok (.iconst 0, 1) := by decide +kernel
theorem d_Mo_clear_2 : decode b_Mo_clear 2 = .ok (.putfield 32, 3) := by decide +kernel
theorem d_Mo_clear_5 : decode b_Mo_clear 5 = .ok (.aload_n 0, 1) := by decide +kernel
theorem d_Mo_clear_6 : decode b_Mo_clear 6 = .ok (.iconst 0, 1) := by decide +kernel
theorem d_Mo_clear_7 : decode b_Mo_clear 7 = .ok (.putfield 40, 3) := by decide +kernel
theorem d_Mo_clear_10 : decode b_Mo_clear 10 = .ok (.aload_n 0, 1) := by decide +kernel
theorem d_Mo_clear_11 : decode b_Mo_clear 11 = .ok (.iconst 0, 1) := by decide +kernel
theorem d_Mo_clear_12 : decode b_Mo_clear 12 = .ok (.putfield 43, 3) := by decide +kernel
theorem d_Mo_clear_15 : decode b_Mo_clear 15 = .ok (.aload_n 0, 1) := by decide +kernel
theorem d_Mo_clear_16 : decode b_Mo_clear 16 = .ok (.iconst 0, 1) := by decide +kernel
theorem d_Mo_clear_17 : decode b_Mo_clear 17 = .ok (.putfield 46, 3) := by decide +kernel
theorem d_Mo_clear_20 : decode b_Mo_clear 20 = .ok (.return_, 1) := by decide +kernel
theorem d_Mo_size_0 : decode b_Mo_size 0 = .ok (.aload_n 0, 1) := by decide +kernel
theorem d_Mo_size_1 : decode b_Mo_size 1 = .ok (.getfield 32, 3) := by decide +kernel
theorem d_Mo_size_4 : decode b_Mo_size 4 = .ok (.ireturn, 1) := by decide +kernel
theorem d_Mo_byteAt_0 : decode b_Mo_byteAt 0 = .ok (.aload_n 0, 1) := by decide +kernel
theorem d_Mo_byteAt_1 : decode b_Mo_byteAt 1 = .ok (.iload_n 1, 1) := by decide +kernel
theorem d_Mo_byteAt_2 : decode b_Mo_byteAt 2 = .ok (.invokevirtual 36, 3) := by decide +kernel
theorem d_Mo_byteAt_5 : decode b_Mo_byteAt 5 = .ok (.ifCond .eq 12, 3) := by decide +kernel
theorem d_Mo_byteAt_8 : decode b_Mo_byteAt 8 = .ok (.aload_n 0, 1) := by decide +kernel
theorem d_Mo_byteAt_9 : decode b_Mo_byteAt 9 = .ok (.getfield 7, 3) := by decide +kernel
theorem d_Mo_byteAt_12 : decode b_Mo_byteAt 12 = .ok (.iload_n 1, 1) := by decide +kernel
theorem d_Mo_byteAt_13 : decode b_Mo_byteAt 13 = .ok (.iaload, 1) := by decide +kernel
theorem d_Mo_byteAt_14 : decode b_Mo_byteAt 14 = .ok (.goto 4, 3) := by decide +kernel
theorem d_Mo_byteAt_17 : decode b_Mo_byteAt 17 = .ok (.iconst (-1), 1) := by decide +kernel
theorem d_Mo_byteAt_18 : decode b_Mo_byteAt 18 = .ok (.ireturn, 1) := by decide +kernel
theorem d_Mo_entry_0 : decode b_Mo_entry 0 = .ok (.iload_n 1, 1) := by decide +kernel
theorem d_Mo_entry_1 : decode b_Mo_entry 1 = .ok (.ifCond .lt 20, 3) := by decide +kernel
theorem d_Mo_entry_4 : decode b_Mo_entry 4 = .ok (.iload_n 1, 1) := by decide +kernel
theorem d_Mo_entry_5 : decode b_Mo_entry 5 = .ok (.aload_n 0, 1) := by decide +kernel
theorem d_Mo_entry_6 : decode b_Mo_entry 6 = .ok (.getfield 40, 3) := by decide +kernel
theorem d_Mo_entry_9 : decode b_Mo_entry 9 = .ok (.if_icmp .ge 12, 3) := by decide +kernel
theorem d_Mo_entry_12 : decode b_Mo_entry 12 = .ok (.aload_n 0, 1) := by decide +kernel
theorem d_Mo_entry_13 : decode b_Mo_entry 13 = .ok (.getfield 13, 3) := by decide +kernel
theorem d_Mo_entry_16 : decode b_Mo_entry 16 = .ok (.iload_n 1, 1) := by decide +kernel
theorem d_Mo_entry_17 : decode b_Mo_entry 17 = .ok (.iaload, 1) := by decide +kernel
theorem d_Mo_entry_18 : decode b_Mo_entry 18 = .ok (.goto 4, 3) := by decide +kernel
theorem d_Mo_entry_21 : decode b_Mo_entry 21 = .ok (.iconst (-1), 1) := by decide +kernel
theorem d_Mo_entry_22 : decode b_Mo_entry 22 = .ok (.ireturn, 1) := by decide +kernel
theorem d_Mo_longOf_0 : decode b_Mo_longOf 0 = .ok (.iload_n 0, 1) := by decide +kernel
theorem d_Mo_longOf_1 : decode b_Mo_longOf 1 = .ok (.ifCond .lt 9, 3) := by decide +kernel
theorem d_Mo_longOf_4 : decode b_Mo_longOf 4 = .ok (.iload_n 0, 1) := by decide +kernel
theorem d_Mo_longOf_5 : decode b_Mo_longOf 5 = .ok (.bipush 119, 2) := by decide +kernel
theorem d_Mo_longOf_7 : decode b_Mo_longOf 7 = .ok (.if_icmp .le 5, 3) := by decide +kernel
theorem d_Mo_longOf_10 : decode b_Mo_longOf 10 = .ok (.iconst 0, 1) := by decide +kernel
theorem d_Mo_longOf_11 : decode b_Mo_longOf 11 = .ok (.ireturn, 1) := by decide +kernel
theorem d_Mo_longOf_12 : decode b_Mo_longOf 12 = .ok (.iload_n 0, 1) := by decide +kernel
theorem d_Mo_longOf_13 : decode b_Mo_longOf 13 = .ok (.bipush 16, 2) := by decide +kernel
theorem d_Mo_longOf_15 : decode b_Mo_longOf 15 = .ok (.idiv, 1) := by decide +kernel
theorem d_Mo_longOf_16 : decode b_Mo_longOf 16 = .ok (.istore_n 1, 1) := by decide +kernel
theorem d_Mo_longOf_17 : decode b_Mo_longOf 17 = .ok (.iload_n 1, 1) := by decide +kernel
theorem d_Mo_longOf_18 : decode b_Mo_longOf 18 = .ok (.ifCond .ne 14, 3) := by decide +kernel
theorem d_Mo_longOf_21 : decode b_Mo_longOf 21 = .ok (.iload_n 0, 1) := by decide +kernel
theorem d_Mo_longOf_22 : decode b_Mo_longOf 22 = .ok (.iconst 2, 1) := by decide +kernel
theorem d_Mo_longOf_23 : decode b_Mo_longOf 23 = .ok (.if_icmp .gt 7, 3) := by decide +kernel
theorem d_Mo_longOf_26 : decode b_Mo_longOf 26 = .ok (.iconst 1, 1) := by decide +kernel
theorem d_Mo_longOf_27 : decode b_Mo_longOf 27 = .ok (.goto 4, 3) := by decide +kernel
theorem d_Mo_longOf_30 : decode b_Mo_longOf 30 = .ok (.iconst 0, 1) := by decide +kernel
theorem d_Mo_longOf_31 : decode b_Mo_longOf 31 = .ok (.ireturn, 1) := by decide +kernel
theorem d_Mo_longOf_32 : decode b_Mo_longOf 32 = .ok (.iload_n 1, 1) := by decide +kernel
theorem d_Mo_longOf_33 : decode b_Mo_longOf 33 = .ok (.iconst 3, 1) := by decide +kernel
theorem d_Mo_longOf_34 : decode b_Mo_longOf 34 = .ok (.if_icmp .eq 8, 3) := by decide +kernel
theorem d_Mo_longOf_37 : decode b_Mo_longOf 37 = .ok (.iload_n 1, 1) := by decide +kernel
theorem d_Mo_longOf_38 : decode b_Mo_longOf 38 = .ok (.iconst 4, 1) := by decide +kernel
theorem d_Mo_longOf_39 : decode b_Mo_longOf 39 = .ok (.if_icmp .ne 5, 3) := by decide +kernel
theorem d_Mo_longOf_42 : decode b_Mo_longOf 42 = .ok (.iconst 1, 1) := by decide +kernel
theorem d_Mo_longOf_43 : decode b_Mo_longOf 43 = .ok (.ireturn, 1) := by decide +kernel
theorem d_Mo_longOf_44 : decode b_Mo_longOf 44 = .ok (.iload_n 1, 1) := by decide +kernel
theorem d_Mo_longOf_45 : decode b_Mo_longOf 45 = .ok (.iconst 5, 1) := by decide +kernel
theorem d_Mo_longOf_46 : decode b_Mo_longOf 46 = .ok (.if_icmp .ne 15, 3) := by decide +kernel
theorem d_Mo_longOf_49 : decode b_Mo_longOf 49 = .ok (.iload_n 0, 1) := by decide +kernel
theorem d_Mo_longOf_50 : decode b_Mo_longOf 50 = .ok (.bipush 85, 2) := by decide +kernel
theorem d_Mo_longOf_52 : decode b_Mo_longOf 52 = .ok (.if_icmp .gt 7, 3) := by decide +kernel
theorem d_Mo_longOf_55 : decode b_Mo_longOf 55 = .ok (.iconst 3, 1) := by decide +kernel
theorem d_Mo_longOf_56 : decode b_Mo_longOf 56 = .ok (.goto 4, 3) := by decide +kernel
theorem d_Mo_longOf_59 : decode b_Mo_longOf 59 = .ok (.iconst 0, 1) := by decide +kernel
theorem d_Mo_longOf_60 : decode b_Mo_longOf 60 = .ok (.ireturn, 1) := by decide +kernel
theorem d_Mo_longOf_61 : decode b_Mo_longOf 61 = .ok (.iload_n 1, 1) := by decide +kernel
theorem d_Mo_longOf_62 : decode b_Mo_longOf 62 = .ok (.bipush 7, 2) := by decide +kernel
theorem d_Mo_longOf_64 : decode b_Mo_longOf 64 = .ok (.if_icmp .ne 5, 3) := by decide +kernel
theorem d_Mo_longOf_67 : decode b_Mo_longOf 67 = .ok (.iconst 3, 1) := by decide +kernel
theorem d_Mo_longOf_68 : decode b_Mo_longOf 68 = .ok (.ireturn, 1) := by decide +kernel
theorem d_Mo_longOf_69 : decode b_Mo_longOf 69 = .ok (.iload_n 0, 1) := by decide +kernel
theorem d_Mo_longOf_70 : decode b_Mo_longOf 70 = .ok (.bipush 16, 2) := by decide +kernel
theorem d_Mo_longOf_72 : decode b_Mo_longOf 72 = .ok (.irem, 1) := by decide +kernel
theorem d_Mo_longOf_73 : decode b_Mo_longOf 73 = .ok (.iconst 3, 1) := by decide +kernel
theorem d_Mo_longOf_74 : decode b_Mo_longOf 74 = .ok (.if_icmp .le 5, 3) := by decide +kernel
theorem d_Mo_longOf_77 : decode b_Mo_longOf 77 = .ok (.iconst 0, 1) := by decide +kernel
theorem d_Mo_longOf_78 : decode b_Mo_longOf 78 = .ok (.ireturn, 1) := by decide +kernel
theorem d_Mo_longOf_79 : decode b_Mo_longOf 79 = .ok (.iload_n 1, 1) := by decide +kernel
theorem d_Mo_longOf_80 : decode b_Mo_longOf 80 = .ok (.iconst 1, 1) := by decide +kernel
theorem d_Mo_longOf_81 : decode b_Mo_longOf 81 = .ok (.if_icmp .ne 7, 3) := by decide +kernel
theorem d_Mo_longOf_84 : decode b_Mo_longOf 84 = .ok (.iconst 1, 1) := by decide +kernel
theorem d_Mo_longOf_85 : decode b_Mo_longOf 85 = .ok (.goto 4, 3) := by decide +kernel
theorem d_Mo_longOf_88 : decode b_Mo_longOf 88 = .ok (.iconst 2, 1) := by decide +kernel
theorem d_Mo_longOf_89 : decode b_Mo_longOf 89 = .ok (.ireturn, 1) := by decide +kernel
theorem d_Mo_length_0 : decode b_Mo_length 0 = .ok (.aload_n 0, 1) := by decide +kernel
theorem d_Mo_length_1 : decode b_Mo_length 1 = .ok (.iload_n 1, 1) := by decide +kernel
theorem d_Mo_length_2 : decode b_Mo_length 2 = .ok (.invokevirtual 36, 3) := by decide +kernel
theorem d_Mo_length_5 : decode b_Mo_length 5 = .ok (.ifCond .ne 5, 3) := by decide +kernel
theorem d_Mo_length_8 : decode b_Mo_length 8 = .ok (.iconst 0, 1) := by decide +kernel
theorem d_Mo_length_9 : decode b_Mo_length 9 = .ok (.ireturn, 1) := by decide +kernel
theorem d_Mo_length_10 : decode b_Mo_length 10 = .ok (.aload_n 0, 1) := by decide +kernel
theorem d_Mo_length_11 : decode b_Mo_length 11 = .ok (.getfield 7, 3) := by decide +kernel
theorem d_Mo_length_14 : decode b_Mo_length 14 = .ok (.iload_n 1, 1) := by decide +kernel
theorem d_Mo_length_15 : decode b_Mo_length 15 = .ok (.iaload, 1) := by decide +kernel
theorem d_Mo_length_16 : decode b_Mo_length 16 = .ok (.invokestatic 49, 3) := by decide +kernel
theorem d_Mo_length_19 : decode b_Mo_length 19 = .ok (.istore_n 2, 1) := by decide +kernel
theorem d_Mo_length_20 : decode b_Mo_length 20 = .ok (.iload_n 1, 1) := by decide +kernel
theorem d_Mo_length_21 : decode b_Mo_length 21 = .ok (.iload_n 2, 1) := by decide +kernel
theorem d_Mo_length_22 : decode b_Mo_length 22 = .ok (.iadd, 1) := by decide +kernel
theorem d_Mo_length_23 : decode b_Mo_length 23 = .ok (.aload_n 0, 1) := by decide +kernel
theorem d_Mo_length_24 : decode b_Mo_length 24 = .ok (.getfield 32, 3) := by decide +kernel
theorem d_Mo_length_27 : decode b_Mo_length 27 = .ok (.if_icmp .gt 7, 3) := by decide +kernel
theorem d_Mo_length_30 : decode b_Mo_length 30 = .ok (.iload_n 2, 1) := by decide +kernel
theorem d_Mo_length_31 : decode b_Mo_length 31 = .ok (.goto 4, 3) := by decide +kernel
theorem d_Mo_length_34 : decode b_Mo_length 34 = .ok (.iconst 0, 1) := by decide +kernel
theorem d_Mo_length_35 : decode b_Mo_length 35 = .ok (.ireturn, 1) := by decide +kernel
theorem d_Mo_set_0 : decode b_Mo_set 0 = .ok (.aload_n 0, 1) := by decide +kernel
theorem d_Mo_set_1 : decode b_Mo_set 1 = .ok (.iload_n 1, 1) := by decide +kernel
theorem d_Mo_set_2 : decode b_Mo_set 2 = .ok (.invokevirtual 36, 3) := by decide +kernel
theorem d_Mo_set_5 : decode b_Mo_set 5 = .ok (.ifCond .eq 12, 3) := by decide +kernel
theorem d_Mo_set_8 : decode b_Mo_set 8 = .ok (.aload_n 0, 1) := by decide +kernel
theorem d_Mo_set_9 : decode b_Mo_set 9 = .ok (.getfield 25, 3) := by decide +kernel
theorem d_Mo_set_12 : decode b_Mo_set 12 = .ok (.iload_n 1, 1) := by decide +kernel
theorem d_Mo_set_13 : decode b_Mo_set 13 = .ok (.baload, 1) := by decide +kernel
theorem d_Mo_set_14 : decode b_Mo_set 14 = .ok (.ifCond .eq 5, 3) := by decide +kernel
theorem d_Mo_set_17 : decode b_Mo_set 17 = .ok (.iconst 0, 1) := by decide +kernel
theorem d_Mo_set_18 : decode b_Mo_set 18 = .ok (.ireturn, 1) := by decide +kernel
theorem d_Mo_set_19 : decode b_Mo_set 19 = .ok (.aload_n 0, 1) := by decide +kernel
theorem d_Mo_set_20 : decode b_Mo_set 20 = .ok (.getfield 25, 3) := by decide +kernel
theorem d_Mo_set_23 : decode b_Mo_set 23 = .ok (.iload_n 1, 1) := by decide +kernel
theorem d_Mo_set_24 : decode b_Mo_set 24 = .ok (.iconst 1, 1) := by decide +kernel
theorem d_Mo_set_25 : decode b_Mo_set 25 = .ok (.bastore, 1) := by decide +kernel
theorem d_Mo_set_26 : decode b_Mo_set 26 = .ok (.iconst 1, 1) := by decide +kernel
theorem d_Mo_set_27 : decode b_Mo_set 27 = .ok (.ireturn, 1) := by decide +kernel
theorem d_Mo_follow_0 : decode b_Mo_follow 0 = .ok (.aload_n 0, 1) := by decide +kernel
theorem d_Mo_follow_1 : decode b_Mo_follow 1 = .ok (.iload_n 1, 1) := by decide +kernel
theorem d_Mo_follow_2 : decode b_Mo_follow 2 = .ok (.invokevirtual 53, 3) := by decide +kernel
theorem d_Mo_follow_5 : decode b_Mo_follow 5 = .ok (.istore_n 3, 1) := by decide +kernel
theorem d_Mo_follow_6 : decode b_Mo_follow 6 = .ok (.aload_n 0, 1) := by decide +kernel
theorem d_Mo_follow_7 : decode b_Mo_follow 7 = .ok (.getfield 7, 3) := by decide +kernel
theorem d_Mo_follow_10 : decode b_Mo_follow 10 = .ok (.iload_n 1, 1) := by decide +kernel
theorem d_Mo_follow_11 : decode b_Mo_follow 11 = .ok (.iaload, 1) := by decide +kernel
theorem d_Mo_follow_12 : decode b_Mo_follow 12 = .ok (.istore 4, 2) := by decide +kernel
theorem d_Mo_follow_14 : decode b_Mo_follow 14 = .ok (.iload_n 3, 1) := by decide +kernel
theorem d_Mo_follow_15 : decode b_Mo_follow 15 = .ok (.ifCond .ne 5, 3) := by decide +kernel
theorem d_Mo_follow_18 : decode b_Mo_follow 18 = .ok (.iconst 0, 1) := by decide +kernel
theorem d_Mo_follow_19 : decode b_Mo_follow 19 = .ok (.ireturn, 1) := by decide +kernel
theorem d_Mo_follow_20 : decode b_Mo_follow 20 = .ok (.iconst 0, 1) := by decide +kernel
theorem d_Mo_follow_21 : decode b_Mo_follow 21 = .ok (.istore 5, 2) := by decide +kernel
theorem d_Mo_follow_23 : decode b_Mo_follow 23 = .ok (.iload 4, 2) := by decide +kernel
theorem d_Mo_follow_25 : decode b_Mo_follow 25 = .ok (.iconst 1, 1) := by decide +kernel
theorem d_Mo_follow_26 : decode b_Mo_follow 26 = .ok (.if_icmp .eq 25, 3) := by decide +kernel
theorem d_Mo_follow_29 : decode b_Mo_follow 29 = .ok (.iload 4, 2) := by decide +kernel
theorem d_Mo_follow_31 : decode b_Mo_follow 31 = .ok (.iconst 2, 1) := by decide +kernel
theorem d_Mo_follow_32 : decode b_Mo_follow 32 = .ok (.if_icmp .eq 19, 3) := by decide +kernel
theorem d_Mo_follow_35 : decode b_Mo_follow 35 = .ok (.iload 4, 2) := by decide +kernel
theorem d_Mo_follow_37 : decode b_Mo_follow 37 = .ok (.bipush 80, 2) := by decide +kernel
theorem d_Mo_follow_39 : decode b_Mo_follow 39 = .ok (.if_icmp .eq 12, 3) := by decide +kernel
theorem d_Mo_follow_42 : decode b_Mo_follow 42 = .ok (.aload_n 0, 1) := by decide +kernel
theorem d_Mo_follow_43 : decode b_Mo_follow 43 = .ok (.iload_n 1, 1) := by decide +kernel
theorem d_Mo_follow_44 : decode b_Mo_follow 44 = .ok (.iload_n 3, 1) := by decide +kernel
theorem d_Mo_follow_45 : decode b_Mo_follow 45 = .ok (.iadd, 1) := by decide +kernel
theorem d_Mo_follow_46 : decode b_Mo_follow 46 = .ok (.invokevirtual 55, 3) := by decide +kernel
theorem d_Mo_follow_49 : decode b_Mo_follow 49 = .ok (.istore 5, 2) := by decide +kernel
theorem d_Mo_follow_51 : decode b_Mo_follow 51 = .ok (.iload 4, 2) := by decide +kernel
theorem d_Mo_follow_53 : decode b_Mo_follow 53 = .ok (.bipush 80, 2) := by decide +kernel
theorem d_Mo_follow_55 : decode b_Mo_follow 55 = .ok (.if_icmp .lt 52, 3) := by decide +kernel
theorem d_Mo_follow_58 : decode b_Mo_follow 58 = .ok (.iload 4, 2) := by decide +kernel
theorem d_Mo_follow_60 : decode b_Mo_follow 60 = .ok (.bipush 85, 2) := by decide +kernel
theorem d_Mo_follow_62 : decode b_Mo_follow 62 = .ok (.if_icmp .gt 45, 3) := by decide +kernel
theorem d_Mo_follow_65 : decode b_Mo_follow 65 = .ok (.iload 4, 2) := by decide +kernel
theorem d_Mo_follow_67 : decode b_Mo_follow 67 = .ok (.bipush 81, 2) := by decide +kernel
theorem d_Mo_follow_69 : decode b_Mo_follow 69 = .ok (.if_icmp .ne 7, 3) := by decide +kernel
theorem d_Mo_follow_72 : decode b_Mo_follow 72 = .ok (.iload_n 2, 1) := by decide +kernel
theorem d_Mo_follow_73 : decode b_Mo_follow 73 = .ok (.ifCond .eq 34, 3) := by decide +kernel
theorem d_Mo_follow_76 : decode b_Mo_follow 76 = .ok (.aload_n 0, 1) := by decide +kernel
theorem d_Mo_follow_77 : decode b_Mo_follow 77 = .ok (.sipush 256, 3) := by decide +kernel
theorem d_Mo_follow_80 : decode b_Mo_follow 80 = .ok (.aload_n 0, 1) := by decide +kernel
theorem d_Mo_follow_81 : decode b_Mo_follow 81 = .ok (.getfield 7, 3) := by decide +kernel
theorem d_Mo_follow_84 : decode b_Mo_follow 84 = .ok (.iload_n 1, 1) := by decide +kernel
theorem d_Mo_follow_85 : decode b_Mo_follow 85 = .ok (.iconst 1, 1) := by decide +kernel
theorem d_Mo_follow_86 : decode b_Mo_follow 86 = .ok (.iadd, 1) := by decide +kernel
theorem d_Mo_follow_87 : decode b_Mo_follow 87 = .ok (.iaload, 1) := by decide +kernel
theorem d_Mo_follow_88 : decode b_Mo_follow 88 = .ok (.imul, 1) := by decide +kernel
theorem d_Mo_follow_89 : decode b_Mo_follow 89 = .ok (.aload_n 0, 1) := by decide +kernel
theorem d_Mo_follow_90 : decode b_Mo_follow 90 = .ok (.getfield 7, 3) := by decide +kernel
theorem d_Mo_follow_93 : decode b_Mo_follow 93 = .ok (.iload_n 1, 1) := by decide +kernel
theorem d_Mo_follow_94 : decode b_Mo_follow 94 = .ok (.iconst 2, 1) := by decide +kernel
theorem d_Mo_follow_95 : decode b_Mo_follow 95 = .ok (.iadd, 1) := by decide +kernel
theorem d_Mo_follow_96 : decode b_Mo_follow 96 = .ok (.iaload, 1) := by decide +kernel
theorem d_Mo_follow_97 : decode b_Mo_follow 97 = .ok (.iadd, 1) := by decide +kernel
theorem d_Mo_follow_98 : decode b_Mo_follow 98 = .ok (.invokevirtual 55, 3) := by decide +kernel
theorem d_Mo_follow_101 : decode b_Mo_follow 101 = .ok (.ifCond .eq 6, 3) := by decide +kernel
theorem d_Mo_follow_104 : decode b_Mo_follow 104 = .ok (.iconst 1, 1) := by decide +kernel
theorem d_Mo_follow_105 : decode b_Mo_follow 105 = .ok (.istore 5, 2) := by decide +kernel
theorem d_Mo_follow_107 : decode b_Mo_follow 107 = .ok (.iload 4, 2) := by decide +kernel
theorem d_Mo_follow_109 : decode b_Mo_follow 109 = .ok (.bipush 96, 2) := by decide +kernel
theorem d_Mo_follow_111 : decode b_Mo_follow 111 = .ok (.if_icmp .lt 33, 3) := by decide +kernel
theorem d_Mo_follow_114 : decode b_Mo_follow 114 = .ok (.iload 4, 2) := by decide +kernel
theorem d_Mo_follow_116 : decode b_Mo_follow 116 = .ok (.bipush 99, 2) := by decide +kernel
theorem d_Mo_follow_118 : decode b_Mo_follow 118 = .ok (.if_icmp .gt 26, 3) := by decide +kernel
theorem d_Mo_follow_121 : decode b_Mo_follow 121 = .ok (.aload_n 0, 1) := by decide +kernel
theorem d_Mo_follow_122 : decode b_Mo_follow 122 = .ok (.iload_n 1, 1) := by decide +kernel
theorem d_Mo_follow_123 : decode b_Mo_follow 123 = .ok (.iload_n 3, 1) := by decide +kernel
theorem d_Mo_follow_124 : decode b_Mo_follow 124 = .ok (.iadd, 1) := by decide +kernel
theorem d_Mo_follow_125 : decode b_Mo_follow 125 = .ok (.aload_n 0, 1) := by decide +kernel
theorem d_Mo_follow_126 : decode b_Mo_follow 126 = .ok (.getfield 7, 3) := by decide +kernel
theorem d_Mo_follow_129 : decode b_Mo_follow 129 = .ok (.iload_n 1, 1) := by decide +kernel
theorem d_Mo_follow_130 : decode b_Mo_follow 130 = .ok (.iconst 1, 1) := by decide +kernel
theorem d_Mo_follow_131 : decode b_Mo_follow 131 = .ok (.iadd, 1) := by decide +kernel
theorem d_Mo_follow_132 : decode b_Mo_follow 132 = .ok (.iaload, 1) := by decide +kernel
theorem d_Mo_follow_133 : decode b_Mo_follow 133 = .ok (.i2b, 1) := by decide +kernel
theorem d_Mo_follow_134 : decode b_Mo_follow 134 = .ok (.iadd, 1) := by decide +kernel
theorem d_Mo_follow_135 : decode b_Mo_follow 135 = .ok (.invokevirtual 55, 3) := by decide +kernel
theorem d_Mo_follow_138 : decode b_Mo_follow 138 = .ok (.ifCond .eq 6, 3) := by decide +kernel
theorem d_Mo_follow_141 : decode b_Mo_follow 141 = .ok (.iconst 1, 1) := by decide +kernel
theorem d_Mo_follow_142 : decode b_Mo_follow 142 = .ok (.istore 5, 2) := by decide +kernel
theorem d_Mo_follow_144 : decode b_Mo_follow 144 = .ok (.iload 5, 2) := by decide +kernel
theorem d_Mo_follow_146 : decode b_Mo_follow 146 = .ok (.ireturn, 1) := by decide +kernel
theorem d_Mo_close_0 : decode b_Mo_close 0 = .ok (.iconst 1, 1) := by decide +kernel
theorem d_Mo_close_1 : decode b_Mo_close 1 = .ok (.istore_n 2, 1) := by decide +kernel
theorem d_Mo_close_2 : decode b_Mo_close 2 = .ok (.iconst 0, 1) := by decide +kernel
theorem d_Mo_close_3 : decode b_Mo_close 3 = .ok (.istore_n 3, 1) := by decide +kernel
theorem d_Mo_close_4 : decode b_Mo_close 4 = .ok (.iload_n 3, 1) := by decide +kernel
theorem d_Mo_close_5 : decode b_Mo_close 5 = .ok (.sipush 1000, 3) := by decide +kernel
theorem d_Mo_close_8 : decode b_Mo_close 8 = .ok (.if_icmp .ge 55, 3) := by decide +kernel
theorem d_Mo_close_11 : decode b_Mo_close 11 = .ok (.iload_n 2, 1) := by decide +kernel
theorem d_Mo_close_12 : decode b_Mo_close 12 = .ok (.ifCond .eq 51, 3) := by decide +kernel
theorem d_Mo_close_15 : decode b_Mo_close 15 = .ok (.iconst 0, 1) := by decide +kernel
theorem d_Mo_close_16 : decode b_Mo_close 16 = .ok (.istore_n 2, 1) := by decide +kernel
theorem d_Mo_close_17 : decode b_Mo_close 17 = .ok (.iconst 0, 1) := by decide +kernel
theorem d_Mo_close_18 : decode b_Mo_close 18 = .ok (.istore 4, 2) := by decide +kernel
theorem d_Mo_close_20 : decode b_Mo_close 20 = .ok (.iload 4, 2) := by decide +kernel
theorem d_Mo_close_22 : decode b_Mo_close 22 = .ok (.aload_n 0, 1) := by decide +kernel
theorem d_Mo_close_23 : decode b_Mo_close 23 = .ok (.getfield 32, 3) := by decide +kernel
theorem d_Mo_close_26 : decode b_Mo_close 26 = .ok (.if_icmp .ge 31, 3) := by decide +kernel
theorem d_Mo_close_29 : decode b_Mo_close 29 = .ok (.aload_n 0, 1) := by decide +kernel
theorem d_Mo_close_30 : decode b_Mo_close 30 = .ok (.getfield 25, 3) := by decide +kernel
theorem d_Mo_close_33 : decode b_Mo_close 33 = .ok (.iload 4, 2) := by decide +kernel
theorem d_Mo_close_35 : decode b_Mo_close 35 = .ok (.baload, 1) := by decide +kernel
theorem d_Mo_close_36 : decode b_Mo_close 36 = .ok (.ifCond .eq 15, 3) := by decide +kernel
theorem d_Mo_close_39 : decode b_Mo_close 39 = .ok (.aload_n 0, 1) := by decide +kernel
theorem d_Mo_close_40 : decode b_Mo_close 40 = .ok (.iload 4, 2) := by decide +kernel
theorem d_Mo_close_42 : decode b_Mo_close 42 = .ok (.iload_n 1, 1) := by decide +kernel
theorem d_Mo_close_43 : decode b_Mo_close 43 = .ok (.invokevirtual 58, 3) := by decide +kernel
theorem d_Mo_close_46 : decode b_Mo_close 46 = .ok (.ifCond .eq 5, 3) := by decide +kernel
theorem d_Mo_close_49 : decode b_Mo_close 49 = .ok (.iconst 1, 1) := by decide +kernel
theorem d_Mo_close_50 : decode b_Mo_close 50 = .ok (.istore_n 2, 1) := by decide +kernel
theorem d_Mo_close_51 : decode b_Mo_close 51 = .ok (.iinc 4 1, 3) := by decide +kernel
theorem d_Mo_close_54 : decode b_Mo_close 54 = .ok (.goto (-34), 3) := by decide +kernel
theorem d_Mo_close_57 : decode b_Mo_close 57 = .ok (.iinc 3 1, 3) := by decide +kernel
theorem d_Mo_close_60 : decode b_Mo_close 60 = .ok (.goto (-56), 3) := by decide +kernel
theorem d_Mo_close_63 : decode b_Mo_close 63 = .ok (.iconst 0, 1) := by decide +kernel
theorem d_Mo_close_64 : decode b_Mo_close 64 = .ok (.istore_n 3, 1) := by decide +kernel
theorem d_Mo_close_65 : decode b_Mo_close 65 = .ok (.iconst 0, 1) := by decide +kernel
theorem d_Mo_close_66 : decode b_Mo_close 66 = .ok (.istore 4, 2) := by decide +kernel
theorem d_Mo_close_68 : decode b_Mo_close 68 = .ok (.iload 4, 2) := by decide +kernel
theorem d_Mo_close_70 : decode b_Mo_close 70 = .ok (.aload_n 0, 1) := by decide +kernel
theorem d_Mo_close_71 : decode b_Mo_close 71 = .ok (.getfield 32, 3) := by decide +kernel
theorem d_Mo_close_74 : decode b_Mo_close 74 = .ok (.if_icmp .ge 23, 3) := by decide +kernel
theorem d_Mo_close_77 : decode b_Mo_close 77 = .ok (.aload_n 0, 1) := by decide +kernel
theorem d_Mo_close_78 : decode b_Mo_close 78 = .ok (.getfield 25, 3) := by decide +kernel
theorem d_Mo_close_81 : decode b_Mo_close 81 = .ok (.iload 4, 2) := by decide +kernel
theorem d_Mo_close_83 : decode b_Mo_close 83 = .ok (.baload, 1) := by decide +kernel
theorem d_Mo_close_84 : decode b_Mo_close 84 = .ok (.ifCond .eq 7, 3) := by decide +kernel
theorem d_Mo_close_87 : decode b_Mo_close 87 = .ok (.iload_n 3, 1) := by decide +kernel
theorem d_Mo_close_88 : decode b_Mo_close 88 = .ok (.iconst 1, 1) := by decide +kernel
theorem d_Mo_close_89 : decode b_Mo_close 89 = .ok (.iadd, 1) := by decide +kernel
theorem d_Mo_close_90 : decode b_Mo_close 90 = .ok (.istore_n 3, 1) := by decide +kernel
theorem d_Mo_close_91 : decode b_Mo_close 91 = .ok (.iinc 4 1, 3) := by decide +kernel
theorem d_Mo_close_94 : decode b_Mo_close 94 = .ok (.goto (-26), 3) := by decide +kernel
theorem d_Mo_close_97 : decode b_Mo_close 97 = .ok (.iload_n 3, 1) := by decide +kernel
theorem d_Mo_close_98 : decode b_Mo_close 98 = .ok (.ireturn, 1) := by decide +kernel
theorem d_Mo_wipe_0 : decode b_Mo_wipe 0 = .ok (.iconst 0, 1) := by decide +kernel
theorem d_Mo_wipe_1 : decode b_Mo_wipe 1 = .ok (.istore_n 1, 1) := by decide +kernel
theorem d_Mo_wipe_2 : decode b_Mo_wipe 2 = .ok (.iload_n 1, 1) := by decide +kernel
theorem d_Mo_wipe_3 : decode b_Mo_wipe 3 = .ok (.sipush 160, 3) := by decide +kernel
theorem d_Mo_wipe_6 : decode b_Mo_wipe 6 = .ok (.if_icmp .ge 16, 3) := by decide +kernel
theorem d_Mo_wipe_9 : decode b_Mo_wipe 9 = .ok (.aload_n 0, 1) := by decide +kernel
theorem d_Mo_wipe_10 : decode b_Mo_wipe 10 = .ok (.getfield 25, 3) := by decide +kernel
theorem d_Mo_wipe_13 : decode b_Mo_wipe 13 = .ok (.iload_n 1, 1) := by decide +kernel
theorem d_Mo_wipe_14 : decode b_Mo_wipe 14 = .ok (.iconst 0, 1) := by decide +kernel
theorem d_Mo_wipe_15 : decode b_Mo_wipe 15 = .ok (.bastore, 1) := by decide +kernel
theorem d_Mo_wipe_16 : decode b_Mo_wipe 16 = .ok (.iinc 1 1, 3) := by decide +kernel
theorem d_Mo_wipe_19 : decode b_Mo_wipe 19 = .ok (.goto (-17), 3) := by decide +kernel
theorem d_Mo_wipe_22 : decode b_Mo_wipe 22 = .ok (.return_, 1) := by decide +kernel
theorem d_Mo_reach_0 : decode b_Mo_reach 0 = .ok (.aload_n 0, 1) := by decide +kernel
theorem d_Mo_reach_1 : decode b_Mo_reach 1 = .ok (.invokevirtual 62, 3) := by decide +kernel
theorem d_Mo_reach_4 : decode b_Mo_reach 4 = .ok (.iconst 0, 1) := by decide +kernel
theorem d_Mo_reach_5 : decode b_Mo_reach 5 = .ok (.istore_n 1, 1) := by decide +kernel
theorem d_Mo_reach_6 : decode b_Mo_reach 6 = .ok (.iload_n 1, 1) := by decide +kernel
theorem d_Mo_reach_7 : decode b_Mo_reach 7 = .ok (.aload_n 0, 1) := by decide +kernel
theorem d_Mo_reach_8 : decode b_Mo_reach 8 = .ok (.getfield 40, 3) := by decide +kernel
theorem d_Mo_reach_11 : decode b_Mo_reach 11 = .ok (.if_icmp .ge 21, 3) := by decide +kernel
theorem d_Mo_reach_14 : decode b_Mo_reach 14 = .ok (.aload_n 0, 1) := by decide +kernel
theorem d_Mo_reach_15 : decode b_Mo_reach 15 = .ok (.getfield 25, 3) := by decide +kernel
theorem d_Mo_reach_18 : decode b_Mo_reach 18 = .ok (.aload_n 0, 1) := by decide +kernel
theorem d_Mo_reach_19 : decode b_Mo_reach 19 = .ok (.getfield 13, 3) := by decide +kernel
theorem d_Mo_reach_22 : decode b_Mo_reach 22 = .ok (.iload_n 1, 1) := by decide +kernel
theorem d_Mo_reach_23 : decode b_Mo_reach 23 = .ok (.iaload, 1) := by decide +kernel
theorem d_Mo_reach_24 : decode b_Mo_reach 24 = .ok (.iconst 1, 1) := by decide +kernel
theorem d_Mo_reach_25 : decode b_Mo_reach 25 = .ok (.bastore, 1) := by decide +kernel
theorem d_Mo_reach_26 : decode b_Mo_reach 26 = .ok (.iinc 1 1, 3) := by decide +kernel
theorem d_Mo_reach_29 : decode b_Mo_reach 29 = .ok (.goto (-23), 3) := by decide +kernel
theorem d_Mo_reach_32 : decode b_Mo_reach 32 = .ok (.aload_n 0, 1) := by decide +kernel
theorem d_Mo_reach_33 : decode b_Mo_reach 33 = .ok (.iconst 1, 1) := by decide +kernel
theorem d_Mo_reach_34 : decode b_Mo_reach 34 = .ok (.invokevirtual 65, 3) := by decide +kernel
theorem d_Mo_reach_37 : decode b_Mo_reach 37 = .ok (.ireturn, 1) := by decide +kernel
theorem d_Mo_reached_0 : decode b_Mo_reached 0 = .ok (.aload_n 0, 1) := by decide +kernel
theorem d_Mo_reached_1 : decode b_Mo_reached 1 = .ok (.invokevirtual 69, 3) := by decide +kernel
theorem d_Mo_reached_4 : decode b_Mo_reached 4 = .ok (.istore_n 2, 1) := by decide +kernel
theorem d_Mo_reached_5 : decode b_Mo_reached 5 = .ok (.iload_n 2, 1) := by decide +kernel
theorem d_Mo_reached_6 : decode b_Mo_reached 6 = .ok (.ifCond .le 24, 3) := by decide +kernel
theorem d_Mo_reached_9 : decode b_Mo_reached 9 = .ok (.aload_n 0, 1) := by decide +kernel
theorem d_Mo_reached_10 : decode b_Mo_reached 10 = .ok (.iload_n 1, 1) := by decide +kernel
theorem d_Mo_reached_11 : decode b_Mo_reached 11 = .ok (.invokevirtual 36, 3) := by decide +kernel
theorem d_Mo_reached_14 : decode b_Mo_reached 14 = .ok (.ifCond .eq 16, 3) := by decide +kernel
theorem d_Mo_reached_17 : decode b_Mo_reached 17 = .ok (.aload_n 0, 1) := by decide +kernel
theorem d_Mo_reached_18 : decode b_Mo_reached 18 = .ok (.getfield 25, 3) := by decide +kernel
theorem d_Mo_reached_21 : decode b_Mo_reached 21 = .ok (.iload_n 1, 1) := by decide +kernel
theorem d_Mo_reached_22 : decode b_Mo_reached 22 = .ok (.baload, 1) := by decide +kernel
theorem d_Mo_reached_23 : decode b_Mo_reached 23 = .ok (.ifCond .eq 7, 3) := by decide +kernel
theorem d_Mo_reached_26 : decode b_Mo_reached 26 = .ok (.iconst 1, 1) := by decide +kernel
theorem d_Mo_reached_27 : decode b_Mo_reached 27 = .ok (.goto 4, 3) := by decide +kernel
theorem d_Mo_reached_30 : decode b_Mo_reached 30 = .ok (.iconst 0, 1) := by decide +kernel
theorem d_Mo_reached_31 : decode b_Mo_reached 31 = .ok (.ireturn, 1) := by decide +kernel
theorem d_Mo_body_0 : decode b_Mo_body 0 = .ok (.aload_n 0, 1) := by decide +kernel
theorem d_Mo_body_1 : decode b_Mo_body 1 = .ok (.iload_n 1, 1) := by decide +kernel
theorem d_Mo_body_2 : decode b_Mo_body 2 = .ok (.invokevirtual 36, 3) := by decide +kernel
theorem d_Mo_body_5 : decode b_Mo_body 5 = .ok (.ifCond .ne 5, 3) := by decide +kernel
theorem d_Mo_body_8 : decode b_Mo_body 8 = .ok (.iconst 0, 1) := by decide +kernel
theorem d_Mo_body_9 : decode b_Mo_body 9 = .ok (.ireturn, 1) := by decide +kernel
theorem d_Mo_body_10 : decode b_Mo_body 10 = .ok (.aload_n 0, 1) := by decide +kernel
theorem d_Mo_body_11 : decode b_Mo_body 11 = .ok (.invokevirtual 62, 3) := by decide +kernel
theorem d_Mo_body_14 : decode b_Mo_body 14 = .ok (.aload_n 0, 1) := by decide +kernel
theorem d_Mo_body_15 : decode b_Mo_body 15 = .ok (.getfield 25, 3) := by decide +kernel
theorem d_Mo_body_18 : decode b_Mo_body 18 = .ok (.iload_n 1, 1) := by decide +kernel
theorem d_Mo_body_19 : decode b_Mo_body 19 = .ok (.iconst 1, 1) := by decide +kernel
theorem d_Mo_body_20 : decode b_Mo_body 20 = .ok (.bastore, 1) := by decide +kernel
theorem d_Mo_body_21 : decode b_Mo_body 21 = .ok (.aload_n 0, 1) := by decide +kernel
theorem d_Mo_body_22 : decode b_Mo_body 22 = .ok (.iconst 0, 1) := by decide +kernel
theorem d_Mo_body_23 : decode b_Mo_body 23 = .ok (.invokevirtual 65, 3) := by decide +kernel
theorem d_Mo_body_26 : decode b_Mo_body 26 = .ok (.ireturn, 1) := by decide +kernel
theorem d_Mo_sweep_0 : decode b_Mo_sweep 0 = .ok (.iconst 0, 1) := by decide +kernel
theorem d_Mo_sweep_1 : decode b_Mo_sweep 1 = .ok (.istore_n 1, 1) := by decide +kernel
theorem d_Mo_sweep_2 : decode b_Mo_sweep 2 = .ok (.iconst 0, 1) := by decide +kernel
theorem d_Mo_sweep_3 : decode b_Mo_sweep 3 = .ok (.istore_n 2, 1) := by decide +kernel
theorem d_Mo_sweep_4 : decode b_Mo_sweep 4 = .ok (.iconst 0, 1) := by decide +kernel
theorem d_Mo_sweep_5 : decode b_Mo_sweep 5 = .ok (.istore_n 3, 1) := by decide +kernel
theorem d_Mo_sweep_6 : decode b_Mo_sweep 6 = .ok (.iload_n 3, 1) := by decide +kernel
theorem d_Mo_sweep_7 : decode b_Mo_sweep 7 = .ok (.aload_n 0, 1) := by decide +kernel
theorem d_Mo_sweep_8 : decode b_Mo_sweep 8 = .ok (.getfield 32, 3) := by decide +kernel
theorem d_Mo_sweep_11 : decode b_Mo_sweep 11 = .ok (.if_icmp .ge 40, 3) := by decide +kernel
theorem d_Mo_sweep_14 : decode b_Mo_sweep 14 = .ok (.iload_n 2, 1) := by decide +kernel
theorem d_Mo_sweep_15 : decode b_Mo_sweep 15 = .ok (.ifCond .le 10, 3) := by decide +kernel
theorem d_Mo_sweep_18 : decode b_Mo_sweep 18 = .ok (.iload_n 2, 1) := by decide +kernel
theorem d_Mo_sweep_19 : decode b_Mo_sweep 19 = .ok (.iconst 1, 1) := by decide +kernel
theorem d_Mo_sweep_20 : decode b_Mo_sweep 20 = .ok (.isub, 1) := by decide +kernel
theorem d_Mo_sweep_21 : decode b_Mo_sweep 21 = .ok (.istore_n 2, 1) := by decide +kernel
theorem d_Mo_sweep_22 : decode b_Mo_sweep 22 = .ok (.goto 23, 3) := by decide +kernel
theorem d_Mo_sweep_25 : decode b_Mo_sweep 25 = .ok (.aload_n 0, 1) := by decide +kernel
theorem d_Mo_sweep_26 : decode b_Mo_sweep 26 = .ok (.iload_n 3, 1) := by decide +kernel
theorem d_Mo_sweep_27 : decode b_Mo_sweep 27 = .ok (.invokevirtual 53, 3) := by decide +kernel
theorem d_Mo_sweep_30 : decode b_Mo_sweep 30 = .ok (.ifCond .le 15, 3) := by decide +kernel
theorem d_Mo_sweep_33 : decode b_Mo_sweep 33 = .ok (.iload_n 1, 1) := by decide +kernel
theorem d_Mo_sweep_34 : decode b_Mo_sweep 34 = .ok (.iconst 1, 1) := by decide +kernel
theorem d_Mo_sweep_35 : decode b_Mo_sweep 35 = .ok (.iadd, 1) := by decide +kernel
theorem d_Mo_sweep_36 : decode b_Mo_sweep 36 = .ok (.istore_n 1, 1) := by decide +kernel
theorem d_Mo_sweep_37 : decode b_Mo_sweep 37 = .ok (.aload_n 0, 1) := by decide +kernel
theorem d_Mo_sweep_38 : decode b_Mo_sweep 38 = .ok (.iload_n 3, 1) := by decide +kernel
theorem d_Mo_sweep_39 : decode b_Mo_sweep 39 = .ok (.invokevirtual 53, 3) := by decide +kernel
theorem d_Mo_sweep_42 : decode b_Mo_sweep 42 = .ok (.iconst 1, 1) := by decide +kernel
theorem d_Mo_sweep_43 : decode b_Mo_sweep 43 = .ok (.isub, 1) := by decide +kernel
theorem d_Mo_sweep_44 : decode b_Mo_sweep 44 = .ok (.istore_n 2, 1) := by decide +kernel
theorem d_Mo_sweep_45 : decode b_Mo_sweep 45 = .ok (.iinc 3 1, 3) := by decide +kernel
theorem d_Mo_sweep_48 : decode b_Mo_sweep 48 = .ok (.goto (-42), 3) := by decide +kernel
theorem d_Mo_sweep_51 : decode b_Mo_sweep 51 = .ok (.iload_n 1, 1) := by decide +kernel
theorem d_Mo_sweep_52 : decode b_Mo_sweep 52 = .ok (.ireturn, 1) := by decide +kernel
theorem d_Mo_put_0 : decode b_Mo_put 0 = .ok (.aload_n 0, 1) := by decide +kernel
theorem d_Mo_put_1 : decode b_Mo_put 1 = .ok (.getfield 29, 3) := by decide +kernel
theorem d_Mo_put_4 : decode b_Mo_put 4 = .ok (.aload_n 0, 1) := by decide +kernel
theorem d_Mo_put_5 : decode b_Mo_put 5 = .ok (.getfield 73, 3) := by decide +kernel
theorem d_Mo_put_8 : decode b_Mo_put 8 = .ok (.iload_n 1, 1) := by decide +kernel
theorem d_Mo_put_9 : decode b_Mo_put 9 = .ok (.iastore, 1) := by decide +kernel
theorem d_Mo_put_10 : decode b_Mo_put 10 = .ok (.aload_n 0, 1) := by decide +kernel
theorem d_Mo_put_11 : decode b_Mo_put 11 = .ok (.aload_n 0, 1) := by decide +kernel
theorem d_Mo_put_12 : decode b_Mo_put 12 = .ok (.getfield 73, 3) := by decide +kernel
theorem d_Mo_put_15 : decode b_Mo_put 15 = .ok (.iconst 1, 1) := by decide +kernel
theorem d_Mo_put_16 : decode b_Mo_put 16 = .ok (.iadd, 1) := by decide +kernel
theorem d_Mo_put_17 : decode b_Mo_put 17 = .ok (.putfield 73, 3) := by decide +kernel
theorem d_Mo_put_20 : decode b_Mo_put 20 = .ok (.return_, 1) := by decide +kernel
theorem d_Mo_name_0 : decode b_Mo_name 0 = .ok (.aload_n 0, 1) := by decide +kernel
theorem d_Mo_name_1 : decode b_Mo_name 1 = .ok (.iload_n 1, 1) := by decide +kernel
theorem d_Mo_name_2 : decode b_Mo_name 2 = .ok (.invokevirtual 76, 3) := by decide +kernel
theorem d_Mo_name_5 : decode b_Mo_name 5 = .ok (.aload_n 0, 1) := by decide +kernel
theorem d_Mo_name_6 : decode b_Mo_name 6 = .ok (.iload_n 2, 1) := by decide +kernel
theorem d_Mo_name_7 : decode b_Mo_name 7 = .ok (.invokevirtual 76, 3) := by decide +kernel
theorem d_Mo_name_10 : decode b_Mo_name 10 = .ok (.iload_n 3, 1) := by decide +kernel
theorem d_Mo_name_11 : decode b_Mo_name 11 = .ok (.ifCond .le 8, 3) := by decide +kernel
theorem d_Mo_name_14 : decode b_Mo_name 14 = .ok (.aload_n 0, 1) := by decide +kernel
theorem d_Mo_name_15 : decode b_Mo_name 15 = .ok (.iload_n 3, 1) := by decide +kernel
theorem d_Mo_name_16 : decode b_Mo_name 16 = .ok (.invokevirtual 76, 3) := by decide +kernel
theorem d_Mo_name_19 : decode b_Mo_name 19 = .ok (.return_, 1) := by decide +kernel
theorem d_Mo_number_0 : decode b_Mo_number 0 = .ok (.iload_n 1, 1) := by decide +kernel
theorem d_Mo_number_1 : decode b_Mo_number 1 = .ok (.ifCond .ge 8, 3) := by decide +kernel
theorem d_Mo_number_4 : decode b_Mo_number 4 = .ok (.iload_n 1, 1) := by decide +kernel
theorem d_Mo_number_5 : decode b_Mo_number 5 = .ok (.ineg, 1) := by decide +kernel
theorem d_Mo_number_6 : decode b_Mo_number 6 = .ok (.goto 4, 3) := by decide +kernel
theorem d_Mo_number_9 : decode b_Mo_number 9 = .ok (.iload_n 1, 1) := by decide +kernel
theorem d_Mo_number_10 : decode b_Mo_number 10 = .ok (.istore_n 2, 1) := by decide +kernel
theorem d_Mo_number_11 : decode b_Mo_number 11 = .ok (.iload_n 1, 1) := by decide +kernel
theorem d_Mo_number_12 : decode b_Mo_number 12 = .ok (.ifCond .ge 9, 3) := by decide +kernel
theorem d_Mo_number_15 : decode b_Mo_number 15 = .ok (.aload_n 0, 1) := by decide +kernel
theorem d_Mo_number_16 : decode b_Mo_number 16 = .ok (.bipush 45, 2) := by decide +kernel
theorem d_Mo_number_18 : decode b_Mo_number 18 = .ok (.invokevirtual 76, 3) := by decide +kernel
theorem d_Mo_number_21 : decode b_Mo_number 21 = .ok (.iload_n 2, 1) := by decide +kernel
theorem d_Mo_number_22 : decode b_Mo_number 22 = .ok (.sipush 9999, 3) := by decide +kernel
theorem d_Mo_number_25 : decode b_Mo_number 25 = .ok (.if_icmp .le 15, 3) := by decide +kernel
theorem d_Mo_number_28 : decode b_Mo_number 28 = .ok (.aload_n 0, 1) := by decide +kernel
theorem d_Mo_number_29 : decode b_Mo_number 29 = .ok (.bipush 48, 2) := by decide +kernel
theorem d_Mo_number_31 : decode b_Mo_number 31 = .ok (.iload_n 2, 1) := by decide +kernel
theorem d_Mo_number_32 : decode b_Mo_number 32 = .ok (.sipush 10000, 3) := by decide +kernel
theorem d_Mo_number_35 : decode b_Mo_number 35 = .ok (.idiv, 1) := by decide +kernel
theorem d_Mo_number_36 : decode b_Mo_number 36 = .ok (.iadd, 1) := by decide +kernel
theorem d_Mo_number_37 : decode b_Mo_number 37 = .ok (.invokevirtual 76, 3) := by decide +kernel
theorem d_Mo_number_40 : decode b_Mo_number 40 = .ok (.iload_n 2, 1) := by decide +kernel
theorem d_Mo_number_41 : decode b_Mo_number 41 = .ok (.sipush 999, 3) := by decide +kernel
theorem d_Mo_number_44 : decode b_Mo_number 44 = .ok (.if_icmp .le 18, 3) := by decide +kernel
theorem d_Mo_number_47 : decode b_Mo_number 47 = .ok (.aload_n 0, 1) := by decide +kernel
theorem d_Mo_number_48 : decode b_Mo_number 48 = .ok (.bipush 48, 2) := by decide +kernel
theorem d_Mo_number_50 : decode b_Mo_number 50 = .ok (.iload_n 2, 1) := by decide +kernel
theorem d_Mo_number_51 : decode b_Mo_number 51 = .ok (.sipush 1000, 3) := by decide +kernel
theorem d_Mo_number_54 : decode b_Mo_number 54 = .ok (.idiv, 1) := by decide +kernel
theorem d_Mo_number_55 : decode b_Mo_number 55 = .ok (.bipush 10, 2) := by decide +kernel
theorem d_Mo_number_57 : decode b_Mo_number 57 = .ok (.irem, 1) := by decide +kernel
