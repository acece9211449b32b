theorem d_Co_init_0 : decode b_Co_init 0 = .ok (.aload_n 0, 1) := by decide +kernel
theorem d_Co_init_1 : decode b_Co_init 1 = .ok (.invokespecial 1, 3) := by decide +kernel
theorem d_Co_init_4 : decode b_Co_init 4 = .ok (.aload_n 0, 1) := by decide +kernel
theorem d_Co_init_5 : decode b_Co_init 5 = .ok (.new 7, 3) := by decide +kernel
theorem d_Co_init_8 : decode b_Co_init 8 = .ok (.dup, 1) := by decide +kernel
theorem d_Co_init_9 : decode b_Co_init 9 = .ok (.invokespecial 9, 3) := by decide +kernel
theorem d_Co_init_12 : decode b_Co_init 12 = .ok (.putfield 10, 3) := by decide +kernel
theorem d_Co_init_15 : decode b_Co_init 15 = .ok (.aload_n 0, 1) := by decide +kernel
theorem d_Co_init_16 : decode b_Co_init 16 = .ok (.bipush 16, 2) := by decide +kernel
theorem d_Co_init_18 : decode b_Co_init 18 = .ok (.newarray .int, 2) := by decide +kernel
theorem d_Co_init_20 : decode b_Co_init 20 = .ok (.putfield 16, 3) := by decide +kernel
theorem d_Co_init_23 : decode b_Co_init 23 = .ok (.aload_n 0, 1) := by decide +kernel
theorem d_Co_init_24 : decode b_Co_init 24 = .ok (.new 20, 3) := by decide +kernel
theorem d_Co_init_27 : decode b_Co_init 27 = .ok (.dup, 1) := by decide +kernel
theorem d_Co_init_28 : decode b_Co_init 28 = .ok (.invokespecial 22, 3) := by decide +kernel
theorem d_Co_init_31 : decode b_Co_init 31 = .ok (.putfield 23, 3) := by decide +kernel
theorem d_Co_init_34 : decode b_Co_init 34 = .ok (.aload_n 0, 1) := by decide +kernel
theorem d_Co_init_35 : decode b_Co_init 35 = .ok (.new 27, 3) := by decide +kernel
theorem d_Co_init_38 : decode b_Co_init 38 = .ok (.dup, 1) := by decide +kernel
theorem d_Co_init_39 : decode b_Co_init 39 = .ok (.invokespecial 29, 3) := by decide +kernel
theorem d_Co_init_42 : decode b_Co_init 42 = .ok (.putfield 30, 3) := by decide +kernel
theorem d_Co_init_45 : decode b_Co_init 45 = .ok (.aload_n 0, 1) := by decide +kernel
theorem d_Co_init_46 : decode b_Co_init 46 = .ok (.new 34, 3) := by decide +kernel
theorem d_Co_init_49 : decode b_Co_init 49 = .ok (.dup, 1) := by decide +kernel
theorem d_Co_init_50 : decode b_Co_init 50 = .ok (.invokespecial 36, 3) := by decide +kernel
theorem d_Co_init_53 : decode b_Co_init 53 = .ok (.putfield 37, 3) := by decide +kernel
theorem d_Co_init_56 : decode b_Co_init 56 = .ok (.aload_n 0, 1) := by decide +kernel
theorem d_Co_init_57 : decode b_Co_init 57 = .ok (.sipush 160, 3) := by decide +kernel
theorem d_Co_init_60 : decode b_Co_init 60 = .ok (.newarray .int, 2) := by decide +kernel
theorem d_Co_init_62 : decode b_Co_init 62 = .ok (.putfield 41, 3) := by decide +kernel
theorem d_Co_init_65 : decode b_Co_init 65 = .ok (.return_, 1) := by decide +kernel
theorem d_Co_append_0 : decode b_Co_append 0 = .ok (.iload_n 2, 1) := by decide +kernel
theorem d_Co_append_1 : decode b_Co_append 1 = .ok (.iconst 1, 1) := by decide +kernel
theorem d_Co_append_2 : decode b_Co_append 2 = .ok (.if_icmp .lt 8, 3) := by decide +kernel
theorem d_Co_append_5 : decode b_Co_append 5 = .ok (.iload_n 2, 1) := by decide +kernel
theorem d_Co_append_6 : decode b_Co_append 6 = .ok (.iconst 4, 1) := by decide +kernel
theorem d_Co_append_7 : decode b_Co_append 7 = .ok (.if_icmp .le 5, 3) := by decide +kernel
theorem d_Co_append_10 : decode b_Co_append 10 = .ok (.iconst (-1), 1) := by decide +kernel
theorem d_Co_append_11 : decode b_Co_append 11 = .ok (.ireturn, 1) := by decide +kernel
theorem d_Co_append_12 : decode b_Co_append 12 = .ok (.aload_n 0, 1) := by decide +kernel
theorem d_Co_append_13 : decode b_Co_append 13 = .ok (.getfield 10, 3) := by decide +kernel
theorem d_Co_append_16 : decode b_Co_append 16 = .ok (.invokevirtual 44, 3) := by decide +kernel
theorem d_Co_append_19 : decode b_Co_append 19 = .ok (.iload_n 2, 1) := by decide +kernel
theorem d_Co_append_20 : decode b_Co_append 20 = .ok (.iadd, 1) := by decide +kernel
theorem d_Co_append_21 : decode b_Co_append 21 = .ok (.sipush 160, 3) := by decide +kernel
theorem d_Co_append_24 : decode b_Co_append 24 = .ok (.if_icmp .le 6, 3) := by decide +kernel
theorem d_Co_append_27 : decode b_Co_append 27 = .ok (.bipush (-2), 2) := by decide +kernel
theorem d_Co_append_29 : decode b_Co_append 29 = .ok (.ireturn, 1) := by decide +kernel
theorem d_Co_append_30 : decode b_Co_append 30 = .ok (.iconst 0, 1) := by decide +kernel
theorem d_Co_append_31 : decode b_Co_append 31 = .ok (.istore_n 3, 1) := by decide +kernel
theorem d_Co_append_32 : decode b_Co_append 32 = .ok (.iload_n 3, 1) := by decide +kernel
theorem d_Co_append_33 : decode b_Co_append 33 = .ok (.iload_n 2, 1) := by decide +kernel
theorem d_Co_append_34 : decode b_Co_append 34 = .ok (.if_icmp .ge 29, 3) := by decide +kernel
theorem d_Co_append_37 : decode b_Co_append 37 = .ok (.aload_n 0, 1) := by decide +kernel
theorem d_Co_append_38 : decode b_Co_append 38 = .ok (.getfield 10, 3) := by decide +kernel
theorem d_Co_append_41 : decode b_Co_append 41 = .ok (.iload_n 1, 1) := by decide +kernel
theorem d_Co_append_42 : decode b_Co_append 42 = .ok (.bipush 24, 2) := by decide +kernel
theorem d_Co_append_44 : decode b_Co_append 44 = .ok (.bipush 8, 2) := by decide +kernel
theorem d_Co_append_46 : decode b_Co_append 46 = .ok (.iload_n 3, 1) := by decide +kernel
theorem d_Co_append_47 : decode b_Co_append 47 = .ok (.imul, 1) := by decide +kernel
theorem d_Co_append_48 : decode b_Co_append 48 = .ok (.isub, 1) := by decide +kernel
theorem d_Co_append_49 : decode b_Co_append 49 = .ok (.iushr, 1) := by decide +kernel
theorem d_Co_append_50 : decode b_Co_append 50 = .ok (.sipush 255, 3) := by decide +kernel
theorem d_Co_append_53 : decode b_Co_append 53 = .ok (.iand, 1) := by decide +kernel
theorem d_Co_append_54 : decode b_Co_append 54 = .ok (.invokevirtual 48, 3) := by decide +kernel
theorem d_Co_append_57 : decode b_Co_append 57 = .ok (.iinc 3 1, 3) := by decide +kernel
theorem d_Co_append_60 : decode b_Co_append 60 = .ok (.goto (-28), 3) := by decide +kernel
theorem d_Co_append_63 : decode b_Co_append 63 = .ok (.aload_n 0, 1) := by decide +kernel
theorem d_Co_append_64 : decode b_Co_append 64 = .ok (.getfield 10, 3) := by decide +kernel
theorem d_Co_append_67 : decode b_Co_append 67 = .ok (.invokevirtual 44, 3) := by decide +kernel
theorem d_Co_append_70 : decode b_Co_append 70 = .ok (.ireturn, 1) := by decide +kernel
theorem d_Co_enter_0 : decode b_Co_enter 0 = .ok (.aload_n 0, 1) := by decide +kernel
theorem d_Co_enter_1 : decode b_Co_enter 1 = .ok (.getfield 10, 3) := by decide +kernel
theorem d_Co_enter_4 : decode b_Co_enter 4 = .ok (.iload_n 1, 1) := by decide +kernel
theorem d_Co_enter_5 : decode b_Co_enter 5 = .ok (.invokevirtual 52, 3) := by decide +kernel
theorem d_Co_enter_8 : decode b_Co_enter 8 = .ok (.ifCond .eq 20, 3) := by decide +kernel
theorem d_Co_enter_11 : decode b_Co_enter 11 = .ok (.aload_n 0, 1) := by decide +kernel
theorem d_Co_enter_12 : decode b_Co_enter 12 = .ok (.iload_n 1, 1) := by decide +kernel
theorem d_Co_enter_13 : decode b_Co_enter 13 = .ok (.invokevirtual 56, 3) := by decide +kernel
theorem d_Co_enter_16 : decode b_Co_enter 16 = .ok (.ifCond .ne 12, 3) := by decide +kernel
theorem d_Co_enter_19 : decode b_Co_enter 19 = .ok (.aload_n 0, 1) := by decide +kernel
theorem d_Co_enter_20 : decode b_Co_enter 20 = .ok (.getfield 59, 3) := by decide +kernel
theorem d_Co_enter_23 : decode b_Co_enter 23 = .ok (.bipush 16, 2) := by decide +kernel
theorem d_Co_enter_25 : decode b_Co_enter 25 = .ok (.if_icmp .lt 5, 3) := by decide +kernel
theorem d_Co_enter_28 : decode b_Co_enter 28 = .ok (.iconst 0, 1) := by decide +kernel
theorem d_Co_enter_29 : decode b_Co_enter 29 = .ok (.ireturn, 1) := by decide +kernel
theorem d_Co_enter_30 : decode b_Co_enter 30 = .ok (.aload_n 0, 1) := by decide +kernel
theorem d_Co_enter_31 : decode b_Co_enter 31 = .ok (.getfield 16, 3) := by decide +kernel
theorem d_Co_enter_34 : decode b_Co_enter 34 = .ok (.aload_n 0, 1) := by decide +kernel
theorem d_Co_enter_35 : decode b_Co_enter 35 = .ok (.getfield 59, 3) := by decide +kernel
theorem d_Co_enter_38 : decode b_Co_enter 38 = .ok (.iload_n 1, 1) := by decide +kernel
theorem d_Co_enter_39 : decode b_Co_enter 39 = .ok (.iastore, 1) := by decide +kernel
theorem d_Co_enter_40 : decode b_Co_enter 40 = .ok (.aload_n 0, 1) := by decide +kernel
theorem d_Co_enter_41 : decode b_Co_enter 41 = .ok (.dup, 1) := by decide +kernel
theorem d_Co_enter_42 : decode b_Co_enter 42 = .ok (.getfield 59, 3) := by decide +kernel
theorem d_Co_enter_45 : decode b_Co_enter 45 = .ok (.iconst 1, 1) := by decide +kernel
theorem d_Co_enter_46 : decode b_Co_enter 46 = .ok (.iadd, 1) := by decide +kernel
theorem d_Co_enter_47 : decode b_Co_enter 47 = .ok (.putfield 59, 3) := by decide +kernel
theorem d_Co_enter_50 : decode b_Co_enter 50 = .ok (.iconst 1, 1) := by decide +kernel
theorem d_Co_enter_51 : decode b_Co_enter 51 = .ok (.ireturn, 1) := by decide +kernel
theorem d_Co_clear_0 : decode b_Co_clear 0 = .ok (.aload_n 0, 1) := by decide +kernel
theorem d_Co_clear_1 : decode b_Co_clear 1 = .ok (.getfield 10, 3) := by decide +kernel
theorem d_Co_clear_4 : decode b_Co_clear 4 = .ok (.invokevirtual 63, 3) := by decide +kernel
theorem d_Co_clear_7 : decode b_Co_clear 7 = .ok (.aload_n 0, 1) := by decide +kernel
theorem d_Co_clear_8 : decode b_Co_clear 8 = .ok (.iconst 0, 1) := by decide +kernel
theorem d_Co_clear_9 : decode b_Co_clear 9 = .ok (.putfield 59, 3) := by decide +kernel
theorem d_Co_clear_12 : decode b_Co_clear 12 = .ok (.aload_n 0, 1) := by decide +kernel
theorem d_Co_clear_13 : decode b_Co_clear 13 = .ok (.getfield 30, 3) := by decide +kernel
theorem d_Co_clear_16 : decode b_Co_clear 16 = .ok (.invokevirtual 66, 3) := by decide +kernel
theorem d_Co_clear_19 : decode b_Co_clear 19 = .ok (.aload_n 0, 1) := by decide +kernel
theorem d_Co_clear_20 : decode b_Co_clear 20 = .ok (.iconst 0, 1) := by decide +kernel
theorem d_Co_clear_21 : decode b_Co_clear 21 = .ok (.putfield 67, 3) := by decide +kernel
theorem d_Co_clear_24 : decode b_Co_clear 24 = .ok (.return_, 1) := by decide +kernel
theorem d_Co_size_0 : decode b_Co_size 0 = .ok (.aload_n 0, 1) := by decide +kernel
theorem d_Co_size_1 : decode b_Co_size 1 = .ok (.getfield 10, 3) := by decide +kernel
theorem d_Co_size_4 : decode b_Co_size 4 = .ok (.invokevirtual 44, 3) := by decide +kernel
theorem d_Co_size_7 : decode b_Co_size 7 = .ok (.ireturn, 1) := by decide +kernel
theorem d_Co_byteAt_0 : decode b_Co_byteAt 0 = .ok (.aload_n 0, 1) := by decide +kernel
theorem d_Co_byteAt_1 : decode b_Co_byteAt 1 = .ok (.getfield 10, 3) := by decide +kernel
theorem d_Co_byteAt_4 : decode b_Co_byteAt 4 = .ok (.iload_n 1, 1) := by decide +kernel
theorem d_Co_byteAt_5 : decode b_Co_byteAt 5 = .ok (.invokevirtual 70, 3) := by decide +kernel
theorem d_Co_byteAt_8 : decode b_Co_byteAt 8 = .ok (.ireturn, 1) := by decide +kernel
theorem d_Co_entry_0 : decode b_Co_entry 0 = .ok (.iload_n 1, 1) := by decide +kernel
theorem d_Co_entry_1 : decode b_Co_entry 1 = .ok (.ifCond .lt 20, 3) := by decide +kernel
theorem d_Co_entry_4 : decode b_Co_entry 4 = .ok (.iload_n 1, 1) := by decide +kernel
theorem d_Co_entry_5 : decode b_Co_entry 5 = .ok (.aload_n 0, 1) := by decide +kernel
theorem d_Co_entry_6 : decode b_Co_entry 6 = .ok (.getfield 59, 3) := by decide +kernel
theorem d_Co_entry_9 : decode b_Co_entry 9 = .ok (.if_icmp .ge 12, 3) := by decide +kernel
theorem d_Co_entry_12 : decode b_Co_entry 12 = .ok (.aload_n 0, 1) := by decide +kernel
theorem d_Co_entry_13 : decode b_Co_entry 13 = .ok (.getfield 16, 3) := by decide +kernel
theorem d_Co_entry_16 : decode b_Co_entry 16 = .ok (.iload_n 1, 1) := by decide +kernel
theorem d_Co_entry_17 : decode b_Co_entry 17 = .ok (.iaload, 1) := by decide +kernel
theorem d_Co_entry_18 : decode b_Co_entry 18 = .ok (.goto 4, 3) := by decide +kernel
theorem d_Co_entry_21 : decode b_Co_entry 21 = .ok (.iconst (-1), 1) := by decide +kernel
theorem d_Co_entry_22 : decode b_Co_entry 22 = .ok (.ireturn, 1) := by decide +kernel
theorem d_Co_length_0 : decode b_Co_length 0 = .ok (.aload_n 0, 1) := by decide +kernel
theorem d_Co_length_1 : decode b_Co_length 1 = .ok (.getfield 10, 3) := by decide +kernel
theorem d_Co_length_4 : decode b_Co_length 4 = .ok (.iload_n 1, 1) := by decide +kernel
theorem d_Co_length_5 : decode b_Co_length 5 = .ok (.invokevirtual 74, 3) := by decide +kernel
theorem d_Co_length_8 : decode b_Co_length 8 = .ok (.ireturn, 1) := by decide +kernel
theorem d_Co_reach_0 : decode b_Co_reach 0 = .ok (.aload_n 0, 1) := by decide +kernel
theorem d_Co_reach_1 : decode b_Co_reach 1 = .ok (.invokevirtual 77, 3) := by decide +kernel
theorem d_Co_reach_4 : decode b_Co_reach 4 = .ok (.aload_n 0, 1) := by decide +kernel
theorem d_Co_reach_5 : decode b_Co_reach 5 = .ok (.getfield 23, 3) := by decide +kernel
theorem d_Co_reach_8 : decode b_Co_reach 8 = .ok (.invokevirtual 80, 3) := by decide +kernel
theorem d_Co_reach_11 : decode b_Co_reach 11 = .ok (.ireturn, 1) := by decide +kernel
theorem d_Co_reached_0 : decode b_Co_reached 0 = .ok (.aload_n 0, 1) := by decide +kernel
theorem d_Co_reached_1 : decode b_Co_reached 1 = .ok (.invokevirtual 77, 3) := by decide +kernel
theorem d_Co_reached_4 : decode b_Co_reached 4 = .ok (.aload_n 0, 1) := by decide +kernel
theorem d_Co_reached_5 : decode b_Co_reached 5 = .ok (.getfield 23, 3) := by decide +kernel
theorem d_Co_reached_8 : decode b_Co_reached 8 = .ok (.iload_n 1, 1) := by decide +kernel
theorem d_Co_reached_9 : decode b_Co_reached 9 = .ok (.invokevirtual 81, 3) := by decide +kernel
theorem d_Co_reached_12 : decode b_Co_reached 12 = .ok (.ireturn, 1) := by decide +kernel
theorem d_Co_body_0 : decode b_Co_body 0 = .ok (.aload_n 0, 1) := by decide +kernel
theorem d_Co_body_1 : decode b_Co_body 1 = .ok (.getfield 23, 3) := by decide +kernel
theorem d_Co_body_4 : decode b_Co_body 4 = .ok (.aload_n 0, 1) := by decide +kernel
theorem d_Co_body_5 : decode b_Co_body 5 = .ok (.getfield 10, 3) := by decide +kernel
theorem d_Co_body_8 : decode b_Co_body 8 = .ok (.invokevirtual 44, 3) := by decide +kernel
theorem d_Co_body_11 : decode b_Co_body 11 = .ok (.invokevirtual 84, 3) := by decide +kernel
theorem d_Co_body_14 : decode b_Co_body 14 = .ok (.aload_n 0, 1) := by decide +kernel
theorem d_Co_body_15 : decode b_Co_body 15 = .ok (.getfield 23, 3) := by decide +kernel
theorem d_Co_body_18 : decode b_Co_body 18 = .ok (.iload_n 1, 1) := by decide +kernel
theorem d_Co_body_19 : decode b_Co_body 19 = .ok (.invokevirtual 87, 3) := by decide +kernel
theorem d_Co_body_22 : decode b_Co_body 22 = .ok (.aload_n 0, 1) := by decide +kernel
theorem d_Co_body_23 : decode b_Co_body 23 = .ok (.getfield 23, 3) := by decide +kernel
theorem d_Co_body_26 : decode b_Co_body 26 = .ok (.aload_n 0, 1) := by decide +kernel
theorem d_Co_body_27 : decode b_Co_body 27 = .ok (.getfield 10, 3) := by decide +kernel
theorem d_Co_body_30 : decode b_Co_body 30 = .ok (.iconst 0, 1) := by decide +kernel
theorem d_Co_body_31 : decode b_Co_body 31 = .ok (.invokevirtual 90, 3) := by decide +kernel
theorem d_Co_body_34 : decode b_Co_body 34 = .ok (.aload_n 0, 1) := by decide +kernel
theorem d_Co_body_35 : decode b_Co_body 35 = .ok (.getfield 23, 3) := by decide +kernel
theorem d_Co_body_38 : decode b_Co_body 38 = .ok (.invokevirtual 80, 3) := by decide +kernel
theorem d_Co_body_41 : decode b_Co_body 41 = .ok (.ireturn, 1) := by decide +kernel
theorem d_Co_sweep_0 : decode b_Co_sweep 0 = .ok (.iconst 0, 1) := by decide +kernel
theorem d_Co_sweep_1 : decode b_Co_sweep 1 = .ok (.istore_n 1, 1) := by decide +kernel
theorem d_Co_sweep_2 : decode b_Co_sweep 2 = .ok (.iconst 0, 1) := by decide +kernel
theorem d_Co_sweep_3 : decode b_Co_sweep 3 = .ok (.istore_n 2, 1) := by decide +kernel
theorem d_Co_sweep_4 : decode b_Co_sweep 4 = .ok (.iload_n 2, 1) := by decide +kernel
theorem d_Co_sweep_5 : decode b_Co_sweep 5 = .ok (.aload_n 0, 1) := by decide +kernel
theorem d_Co_sweep_6 : decode b_Co_sweep 6 = .ok (.getfield 10, 3) := by decide +kernel
theorem d_Co_sweep_9 : decode b_Co_sweep 9 = .ok (.invokevirtual 44, 3) := by decide +kernel
theorem d_Co_sweep_12 : decode b_Co_sweep 12 = .ok (.if_icmp .ge 30, 3) := by decide +kernel
theorem d_Co_sweep_15 : decode b_Co_sweep 15 = .ok (.aload_n 0, 1) := by decide +kernel
theorem d_Co_sweep_16 : decode b_Co_sweep 16 = .ok (.getfield 10, 3) := by decide +kernel
theorem d_Co_sweep_19 : decode b_Co_sweep 19 = .ok (.iload_n 2, 1) := by decide +kernel
theorem d_Co_sweep_20 : decode b_Co_sweep 20 = .ok (.invokevirtual 74, 3) := by decide +kernel
theorem d_Co_sweep_23 : decode b_Co_sweep 23 = .ok (.istore_n 3, 1) := by decide +kernel
theorem d_Co_sweep_24 : decode b_Co_sweep 24 = .ok (.iload_n 3, 1) := by decide +kernel
theorem d_Co_sweep_25 : decode b_Co_sweep 25 = .ok (.ifCond .le 6, 3) := by decide +kernel
theorem d_Co_sweep_28 : decode b_Co_sweep 28 = .ok (.iinc 1 1, 3) := by decide +kernel
theorem d_Co_sweep_31 : decode b_Co_sweep 31 = .ok (.iload_n 2, 1) := by decide +kernel
theorem d_Co_sweep_32 : decode b_Co_sweep 32 = .ok (.iconst 1, 1) := by decide +kernel
theorem d_Co_sweep_33 : decode b_Co_sweep 33 = .ok (.iload_n 3, 1) := by decide +kernel
theorem d_Co_sweep_34 : decode b_Co_sweep 34 = .ok (.invokestatic 94, 3) := by decide +kernel
theorem d_Co_sweep_37 : decode b_Co_sweep 37 = .ok (.iadd, 1) := by decide +kernel
theorem d_Co_sweep_38 : decode b_Co_sweep 38 = .ok (.istore_n 2, 1) := by decide +kernel
theorem d_Co_sweep_39 : decode b_Co_sweep 39 = .ok (.goto (-35), 3) := by decide +kernel
theorem d_Co_sweep_42 : decode b_Co_sweep 42 = .ok (.iload_n 1, 1) := by decide +kernel
theorem d_Co_sweep_43 : decode b_Co_sweep 43 = .ok (.ireturn, 1) := by decide +kernel
theorem d_Co_list_0 : decode b_Co_list 0 = .ok (.aload_n 0, 1) := by decide +kernel
theorem d_Co_list_1 : decode b_Co_list 1 = .ok (.invokevirtual 77, 3) := by decide +kernel
theorem d_Co_list_4 : decode b_Co_list 4 = .ok (.aload_n 0, 1) := by decide +kernel
theorem d_Co_list_5 : decode b_Co_list 5 = .ok (.getfield 30, 3) := by decide +kernel
theorem d_Co_list_8 : decode b_Co_list 8 = .ok (.invokevirtual 66, 3) := by decide +kernel
theorem d_Co_list_11 : decode b_Co_list 11 = .ok (.iconst 0, 1) := by decide +kernel
theorem d_Co_list_12 : decode b_Co_list 12 = .ok (.istore_n 1, 1) := by decide +kernel
theorem d_Co_list_13 : decode b_Co_list 13 = .ok (.iload_n 1, 1) := by decide +kernel
theorem d_Co_list_14 : decode b_Co_list 14 = .ok (.aload_n 0, 1) := by decide +kernel
theorem d_Co_list_15 : decode b_Co_list 15 = .ok (.getfield 10, 3) := by decide +kernel
theorem d_Co_list_18 : decode b_Co_list 18 = .ok (.invokevirtual 44, 3) := by decide +kernel
theorem d_Co_list_21 : decode b_Co_list 21 = .ok (.if_icmp .ge 18, 3) := by decide +kernel
theorem d_Co_list_24 : decode b_Co_list 24 = .ok (.iload_n 1, 1) := by decide +kernel
theorem d_Co_list_25 : decode b_Co_list 25 = .ok (.iconst 1, 1) := by decide +kernel
theorem d_Co_list_26 : decode b_Co_list 26 = .ok (.aload_n 0, 1) := by decide +kernel
theorem d_Co_list_27 : decode b_Co_list 27 = .ok (.iload_n 1, 1) := by decide +kernel
theorem d_Co_list_28 : decode b_Co_list 28 = .ok (.invokevirtual 100, 3) := by decide +kernel
theorem d_Co_list_31 : decode b_Co_list 31 = .ok (.invokestatic 94, 3) := by decide +kernel
theorem d_Co_list_34 : decode b_Co_list 34 = .ok (.iadd, 1) := by decide +kernel
theorem d_Co_list_35 : decode b_Co_list 35 = .ok (.istore_n 1, 1) := by decide +kernel
theorem d_Co_list_36 : decode b_Co_list 36 = .ok (.goto (-23), 3) := by decide +kernel
theorem d_Co_list_39 : decode b_Co_list 39 = .ok (.aload_n 0, 1) := by decide +kernel
theorem d_Co_list_40 : decode b_Co_list 40 = .ok (.getfield 30, 3) := by decide +kernel
theorem d_Co_list_43 : decode b_Co_list 43 = .ok (.invokevirtual 103, 3) := by decide +kernel
theorem d_Co_list_46 : decode b_Co_list 46 = .ok (.ireturn, 1) := by decide +kernel
theorem d_Co_textLength_0 : decode b_Co_textLength 0 = .ok (.aload_n 0, 1) := by decide +kernel
theorem d_Co_textLength_1 : decode b_Co_textLength 1 = .ok (.getfield 30, 3) := by decide +kernel
theorem d_Co_textLength_4 : decode b_Co_textLength 4 = .ok (.invokevirtual 103, 3) := by decide +kernel
theorem d_Co_textLength_7 : decode b_Co_textLength 7 = .ok (.ireturn, 1) := by decide +kernel
theorem d_Co_charAt_0 : decode b_Co_charAt 0 = .ok (.aload_n 0, 1) := by decide +kernel
theorem d_Co_charAt_1 : decode b_Co_charAt 1 = .ok (.getfield 30, 3) := by decide +kernel
theorem d_Co_charAt_4 : decode b_Co_charAt 4 = .ok (.iload_n 1, 1) := by decide +kernel
theorem d_Co_charAt_5 : decode b_Co_charAt 5 = .ok (.invokevirtual 104, 3) := by decide +kernel
theorem d_Co_charAt_8 : decode b_Co_charAt 8 = .ok (.ireturn, 1) := by decide +kernel
theorem d_Co_type_0 : decode b_Co_type 0 = .ok (.iload_n 1, 1) := by decide +kernel
theorem d_Co_type_1 : decode b_Co_type 1 = .ok (.ifCond .lt 32, 3) := by decide +kernel
theorem d_Co_type_4 : decode b_Co_type 4 = .ok (.iload_n 1, 1) := by decide +kernel
theorem d_Co_type_5 : decode b_Co_type 5 = .ok (.aload_n 0, 1) := by decide +kernel
theorem d_Co_type_6 : decode b_Co_type 6 = .ok (.getfield 30, 3) := by decide +kernel
theorem d_Co_type_9 : decode b_Co_type 9 = .ok (.invokevirtual 103, 3) := by decide +kernel
theorem d_Co_type_12 : decode b_Co_type 12 = .ok (.if_icmp .gt 21, 3) := by decide +kernel
theorem d_Co_type_15 : decode b_Co_type 15 = .ok (.iload_n 1, 1) := by decide +kernel
theorem d_Co_type_16 : decode b_Co_type 16 = .ok (.sipush 2400, 3) := by decide +kernel
theorem d_Co_type_19 : decode b_Co_type 19 = .ok (.if_icmp .ge 14, 3) := by decide +kernel
theorem d_Co_type_22 : decode b_Co_type 22 = .ok (.iload_n 2, 1) := by decide +kernel
theorem d_Co_type_23 : decode b_Co_type 23 = .ok (.ifCond .lt 10, 3) := by decide +kernel
theorem d_Co_type_26 : decode b_Co_type 26 = .ok (.iload_n 2, 1) := by decide +kernel
theorem d_Co_type_27 : decode b_Co_type 27 = .ok (.sipush 255, 3) := by decide +kernel
theorem d_Co_type_30 : decode b_Co_type 30 = .ok (.if_icmp .le 5, 3) := by decide +kernel
theorem d_Co_type_33 : decode b_Co_type 33 = .ok (.iconst 0, 1) := by decide +kernel
theorem d_Co_type_34 : decode b_Co_type 34 = .ok (.ireturn, 1) := by decide +kernel
theorem d_Co_type_35 : decode b_Co_type 35 = .ok (.aload_n 0, 1) := by decide +kernel
theorem d_Co_type_36 : decode b_Co_type 36 = .ok (.getfield 30, 3) := by decide +kernel
theorem d_Co_type_39 : decode b_Co_type 39 = .ok (.iload_n 1, 1) := by decide +kernel
theorem d_Co_type_40 : decode b_Co_type 40 = .ok (.iload_n 2, 1) := by decide +kernel
theorem d_Co_type_41 : decode b_Co_type 41 = .ok (.i2c, 1) := by decide +kernel
theorem d_Co_type_42 : decode b_Co_type 42 = .ok (.invokevirtual 105, 3) := by decide +kernel
theorem d_Co_type_45 : decode b_Co_type 45 = .ok (.iconst 1, 1) := by decide +kernel
theorem d_Co_type_46 : decode b_Co_type 46 = .ok (.ireturn, 1) := by decide +kernel
theorem d_Co_assemble_0 : decode b_Co_assemble 0 = .ok (.aload_n 0, 1) := by decide +kernel
theorem d_Co_assemble_1 : decode b_Co_assemble 1 = .ok (.getfield 37, 3) := by decide +kernel
theorem d_Co_assemble_4 : decode b_Co_assemble 4 = .ok (.aload_n 0, 1) := by decide +kernel
theorem d_Co_assemble_5 : decode b_Co_assemble 5 = .ok (.getfield 30, 3) := by decide +kernel
theorem d_Co_assemble_8 : decode b_Co_assemble 8 = .ok (.invokevirtual 109, 3) := by decide +kernel
theorem d_Co_assemble_11 : decode b_Co_assemble 11 = .ok (.ifCond .ne 5, 3) := by decide +kernel
theorem d_Co_assemble_14 : decode b_Co_assemble 14 = .ok (.iconst (-1), 1) := by decide +kernel
theorem d_Co_assemble_15 : decode b_Co_assemble 15 = .ok (.ireturn, 1) := by decide +kernel
theorem d_Co_assemble_16 : decode b_Co_assemble 16 = .ok (.aload_n 0, 1) := by decide +kernel
theorem d_Co_assemble_17 : decode b_Co_assemble 17 = .ok (.getfield 37, 3) := by decide +kernel
theorem d_Co_assemble_20 : decode b_Co_assemble 20 = .ok (.invokevirtual 113, 3) := by decide +kernel
theorem d_Co_assemble_23 : decode b_Co_assemble 23 = .ok (.sipush 160, 3) := by decide +kernel
theorem d_Co_assemble_26 : decode b_Co_assemble 26 = .ok (.if_icmp .le 6, 3) := by decide +kernel
theorem d_Co_assemble_29 : decode b_Co_assemble 29 = .ok (.bipush (-2), 2) := by decide +kernel
theorem d_Co_assemble_31 : decode b_Co_assemble 31 = .ok (.ireturn, 1) := by decide +kernel
theorem d_Co_assemble_32 : decode b_Co_assemble 32 = .ok (.aload_n 0, 1) := by decide +kernel
theorem d_Co_assemble_33 : decode b_Co_assemble 33 = .ok (.aload_n 0, 1) := by decide +kernel
theorem d_Co_assemble_34 : decode b_Co_assemble 34 = .ok (.getfield 37, 3) := by decide +kernel
theorem d_Co_assemble_37 : decode b_Co_assemble 37 = .ok (.invokevirtual 113, 3) := by decide +kernel
theorem d_Co_assemble_40 : decode b_Co_assemble 40 = .ok (.putfield 67, 3) := by decide +kernel
theorem d_Co_assemble_43 : decode b_Co_assemble 43 = .ok (.aload_n 0, 1) := by decide +kernel
theorem d_Co_assemble_44 : decode b_Co_assemble 44 = .ok (.getfield 37, 3) := by decide +kernel
theorem d_Co_assemble_47 : decode b_Co_assemble 47 = .ok (.aload_n 0, 1) := by decide +kernel
theorem d_Co_assemble_48 : decode b_Co_assemble 48 = .ok (.getfield 41, 3) := by decide +kernel
theorem d_Co_assemble_51 : decode b_Co_assemble 51 = .ok (.invokevirtual 114, 3) := by decide +kernel
theorem d_Co_assemble_54 : decode b_Co_assemble 54 = .ok (.aload_n 0, 1) := by decide +kernel
theorem d_Co_assemble_55 : decode b_Co_assemble 55 = .ok (.getfield 67, 3) := by decide +kernel
theorem d_Co_assemble_58 : decode b_Co_assemble 58 = .ok (.ireturn, 1) := by decide +kernel
theorem d_Co_made_0 : decode b_Co_made 0 = .ok (.iload_n 1, 1) := by decide +kernel
theorem d_Co_made_1 : decode b_Co_made 1 = .ok (.ifCond .lt 20, 3) := by decide +kernel
theorem d_Co_made_4 : decode b_Co_made 4 = .ok (.iload_n 1, 1) := by decide +kernel
theorem d_Co_made_5 : decode b_Co_made 5 = .ok (.aload_n 0, 1) := by decide +kernel
theorem d_Co_made_6 : decode b_Co_made 6 = .ok (.getfield 67, 3) := by decide +kernel
theorem d_Co_made_9 : decode b_Co_made 9 = .ok (.if_icmp .ge 12, 3) := by decide +kernel
theorem d_Co_made_12 : decode b_Co_made 12 = .ok (.aload_n 0, 1) := by decide +kernel
theorem d_Co_made_13 : decode b_Co_made 13 = .ok (.getfield 41, 3) := by decide +kernel
theorem d_Co_made_16 : decode b_Co_made 16 = .ok (.iload_n 1, 1) := by decide +kernel
theorem d_Co_made_17 : decode b_Co_made 17 = .ok (.iaload, 1) := by decide +kernel
theorem d_Co_made_18 : decode b_Co_made 18 = .ok (.goto 4, 3) := by decide +kernel
theorem d_Co_made_21 : decode b_Co_made 21 = .ok (.iconst (-1), 1) := by decide +kernel
theorem d_Co_made_22 : decode b_Co_made 22 = .ok (.ireturn, 1) := by decide +kernel
theorem d_Co_isEntry_0 : decode b_Co_isEntry 0 = .ok (.iconst 0, 1) := by decide +kernel
theorem d_Co_isEntry_1 : decode b_Co_isEntry 1 = .ok (.istore_n 2, 1) := by decide +kernel
theorem d_Co_isEntry_2 : decode b_Co_isEntry 2 = .ok (.iload_n 2, 1) := by decide +kernel
theorem d_Co_isEntry_3 : decode b_Co_isEntry 3 = .ok (.aload_n 0, 1) := by decide +kernel
theorem d_Co_isEntry_4 : decode b_Co_isEntry 4 = .ok (.getfield 59, 3) := by decide +kernel
theorem d_Co_isEntry_7 : decode b_Co_isEntry 7 = .ok (.if_icmp .ge 21, 3) := by decide +kernel
theorem d_Co_isEntry_10 : decode b_Co_isEntry 10 = .ok (.aload_n 0, 1) := by decide +kernel
theorem d_Co_isEntry_11 : decode b_Co_isEntry 11 = .ok (.getfield 16, 3) := by decide +kernel
theorem d_Co_isEntry_14 : decode b_Co_isEntry 14 = .ok (.iload_n 2, 1) := by decide +kernel
theorem d_Co_isEntry_15 : decode b_Co_isEntry 15 = .ok (.iaload, 1) := by decide +kernel
theorem d_Co_isEntry_16 : decode b_Co_isEntry 16 = .ok (.iload_n 1, 1) := by decide +kernel
theorem d_Co_isEntry_17 : decode b_Co_isEntry 17 = .ok (.if_icmp .ne 5, 3) := by decide +kernel
theorem d_Co_isEntry_20 : decode b_Co_isEntry 20 = .ok (.iconst 1, 1) := by decide +kernel
theorem d_Co_isEntry_21 : decode b_Co_isEntry 21 = .ok (.ireturn, 1) := by decide +kernel
theorem d_Co_isEntry_22 : decode b_Co_isEntry 22 = .ok (.iinc 2 1, 3) := by decide +kernel
theorem d_Co_isEntry_25 : decode b_Co_isEntry 25 = .ok (.goto (-23), 3) := by decide +kernel
theorem d_Co_isEntry_28 : decode b_Co_isEntry 28 = .ok (.iconst 0, 1) := by decide +kernel
theorem d_Co_isEntry_29 : decode b_Co_isEntry 29 = .ok (.ireturn, 1) := by decide +kernel
theorem d_Co_walkFromEntries_0 : decode b_Co_walkFromEntries 0 = .ok (.aload_n 0, 1) := by decide +kernel
theorem d_Co_walkFromEntries_1 : decode b_Co_walkFromEntries 1 = .ok (.getfield 23, 3) := by decide +kernel
theorem d_Co_walkFromEntries_4 : decode b_Co_walkFromEntries 4 = .ok (.aload_n 0, 1) := by decide +kernel
theorem d_Co_walkFromEntries_5 : decode b_Co_walkFromEntries 5 = .ok (.getfield 10, 3) := by decide +kernel
theorem d_Co_walkFromEntries_8 : decode b_Co_walkFromEntries 8 = .ok (.invokevirtual 44, 3) := by decide +kernel
theorem d_Co_walkFromEntries_11 : decode b_Co_walkFromEntries 11 = .ok (.invokevirtual 84, 3) := by decide +kernel
theorem d_Co_walkFromEntries_14 : decode b_Co_walkFromEntries 14 = .ok (.iconst 0, 1) := by decide +kernel
theorem d_Co_walkFromEntries_15 : decode b_Co_walkFromEntries 15 = .ok (.istore_n 1, 1) := by decide +kernel
theorem d_Co_walkFromEntries_16 : decode b_Co_walkFromEntries 16 = .ok (.iload_n 1, 1) := by decide +kernel
theorem d_Co_walkFromEntries_17 : decode b_Co_walkFromEntries 17 = .ok (.aload_n 0, 1) := by decide +kernel
theorem d_Co_walkFromEntries_18 : decode b_Co_walkFromEntries 18 = .ok (.getfield 59, 3) := by decide +kernel
theorem d_Co_walkFromEntries_21 : decode b_Co_walkFromEntries 21 = .ok (.if_icmp .ge 22, 3) := by decide +kernel
theorem d_Co_walkFromEntries_24 : decode b_Co_walkFromEntries 24 = .ok (.aload_n 0, 1) := by decide +kernel
theorem d_Co_walkFromEntries_25 : decode b_Co_walkFromEntries 25 = .ok (.getfield 23, 3) := by decide +kernel
theorem d_Co_walkFromEntries_28 : decode b_Co_walkFromEntries 28 = .ok (.aload_n 0, 1) := by decide +kernel
theorem d_Co_walkFromEntries_29 : decode b_Co_walkFromEntries 29 = .ok (.getfield 16, 3) := by decide +kernel
theorem d_Co_walkFromEntries_32 : decode b_Co_walkFromEntries 32 = .ok (.iload_n 1, 1) := by decide +kernel
theorem d_Co_walkFromEntries_33 : decode b_Co_walkFromEntries 33 = .ok (.iaload, 1) := by decide +kernel
theorem d_Co_walkFromEntries_34 : decode b_Co_walkFromEntries 34 = .ok (.invokevirtual 87, 3) := by decide +kernel
theorem d_Co_walkFromEntries_37 : decode b_Co_walkFromEntries 37 = .ok (.iinc 1 1, 3) := by decide +kernel
theorem d_Co_walkFromEntries_40 : decode b_Co_walkFromEntries 40 = .ok (.goto (-24), 3) := by decide +kernel
theorem d_Co_walkFromEntries_43 : decode b_Co_walkFromEntries 43 = .ok (.aload_n 0, 1) := by decide +kernel
theorem d_Co_walkFromEntries_44 : decode b_Co_walkFromEntries 44 = .ok (.getfield 23, 3) := by decide +kernel
theorem d_Co_walkFromEntries_47 : decode b_Co_walkFromEntries 47 = .ok (.aload_n 0, 1) := by decide +kernel
theorem d_Co_walkFromEntries_48 : decode b_Co_walkFromEntries 48 = .ok (.getfield 10, 3) := by decide +kernel
theorem d_Co_walkFromEntries_51 : decode b_Co_walkFromEntries 51 = .ok (.iconst 1, 1) := by decide +kernel
theorem d_Co_walkFromEntries_52 : decode b_Co_walkFromEntries 52 = .ok (.invokevirtual 90, 3) := by decide +kernel
theorem d_Co_walkFromEntries_55 : decode b_Co_walkFromEntries 55 = .ok (.return_, 1) := by decide +kernel
theorem d_Co_listLine_0 : decode b_Co_listLine 0 = .ok (.aload_n 0, 1) := by decide +kernel
theorem d_Co_listLine_1 : decode b_Co_listLine 1 = .ok (.getfield 23, 3) := by decide +kernel
theorem d_Co_listLine_4 : decode b_Co_listLine 4 = .ok (.iload_n 1, 1) := by decide +kernel
theorem d_Co_listLine_5 : decode b_Co_listLine 5 = .ok (.invokevirtual 81, 3) := by decide +kernel
theorem d_Co_listLine_8 : decode b_Co_listLine 8 = .ok (.ifCond .eq 14, 3) := by decide +kernel
theorem d_Co_listLine_11 : decode b_Co_listLine 11 = .ok (.aload_n 0, 1) := by decide +kernel
theorem d_Co_listLine_12 : decode b_Co_listLine 12 = .ok (.getfield 10, 3) := by decide +kernel
theorem d_Co_listLine_15 : decode b_Co_listLine 15 = .ok (.iload_n 1, 1) := by decide +kernel
theorem d_Co_listLine_16 : decode b_Co_listLine 16 = .ok (.invokevirtual 118, 3) := by decide +kernel
theorem d_Co_listLine_19 : decode b_Co_listLine 19 = .ok (.goto 4, 3) := by decide +kernel
theorem d_Co_listLine_22 : decode b_Co_listLine 22 = .ok (.iconst (-1), 1) := by decide +kernel
theorem d_Co_listLine_23 : decode b_Co_listLine 23 = .ok (.istore_n 2, 1) := by decide +kernel
theorem d_Co_listLine_24 : decode b_Co_listLine 24 = .ok (.iload_n 2, 1) := by decide +kernel
theorem d_Co_listLine_25 : decode b_Co_listLine 25 = .ok (.iconst (-1), 1) := by decide +kernel
theorem d_Co_listLine_26 : decode b_Co_listLine 26 = .ok (.if_icmp .ne 23, 3) := by decide +kernel
theorem d_Co_listLine_29 : decode b_Co_listLine 29 = .ok (.aload_n 0, 1) := by decide +kernel
theorem d_Co_listLine_30 : decode b_Co_listLine 30 = .ok (.getfield 30, 3) := by decide +kernel
theorem d_Co_listLine_33 : decode b_Co_listLine 33 = .ok (.bipush 13, 2) := by decide +kernel
theorem d_Co_listLine_35 : decode b_Co_listLine 35 = .ok (.iconst 0, 1) := by decide +kernel
theorem d_Co_listLine_36 : decode b_Co_listLine 36 = .ok (.aload_n 0, 1) := by decide +kernel
theorem d_Co_listLine_37 : decode b_Co_listLine 37 = .ok (.getfield 10, 3) := by decide +kernel
theorem d_Co_listLine_40 : decode b_Co_listLine 40 = .ok (.iload_n 1, 1) := by decide +kernel
theorem d_Co_listLine_41 : decode b_Co_listLine 41 = .ok (.invokevirtual 70, 3) := by decide +kernel
theorem d_Co_listLine_44 : decode b_Co_listLine 44 = .ok (.invokevirtual 123, 3) := by decide +kernel
theorem d_Co_listLine_47 : decode b_Co_listLine 47 = .ok (.iconst 1, 1) := by decide +kernel
theorem d_Co_listLine_48 : decode b_Co_listLine 48 = .ok (.ireturn, 1) := by decide +kernel
theorem d_Co_listLine_49 : decode b_Co_listLine 49 = .ok (.aload_n 0, 1) := by decide +kernel
theorem d_Co_listLine_50 : decode b_Co_listLine 50 = .ok (.getfield 30, 3) := by decide +kernel
theorem d_Co_listLine_53 : decode b_Co_listLine 53 = .ok (.iload_n 2, 1) := by decide +kernel
theorem d_Co_listLine_54 : decode b_Co_listLine 54 = .ok (.aload_n 0, 1) := by decide +kernel
theorem d_Co_listLine_55 : decode b_Co_listLine 55 = .ok (.getfield 10, 3) := by decide +kernel
theorem d_Co_listLine_58 : decode b_Co_listLine 58 = .ok (.iload_n 1, 1) := by decide +kernel
theorem d_Co_listLine_59 : decode b_Co_listLine 59 = .ok (.invokevirtual 70, 3) := by decide +kernel
theorem d_Co_listLine_62 : decode b_Co_listLine 62 = .ok (.iload_n 2, 1) := by decide +kernel
theorem d_Co_listLine_63 : decode b_Co_listLine 63 = .ok (.invokestatic 127, 3) := by decide +kernel
theorem d_Co_listLine_66 : decode b_Co_listLine 66 = .ok (.isub, 1) := by decide +kernel
theorem d_Co_listLine_67 : decode b_Co_listLine 67 = .ok (.aload_n 0, 1) := by decide +kernel
theorem d_Co_listLine_68 : decode b_Co_listLine 68 = .ok (.getfield 10, 3) := by decide +kernel
theorem d_Co_listLine_71 : decode b_Co_listLine 71 = .ok (.iload_n 1, 1) := by decide +kernel
theorem d_Co_listLine_72 : decode b_Co_listLine 72 = .ok (.iload_n 2, 1) := by decide +kernel
theorem d_Co_listLine_73 : decode b_Co_listLine 73 = .ok (.invokevirtual 130, 3) := by decide +kernel
theorem d_Co_listLine_76 : decode b_Co_listLine 76 = .ok (.invokevirtual 123, 3) := by decide +kernel
theorem d_Co_listLine_79 : decode b_Co_listLine 79 = .ok (.iload_n 2, 1) := by decide +kernel
theorem d_Co_listLine_80 : decode b_Co_listLine 80 = .ok (.invokestatic 133, 3) := by decide +kernel
theorem d_Co_listLine_83 : decode b_Co_listLine 83 = .ok (.ireturn, 1) := by decide +kernel
theorem d_Mo_init_0 : decode b_Mo_init 0 = .ok (.aload_n 0, 1) := by decide +kernel
theorem d_Mo_init_1 : decode b_Mo_init 1 = .ok (.invokespecial 1, 3) := by decide +kernel
theorem d_Mo_init_4 : decode b_Mo_init 4 = .ok (.aload_n 0, 1) := by decide +kernel
theorem d_Mo_init_5 : decode b_Mo_init 5 = .ok (.sipush 160, 3) := by decide +kernel
theorem d_Mo_init_8 : decode b_Mo_init 8 = .ok (.newarray .int, 2) := by decide +kernel
theorem d_Mo_init_10 : decode b_Mo_init 10 = .ok (.putfield 7, 3) := by decide +kernel
theorem d_Mo_init_13 : decode b_Mo_init 13 = .ok (.aload_n 0, 1) := by decide +kernel
theorem d_Mo_init_14 : decode b_Mo_init 14 = .ok (.bipush 16, 2) := by decide +kernel
theorem d_Mo_init_16 : decode b_Mo_init 16 = .ok (.newarray .int, 2) := by decide +kernel
theorem d_Mo_init_18 : decode b_Mo_init 18 = .ok (.putfield 13, 3) := by decide +kernel
theorem d_Mo_init_21 : decode b_Mo_init 21 = .ok (.aload_n 0, 1) := by decide +kernel
theorem d_Mo_init_22 : decode b_Mo_init 22 = .ok (.sipush 2400, 3) := by decide +kernel
theorem d_Mo_init_25 : decode b_Mo_init 25 = .ok (.newarray .int, 2) := by decide +kernel
theorem d_Mo_init_27 : decode b_Mo_init 27 = .ok (.putfield 16, 3) := by decide +kernel
theorem d_Mo_init_30 : decode b_Mo_init 30 = .ok (.aload_n 0, 1) := by decide +kernel
theorem d_Mo_init_31 : decode b_Mo_init 31 = .ok (.sipush 160, 3) := by decide +kernel
theorem d_Mo_init_34 : decode b_Mo_init 34 = .ok (.newarray .int, 2) := by decide +kernel
theorem d_Mo_init_36 : decode b_Mo_init 36 = .ok (.putfield 19, 3) := by decide +kernel
theorem d_Mo_init_39 : decode b_Mo_init 39 = .ok (.aload_n 0, 1) := by decide +kernel
theorem d_Mo_init_40 : decode b_Mo_init 40 = .ok (.sipush 160, 3) := by decide +kernel
theorem d_Mo_init_43 : decode b_Mo_init 43 = .ok (.newarray .int, 2) := by decide +kernel
theorem d_Mo_init_45 : decode b_Mo_init 45 = .ok (.putfield 22, 3) := by decide +kernel
theorem d_Mo_init_48 : decode b_Mo_init 48 = .ok (.aload_n 0, 1) := by decide +kernel
theorem d_Mo_init_49 : decode b_Mo_init 49 = .ok (.sipush 160, 3) := by decide +kernel
theorem d_Mo_init_52 : decode b_Mo_init 52 = .ok (.newarray .boolean, 2) := by decide +kernel
theorem d_Mo_init_54 : decode b_Mo_init 54 = .ok (.putfield 25, 3) := by decide +kernel
theorem d_Mo_init_57 : decode b_Mo_init 57 = .ok (.aload_n 0, 1) := by decide +kernel
theorem d_Mo_init_58 : decode b_Mo_init 58 = .ok (.bipush 32, 2) := by decide +kernel
theorem d_Mo_init_60 : decode b_Mo_init 60 = .ok (.newarray .int, 2) := by decide +kernel
theorem d_Mo_init_62 : decode b_Mo_init 62 = .ok (.putfield 29, 3) := by decide +kernel
theorem d_Mo_init_65 : decode b_Mo_init 65 = .ok (.aload_n 0, 1) := by decide +kernel
theorem d_Mo_init_66 : decode b_Mo_init 66 = .ok (.iconst 0, 1) := by decide +kernel
theorem d_Mo_init_67 : decode b_Mo_init 67 = .ok (.putfield 32, 3) := by decide +kernel
theorem d_Mo_init_70 : decode b_Mo_init 70 = .ok (.return_, 1) := by decide +kernel
theorem d_Mo_append_0 : decode b_Mo_append 0 = .ok (.iload_n 2, 1) := by decide +kernel
theorem d_Mo_append_1 : decode b_Mo_append 1 = .ok (.iconst 1, 1) := by decide +kernel
theorem d_Mo_append_2 : decode b_Mo_append 2 = .ok (.if_icmp .lt 8, 3) := by decide +kernel
theorem d_Mo_append_5 : decode b_Mo_append 5 = .ok (.iload_n 2, 1) := by decide +kernel
theorem d_Mo_append_6 : decode b_Mo_append 6 = .ok (.iconst 4, 1) := by decide +kernel
theorem d_Mo_append_7 : decode b_Mo_append 7 = .ok (.if_icmp .le 5, 3) := by decide +kernel
theorem d_Mo_append_10 : decode b_Mo_append 10 = .ok (.iconst (-1), 1) := by decide +kernel
theorem d_Mo_append_11 : decode b_Mo_append 11 = .ok (.ireturn, 1) := by decide +kernel
theorem d_Mo_append_12 : decode b_Mo_append 12 = .ok (.aload_n 0, 1) := by decide +kernel
theorem d_Mo_append_13 : decode b_Mo_append 13 = .ok (.getfield 32, 3) := by decide +kernel
theorem d_Mo_append_16 : decode b_Mo_append 16 = .ok (.iload_n 2, 1) := by decide +kernel
theorem d_Mo_append_17 : decode b_Mo_append 17 = .ok (.iadd, 1) := by decide +kernel
theorem d_Mo_append_18 : decode b_Mo_append 18 = .ok (.sipush 160, 3) := by decide +kernel
theorem d_Mo_append_21 : decode b_Mo_append 21 = .ok (.if_icmp .le 6, 3) := by decide +kernel
theorem d_Mo_append_24 : decode b_Mo_append 24 = .ok (.bipush (-2), 2) := by decide +kernel
theorem d_Mo_append_26 : decode b_Mo_append 26 = .ok (.ireturn, 1) := by decide +kernel
theorem d_Mo_append_27 : decode b_Mo_append 27 = .ok (.iconst 0, 1) := by decide +kernel
theorem d_Mo_append_28 : decode b_Mo_append 28 = .ok (.istore_n 3, 1) := by decide +kernel
theorem d_Mo_append_29 : decode b_Mo_append 29 = .ok (.iload_n 3, 1) := by decide +kernel
theorem d_Mo_append_30 : decode b_Mo_append 30 = .ok (.iload_n 2, 1) := by decide +kernel
theorem d_Mo_append_31 : decode b_Mo_append 31 = .ok (.if_icmp .ge 33, 3) := by decide +kernel
theorem d_Mo_append_34 : decode b_Mo_append 34 = .ok (.aload_n 0, 1) := by decide +kernel
theorem d_Mo_append_35 : decode b_Mo_append 35 = .ok (.getfield 7, 3) := by decide +kernel
theorem d_Mo_append_38 : decode b_Mo_append 38 = .ok (.aload_n 0, 1) := by decide +kernel
theorem d_Mo_append_39 : decode b_Mo_append 39 = .ok (.getfield 32, 3) := by decide +kernel
theorem d_Mo_append_42 : decode b_Mo_append 42 = .ok (.iload_n 3, 1) := by decide +kernel
theorem d_Mo_append_43 : decode b_Mo_append 43 = .ok (.iadd, 1) := by decide +kernel
theorem d_Mo_append_44 : decode b_Mo_append 44 = .ok (.iload_n 1, 1) := by decide +kernel
theorem d_Mo_append_45 : decode b_Mo_append 45 = .ok (.bipush 24, 2) := by decide +kernel
theorem d_Mo_append_47 : decode b_Mo_append 47 = .ok (.bipush 8, 2) := by decide +kernel
theorem d_Mo_append_49 : decode b_Mo_append 49 = .ok (.iload_n 3, 1) := by decide +kernel
theorem d_Mo_append_50 : decode b_Mo_append 50 = .ok (.imul, 1) := by decide +kernel
theorem d_Mo_append_51 : decode b_Mo_append 51 = .ok (.isub, 1) := by decide +kernel
theorem d_Mo_append_52 : decode b_Mo_append 52 = .ok (.ishr, 1) := by decide +kernel
theorem d_Mo_append_53 : decode b_Mo_append 53 = .ok (.sipush 255, 3) := by decide +kernel
theorem d_Mo_append_56 : decode b_Mo_append 56 = .ok (.iand, 1) := by decide +kernel
theorem d_Mo_append_57 : decode b_Mo_append 57 = .ok (.iastore, 1) := by decide +kernel
theorem d_Mo_append_58 : decode b_Mo_append 58 = .ok (.iinc 3 1, 3) := by decide +kernel
theorem d_Mo_append_61 : decode b_Mo_append 61 = .ok (.goto (-32), 3) := by decide +kernel
theorem d_Mo_append_64 : decode b_Mo_append 64 = .ok (.aload_n 0, 1) := by decide +kernel
theorem d_Mo_append_65 : decode b_Mo_append 65 = .ok (.aload_n 0, 1) := by decide +kernel
theorem d_Mo_append_66 : decode b_Mo_append 66 = .ok (.getfield 32, 3) := by decide +kernel
theorem d_Mo_append_69 : decode b_Mo_append 69 = .ok (.iload_n 2, 1) := by decide +kernel
theorem d_Mo_append_70 : decode b_Mo_append 70 = .ok (.iadd, 1) := by decide +kernel
theorem d_Mo_append_71 : decode b_Mo_append 71 = .ok (.putfield 32, 3) := by decide +kernel
theorem d_Mo_append_74 : decode b_Mo_append 74 = .ok (.aload_n 0, 1) := by decide +kernel
theorem d_Mo_append_75 : decode b_Mo_append 75 = .ok (.getfield 32, 3) := by decide +kernel
theorem d_Mo_append_78 : decode b_Mo_append 78 = .ok (.ireturn, 1) := by decide +kernel
theorem d_Mo_has_0 : decode b_Mo_has 0 = .ok (.iload_n 1, 1) := by decide +kernel
theorem d_Mo_has_1 : decode b_Mo_has 1 = .ok (.ifCond .lt 15, 3) := by decide +kernel
theorem d_Mo_has_4 : decode b_Mo_has 4 = .ok (.iload_n 1, 1) := by decide +kernel
theorem d_Mo_has_5 : decode b_Mo_has 5 = .ok (.aload_n 0, 1) := by decide +kernel
theorem d_Mo_has_6 : decode b_Mo_has 6 = .ok (.getfield 32, 3) := by decide +kernel
theorem d_Mo_has_9 : decode b_Mo_has 9 = .ok (.if_icmp .ge 7, 3) := by decide +kernel
theorem d_Mo_has_12 : decode b_Mo_has 12 = .ok (.iconst 1, 1) := by decide +kernel
theorem d_Mo_has_13 : decode b_Mo_has 13 = .ok (.goto 4, 3) := by decide +kernel
