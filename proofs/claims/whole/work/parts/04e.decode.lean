theorem d_Im_number_61 : decode b_Im_number 61 = .ok (.iload_n 1, 1) := by decide +kernel
theorem d_Im_number_62 : decode b_Im_number 62 = .ok (.iconst 2, 1) := by decide +kernel
theorem d_Im_number_63 : decode b_Im_number 63 = .ok (.iadd, 1) := by decide +kernel
theorem d_Im_number_64 : decode b_Im_number 64 = .ok (.invokevirtual 23, 3) := by decide +kernel
theorem d_Im_number_67 : decode b_Im_number 67 = .ok (.iadd, 1) := by decide +kernel
theorem d_Im_number_68 : decode b_Im_number 68 = .ok (.ireturn, 1) := by decide +kernel
theorem d_Im_number_69 : decode b_Im_number 69 = .ok (.iconst 0, 1) := by decide +kernel
theorem d_Im_number_70 : decode b_Im_number 70 = .ok (.ireturn, 1) := by decide +kernel
theorem d_Ki_ofFirst_0 : decode b_Ki_ofFirst 0 = .ok (.iconst 0, 1) := by decide +kernel
theorem d_Ki_ofFirst_1 : decode b_Ki_ofFirst 1 = .ok (.istore_n 1, 1) := by decide +kernel
theorem d_Ki_ofFirst_2 : decode b_Ki_ofFirst 2 = .ok (.iload_n 1, 1) := by decide +kernel
theorem d_Ki_ofFirst_3 : decode b_Ki_ofFirst 3 = .ok (.bipush 13, 2) := by decide +kernel
theorem d_Ki_ofFirst_5 : decode b_Ki_ofFirst 5 = .ok (.if_icmp .ge 41, 3) := by decide +kernel
theorem d_Ki_ofFirst_8 : decode b_Ki_ofFirst 8 = .ok (.iconst 1, 1) := by decide +kernel
theorem d_Ki_ofFirst_9 : decode b_Ki_ofFirst 9 = .ok (.iconst 2, 1) := by decide +kernel
theorem d_Ki_ofFirst_10 : decode b_Ki_ofFirst 10 = .ok (.getstatic 11, 3) := by decide +kernel
theorem d_Ki_ofFirst_13 : decode b_Ki_ofFirst 13 = .ok (.iload_n 1, 1) := by decide +kernel
theorem d_Ki_ofFirst_14 : decode b_Ki_ofFirst 14 = .ok (.iaload, 1) := by decide +kernel
theorem d_Ki_ofFirst_15 : decode b_Ki_ofFirst 15 = .ok (.imul, 1) := by decide +kernel
theorem d_Ki_ofFirst_16 : decode b_Ki_ofFirst 16 = .ok (.ishl, 1) := by decide +kernel
theorem d_Ki_ofFirst_17 : decode b_Ki_ofFirst 17 = .ok (.istore_n 2, 1) := by decide +kernel
theorem d_Ki_ofFirst_18 : decode b_Ki_ofFirst 18 = .ok (.iload_n 0, 1) := by decide +kernel
theorem d_Ki_ofFirst_19 : decode b_Ki_ofFirst 19 = .ok (.getstatic 15, 3) := by decide +kernel
theorem d_Ki_ofFirst_22 : decode b_Ki_ofFirst 22 = .ok (.iload_n 1, 1) := by decide +kernel
theorem d_Ki_ofFirst_23 : decode b_Ki_ofFirst 23 = .ok (.iaload, 1) := by decide +kernel
theorem d_Ki_ofFirst_24 : decode b_Ki_ofFirst 24 = .ok (.if_icmp .lt 16, 3) := by decide +kernel
theorem d_Ki_ofFirst_27 : decode b_Ki_ofFirst 27 = .ok (.iload_n 0, 1) := by decide +kernel
theorem d_Ki_ofFirst_28 : decode b_Ki_ofFirst 28 = .ok (.getstatic 15, 3) := by decide +kernel
theorem d_Ki_ofFirst_31 : decode b_Ki_ofFirst 31 = .ok (.iload_n 1, 1) := by decide +kernel
theorem d_Ki_ofFirst_32 : decode b_Ki_ofFirst 32 = .ok (.iaload, 1) := by decide +kernel
theorem d_Ki_ofFirst_33 : decode b_Ki_ofFirst 33 = .ok (.iload_n 2, 1) := by decide +kernel
theorem d_Ki_ofFirst_34 : decode b_Ki_ofFirst 34 = .ok (.iadd, 1) := by decide +kernel
theorem d_Ki_ofFirst_35 : decode b_Ki_ofFirst 35 = .ok (.if_icmp .ge 5, 3) := by decide +kernel
theorem d_Ki_ofFirst_38 : decode b_Ki_ofFirst 38 = .ok (.iload_n 1, 1) := by decide +kernel
theorem d_Ki_ofFirst_39 : decode b_Ki_ofFirst 39 = .ok (.ireturn, 1) := by decide +kernel
theorem d_Ki_ofFirst_40 : decode b_Ki_ofFirst 40 = .ok (.iinc 1 1, 3) := by decide +kernel
theorem d_Ki_ofFirst_43 : decode b_Ki_ofFirst 43 = .ok (.goto (-41), 3) := by decide +kernel
theorem d_Ki_ofFirst_46 : decode b_Ki_ofFirst 46 = .ok (.iconst (-1), 1) := by decide +kernel
theorem d_Ki_ofFirst_47 : decode b_Ki_ofFirst 47 = .ok (.ireturn, 1) := by decide +kernel
theorem d_Ki_first_0 : decode b_Ki_first 0 = .ok (.getstatic 15, 3) := by decide +kernel
theorem d_Ki_first_3 : decode b_Ki_first 3 = .ok (.iload_n 0, 1) := by decide +kernel
theorem d_Ki_first_4 : decode b_Ki_first 4 = .ok (.iaload, 1) := by decide +kernel
theorem d_Ki_first_5 : decode b_Ki_first 5 = .ok (.ireturn, 1) := by decide +kernel
theorem d_Ki_registers_0 : decode b_Ki_registers 0 = .ok (.getstatic 11, 3) := by decide +kernel
theorem d_Ki_registers_3 : decode b_Ki_registers 3 = .ok (.iload_n 0, 1) := by decide +kernel
theorem d_Ki_registers_4 : decode b_Ki_registers 4 = .ok (.iaload, 1) := by decide +kernel
theorem d_Ki_registers_5 : decode b_Ki_registers 5 = .ok (.ireturn, 1) := by decide +kernel
theorem d_Ki_number_0 : decode b_Ki_number 0 = .ok (.getstatic 18, 3) := by decide +kernel
theorem d_Ki_number_3 : decode b_Ki_number 3 = .ok (.iload_n 0, 1) := by decide +kernel
theorem d_Ki_number_4 : decode b_Ki_number 4 = .ok (.iaload, 1) := by decide +kernel
theorem d_Ki_number_5 : decode b_Ki_number 5 = .ok (.ireturn, 1) := by decide +kernel
theorem d_Ki_bytes_0 : decode b_Ki_bytes 0 = .ok (.getstatic 18, 3) := by decide +kernel
theorem d_Ki_bytes_3 : decode b_Ki_bytes 3 = .ok (.iload_n 0, 1) := by decide +kernel
theorem d_Ki_bytes_4 : decode b_Ki_bytes 4 = .ok (.iaload, 1) := by decide +kernel
theorem d_Ki_bytes_5 : decode b_Ki_bytes 5 = .ok (.lookupswitch 31 #[(0, 27), (3, 29)], 27) := by decide +kernel
theorem d_Ki_bytes_32 : decode b_Ki_bytes 32 = .ok (.iconst 1, 1) := by decide +kernel
theorem d_Ki_bytes_33 : decode b_Ki_bytes 33 = .ok (.ireturn, 1) := by decide +kernel
theorem d_Ki_bytes_34 : decode b_Ki_bytes 34 = .ok (.iconst 3, 1) := by decide +kernel
theorem d_Ki_bytes_35 : decode b_Ki_bytes 35 = .ok (.ireturn, 1) := by decide +kernel
theorem d_Ki_bytes_36 : decode b_Ki_bytes 36 = .ok (.iconst 2, 1) := by decide +kernel
theorem d_Ki_bytes_37 : decode b_Ki_bytes 37 = .ok (.ireturn, 1) := by decide +kernel
theorem d_Ki_lowest_0 : decode b_Ki_lowest 0 = .ok (.iload_n 0, 1) := by decide +kernel
theorem d_Ki_lowest_1 : decode b_Ki_lowest 1 = .ok (.iconst 2, 1) := by decide +kernel
theorem d_Ki_lowest_2 : decode b_Ki_lowest 2 = .ok (.if_icmp .ne 8, 3) := by decide +kernel
theorem d_Ki_lowest_5 : decode b_Ki_lowest 5 = .ok (.bipush (-128), 2) := by decide +kernel
theorem d_Ki_lowest_7 : decode b_Ki_lowest 7 = .ok (.goto 4, 3) := by decide +kernel
theorem d_Ki_lowest_10 : decode b_Ki_lowest 10 = .ok (.iconst 0, 1) := by decide +kernel
theorem d_Ki_lowest_11 : decode b_Ki_lowest 11 = .ok (.ireturn, 1) := by decide +kernel
theorem d_Ki_highest_0 : decode b_Ki_highest 0 = .ok (.iload_n 0, 1) := by decide +kernel
theorem d_Ki_highest_1 : decode b_Ki_highest 1 = .ok (.lookupswitch 33 #[(2, 27), (3, 30)], 27) := by decide +kernel
theorem d_Ki_highest_28 : decode b_Ki_highest 28 = .ok (.bipush 127, 2) := by decide +kernel
theorem d_Ki_highest_30 : decode b_Ki_highest 30 = .ok (.ireturn, 1) := by decide +kernel
theorem d_Ki_highest_31 : decode b_Ki_highest 31 = .ok (.ldc 21, 2) := by decide +kernel
theorem d_Ki_highest_33 : decode b_Ki_highest 33 = .ok (.ireturn, 1) := by decide +kernel
theorem d_Ki_highest_34 : decode b_Ki_highest 34 = .ok (.sipush 255, 3) := by decide +kernel
theorem d_Ki_highest_37 : decode b_Ki_highest 37 = .ok (.ireturn, 1) := by decide +kernel
theorem d_Ki_fallsThrough_0 : decode b_Ki_fallsThrough 0 = .ok (.iload_n 0, 1) := by decide +kernel
theorem d_Ki_fallsThrough_1 : decode b_Ki_fallsThrough 1 = .ok (.iconst 1, 1) := by decide +kernel
theorem d_Ki_fallsThrough_2 : decode b_Ki_fallsThrough 2 = .ok (.if_icmp .eq 18, 3) := by decide +kernel
theorem d_Ki_fallsThrough_5 : decode b_Ki_fallsThrough 5 = .ok (.iload_n 0, 1) := by decide +kernel
theorem d_Ki_fallsThrough_6 : decode b_Ki_fallsThrough 6 = .ok (.iconst 2, 1) := by decide +kernel
theorem d_Ki_fallsThrough_7 : decode b_Ki_fallsThrough 7 = .ok (.if_icmp .eq 13, 3) := by decide +kernel
theorem d_Ki_fallsThrough_10 : decode b_Ki_fallsThrough 10 = .ok (.iload_n 0, 1) := by decide +kernel
theorem d_Ki_fallsThrough_11 : decode b_Ki_fallsThrough 11 = .ok (.bipush 7, 2) := by decide +kernel
theorem d_Ki_fallsThrough_13 : decode b_Ki_fallsThrough 13 = .ok (.if_icmp .eq 7, 3) := by decide +kernel
theorem d_Ki_fallsThrough_16 : decode b_Ki_fallsThrough 16 = .ok (.iconst 1, 1) := by decide +kernel
theorem d_Ki_fallsThrough_17 : decode b_Ki_fallsThrough 17 = .ok (.goto 4, 3) := by decide +kernel
theorem d_Ki_fallsThrough_20 : decode b_Ki_fallsThrough 20 = .ok (.iconst 0, 1) := by decide +kernel
theorem d_Ki_fallsThrough_21 : decode b_Ki_fallsThrough 21 = .ok (.ireturn, 1) := by decide +kernel
theorem d_Ki_opening_0 : decode b_Ki_opening 0 = .ok (.iload_n 0, 1) := by decide +kernel
theorem d_Ki_opening_1 : decode b_Ki_opening 1 = .ok (.tableswitch 106 0 12 #[67, 70, 73, 76, 79, 82, 85, 88, 91, 94, 97, 100, 103], 67) := by decide +kernel
theorem d_Ki_opening_68 : decode b_Ki_opening 68 = .ok (.ldc 22, 2) := by decide +kernel
theorem d_Ki_opening_70 : decode b_Ki_opening 70 = .ok (.areturn, 1) := by decide +kernel
theorem d_Ki_opening_71 : decode b_Ki_opening 71 = .ok (.ldc 24, 2) := by decide +kernel
theorem d_Ki_opening_73 : decode b_Ki_opening 73 = .ok (.areturn, 1) := by decide +kernel
theorem d_Ki_opening_74 : decode b_Ki_opening 74 = .ok (.ldc 26, 2) := by decide +kernel
theorem d_Ki_opening_76 : decode b_Ki_opening 76 = .ok (.areturn, 1) := by decide +kernel
theorem d_Ki_opening_77 : decode b_Ki_opening 77 = .ok (.ldc 28, 2) := by decide +kernel
theorem d_Ki_opening_79 : decode b_Ki_opening 79 = .ok (.areturn, 1) := by decide +kernel
theorem d_Ki_opening_80 : decode b_Ki_opening 80 = .ok (.ldc 30, 2) := by decide +kernel
theorem d_Ki_opening_82 : decode b_Ki_opening 82 = .ok (.areturn, 1) := by decide +kernel
theorem d_Ki_opening_83 : decode b_Ki_opening 83 = .ok (.ldc 32, 2) := by decide +kernel
theorem d_Ki_opening_85 : decode b_Ki_opening 85 = .ok (.areturn, 1) := by decide +kernel
theorem d_Ki_opening_86 : decode b_Ki_opening 86 = .ok (.ldc 34, 2) := by decide +kernel
theorem d_Ki_opening_88 : decode b_Ki_opening 88 = .ok (.areturn, 1) := by decide +kernel
theorem d_Ki_opening_89 : decode b_Ki_opening 89 = .ok (.ldc 36, 2) := by decide +kernel
theorem d_Ki_opening_91 : decode b_Ki_opening 91 = .ok (.areturn, 1) := by decide +kernel
theorem d_Ki_opening_92 : decode b_Ki_opening 92 = .ok (.ldc 38, 2) := by decide +kernel
theorem d_Ki_opening_94 : decode b_Ki_opening 94 = .ok (.areturn, 1) := by decide +kernel
theorem d_Ki_opening_95 : decode b_Ki_opening 95 = .ok (.ldc 40, 2) := by decide +kernel
theorem d_Ki_opening_97 : decode b_Ki_opening 97 = .ok (.areturn, 1) := by decide +kernel
theorem d_Ki_opening_98 : decode b_Ki_opening 98 = .ok (.ldc 42, 2) := by decide +kernel
theorem d_Ki_opening_100 : decode b_Ki_opening 100 = .ok (.areturn, 1) := by decide +kernel
theorem d_Ki_opening_101 : decode b_Ki_opening 101 = .ok (.ldc 44, 2) := by decide +kernel
theorem d_Ki_opening_103 : decode b_Ki_opening 103 = .ok (.areturn, 1) := by decide +kernel
theorem d_Ki_opening_104 : decode b_Ki_opening 104 = .ok (.ldc 46, 2) := by decide +kernel
theorem d_Ki_opening_106 : decode b_Ki_opening 106 = .ok (.areturn, 1) := by decide +kernel
theorem d_Ki_opening_107 : decode b_Ki_opening 107 = .ok (.ldc 48, 2) := by decide +kernel
theorem d_Ki_opening_109 : decode b_Ki_opening 109 = .ok (.areturn, 1) := by decide +kernel
theorem d_Te_init_0 : decode b_Te_init 0 = .ok (.aload_n 0, 1) := by decide +kernel
theorem d_Te_init_1 : decode b_Te_init 1 = .ok (.invokespecial 3, 3) := by decide +kernel
theorem d_Te_init_4 : decode b_Te_init 4 = .ok (.aload_n 0, 1) := by decide +kernel
theorem d_Te_init_5 : decode b_Te_init 5 = .ok (.sipush 2400, 3) := by decide +kernel
theorem d_Te_init_8 : decode b_Te_init 8 = .ok (.newarray .char, 2) := by decide +kernel
theorem d_Te_init_10 : decode b_Te_init 10 = .ok (.putfield 9, 3) := by decide +kernel
theorem d_Te_init_13 : decode b_Te_init 13 = .ok (.return_, 1) := by decide +kernel
theorem d_Te_count_0 : decode b_Te_count 0 = .ok (.aload_n 0, 1) := by decide +kernel
theorem d_Te_count_1 : decode b_Te_count 1 = .ok (.getfield 15, 3) := by decide +kernel
theorem d_Te_count_4 : decode b_Te_count 4 = .ok (.ireturn, 1) := by decide +kernel
theorem d_Te_at_0 : decode b_Te_at 0 = .ok (.iload_n 1, 1) := by decide +kernel
theorem d_Te_at_1 : decode b_Te_at 1 = .ok (.ifCond .lt 20, 3) := by decide +kernel
theorem d_Te_at_4 : decode b_Te_at 4 = .ok (.iload_n 1, 1) := by decide +kernel
theorem d_Te_at_5 : decode b_Te_at 5 = .ok (.aload_n 0, 1) := by decide +kernel
theorem d_Te_at_6 : decode b_Te_at 6 = .ok (.getfield 15, 3) := by decide +kernel
theorem d_Te_at_9 : decode b_Te_at 9 = .ok (.if_icmp .ge 12, 3) := by decide +kernel
theorem d_Te_at_12 : decode b_Te_at 12 = .ok (.aload_n 0, 1) := by decide +kernel
theorem d_Te_at_13 : decode b_Te_at 13 = .ok (.getfield 9, 3) := by decide +kernel
theorem d_Te_at_16 : decode b_Te_at 16 = .ok (.iload_n 1, 1) := by decide +kernel
theorem d_Te_at_17 : decode b_Te_at 17 = .ok (.caload, 1) := by decide +kernel
theorem d_Te_at_18 : decode b_Te_at 18 = .ok (.goto 4, 3) := by decide +kernel
theorem d_Te_at_21 : decode b_Te_at 21 = .ok (.iconst (-1), 1) := by decide +kernel
theorem d_Te_at_22 : decode b_Te_at 22 = .ok (.ireturn, 1) := by decide +kernel
theorem d_Te_drop_0 : decode b_Te_drop 0 = .ok (.aload_n 0, 1) := by decide +kernel
theorem d_Te_drop_1 : decode b_Te_drop 1 = .ok (.iconst 0, 1) := by decide +kernel
theorem d_Te_drop_2 : decode b_Te_drop 2 = .ok (.putfield 15, 3) := by decide +kernel
theorem d_Te_drop_5 : decode b_Te_drop 5 = .ok (.return_, 1) := by decide +kernel
theorem d_Te_put_0 : decode b_Te_put 0 = .ok (.iload_n 1, 1) := by decide +kernel
theorem d_Te_put_1 : decode b_Te_put 1 = .ok (.ifCond .lt 39, 3) := by decide +kernel
theorem d_Te_put_4 : decode b_Te_put 4 = .ok (.iload_n 1, 1) := by decide +kernel
theorem d_Te_put_5 : decode b_Te_put 5 = .ok (.aload_n 0, 1) := by decide +kernel
theorem d_Te_put_6 : decode b_Te_put 6 = .ok (.getfield 15, 3) := by decide +kernel
theorem d_Te_put_9 : decode b_Te_put 9 = .ok (.if_icmp .gt 31, 3) := by decide +kernel
theorem d_Te_put_12 : decode b_Te_put 12 = .ok (.iload_n 1, 1) := by decide +kernel
theorem d_Te_put_13 : decode b_Te_put 13 = .ok (.sipush 2400, 3) := by decide +kernel
theorem d_Te_put_16 : decode b_Te_put 16 = .ok (.if_icmp .ge 24, 3) := by decide +kernel
theorem d_Te_put_19 : decode b_Te_put 19 = .ok (.aload_n 0, 1) := by decide +kernel
theorem d_Te_put_20 : decode b_Te_put 20 = .ok (.getfield 9, 3) := by decide +kernel
theorem d_Te_put_23 : decode b_Te_put 23 = .ok (.iload_n 1, 1) := by decide +kernel
theorem d_Te_put_24 : decode b_Te_put 24 = .ok (.iload_n 2, 1) := by decide +kernel
theorem d_Te_put_25 : decode b_Te_put 25 = .ok (.castore, 1) := by decide +kernel
theorem d_Te_put_26 : decode b_Te_put 26 = .ok (.aload_n 0, 1) := by decide +kernel
theorem d_Te_put_27 : decode b_Te_put 27 = .ok (.aload_n 0, 1) := by decide +kernel
theorem d_Te_put_28 : decode b_Te_put 28 = .ok (.getfield 15, 3) := by decide +kernel
theorem d_Te_put_31 : decode b_Te_put 31 = .ok (.iload_n 1, 1) := by decide +kernel
theorem d_Te_put_32 : decode b_Te_put 32 = .ok (.iconst 1, 1) := by decide +kernel
theorem d_Te_put_33 : decode b_Te_put 33 = .ok (.iadd, 1) := by decide +kernel
theorem d_Te_put_34 : decode b_Te_put 34 = .ok (.invokestatic 19, 3) := by decide +kernel
theorem d_Te_put_37 : decode b_Te_put 37 = .ok (.putfield 15, 3) := by decide +kernel
theorem d_Te_put_40 : decode b_Te_put 40 = .ok (.return_, 1) := by decide +kernel
theorem d_Te_addLine_0 : decode b_Te_addLine 0 = .ok (.iload_n 1, 1) := by decide +kernel
theorem d_Te_addLine_1 : decode b_Te_addLine 1 = .ok (.invokestatic 25, 3) := by decide +kernel
theorem d_Te_addLine_4 : decode b_Te_addLine 4 = .ok (.astore 4, 2) := by decide +kernel
theorem d_Te_addLine_6 : decode b_Te_addLine 6 = .ok (.iconst 0, 1) := by decide +kernel
theorem d_Te_addLine_7 : decode b_Te_addLine 7 = .ok (.istore 5, 2) := by decide +kernel
theorem d_Te_addLine_9 : decode b_Te_addLine 9 = .ok (.iload 5, 2) := by decide +kernel
theorem d_Te_addLine_11 : decode b_Te_addLine 11 = .ok (.aload 4, 2) := by decide +kernel
theorem d_Te_addLine_13 : decode b_Te_addLine 13 = .ok (.invokevirtual 31, 3) := by decide +kernel
theorem d_Te_addLine_16 : decode b_Te_addLine 16 = .ok (.if_icmp .ge 20, 3) := by decide +kernel
theorem d_Te_addLine_19 : decode b_Te_addLine 19 = .ok (.aload_n 0, 1) := by decide +kernel
theorem d_Te_addLine_20 : decode b_Te_addLine 20 = .ok (.aload 4, 2) := by decide +kernel
theorem d_Te_addLine_22 : decode b_Te_addLine 22 = .ok (.iload 5, 2) := by decide +kernel
theorem d_Te_addLine_24 : decode b_Te_addLine 24 = .ok (.invokevirtual 37, 3) := by decide +kernel
theorem d_Te_addLine_27 : decode b_Te_addLine 27 = .ok (.invokevirtual 41, 3) := by decide +kernel
theorem d_Te_addLine_30 : decode b_Te_addLine 30 = .ok (.iinc 5 1, 3) := by decide +kernel
theorem d_Te_addLine_33 : decode b_Te_addLine 33 = .ok (.goto (-24), 3) := by decide +kernel
theorem d_Te_addLine_36 : decode b_Te_addLine 36 = .ok (.iload_n 1, 1) := by decide +kernel
theorem d_Te_addLine_37 : decode b_Te_addLine 37 = .ok (.invokestatic 45, 3) := by decide +kernel
theorem d_Te_addLine_40 : decode b_Te_addLine 40 = .ok (.istore 5, 2) := by decide +kernel
theorem d_Te_addLine_42 : decode b_Te_addLine 42 = .ok (.iconst 0, 1) := by decide +kernel
theorem d_Te_addLine_43 : decode b_Te_addLine 43 = .ok (.istore 6, 2) := by decide +kernel
theorem d_Te_addLine_45 : decode b_Te_addLine 45 = .ok (.iload 6, 2) := by decide +kernel
theorem d_Te_addLine_47 : decode b_Te_addLine 47 = .ok (.iload 5, 2) := by decide +kernel
theorem d_Te_addLine_49 : decode b_Te_addLine 49 = .ok (.if_icmp .ge 38, 3) := by decide +kernel
theorem d_Te_addLine_52 : decode b_Te_addLine 52 = .ok (.aload_n 0, 1) := by decide +kernel
theorem d_Te_addLine_53 : decode b_Te_addLine 53 = .ok (.iload 6, 2) := by decide +kernel
theorem d_Te_addLine_55 : decode b_Te_addLine 55 = .ok (.invokevirtual 49, 3) := by decide +kernel
theorem d_Te_addLine_58 : decode b_Te_addLine 58 = .ok (.aload_n 0, 1) := by decide +kernel
theorem d_Te_addLine_59 : decode b_Te_addLine 59 = .ok (.bipush 114, 2) := by decide +kernel
theorem d_Te_addLine_61 : decode b_Te_addLine 61 = .ok (.invokevirtual 41, 3) := by decide +kernel
theorem d_Te_addLine_64 : decode b_Te_addLine 64 = .ok (.aload_n 0, 1) := by decide +kernel
theorem d_Te_addLine_65 : decode b_Te_addLine 65 = .ok (.iload_n 2, 1) := by decide +kernel
theorem d_Te_addLine_66 : decode b_Te_addLine 66 = .ok (.iconst 2, 1) := by decide +kernel
theorem d_Te_addLine_67 : decode b_Te_addLine 67 = .ok (.iload 5, 2) := by decide +kernel
theorem d_Te_addLine_69 : decode b_Te_addLine 69 = .ok (.iconst 1, 1) := by decide +kernel
theorem d_Te_addLine_70 : decode b_Te_addLine 70 = .ok (.isub, 1) := by decide +kernel
theorem d_Te_addLine_71 : decode b_Te_addLine 71 = .ok (.iload 6, 2) := by decide +kernel
theorem d_Te_addLine_73 : decode b_Te_addLine 73 = .ok (.isub, 1) := by decide +kernel
theorem d_Te_addLine_74 : decode b_Te_addLine 74 = .ok (.imul, 1) := by decide +kernel
theorem d_Te_addLine_75 : decode b_Te_addLine 75 = .ok (.ishr, 1) := by decide +kernel
theorem d_Te_addLine_76 : decode b_Te_addLine 76 = .ok (.iconst 3, 1) := by decide +kernel
theorem d_Te_addLine_77 : decode b_Te_addLine 77 = .ok (.iand, 1) := by decide +kernel
theorem d_Te_addLine_78 : decode b_Te_addLine 78 = .ok (.invokevirtual 53, 3) := by decide +kernel
theorem d_Te_addLine_81 : decode b_Te_addLine 81 = .ok (.iinc 6 1, 3) := by decide +kernel
theorem d_Te_addLine_84 : decode b_Te_addLine 84 = .ok (.goto (-39), 3) := by decide +kernel
theorem d_Te_addLine_87 : decode b_Te_addLine 87 = .ok (.iload_n 1, 1) := by decide +kernel
theorem d_Te_addLine_88 : decode b_Te_addLine 88 = .ok (.invokestatic 56, 3) := by decide +kernel
theorem d_Te_addLine_91 : decode b_Te_addLine 91 = .ok (.ifCond .eq 14, 3) := by decide +kernel
theorem d_Te_addLine_94 : decode b_Te_addLine 94 = .ok (.aload_n 0, 1) := by decide +kernel
theorem d_Te_addLine_95 : decode b_Te_addLine 95 = .ok (.iload 5, 2) := by decide +kernel
theorem d_Te_addLine_97 : decode b_Te_addLine 97 = .ok (.invokevirtual 49, 3) := by decide +kernel
theorem d_Te_addLine_100 : decode b_Te_addLine 100 = .ok (.aload_n 0, 1) := by decide +kernel
theorem d_Te_addLine_101 : decode b_Te_addLine 101 = .ok (.iload_n 3, 1) := by decide +kernel
theorem d_Te_addLine_102 : decode b_Te_addLine 102 = .ok (.invokevirtual 59, 3) := by decide +kernel
theorem d_Te_addLine_105 : decode b_Te_addLine 105 = .ok (.aload_n 0, 1) := by decide +kernel
theorem d_Te_addLine_106 : decode b_Te_addLine 106 = .ok (.bipush 10, 2) := by decide +kernel
theorem d_Te_addLine_108 : decode b_Te_addLine 108 = .ok (.invokevirtual 41, 3) := by decide +kernel
theorem d_Te_addLine_111 : decode b_Te_addLine 111 = .ok (.return_, 1) := by decide +kernel
theorem d_Te_add_0 : decode b_Te_add 0 = .ok (.aload_n 0, 1) := by decide +kernel
theorem d_Te_add_1 : decode b_Te_add 1 = .ok (.aload_n 0, 1) := by decide +kernel
theorem d_Te_add_2 : decode b_Te_add 2 = .ok (.getfield 15, 3) := by decide +kernel
theorem d_Te_add_5 : decode b_Te_add 5 = .ok (.iload_n 1, 1) := by decide +kernel
theorem d_Te_add_6 : decode b_Te_add 6 = .ok (.invokevirtual 62, 3) := by decide +kernel
theorem d_Te_add_9 : decode b_Te_add 9 = .ok (.return_, 1) := by decide +kernel
theorem d_Te_addComma_0 : decode b_Te_addComma 0 = .ok (.iload_n 1, 1) := by decide +kernel
theorem d_Te_addComma_1 : decode b_Te_addComma 1 = .ok (.ifCond .le 9, 3) := by decide +kernel
theorem d_Te_addComma_4 : decode b_Te_addComma 4 = .ok (.aload_n 0, 1) := by decide +kernel
theorem d_Te_addComma_5 : decode b_Te_addComma 5 = .ok (.bipush 44, 2) := by decide +kernel
theorem d_Te_addComma_7 : decode b_Te_addComma 7 = .ok (.invokevirtual 41, 3) := by decide +kernel
theorem d_Te_addComma_10 : decode b_Te_addComma 10 = .ok (.return_, 1) := by decide +kernel
theorem d_Te_addDigit_0 : decode b_Te_addDigit 0 = .ok (.aload_n 0, 1) := by decide +kernel
theorem d_Te_addDigit_1 : decode b_Te_addDigit 1 = .ok (.bipush 48, 2) := by decide +kernel
theorem d_Te_addDigit_3 : decode b_Te_addDigit 3 = .ok (.iload_n 1, 1) := by decide +kernel
theorem d_Te_addDigit_4 : decode b_Te_addDigit 4 = .ok (.iadd, 1) := by decide +kernel
theorem d_Te_addDigit_5 : decode b_Te_addDigit 5 = .ok (.i2c, 1) := by decide +kernel
theorem d_Te_addDigit_6 : decode b_Te_addDigit 6 = .ok (.invokevirtual 41, 3) := by decide +kernel
theorem d_Te_addDigit_9 : decode b_Te_addDigit 9 = .ok (.return_, 1) := by decide +kernel
theorem d_Te_addNumber_0 : decode b_Te_addNumber 0 = .ok (.iload_n 1, 1) := by decide +kernel
theorem d_Te_addNumber_1 : decode b_Te_addNumber 1 = .ok (.ifCond .ge 9, 3) := by decide +kernel
theorem d_Te_addNumber_4 : decode b_Te_addNumber 4 = .ok (.aload_n 0, 1) := by decide +kernel
theorem d_Te_addNumber_5 : decode b_Te_addNumber 5 = .ok (.bipush 45, 2) := by decide +kernel
theorem d_Te_addNumber_7 : decode b_Te_addNumber 7 = .ok (.invokevirtual 41, 3) := by decide +kernel
theorem d_Te_addNumber_10 : decode b_Te_addNumber 10 = .ok (.iload_n 1, 1) := by decide +kernel
theorem d_Te_addNumber_11 : decode b_Te_addNumber 11 = .ok (.invokestatic 66, 3) := by decide +kernel
theorem d_Te_addNumber_14 : decode b_Te_addNumber 14 = .ok (.istore_n 2, 1) := by decide +kernel
theorem d_Te_addNumber_15 : decode b_Te_addNumber 15 = .ok (.sipush 10000, 3) := by decide +kernel
theorem d_Te_addNumber_18 : decode b_Te_addNumber 18 = .ok (.istore_n 3, 1) := by decide +kernel
theorem d_Te_addNumber_19 : decode b_Te_addNumber 19 = .ok (.iload_n 3, 1) := by decide +kernel
theorem d_Te_addNumber_20 : decode b_Te_addNumber 20 = .ok (.ifCond .le 31, 3) := by decide +kernel
theorem d_Te_addNumber_23 : decode b_Te_addNumber 23 = .ok (.iload_n 2, 1) := by decide +kernel
theorem d_Te_addNumber_24 : decode b_Te_addNumber 24 = .ok (.iload_n 3, 1) := by decide +kernel
theorem d_Te_addNumber_25 : decode b_Te_addNumber 25 = .ok (.if_icmp .ge 8, 3) := by decide +kernel
theorem d_Te_addNumber_28 : decode b_Te_addNumber 28 = .ok (.iload_n 3, 1) := by decide +kernel
theorem d_Te_addNumber_29 : decode b_Te_addNumber 29 = .ok (.iconst 1, 1) := by decide +kernel
theorem d_Te_addNumber_30 : decode b_Te_addNumber 30 = .ok (.if_icmp .ne 13, 3) := by decide +kernel
theorem d_Te_addNumber_33 : decode b_Te_addNumber 33 = .ok (.aload_n 0, 1) := by decide +kernel
theorem d_Te_addNumber_34 : decode b_Te_addNumber 34 = .ok (.iload_n 2, 1) := by decide +kernel
theorem d_Te_addNumber_35 : decode b_Te_addNumber 35 = .ok (.iload_n 3, 1) := by decide +kernel
theorem d_Te_addNumber_36 : decode b_Te_addNumber 36 = .ok (.idiv, 1) := by decide +kernel
theorem d_Te_addNumber_37 : decode b_Te_addNumber 37 = .ok (.bipush 10, 2) := by decide +kernel
theorem d_Te_addNumber_39 : decode b_Te_addNumber 39 = .ok (.irem, 1) := by decide +kernel
theorem d_Te_addNumber_40 : decode b_Te_addNumber 40 = .ok (.invokevirtual 53, 3) := by decide +kernel
theorem d_Te_addNumber_43 : decode b_Te_addNumber 43 = .ok (.iload_n 3, 1) := by decide +kernel
theorem d_Te_addNumber_44 : decode b_Te_addNumber 44 = .ok (.bipush 10, 2) := by decide +kernel
theorem d_Te_addNumber_46 : decode b_Te_addNumber 46 = .ok (.idiv, 1) := by decide +kernel
theorem d_Te_addNumber_47 : decode b_Te_addNumber 47 = .ok (.istore_n 3, 1) := by decide +kernel
theorem d_Te_addNumber_48 : decode b_Te_addNumber 48 = .ok (.goto (-29), 3) := by decide +kernel
theorem d_Te_addNumber_51 : decode b_Te_addNumber 51 = .ok (.return_, 1) := by decide +kernel
theorem d_Te_startReading_0 : decode b_Te_startReading 0 = .ok (.aload_n 0, 1) := by decide +kernel
theorem d_Te_startReading_1 : decode b_Te_startReading 1 = .ok (.iconst 0, 1) := by decide +kernel
theorem d_Te_startReading_2 : decode b_Te_startReading 2 = .ok (.putfield 69, 3) := by decide +kernel
theorem d_Te_startReading_5 : decode b_Te_startReading 5 = .ok (.aload_n 0, 1) := by decide +kernel
theorem d_Te_startReading_6 : decode b_Te_startReading 6 = .ok (.iconst 1, 1) := by decide +kernel
theorem d_Te_startReading_7 : decode b_Te_startReading 7 = .ok (.putfield 72, 3) := by decide +kernel
theorem d_Te_startReading_10 : decode b_Te_startReading 10 = .ok (.return_, 1) := by decide +kernel
theorem d_Te_isRight_0 : decode b_Te_isRight 0 = .ok (.aload_n 0, 1) := by decide +kernel
theorem d_Te_isRight_1 : decode b_Te_isRight 1 = .ok (.getfield 72, 3) := by decide +kernel
theorem d_Te_isRight_4 : decode b_Te_isRight 4 = .ok (.ireturn, 1) := by decide +kernel
theorem d_Te_hasMore_0 : decode b_Te_hasMore 0 = .ok (.aload_n 0, 1) := by decide +kernel
theorem d_Te_hasMore_1 : decode b_Te_hasMore 1 = .ok (.getfield 72, 3) := by decide +kernel
theorem d_Te_hasMore_4 : decode b_Te_hasMore 4 = .ok (.ifCond .eq 18, 3) := by decide +kernel
theorem d_Te_hasMore_7 : decode b_Te_hasMore 7 = .ok (.aload_n 0, 1) := by decide +kernel
theorem d_Te_hasMore_8 : decode b_Te_hasMore 8 = .ok (.getfield 69, 3) := by decide +kernel
theorem d_Te_hasMore_11 : decode b_Te_hasMore 11 = .ok (.aload_n 0, 1) := by decide +kernel
theorem d_Te_hasMore_12 : decode b_Te_hasMore 12 = .ok (.getfield 15, 3) := by decide +kernel
theorem d_Te_hasMore_15 : decode b_Te_hasMore 15 = .ok (.if_icmp .ge 7, 3) := by decide +kernel
theorem d_Te_hasMore_18 : decode b_Te_hasMore 18 = .ok (.iconst 1, 1) := by decide +kernel
theorem d_Te_hasMore_19 : decode b_Te_hasMore 19 = .ok (.goto 4, 3) := by decide +kernel
theorem d_Te_hasMore_22 : decode b_Te_hasMore 22 = .ok (.iconst 0, 1) := by decide +kernel
theorem d_Te_hasMore_23 : decode b_Te_hasMore 23 = .ok (.ireturn, 1) := by decide +kernel
theorem d_Te_take_0 : decode b_Te_take 0 = .ok (.aload_n 0, 1) := by decide +kernel
theorem d_Te_take_1 : decode b_Te_take 1 = .ok (.aload_n 0, 1) := by decide +kernel
theorem d_Te_take_2 : decode b_Te_take 2 = .ok (.getfield 69, 3) := by decide +kernel
theorem d_Te_take_5 : decode b_Te_take 5 = .ok (.invokevirtual 76, 3) := by decide +kernel
theorem d_Te_take_8 : decode b_Te_take 8 = .ok (.iload_n 1, 1) := by decide +kernel
theorem d_Te_take_9 : decode b_Te_take 9 = .ok (.if_icmp .ne 16, 3) := by decide +kernel
theorem d_Te_take_12 : decode b_Te_take 12 = .ok (.aload_n 0, 1) := by decide +kernel
theorem d_Te_take_13 : decode b_Te_take 13 = .ok (.dup, 1) := by decide +kernel
theorem d_Te_take_14 : decode b_Te_take 14 = .ok (.getfield 69, 3) := by decide +kernel
theorem d_Te_take_17 : decode b_Te_take 17 = .ok (.iconst 1, 1) := by decide +kernel
theorem d_Te_take_18 : decode b_Te_take 18 = .ok (.iadd, 1) := by decide +kernel
theorem d_Te_take_19 : decode b_Te_take 19 = .ok (.putfield 69, 3) := by decide +kernel
theorem d_Te_take_22 : decode b_Te_take 22 = .ok (.goto 8, 3) := by decide +kernel
theorem d_Te_take_25 : decode b_Te_take 25 = .ok (.aload_n 0, 1) := by decide +kernel
theorem d_Te_take_26 : decode b_Te_take 26 = .ok (.iconst 0, 1) := by decide +kernel
theorem d_Te_take_27 : decode b_Te_take 27 = .ok (.putfield 72, 3) := by decide +kernel
theorem d_Te_take_30 : decode b_Te_take 30 = .ok (.return_, 1) := by decide +kernel
theorem d_Te_takeComma_0 : decode b_Te_takeComma 0 = .ok (.iload_n 1, 1) := by decide +kernel
theorem d_Te_takeComma_1 : decode b_Te_takeComma 1 = .ok (.ifCond .le 9, 3) := by decide +kernel
theorem d_Te_takeComma_4 : decode b_Te_takeComma 4 = .ok (.aload_n 0, 1) := by decide +kernel
theorem d_Te_takeComma_5 : decode b_Te_takeComma 5 = .ok (.bipush 44, 2) := by decide +kernel
theorem d_Te_takeComma_7 : decode b_Te_takeComma 7 = .ok (.invokevirtual 79, 3) := by decide +kernel
theorem d_Te_takeComma_10 : decode b_Te_takeComma 10 = .ok (.return_, 1) := by decide +kernel
theorem d_Te_takeKind_0 : decode b_Te_takeKind 0 = .ok (.iconst 0, 1) := by decide +kernel
theorem d_Te_takeKind_1 : decode b_Te_takeKind 1 = .ok (.istore_n 1, 1) := by decide +kernel
theorem d_Te_takeKind_2 : decode b_Te_takeKind 2 = .ok (.iload_n 1, 1) := by decide +kernel
theorem d_Te_takeKind_3 : decode b_Te_takeKind 3 = .ok (.bipush 14, 2) := by decide +kernel
theorem d_Te_takeKind_5 : decode b_Te_takeKind 5 = .ok (.if_icmp .ge 37, 3) := by decide +kernel
theorem d_Te_takeKind_8 : decode b_Te_takeKind 8 = .ok (.iload_n 1, 1) := by decide +kernel
theorem d_Te_takeKind_9 : decode b_Te_takeKind 9 = .ok (.invokestatic 25, 3) := by decide +kernel
theorem d_Te_takeKind_12 : decode b_Te_takeKind 12 = .ok (.astore_n 2, 1) := by decide +kernel
theorem d_Te_takeKind_13 : decode b_Te_takeKind 13 = .ok (.aload_n 0, 1) := by decide +kernel
theorem d_Te_takeKind_14 : decode b_Te_takeKind 14 = .ok (.aload_n 2, 1) := by decide +kernel
theorem d_Te_takeKind_15 : decode b_Te_takeKind 15 = .ok (.invokevirtual 82, 3) := by decide +kernel
theorem d_Te_takeKind_18 : decode b_Te_takeKind 18 = .ok (.ifCond .eq 18, 3) := by decide +kernel
theorem d_Te_takeKind_21 : decode b_Te_takeKind 21 = .ok (.aload_n 0, 1) := by decide +kernel
theorem d_Te_takeKind_22 : decode b_Te_takeKind 22 = .ok (.dup, 1) := by decide +kernel
theorem d_Te_takeKind_23 : decode b_Te_takeKind 23 = .ok (.getfield 69, 3) := by decide +kernel
theorem d_Te_takeKind_26 : decode b_Te_takeKind 26 = .ok (.aload_n 2, 1) := by decide +kernel
theorem d_Te_takeKind_27 : decode b_Te_takeKind 27 = .ok (.invokevirtual 31, 3) := by decide +kernel
theorem d_Te_takeKind_30 : decode b_Te_takeKind 30 = .ok (.iadd, 1) := by decide +kernel
theorem d_Te_takeKind_31 : decode b_Te_takeKind 31 = .ok (.putfield 69, 3) := by decide +kernel
theorem d_Te_takeKind_34 : decode b_Te_takeKind 34 = .ok (.iload_n 1, 1) := by decide +kernel
theorem d_Te_takeKind_35 : decode b_Te_takeKind 35 = .ok (.ireturn, 1) := by decide +kernel
theorem d_Te_takeKind_36 : decode b_Te_takeKind 36 = .ok (.iinc 1 1, 3) := by decide +kernel
theorem d_Te_takeKind_39 : decode b_Te_takeKind 39 = .ok (.goto (-37), 3) := by decide +kernel
theorem d_Te_takeKind_42 : decode b_Te_takeKind 42 = .ok (.aload_n 0, 1) := by decide +kernel
theorem d_Te_takeKind_43 : decode b_Te_takeKind 43 = .ok (.iconst 0, 1) := by decide +kernel
theorem d_Te_takeKind_44 : decode b_Te_takeKind 44 = .ok (.putfield 72, 3) := by decide +kernel
theorem d_Te_takeKind_47 : decode b_Te_takeKind 47 = .ok (.iconst (-1), 1) := by decide +kernel
theorem d_Te_takeKind_48 : decode b_Te_takeKind 48 = .ok (.ireturn, 1) := by decide +kernel
theorem d_Te_goesOnWith_0 : decode b_Te_goesOnWith 0 = .ok (.iconst 0, 1) := by decide +kernel
theorem d_Te_goesOnWith_1 : decode b_Te_goesOnWith 1 = .ok (.istore_n 2, 1) := by decide +kernel
theorem d_Te_goesOnWith_2 : decode b_Te_goesOnWith 2 = .ok (.iload_n 2, 1) := by decide +kernel
theorem d_Te_goesOnWith_3 : decode b_Te_goesOnWith 3 = .ok (.aload_n 1, 1) := by decide +kernel
theorem d_Te_goesOnWith_4 : decode b_Te_goesOnWith 4 = .ok (.invokevirtual 31, 3) := by decide +kernel
theorem d_Te_goesOnWith_7 : decode b_Te_goesOnWith 7 = .ok (.if_icmp .ge 29, 3) := by decide +kernel
theorem d_Te_goesOnWith_10 : decode b_Te_goesOnWith 10 = .ok (.aload_n 0, 1) := by decide +kernel
theorem d_Te_goesOnWith_11 : decode b_Te_goesOnWith 11 = .ok (.aload_n 0, 1) := by decide +kernel
theorem d_Te_goesOnWith_12 : decode b_Te_goesOnWith 12 = .ok (.getfield 69, 3) := by decide +kernel
theorem d_Te_goesOnWith_15 : decode b_Te_goesOnWith 15 = .ok (.iload_n 2, 1) := by decide +kernel
theorem d_Te_goesOnWith_16 : decode b_Te_goesOnWith 16 = .ok (.iadd, 1) := by decide +kernel
theorem d_Te_goesOnWith_17 : decode b_Te_goesOnWith 17 = .ok (.invokevirtual 76, 3) := by decide +kernel
theorem d_Te_goesOnWith_20 : decode b_Te_goesOnWith 20 = .ok (.aload_n 1, 1) := by decide +kernel
theorem d_Te_goesOnWith_21 : decode b_Te_goesOnWith 21 = .ok (.iload_n 2, 1) := by decide +kernel
theorem d_Te_goesOnWith_22 : decode b_Te_goesOnWith 22 = .ok (.invokevirtual 37, 3) := by decide +kernel
theorem d_Te_goesOnWith_25 : decode b_Te_goesOnWith 25 = .ok (.if_icmp .eq 5, 3) := by decide +kernel
theorem d_Te_goesOnWith_28 : decode b_Te_goesOnWith 28 = .ok (.iconst 0, 1) := by decide +kernel
theorem d_Te_goesOnWith_29 : decode b_Te_goesOnWith 29 = .ok (.ireturn, 1) := by decide +kernel
theorem d_Te_goesOnWith_30 : decode b_Te_goesOnWith 30 = .ok (.iinc 2 1, 3) := by decide +kernel
theorem d_Te_goesOnWith_33 : decode b_Te_goesOnWith 33 = .ok (.goto (-31), 3) := by decide +kernel
theorem d_Te_goesOnWith_36 : decode b_Te_goesOnWith 36 = .ok (.iconst 1, 1) := by decide +kernel
theorem d_Te_goesOnWith_37 : decode b_Te_goesOnWith 37 = .ok (.ireturn, 1) := by decide +kernel
theorem d_Te_takeRegister_0 : decode b_Te_takeRegister 0 = .ok (.aload_n 0, 1) := by decide +kernel
theorem d_Te_takeRegister_1 : decode b_Te_takeRegister 1 = .ok (.bipush 114, 2) := by decide +kernel
theorem d_Te_takeRegister_3 : decode b_Te_takeRegister 3 = .ok (.invokevirtual 79, 3) := by decide +kernel
theorem d_Te_takeRegister_6 : decode b_Te_takeRegister 6 = .ok (.aload_n 0, 1) := by decide +kernel
theorem d_Te_takeRegister_7 : decode b_Te_takeRegister 7 = .ok (.aload_n 0, 1) := by decide +kernel
theorem d_Te_takeRegister_8 : decode b_Te_takeRegister 8 = .ok (.getfield 69, 3) := by decide +kernel
theorem d_Te_takeRegister_11 : decode b_Te_takeRegister 11 = .ok (.invokevirtual 76, 3) := by decide +kernel
theorem d_Te_takeRegister_14 : decode b_Te_takeRegister 14 = .ok (.bipush 48, 2) := by decide +kernel
theorem d_Te_takeRegister_16 : decode b_Te_takeRegister 16 = .ok (.isub, 1) := by decide +kernel
theorem d_Te_takeRegister_17 : decode b_Te_takeRegister 17 = .ok (.istore_n 1, 1) := by decide +kernel
theorem d_Te_takeRegister_18 : decode b_Te_takeRegister 18 = .ok (.iload_n 1, 1) := by decide +kernel
theorem d_Te_takeRegister_19 : decode b_Te_takeRegister 19 = .ok (.ifCond .lt 8, 3) := by decide +kernel
theorem d_Te_takeRegister_22 : decode b_Te_takeRegister 22 = .ok (.iload_n 1, 1) := by decide +kernel
theorem d_Te_takeRegister_23 : decode b_Te_takeRegister 23 = .ok (.iconst 3, 1) := by decide +kernel
theorem d_Te_takeRegister_24 : decode b_Te_takeRegister 24 = .ok (.if_icmp .le 10, 3) := by decide +kernel
theorem d_Te_takeRegister_27 : decode b_Te_takeRegister 27 = .ok (.aload_n 0, 1) := by decide +kernel
theorem d_Te_takeRegister_28 : decode b_Te_takeRegister 28 = .ok (.iconst 0, 1) := by decide +kernel
theorem d_Te_takeRegister_29 : decode b_Te_takeRegister 29 = .ok (.putfield 72, 3) := by decide +kernel
theorem d_Te_takeRegister_32 : decode b_Te_takeRegister 32 = .ok (.iconst 0, 1) := by decide +kernel
theorem d_Te_takeRegister_33 : decode b_Te_takeRegister 33 = .ok (.ireturn, 1) := by decide +kernel
theorem d_Te_takeRegister_34 : decode b_Te_takeRegister 34 = .ok (.aload_n 0, 1) := by decide +kernel
theorem d_Te_takeRegister_35 : decode b_Te_takeRegister 35 = .ok (.dup, 1) := by decide +kernel
theorem d_Te_takeRegister_36 : decode b_Te_takeRegister 36 = .ok (.getfield 69, 3) := by decide +kernel
theorem d_Te_takeRegister_39 : decode b_Te_takeRegister 39 = .ok (.iconst 1, 1) := by decide +kernel
theorem d_Te_takeRegister_40 : decode b_Te_takeRegister 40 = .ok (.iadd, 1) := by decide +kernel
theorem d_Te_takeRegister_41 : decode b_Te_takeRegister 41 = .ok (.putfield 69, 3) := by decide +kernel
theorem d_Te_takeRegister_44 : decode b_Te_takeRegister 44 = .ok (.iload_n 1, 1) := by decide +kernel
theorem d_Te_takeRegister_45 : decode b_Te_takeRegister 45 = .ok (.ireturn, 1) := by decide +kernel
theorem d_Te_takeNumber_0 : decode b_Te_takeNumber 0 = .ok (.aload_n 0, 1) := by decide +kernel
theorem d_Te_takeNumber_1 : decode b_Te_takeNumber 1 = .ok (.aload_n 0, 1) := by decide +kernel
theorem d_Te_takeNumber_2 : decode b_Te_takeNumber 2 = .ok (.getfield 69, 3) := by decide +kernel
theorem d_Te_takeNumber_5 : decode b_Te_takeNumber 5 = .ok (.invokevirtual 76, 3) := by decide +kernel
theorem d_Te_takeNumber_8 : decode b_Te_takeNumber 8 = .ok (.bipush 45, 2) := by decide +kernel
theorem d_Te_takeNumber_10 : decode b_Te_takeNumber 10 = .ok (.if_icmp .ne 7, 3) := by decide +kernel
theorem d_Te_takeNumber_13 : decode b_Te_takeNumber 13 = .ok (.iconst 1, 1) := by decide +kernel
theorem d_Te_takeNumber_14 : decode b_Te_takeNumber 14 = .ok (.goto 4, 3) := by decide +kernel
theorem d_Te_takeNumber_17 : decode b_Te_takeNumber 17 = .ok (.iconst 0, 1) := by decide +kernel
theorem d_Te_takeNumber_18 : decode b_Te_takeNumber 18 = .ok (.istore_n 3, 1) := by decide +kernel
theorem d_Te_takeNumber_19 : decode b_Te_takeNumber 19 = .ok (.iload_n 3, 1) := by decide +kernel
theorem d_Te_takeNumber_20 : decode b_Te_takeNumber 20 = .ok (.ifCond .eq 13, 3) := by decide +kernel
theorem d_Te_takeNumber_23 : decode b_Te_takeNumber 23 = .ok (.aload_n 0, 1) := by decide +kernel
theorem d_Te_takeNumber_24 : decode b_Te_takeNumber 24 = .ok (.dup, 1) := by decide +kernel
theorem d_Te_takeNumber_25 : decode b_Te_takeNumber 25 = .ok (.getfield 69, 3) := by decide +kernel
theorem d_Te_takeNumber_28 : decode b_Te_takeNumber 28 = .ok (.iconst 1, 1) := by decide +kernel
theorem d_Te_takeNumber_29 : decode b_Te_takeNumber 29 = .ok (.iadd, 1) := by decide +kernel
theorem d_Te_takeNumber_30 : decode b_Te_takeNumber 30 = .ok (.putfield 69, 3) := by decide +kernel
theorem d_Te_takeNumber_33 : decode b_Te_takeNumber 33 = .ok (.aload_n 0, 1) := by decide +kernel
theorem d_Te_takeNumber_34 : decode b_Te_takeNumber 34 = .ok (.invokevirtual 86, 3) := by decide +kernel
theorem d_Te_takeNumber_37 : decode b_Te_takeNumber 37 = .ok (.istore 4, 2) := by decide +kernel
theorem d_Te_takeNumber_39 : decode b_Te_takeNumber 39 = .ok (.iload_n 3, 1) := by decide +kernel
theorem d_Te_takeNumber_40 : decode b_Te_takeNumber 40 = .ok (.ifCond .eq 9, 3) := by decide +kernel
theorem d_Te_takeNumber_43 : decode b_Te_takeNumber 43 = .ok (.iload 4, 2) := by decide +kernel
theorem d_Te_takeNumber_45 : decode b_Te_takeNumber 45 = .ok (.ineg, 1) := by decide +kernel
theorem d_Te_takeNumber_46 : decode b_Te_takeNumber 46 = .ok (.goto 5, 3) := by decide +kernel
theorem d_Te_takeNumber_49 : decode b_Te_takeNumber 49 = .ok (.iload 4, 2) := by decide +kernel
theorem d_Te_takeNumber_51 : decode b_Te_takeNumber 51 = .ok (.istore 5, 2) := by decide +kernel
theorem d_Te_takeNumber_53 : decode b_Te_takeNumber 53 = .ok (.iload_n 3, 1) := by decide +kernel
theorem d_Te_takeNumber_54 : decode b_Te_takeNumber 54 = .ok (.ifCond .eq 8, 3) := by decide +kernel
theorem d_Te_takeNumber_57 : decode b_Te_takeNumber 57 = .ok (.iload 4, 2) := by decide +kernel
theorem d_Te_takeNumber_59 : decode b_Te_takeNumber 59 = .ok (.ifCond .eq 15, 3) := by decide +kernel
theorem d_Te_takeNumber_62 : decode b_Te_takeNumber 62 = .ok (.iload 5, 2) := by decide +kernel
theorem d_Te_takeNumber_64 : decode b_Te_takeNumber 64 = .ok (.iload_n 1, 1) := by decide +kernel
theorem d_Te_takeNumber_65 : decode b_Te_takeNumber 65 = .ok (.if_icmp .lt 9, 3) := by decide +kernel
theorem d_Te_takeNumber_68 : decode b_Te_takeNumber 68 = .ok (.iload 5, 2) := by decide +kernel
theorem d_Te_takeNumber_70 : decode b_Te_takeNumber 70 = .ok (.iload_n 2, 1) := by decide +kernel
theorem d_Te_takeNumber_71 : decode b_Te_takeNumber 71 = .ok (.if_icmp .le 8, 3) := by decide +kernel
theorem d_Te_takeNumber_74 : decode b_Te_takeNumber 74 = .ok (.aload_n 0, 1) := by decide +kernel
theorem d_Te_takeNumber_75 : decode b_Te_takeNumber 75 = .ok (.iconst 0, 1) := by decide +kernel
theorem d_Te_takeNumber_76 : decode b_Te_takeNumber 76 = .ok (.putfield 72, 3) := by decide +kernel
theorem d_Te_takeNumber_79 : decode b_Te_takeNumber 79 = .ok (.iload 5, 2) := by decide +kernel
theorem d_Te_takeNumber_81 : decode b_Te_takeNumber 81 = .ok (.ireturn, 1) := by decide +kernel
theorem d_Te_takeAmount_0 : decode b_Te_takeAmount 0 = .ok (.aload_n 0, 1) := by decide +kernel
theorem d_Te_takeAmount_1 : decode b_Te_takeAmount 1 = .ok (.getfield 69, 3) := by decide +kernel
theorem d_Te_takeAmount_4 : decode b_Te_takeAmount 4 = .ok (.istore_n 1, 1) := by decide +kernel
theorem d_Te_takeAmount_5 : decode b_Te_takeAmount 5 = .ok (.iconst 0, 1) := by decide +kernel
theorem d_Te_takeAmount_6 : decode b_Te_takeAmount 6 = .ok (.istore_n 2, 1) := by decide +kernel
theorem d_Te_takeAmount_7 : decode b_Te_takeAmount 7 = .ok (.iconst 0, 1) := by decide +kernel
theorem d_Te_takeAmount_8 : decode b_Te_takeAmount 8 = .ok (.istore_n 3, 1) := by decide +kernel
theorem d_Te_takeAmount_9 : decode b_Te_takeAmount 9 = .ok (.iload_n 3, 1) := by decide +kernel
theorem d_Te_takeAmount_10 : decode b_Te_takeAmount 10 = .ok (.iconst 5, 1) := by decide +kernel
theorem d_Te_takeAmount_11 : decode b_Te_takeAmount 11 = .ok (.if_icmp .ge 50, 3) := by decide +kernel
theorem d_Te_takeAmount_14 : decode b_Te_takeAmount 14 = .ok (.aload_n 0, 1) := by decide +kernel
theorem d_Te_takeAmount_15 : decode b_Te_takeAmount 15 = .ok (.aload_n 0, 1) := by decide +kernel
theorem d_Te_takeAmount_16 : decode b_Te_takeAmount 16 = .ok (.getfield 69, 3) := by decide +kernel
theorem d_Te_takeAmount_19 : decode b_Te_takeAmount 19 = .ok (.invokevirtual 76, 3) := by decide +kernel
theorem d_Te_takeAmount_22 : decode b_Te_takeAmount 22 = .ok (.invokestatic 89, 3) := by decide +kernel
theorem d_Te_takeAmount_25 : decode b_Te_takeAmount 25 = .ok (.ifCond .eq 36, 3) := by decide +kernel
theorem d_Te_takeAmount_28 : decode b_Te_takeAmount 28 = .ok (.bipush 10, 2) := by decide +kernel
theorem d_Te_takeAmount_30 : decode b_Te_takeAmount 30 = .ok (.iload_n 2, 1) := by decide +kernel
theorem d_Te_takeAmount_31 : decode b_Te_takeAmount 31 = .ok (.imul, 1) := by decide +kernel
theorem d_Te_takeAmount_32 : decode b_Te_takeAmount 32 = .ok (.aload_n 0, 1) := by decide +kernel
theorem d_Te_takeAmount_33 : decode b_Te_takeAmount 33 = .ok (.aload_n 0, 1) := by decide +kernel
theorem d_Te_takeAmount_34 : decode b_Te_takeAmount 34 = .ok (.getfield 69, 3) := by decide +kernel
theorem d_Te_takeAmount_37 : decode b_Te_takeAmount 37 = .ok (.invokevirtual 76, 3) := by decide +kernel
theorem d_Te_takeAmount_40 : decode b_Te_takeAmount 40 = .ok (.iadd, 1) := by decide +kernel
theorem d_Te_takeAmount_41 : decode b_Te_takeAmount 41 = .ok (.bipush 48, 2) := by decide +kernel
theorem d_Te_takeAmount_43 : decode b_Te_takeAmount 43 = .ok (.isub, 1) := by decide +kernel
theorem d_Te_takeAmount_44 : decode b_Te_takeAmount 44 = .ok (.istore_n 2, 1) := by decide +kernel
theorem d_Te_takeAmount_45 : decode b_Te_takeAmount 45 = .ok (.aload_n 0, 1) := by decide +kernel
theorem d_Te_takeAmount_46 : decode b_Te_takeAmount 46 = .ok (.dup, 1) := by decide +kernel
theorem d_Te_takeAmount_47 : decode b_Te_takeAmount 47 = .ok (.getfield 69, 3) := by decide +kernel
theorem d_Te_takeAmount_50 : decode b_Te_takeAmount 50 = .ok (.iconst 1, 1) := by decide +kernel
theorem d_Te_takeAmount_51 : decode b_Te_takeAmount 51 = .ok (.iadd, 1) := by decide +kernel
theorem d_Te_takeAmount_52 : decode b_Te_takeAmount 52 = .ok (.putfield 69, 3) := by decide +kernel
theorem d_Te_takeAmount_55 : decode b_Te_takeAmount 55 = .ok (.iinc 3 1, 3) := by decide +kernel
theorem d_Te_takeAmount_58 : decode b_Te_takeAmount 58 = .ok (.goto (-49), 3) := by decide +kernel
theorem d_Te_takeAmount_61 : decode b_Te_takeAmount 61 = .ok (.aload_n 0, 1) := by decide +kernel
theorem d_Te_takeAmount_62 : decode b_Te_takeAmount 62 = .ok (.getfield 69, 3) := by decide +kernel
