theorem d_Mo_understand_16 : decode b_Mo_understand 16 = .ok (.invokevirtual 103, 3) := by decide +kernel
theorem d_Mo_understand_19 : decode b_Mo_understand 19 = .ok (.ifCond .eq 17, 3) := by decide +kernel
theorem d_Mo_understand_22 : decode b_Mo_understand 22 = .ok (.sipush 300, 3) := by decide +kernel
theorem d_Mo_understand_25 : decode b_Mo_understand 25 = .ok (.sipush 1024, 3) := by decide +kernel
theorem d_Mo_understand_28 : decode b_Mo_understand 28 = .ok (.iload_n 2, 1) := by decide +kernel
theorem d_Mo_understand_29 : decode b_Mo_understand 29 = .ok (.sipush 200, 3) := by decide +kernel
theorem d_Mo_understand_32 : decode b_Mo_understand 32 = .ok (.iadd, 1) := by decide +kernel
theorem d_Mo_understand_33 : decode b_Mo_understand 33 = .ok (.imul, 1) := by decide +kernel
theorem d_Mo_understand_34 : decode b_Mo_understand 34 = .ok (.iadd, 1) := by decide +kernel
theorem d_Mo_understand_35 : decode b_Mo_understand 35 = .ok (.ireturn, 1) := by decide +kernel
theorem d_Mo_understand_36 : decode b_Mo_understand 36 = .ok (.iinc 2 1, 3) := by decide +kernel
theorem d_Mo_understand_39 : decode b_Mo_understand 39 = .ok (.goto (-37), 3) := by decide +kernel
theorem d_Mo_understand_42 : decode b_Mo_understand 42 = .ok (.iconst 0, 1) := by decide +kernel
theorem d_Mo_understand_43 : decode b_Mo_understand 43 = .ok (.istore_n 2, 1) := by decide +kernel
theorem d_Mo_understand_44 : decode b_Mo_understand 44 = .ok (.iload_n 2, 1) := by decide +kernel
theorem d_Mo_understand_45 : decode b_Mo_understand 45 = .ok (.bipush 120, 2) := by decide +kernel
theorem d_Mo_understand_47 : decode b_Mo_understand 47 = .ok (.if_icmp .ge 145, 3) := by decide +kernel
theorem d_Mo_understand_50 : decode b_Mo_understand 50 = .ok (.iload_n 2, 1) := by decide +kernel
theorem d_Mo_understand_51 : decode b_Mo_understand 51 = .ok (.invokestatic 49, 3) := by decide +kernel
theorem d_Mo_understand_54 : decode b_Mo_understand 54 = .ok (.istore_n 3, 1) := by decide +kernel
theorem d_Mo_understand_55 : decode b_Mo_understand 55 = .ok (.iload_n 3, 1) := by decide +kernel
theorem d_Mo_understand_56 : decode b_Mo_understand 56 = .ok (.ifCond .le 130, 3) := by decide +kernel
theorem d_Mo_understand_59 : decode b_Mo_understand 59 = .ok (.aload_n 0, 1) := by decide +kernel
theorem d_Mo_understand_60 : decode b_Mo_understand 60 = .ok (.iload_n 2, 1) := by decide +kernel
theorem d_Mo_understand_61 : decode b_Mo_understand 61 = .ok (.invokevirtual 87, 3) := by decide +kernel
theorem d_Mo_understand_64 : decode b_Mo_understand 64 = .ok (.iload_n 3, 1) := by decide +kernel
theorem d_Mo_understand_65 : decode b_Mo_understand 65 = .ok (.iconst 1, 1) := by decide +kernel
theorem d_Mo_understand_66 : decode b_Mo_understand 66 = .ok (.if_icmp .ne 16, 3) := by decide +kernel
theorem d_Mo_understand_69 : decode b_Mo_understand 69 = .ok (.aload_n 0, 1) := by decide +kernel
theorem d_Mo_understand_70 : decode b_Mo_understand 70 = .ok (.iload_n 1, 1) := by decide +kernel
theorem d_Mo_understand_71 : decode b_Mo_understand 71 = .ok (.invokevirtual 103, 3) := by decide +kernel
theorem d_Mo_understand_74 : decode b_Mo_understand 74 = .ok (.ifCond .eq 8, 3) := by decide +kernel
theorem d_Mo_understand_77 : decode b_Mo_understand 77 = .ok (.iload_n 2, 1) := by decide +kernel
theorem d_Mo_understand_78 : decode b_Mo_understand 78 = .ok (.ldc 106, 2) := by decide +kernel
theorem d_Mo_understand_80 : decode b_Mo_understand 80 = .ok (.iadd, 1) := by decide +kernel
theorem d_Mo_understand_81 : decode b_Mo_understand 81 = .ok (.ireturn, 1) := by decide +kernel
theorem d_Mo_understand_82 : decode b_Mo_understand 82 = .ok (.iload_n 3, 1) := by decide +kernel
theorem d_Mo_understand_83 : decode b_Mo_understand 83 = .ok (.iconst 1, 1) := by decide +kernel
theorem d_Mo_understand_84 : decode b_Mo_understand 84 = .ok (.if_icmp .le 102, 3) := by decide +kernel
theorem d_Mo_understand_87 : decode b_Mo_understand 87 = .ok (.aload_n 0, 1) := by decide +kernel
theorem d_Mo_understand_88 : decode b_Mo_understand 88 = .ok (.iload_n 1, 1) := by decide +kernel
theorem d_Mo_understand_89 : decode b_Mo_understand 89 = .ok (.invokevirtual 100, 3) := by decide +kernel
theorem d_Mo_understand_92 : decode b_Mo_understand 92 = .ok (.ifCond .eq 94, 3) := by decide +kernel
theorem d_Mo_understand_95 : decode b_Mo_understand 95 = .ok (.iload_n 2, 1) := by decide +kernel
theorem d_Mo_understand_96 : decode b_Mo_understand 96 = .ok (.bipush 96, 2) := by decide +kernel
theorem d_Mo_understand_98 : decode b_Mo_understand 98 = .ok (.if_icmp .lt 14, 3) := by decide +kernel
theorem d_Mo_understand_101 : decode b_Mo_understand 101 = .ok (.iload_n 2, 1) := by decide +kernel
theorem d_Mo_understand_102 : decode b_Mo_understand 102 = .ok (.bipush 99, 2) := by decide +kernel
theorem d_Mo_understand_104 : decode b_Mo_understand 104 = .ok (.if_icmp .gt 8, 3) := by decide +kernel
theorem d_Mo_understand_107 : decode b_Mo_understand 107 = .ok (.bipush (-128), 2) := by decide +kernel
theorem d_Mo_understand_109 : decode b_Mo_understand 109 = .ok (.goto 4, 3) := by decide +kernel
theorem d_Mo_understand_112 : decode b_Mo_understand 112 = .ok (.iconst 0, 1) := by decide +kernel
theorem d_Mo_understand_113 : decode b_Mo_understand 113 = .ok (.istore 4, 2) := by decide +kernel
theorem d_Mo_understand_115 : decode b_Mo_understand 115 = .ok (.iload_n 3, 1) := by decide +kernel
theorem d_Mo_understand_116 : decode b_Mo_understand 116 = .ok (.iconst 3, 1) := by decide +kernel
theorem d_Mo_understand_117 : decode b_Mo_understand 117 = .ok (.if_icmp .ne 8, 3) := by decide +kernel
theorem d_Mo_understand_120 : decode b_Mo_understand 120 = .ok (.ldc 107, 2) := by decide +kernel
theorem d_Mo_understand_122 : decode b_Mo_understand 122 = .ok (.goto 17, 3) := by decide +kernel
theorem d_Mo_understand_125 : decode b_Mo_understand 125 = .ok (.iload_n 2, 1) := by decide +kernel
theorem d_Mo_understand_126 : decode b_Mo_understand 126 = .ok (.bipush 96, 2) := by decide +kernel
theorem d_Mo_understand_128 : decode b_Mo_understand 128 = .ok (.if_icmp .lt 8, 3) := by decide +kernel
theorem d_Mo_understand_131 : decode b_Mo_understand 131 = .ok (.bipush 127, 2) := by decide +kernel
theorem d_Mo_understand_133 : decode b_Mo_understand 133 = .ok (.goto 6, 3) := by decide +kernel
theorem d_Mo_understand_136 : decode b_Mo_understand 136 = .ok (.sipush 255, 3) := by decide +kernel
theorem d_Mo_understand_139 : decode b_Mo_understand 139 = .ok (.istore 5, 2) := by decide +kernel
theorem d_Mo_understand_141 : decode b_Mo_understand 141 = .ok (.iload 4, 2) := by decide +kernel
theorem d_Mo_understand_143 : decode b_Mo_understand 143 = .ok (.istore 6, 2) := by decide +kernel
theorem d_Mo_understand_145 : decode b_Mo_understand 145 = .ok (.iload 6, 2) := by decide +kernel
theorem d_Mo_understand_147 : decode b_Mo_understand 147 = .ok (.iload 5, 2) := by decide +kernel
theorem d_Mo_understand_149 : decode b_Mo_understand 149 = .ok (.if_icmp .gt 37, 3) := by decide +kernel
theorem d_Mo_understand_152 : decode b_Mo_understand 152 = .ok (.aload_n 0, 1) := by decide +kernel
theorem d_Mo_understand_153 : decode b_Mo_understand 153 = .ok (.iload_n 2, 1) := by decide +kernel
theorem d_Mo_understand_154 : decode b_Mo_understand 154 = .ok (.iload 6, 2) := by decide +kernel
theorem d_Mo_understand_156 : decode b_Mo_understand 156 = .ok (.invokevirtual 96, 3) := by decide +kernel
theorem d_Mo_understand_159 : decode b_Mo_understand 159 = .ok (.aload_n 0, 1) := by decide +kernel
theorem d_Mo_understand_160 : decode b_Mo_understand 160 = .ok (.iload_n 1, 1) := by decide +kernel
theorem d_Mo_understand_161 : decode b_Mo_understand 161 = .ok (.invokevirtual 103, 3) := by decide +kernel
theorem d_Mo_understand_164 : decode b_Mo_understand 164 = .ok (.ifCond .eq 16, 3) := by decide +kernel
theorem d_Mo_understand_167 : decode b_Mo_understand 167 = .ok (.iload_n 2, 1) := by decide +kernel
theorem d_Mo_understand_168 : decode b_Mo_understand 168 = .ok (.sipush 1024, 3) := by decide +kernel
theorem d_Mo_understand_171 : decode b_Mo_understand 171 = .ok (.iload 6, 2) := by decide +kernel
theorem d_Mo_understand_173 : decode b_Mo_understand 173 = .ok (.sipush 200, 3) := by decide +kernel
theorem d_Mo_understand_176 : decode b_Mo_understand 176 = .ok (.iadd, 1) := by decide +kernel
theorem d_Mo_understand_177 : decode b_Mo_understand 177 = .ok (.imul, 1) := by decide +kernel
theorem d_Mo_understand_178 : decode b_Mo_understand 178 = .ok (.iadd, 1) := by decide +kernel
theorem d_Mo_understand_179 : decode b_Mo_understand 179 = .ok (.ireturn, 1) := by decide +kernel
theorem d_Mo_understand_180 : decode b_Mo_understand 180 = .ok (.iinc 6 1, 3) := by decide +kernel
theorem d_Mo_understand_183 : decode b_Mo_understand 183 = .ok (.goto (-38), 3) := by decide +kernel
theorem d_Mo_understand_186 : decode b_Mo_understand 186 = .ok (.iinc 2 1, 3) := by decide +kernel
theorem d_Mo_understand_189 : decode b_Mo_understand 189 = .ok (.goto (-145), 3) := by decide +kernel
theorem d_Mo_understand_192 : decode b_Mo_understand 192 = .ok (.iconst (-1), 1) := by decide +kernel
theorem d_Mo_understand_193 : decode b_Mo_understand 193 = .ok (.ireturn, 1) := by decide +kernel
theorem d_Mo_assemble_0 : decode b_Mo_assemble 0 = .ok (.iconst 0, 1) := by decide +kernel
theorem d_Mo_assemble_1 : decode b_Mo_assemble 1 = .ok (.istore_n 1, 1) := by decide +kernel
theorem d_Mo_assemble_2 : decode b_Mo_assemble 2 = .ok (.iconst 0, 1) := by decide +kernel
theorem d_Mo_assemble_3 : decode b_Mo_assemble 3 = .ok (.istore_n 2, 1) := by decide +kernel
theorem d_Mo_assemble_4 : decode b_Mo_assemble 4 = .ok (.iconst 0, 1) := by decide +kernel
theorem d_Mo_assemble_5 : decode b_Mo_assemble 5 = .ok (.istore_n 3, 1) := by decide +kernel
theorem d_Mo_assemble_6 : decode b_Mo_assemble 6 = .ok (.iload_n 3, 1) := by decide +kernel
theorem d_Mo_assemble_7 : decode b_Mo_assemble 7 = .ok (.sipush 2400, 3) := by decide +kernel
theorem d_Mo_assemble_10 : decode b_Mo_assemble 10 = .ok (.if_icmp .ge 166, 3) := by decide +kernel
theorem d_Mo_assemble_13 : decode b_Mo_assemble 13 = .ok (.iload_n 2, 1) := by decide +kernel
theorem d_Mo_assemble_14 : decode b_Mo_assemble 14 = .ok (.aload_n 0, 1) := by decide +kernel
theorem d_Mo_assemble_15 : decode b_Mo_assemble 15 = .ok (.getfield 43, 3) := by decide +kernel
theorem d_Mo_assemble_18 : decode b_Mo_assemble 18 = .ok (.if_icmp .ge 158, 3) := by decide +kernel
theorem d_Mo_assemble_21 : decode b_Mo_assemble 21 = .ok (.aload_n 0, 1) := by decide +kernel
theorem d_Mo_assemble_22 : decode b_Mo_assemble 22 = .ok (.iload_n 2, 1) := by decide +kernel
theorem d_Mo_assemble_23 : decode b_Mo_assemble 23 = .ok (.invokevirtual 108, 3) := by decide +kernel
theorem d_Mo_assemble_26 : decode b_Mo_assemble 26 = .ok (.istore 4, 2) := by decide +kernel
theorem d_Mo_assemble_28 : decode b_Mo_assemble 28 = .ok (.iload 4, 2) := by decide +kernel
theorem d_Mo_assemble_30 : decode b_Mo_assemble 30 = .ok (.ifCond .ge 5, 3) := by decide +kernel
theorem d_Mo_assemble_33 : decode b_Mo_assemble 33 = .ok (.iconst (-1), 1) := by decide +kernel
theorem d_Mo_assemble_34 : decode b_Mo_assemble 34 = .ok (.ireturn, 1) := by decide +kernel
theorem d_Mo_assemble_35 : decode b_Mo_assemble 35 = .ok (.iload_n 2, 1) := by decide +kernel
theorem d_Mo_assemble_36 : decode b_Mo_assemble 36 = .ok (.aload_n 0, 1) := by decide +kernel
theorem d_Mo_assemble_37 : decode b_Mo_assemble 37 = .ok (.getfield 73, 3) := by decide +kernel
theorem d_Mo_assemble_40 : decode b_Mo_assemble 40 = .ok (.iadd, 1) := by decide +kernel
theorem d_Mo_assemble_41 : decode b_Mo_assemble 41 = .ok (.iconst 1, 1) := by decide +kernel
theorem d_Mo_assemble_42 : decode b_Mo_assemble 42 = .ok (.iadd, 1) := by decide +kernel
theorem d_Mo_assemble_43 : decode b_Mo_assemble 43 = .ok (.istore_n 2, 1) := by decide +kernel
theorem d_Mo_assemble_44 : decode b_Mo_assemble 44 = .ok (.iload 4, 2) := by decide +kernel
theorem d_Mo_assemble_46 : decode b_Mo_assemble 46 = .ok (.sipush 1024, 3) := by decide +kernel
theorem d_Mo_assemble_49 : decode b_Mo_assemble 49 = .ok (.irem, 1) := by decide +kernel
theorem d_Mo_assemble_50 : decode b_Mo_assemble 50 = .ok (.istore 5, 2) := by decide +kernel
theorem d_Mo_assemble_52 : decode b_Mo_assemble 52 = .ok (.iload 4, 2) := by decide +kernel
theorem d_Mo_assemble_54 : decode b_Mo_assemble 54 = .ok (.sipush 1024, 3) := by decide +kernel
theorem d_Mo_assemble_57 : decode b_Mo_assemble 57 = .ok (.idiv, 1) := by decide +kernel
theorem d_Mo_assemble_58 : decode b_Mo_assemble 58 = .ok (.sipush 200, 3) := by decide +kernel
theorem d_Mo_assemble_61 : decode b_Mo_assemble 61 = .ok (.isub, 1) := by decide +kernel
theorem d_Mo_assemble_62 : decode b_Mo_assemble 62 = .ok (.istore 6, 2) := by decide +kernel
theorem d_Mo_assemble_64 : decode b_Mo_assemble 64 = .ok (.iload 5, 2) := by decide +kernel
theorem d_Mo_assemble_66 : decode b_Mo_assemble 66 = .ok (.sipush 300, 3) := by decide +kernel
theorem d_Mo_assemble_69 : decode b_Mo_assemble 69 = .ok (.if_icmp .ne 7, 3) := by decide +kernel
theorem d_Mo_assemble_72 : decode b_Mo_assemble 72 = .ok (.iconst 1, 1) := by decide +kernel
theorem d_Mo_assemble_73 : decode b_Mo_assemble 73 = .ok (.goto 8, 3) := by decide +kernel
theorem d_Mo_assemble_76 : decode b_Mo_assemble 76 = .ok (.iload 5, 2) := by decide +kernel
theorem d_Mo_assemble_78 : decode b_Mo_assemble 78 = .ok (.invokestatic 49, 3) := by decide +kernel
theorem d_Mo_assemble_81 : decode b_Mo_assemble 81 = .ok (.istore 7, 2) := by decide +kernel
theorem d_Mo_assemble_83 : decode b_Mo_assemble 83 = .ok (.iconst 0, 1) := by decide +kernel
theorem d_Mo_assemble_84 : decode b_Mo_assemble 84 = .ok (.istore 8, 2) := by decide +kernel
theorem d_Mo_assemble_86 : decode b_Mo_assemble 86 = .ok (.iload 8, 2) := by decide +kernel
theorem d_Mo_assemble_88 : decode b_Mo_assemble 88 = .ok (.iload 7, 2) := by decide +kernel
theorem d_Mo_assemble_90 : decode b_Mo_assemble 90 = .ok (.if_icmp .ge 80, 3) := by decide +kernel
theorem d_Mo_assemble_93 : decode b_Mo_assemble 93 = .ok (.iload 8, 2) := by decide +kernel
theorem d_Mo_assemble_95 : decode b_Mo_assemble 95 = .ok (.ifCond .ne 21, 3) := by decide +kernel
theorem d_Mo_assemble_98 : decode b_Mo_assemble 98 = .ok (.iload 5, 2) := by decide +kernel
theorem d_Mo_assemble_100 : decode b_Mo_assemble 100 = .ok (.sipush 300, 3) := by decide +kernel
theorem d_Mo_assemble_103 : decode b_Mo_assemble 103 = .ok (.if_icmp .ne 8, 3) := by decide +kernel
theorem d_Mo_assemble_106 : decode b_Mo_assemble 106 = .ok (.iload 6, 2) := by decide +kernel
theorem d_Mo_assemble_108 : decode b_Mo_assemble 108 = .ok (.goto 35, 3) := by decide +kernel
theorem d_Mo_assemble_111 : decode b_Mo_assemble 111 = .ok (.iload 5, 2) := by decide +kernel
theorem d_Mo_assemble_113 : decode b_Mo_assemble 113 = .ok (.goto 30, 3) := by decide +kernel
theorem d_Mo_assemble_116 : decode b_Mo_assemble 116 = .ok (.iload 7, 2) := by decide +kernel
theorem d_Mo_assemble_118 : decode b_Mo_assemble 118 = .ok (.iconst 3, 1) := by decide +kernel
theorem d_Mo_assemble_119 : decode b_Mo_assemble 119 = .ok (.if_icmp .ne 18, 3) := by decide +kernel
theorem d_Mo_assemble_122 : decode b_Mo_assemble 122 = .ok (.iload 8, 2) := by decide +kernel
theorem d_Mo_assemble_124 : decode b_Mo_assemble 124 = .ok (.iconst 1, 1) := by decide +kernel
theorem d_Mo_assemble_125 : decode b_Mo_assemble 125 = .ok (.if_icmp .ne 12, 3) := by decide +kernel
theorem d_Mo_assemble_128 : decode b_Mo_assemble 128 = .ok (.iload 6, 2) := by decide +kernel
theorem d_Mo_assemble_130 : decode b_Mo_assemble 130 = .ok (.sipush 256, 3) := by decide +kernel
theorem d_Mo_assemble_133 : decode b_Mo_assemble 133 = .ok (.idiv, 1) := by decide +kernel
theorem d_Mo_assemble_134 : decode b_Mo_assemble 134 = .ok (.goto 9, 3) := by decide +kernel
theorem d_Mo_assemble_137 : decode b_Mo_assemble 137 = .ok (.iload 6, 2) := by decide +kernel
theorem d_Mo_assemble_139 : decode b_Mo_assemble 139 = .ok (.sipush 255, 3) := by decide +kernel
theorem d_Mo_assemble_142 : decode b_Mo_assemble 142 = .ok (.iand, 1) := by decide +kernel
theorem d_Mo_assemble_143 : decode b_Mo_assemble 143 = .ok (.istore 9, 2) := by decide +kernel
theorem d_Mo_assemble_145 : decode b_Mo_assemble 145 = .ok (.iload_n 1, 1) := by decide +kernel
theorem d_Mo_assemble_146 : decode b_Mo_assemble 146 = .ok (.sipush 160, 3) := by decide +kernel
theorem d_Mo_assemble_149 : decode b_Mo_assemble 149 = .ok (.if_icmp .ge 11, 3) := by decide +kernel
theorem d_Mo_assemble_152 : decode b_Mo_assemble 152 = .ok (.aload_n 0, 1) := by decide +kernel
theorem d_Mo_assemble_153 : decode b_Mo_assemble 153 = .ok (.getfield 22, 3) := by decide +kernel
theorem d_Mo_assemble_156 : decode b_Mo_assemble 156 = .ok (.iload_n 1, 1) := by decide +kernel
theorem d_Mo_assemble_157 : decode b_Mo_assemble 157 = .ok (.iload 9, 2) := by decide +kernel
theorem d_Mo_assemble_159 : decode b_Mo_assemble 159 = .ok (.iastore, 1) := by decide +kernel
theorem d_Mo_assemble_160 : decode b_Mo_assemble 160 = .ok (.iload_n 1, 1) := by decide +kernel
theorem d_Mo_assemble_161 : decode b_Mo_assemble 161 = .ok (.iconst 1, 1) := by decide +kernel
theorem d_Mo_assemble_162 : decode b_Mo_assemble 162 = .ok (.iadd, 1) := by decide +kernel
theorem d_Mo_assemble_163 : decode b_Mo_assemble 163 = .ok (.istore_n 1, 1) := by decide +kernel
theorem d_Mo_assemble_164 : decode b_Mo_assemble 164 = .ok (.iinc 8 1, 3) := by decide +kernel
theorem d_Mo_assemble_167 : decode b_Mo_assemble 167 = .ok (.goto (-81), 3) := by decide +kernel
theorem d_Mo_assemble_170 : decode b_Mo_assemble 170 = .ok (.iinc 3 1, 3) := by decide +kernel
theorem d_Mo_assemble_173 : decode b_Mo_assemble 173 = .ok (.goto (-167), 3) := by decide +kernel
theorem d_Mo_assemble_176 : decode b_Mo_assemble 176 = .ok (.iload_n 1, 1) := by decide +kernel
theorem d_Mo_assemble_177 : decode b_Mo_assemble 177 = .ok (.sipush 160, 3) := by decide +kernel
theorem d_Mo_assemble_180 : decode b_Mo_assemble 180 = .ok (.if_icmp .le 6, 3) := by decide +kernel
theorem d_Mo_assemble_183 : decode b_Mo_assemble 183 = .ok (.bipush (-2), 2) := by decide +kernel
theorem d_Mo_assemble_185 : decode b_Mo_assemble 185 = .ok (.ireturn, 1) := by decide +kernel
theorem d_Mo_assemble_186 : decode b_Mo_assemble 186 = .ok (.aload_n 0, 1) := by decide +kernel
theorem d_Mo_assemble_187 : decode b_Mo_assemble 187 = .ok (.iload_n 1, 1) := by decide +kernel
theorem d_Mo_assemble_188 : decode b_Mo_assemble 188 = .ok (.putfield 46, 3) := by decide +kernel
theorem d_Mo_assemble_191 : decode b_Mo_assemble 191 = .ok (.iconst 0, 1) := by decide +kernel
theorem d_Mo_assemble_192 : decode b_Mo_assemble 192 = .ok (.istore_n 3, 1) := by decide +kernel
theorem d_Mo_assemble_193 : decode b_Mo_assemble 193 = .ok (.iload_n 3, 1) := by decide +kernel
theorem d_Mo_assemble_194 : decode b_Mo_assemble 194 = .ok (.iload_n 1, 1) := by decide +kernel
theorem d_Mo_assemble_195 : decode b_Mo_assemble 195 = .ok (.if_icmp .ge 21, 3) := by decide +kernel
theorem d_Mo_assemble_198 : decode b_Mo_assemble 198 = .ok (.aload_n 0, 1) := by decide +kernel
theorem d_Mo_assemble_199 : decode b_Mo_assemble 199 = .ok (.getfield 19, 3) := by decide +kernel
theorem d_Mo_assemble_202 : decode b_Mo_assemble 202 = .ok (.iload_n 3, 1) := by decide +kernel
theorem d_Mo_assemble_203 : decode b_Mo_assemble 203 = .ok (.aload_n 0, 1) := by decide +kernel
theorem d_Mo_assemble_204 : decode b_Mo_assemble 204 = .ok (.getfield 22, 3) := by decide +kernel
theorem d_Mo_assemble_207 : decode b_Mo_assemble 207 = .ok (.iload_n 3, 1) := by decide +kernel
theorem d_Mo_assemble_208 : decode b_Mo_assemble 208 = .ok (.iaload, 1) := by decide +kernel
theorem d_Mo_assemble_209 : decode b_Mo_assemble 209 = .ok (.iastore, 1) := by decide +kernel
theorem d_Mo_assemble_210 : decode b_Mo_assemble 210 = .ok (.iinc 3 1, 3) := by decide +kernel
theorem d_Mo_assemble_213 : decode b_Mo_assemble 213 = .ok (.goto (-20), 3) := by decide +kernel
theorem d_Mo_assemble_216 : decode b_Mo_assemble 216 = .ok (.iload_n 1, 1) := by decide +kernel
theorem d_Mo_assemble_217 : decode b_Mo_assemble 217 = .ok (.ireturn, 1) := by decide +kernel
theorem d_Mo_made_0 : decode b_Mo_made 0 = .ok (.iload_n 1, 1) := by decide +kernel
theorem d_Mo_made_1 : decode b_Mo_made 1 = .ok (.ifCond .lt 20, 3) := by decide +kernel
theorem d_Mo_made_4 : decode b_Mo_made 4 = .ok (.iload_n 1, 1) := by decide +kernel
theorem d_Mo_made_5 : decode b_Mo_made 5 = .ok (.aload_n 0, 1) := by decide +kernel
theorem d_Mo_made_6 : decode b_Mo_made 6 = .ok (.getfield 46, 3) := by decide +kernel
theorem d_Mo_made_9 : decode b_Mo_made 9 = .ok (.if_icmp .ge 12, 3) := by decide +kernel
theorem d_Mo_made_12 : decode b_Mo_made 12 = .ok (.aload_n 0, 1) := by decide +kernel
theorem d_Mo_made_13 : decode b_Mo_made 13 = .ok (.getfield 19, 3) := by decide +kernel
theorem d_Mo_made_16 : decode b_Mo_made 16 = .ok (.iload_n 1, 1) := by decide +kernel
theorem d_Mo_made_17 : decode b_Mo_made 17 = .ok (.iaload, 1) := by decide +kernel
theorem d_Mo_made_18 : decode b_Mo_made 18 = .ok (.goto 4, 3) := by decide +kernel
theorem d_Mo_made_21 : decode b_Mo_made 21 = .ok (.iconst (-1), 1) := by decide +kernel
theorem d_Mo_made_22 : decode b_Mo_made 22 = .ok (.ireturn, 1) := by decide +kernel
theorem d_As_init_0 : decode b_As_init 0 = .ok (.aload_n 0, 1) := by decide +kernel
theorem d_As_init_1 : decode b_As_init 1 = .ok (.invokespecial 3, 3) := by decide +kernel
theorem d_As_init_4 : decode b_As_init 4 = .ok (.aload_n 0, 1) := by decide +kernel
theorem d_As_init_5 : decode b_As_init 5 = .ok (.sipush 160, 3) := by decide +kernel
theorem d_As_init_8 : decode b_As_init 8 = .ok (.newarray .int, 2) := by decide +kernel
theorem d_As_init_10 : decode b_As_init 10 = .ok (.putfield 9, 3) := by decide +kernel
theorem d_As_init_13 : decode b_As_init 13 = .ok (.return_, 1) := by decide +kernel
theorem d_As_count_0 : decode b_As_count 0 = .ok (.aload_n 0, 1) := by decide +kernel
theorem d_As_count_1 : decode b_As_count 1 = .ok (.getfield 15, 3) := by decide +kernel
theorem d_As_count_4 : decode b_As_count 4 = .ok (.ireturn, 1) := by decide +kernel
theorem d_As_copyTo_0 : decode b_As_copyTo 0 = .ok (.aload_n 0, 1) := by decide +kernel
theorem d_As_copyTo_1 : decode b_As_copyTo 1 = .ok (.getfield 9, 3) := by decide +kernel
theorem d_As_copyTo_4 : decode b_As_copyTo 4 = .ok (.iconst 0, 1) := by decide +kernel
theorem d_As_copyTo_5 : decode b_As_copyTo 5 = .ok (.aload_n 1, 1) := by decide +kernel
theorem d_As_copyTo_6 : decode b_As_copyTo 6 = .ok (.iconst 0, 1) := by decide +kernel
theorem d_As_copyTo_7 : decode b_As_copyTo 7 = .ok (.aload_n 1, 1) := by decide +kernel
theorem d_As_copyTo_8 : decode b_As_copyTo 8 = .ok (.arraylength, 1) := by decide +kernel
theorem d_As_copyTo_9 : decode b_As_copyTo 9 = .ok (.aload_n 0, 1) := by decide +kernel
theorem d_As_copyTo_10 : decode b_As_copyTo 10 = .ok (.getfield 15, 3) := by decide +kernel
theorem d_As_copyTo_13 : decode b_As_copyTo 13 = .ok (.sipush 160, 3) := by decide +kernel
theorem d_As_copyTo_16 : decode b_As_copyTo 16 = .ok (.invokestatic 19, 3) := by decide +kernel
theorem d_As_copyTo_19 : decode b_As_copyTo 19 = .ok (.invokestatic 19, 3) := by decide +kernel
theorem d_As_copyTo_22 : decode b_As_copyTo 22 = .ok (.invokestatic 25, 3) := by decide +kernel
theorem d_As_copyTo_25 : decode b_As_copyTo 25 = .ok (.return_, 1) := by decide +kernel
theorem d_As_read_0 : decode b_As_read 0 = .ok (.aload_n 0, 1) := by decide +kernel
theorem d_As_read_1 : decode b_As_read 1 = .ok (.iconst 0, 1) := by decide +kernel
theorem d_As_read_2 : decode b_As_read 2 = .ok (.putfield 15, 3) := by decide +kernel
theorem d_As_read_5 : decode b_As_read 5 = .ok (.aload_n 1, 1) := by decide +kernel
theorem d_As_read_6 : decode b_As_read 6 = .ok (.invokevirtual 31, 3) := by decide +kernel
theorem d_As_read_9 : decode b_As_read 9 = .ok (.iconst 0, 1) := by decide +kernel
theorem d_As_read_10 : decode b_As_read 10 = .ok (.istore_n 2, 1) := by decide +kernel
theorem d_As_read_11 : decode b_As_read 11 = .ok (.iload_n 2, 1) := by decide +kernel
theorem d_As_read_12 : decode b_As_read 12 = .ok (.sipush 2400, 3) := by decide +kernel
theorem d_As_read_15 : decode b_As_read 15 = .ok (.if_icmp .ge 21, 3) := by decide +kernel
theorem d_As_read_18 : decode b_As_read 18 = .ok (.aload_n 1, 1) := by decide +kernel
theorem d_As_read_19 : decode b_As_read 19 = .ok (.invokevirtual 36, 3) := by decide +kernel
theorem d_As_read_22 : decode b_As_read 22 = .ok (.ifCond .eq 14, 3) := by decide +kernel
theorem d_As_read_25 : decode b_As_read 25 = .ok (.aload_n 0, 1) := by decide +kernel
theorem d_As_read_26 : decode b_As_read 26 = .ok (.aload_n 1, 1) := by decide +kernel
theorem d_As_read_27 : decode b_As_read 27 = .ok (.invokevirtual 40, 3) := by decide +kernel
theorem d_As_read_30 : decode b_As_read 30 = .ok (.iinc 2 1, 3) := by decide +kernel
theorem d_As_read_33 : decode b_As_read 33 = .ok (.goto (-22), 3) := by decide +kernel
theorem d_As_read_36 : decode b_As_read 36 = .ok (.aload_n 1, 1) := by decide +kernel
theorem d_As_read_37 : decode b_As_read 37 = .ok (.invokevirtual 44, 3) := by decide +kernel
theorem d_As_read_40 : decode b_As_read 40 = .ok (.ireturn, 1) := by decide +kernel
theorem d_As_readLine_0 : decode b_As_readLine 0 = .ok (.aload_n 1, 1) := by decide +kernel
theorem d_As_readLine_1 : decode b_As_readLine 1 = .ok (.invokevirtual 47, 3) := by decide +kernel
theorem d_As_readLine_4 : decode b_As_readLine 4 = .ok (.istore_n 2, 1) := by decide +kernel
theorem d_As_readLine_5 : decode b_As_readLine 5 = .ok (.iload_n 2, 1) := by decide +kernel
theorem d_As_readLine_6 : decode b_As_readLine 6 = .ok (.iconst (-1), 1) := by decide +kernel
theorem d_As_readLine_7 : decode b_As_readLine 7 = .ok (.if_icmp .ne 4, 3) := by decide +kernel
theorem d_As_readLine_10 : decode b_As_readLine 10 = .ok (.return_, 1) := by decide +kernel
theorem d_As_readLine_11 : decode b_As_readLine 11 = .ok (.aload_n 1, 1) := by decide +kernel
theorem d_As_readLine_12 : decode b_As_readLine 12 = .ok (.iload_n 2, 1) := by decide +kernel
theorem d_As_readLine_13 : decode b_As_readLine 13 = .ok (.invokestatic 51, 3) := by decide +kernel
theorem d_As_readLine_16 : decode b_As_readLine 16 = .ok (.istore_n 3, 1) := by decide +kernel
theorem d_As_readLine_17 : decode b_As_readLine 17 = .ok (.aload_n 1, 1) := by decide +kernel
theorem d_As_readLine_18 : decode b_As_readLine 18 = .ok (.iload_n 2, 1) := by decide +kernel
theorem d_As_readLine_19 : decode b_As_readLine 19 = .ok (.invokestatic 55, 3) := by decide +kernel
theorem d_As_readLine_22 : decode b_As_readLine 22 = .ok (.istore 4, 2) := by decide +kernel
theorem d_As_readLine_24 : decode b_As_readLine 24 = .ok (.aload_n 1, 1) := by decide +kernel
theorem d_As_readLine_25 : decode b_As_readLine 25 = .ok (.bipush 10, 2) := by decide +kernel
theorem d_As_readLine_27 : decode b_As_readLine 27 = .ok (.invokevirtual 58, 3) := by decide +kernel
theorem d_As_readLine_30 : decode b_As_readLine 30 = .ok (.aload_n 0, 1) := by decide +kernel
theorem d_As_readLine_31 : decode b_As_readLine 31 = .ok (.iload_n 2, 1) := by decide +kernel
theorem d_As_readLine_32 : decode b_As_readLine 32 = .ok (.iload_n 3, 1) := by decide +kernel
theorem d_As_readLine_33 : decode b_As_readLine 33 = .ok (.iload 4, 2) := by decide +kernel
theorem d_As_readLine_35 : decode b_As_readLine 35 = .ok (.invokevirtual 62, 3) := by decide +kernel
theorem d_As_readLine_38 : decode b_As_readLine 38 = .ok (.return_, 1) := by decide +kernel
theorem d_As_readRegisters_0 : decode b_As_readRegisters 0 = .ok (.iconst 0, 1) := by decide +kernel
theorem d_As_readRegisters_1 : decode b_As_readRegisters 1 = .ok (.istore_n 2, 1) := by decide +kernel
theorem d_As_readRegisters_2 : decode b_As_readRegisters 2 = .ok (.iconst 0, 1) := by decide +kernel
theorem d_As_readRegisters_3 : decode b_As_readRegisters 3 = .ok (.istore_n 3, 1) := by decide +kernel
theorem d_As_readRegisters_4 : decode b_As_readRegisters 4 = .ok (.iload_n 3, 1) := by decide +kernel
theorem d_As_readRegisters_5 : decode b_As_readRegisters 5 = .ok (.iload_n 1, 1) := by decide +kernel
theorem d_As_readRegisters_6 : decode b_As_readRegisters 6 = .ok (.invokestatic 66, 3) := by decide +kernel
theorem d_As_readRegisters_9 : decode b_As_readRegisters 9 = .ok (.if_icmp .ge 23, 3) := by decide +kernel
theorem d_As_readRegisters_12 : decode b_As_readRegisters 12 = .ok (.aload_n 0, 1) := by decide +kernel
theorem d_As_readRegisters_13 : decode b_As_readRegisters 13 = .ok (.iload_n 3, 1) := by decide +kernel
theorem d_As_readRegisters_14 : decode b_As_readRegisters 14 = .ok (.invokevirtual 72, 3) := by decide +kernel
theorem d_As_readRegisters_17 : decode b_As_readRegisters 17 = .ok (.iconst 4, 1) := by decide +kernel
theorem d_As_readRegisters_18 : decode b_As_readRegisters 18 = .ok (.iload_n 2, 1) := by decide +kernel
theorem d_As_readRegisters_19 : decode b_As_readRegisters 19 = .ok (.imul, 1) := by decide +kernel
theorem d_As_readRegisters_20 : decode b_As_readRegisters 20 = .ok (.aload_n 0, 1) := by decide +kernel
theorem d_As_readRegisters_21 : decode b_As_readRegisters 21 = .ok (.invokevirtual 76, 3) := by decide +kernel
theorem d_As_readRegisters_24 : decode b_As_readRegisters 24 = .ok (.iadd, 1) := by decide +kernel
theorem d_As_readRegisters_25 : decode b_As_readRegisters 25 = .ok (.istore_n 2, 1) := by decide +kernel
theorem d_As_readRegisters_26 : decode b_As_readRegisters 26 = .ok (.iinc 3 1, 3) := by decide +kernel
theorem d_As_readRegisters_29 : decode b_As_readRegisters 29 = .ok (.goto (-25), 3) := by decide +kernel
theorem d_As_readRegisters_32 : decode b_As_readRegisters 32 = .ok (.iload_n 2, 1) := by decide +kernel
theorem d_As_readRegisters_33 : decode b_As_readRegisters 33 = .ok (.ireturn, 1) := by decide +kernel
theorem d_As_readNumber_0 : decode b_As_readNumber 0 = .ok (.iload_n 1, 1) := by decide +kernel
theorem d_As_readNumber_1 : decode b_As_readNumber 1 = .ok (.invokestatic 79, 3) := by decide +kernel
theorem d_As_readNumber_4 : decode b_As_readNumber 4 = .ok (.istore_n 2, 1) := by decide +kernel
theorem d_As_readNumber_5 : decode b_As_readNumber 5 = .ok (.iload_n 2, 1) := by decide +kernel
theorem d_As_readNumber_6 : decode b_As_readNumber 6 = .ok (.ifCond .ne 5, 3) := by decide +kernel
theorem d_As_readNumber_9 : decode b_As_readNumber 9 = .ok (.iconst 0, 1) := by decide +kernel
theorem d_As_readNumber_10 : decode b_As_readNumber 10 = .ok (.ireturn, 1) := by decide +kernel
theorem d_As_readNumber_11 : decode b_As_readNumber 11 = .ok (.aload_n 0, 1) := by decide +kernel
theorem d_As_readNumber_12 : decode b_As_readNumber 12 = .ok (.iload_n 1, 1) := by decide +kernel
theorem d_As_readNumber_13 : decode b_As_readNumber 13 = .ok (.invokestatic 66, 3) := by decide +kernel
theorem d_As_readNumber_16 : decode b_As_readNumber 16 = .ok (.invokevirtual 72, 3) := by decide +kernel
theorem d_As_readNumber_19 : decode b_As_readNumber 19 = .ok (.aload_n 0, 1) := by decide +kernel
theorem d_As_readNumber_20 : decode b_As_readNumber 20 = .ok (.iload_n 2, 1) := by decide +kernel
theorem d_As_readNumber_21 : decode b_As_readNumber 21 = .ok (.invokestatic 82, 3) := by decide +kernel
theorem d_As_readNumber_24 : decode b_As_readNumber 24 = .ok (.iload_n 2, 1) := by decide +kernel
theorem d_As_readNumber_25 : decode b_As_readNumber 25 = .ok (.invokestatic 85, 3) := by decide +kernel
theorem d_As_readNumber_28 : decode b_As_readNumber 28 = .ok (.invokevirtual 88, 3) := by decide +kernel
theorem d_As_readNumber_31 : decode b_As_readNumber 31 = .ok (.ireturn, 1) := by decide +kernel
theorem d_As_addBytes_0 : decode b_As_addBytes 0 = .ok (.iload_n 1, 1) := by decide +kernel
theorem d_As_addBytes_1 : decode b_As_addBytes 1 = .ok (.bipush 13, 2) := by decide +kernel
theorem d_As_addBytes_3 : decode b_As_addBytes 3 = .ok (.if_icmp .eq 13, 3) := by decide +kernel
theorem d_As_addBytes_6 : decode b_As_addBytes 6 = .ok (.aload_n 0, 1) := by decide +kernel
theorem d_As_addBytes_7 : decode b_As_addBytes 7 = .ok (.iload_n 1, 1) := by decide +kernel
theorem d_As_addBytes_8 : decode b_As_addBytes 8 = .ok (.invokestatic 91, 3) := by decide +kernel
theorem d_As_addBytes_11 : decode b_As_addBytes 11 = .ok (.iload_n 2, 1) := by decide +kernel
theorem d_As_addBytes_12 : decode b_As_addBytes 12 = .ok (.iadd, 1) := by decide +kernel
theorem d_As_addBytes_13 : decode b_As_addBytes 13 = .ok (.invokevirtual 94, 3) := by decide +kernel
theorem d_As_addBytes_16 : decode b_As_addBytes 16 = .ok (.iload_n 1, 1) := by decide +kernel
theorem d_As_addBytes_17 : decode b_As_addBytes 17 = .ok (.invokestatic 79, 3) := by decide +kernel
theorem d_As_addBytes_20 : decode b_As_addBytes 20 = .ok (.iconst 3, 1) := by decide +kernel
theorem d_As_addBytes_21 : decode b_As_addBytes 21 = .ok (.if_icmp .ne 11, 3) := by decide +kernel
theorem d_As_addBytes_24 : decode b_As_addBytes 24 = .ok (.aload_n 0, 1) := by decide +kernel
theorem d_As_addBytes_25 : decode b_As_addBytes 25 = .ok (.iload_n 3, 1) := by decide +kernel
theorem d_As_addBytes_26 : decode b_As_addBytes 26 = .ok (.bipush 8, 2) := by decide +kernel
theorem d_As_addBytes_28 : decode b_As_addBytes 28 = .ok (.ishr, 1) := by decide +kernel
theorem d_As_addBytes_29 : decode b_As_addBytes 29 = .ok (.invokevirtual 94, 3) := by decide +kernel
theorem d_As_addBytes_32 : decode b_As_addBytes 32 = .ok (.iload_n 1, 1) := by decide +kernel
theorem d_As_addBytes_33 : decode b_As_addBytes 33 = .ok (.invokestatic 79, 3) := by decide +kernel
theorem d_As_addBytes_36 : decode b_As_addBytes 36 = .ok (.ifCond .eq 12, 3) := by decide +kernel
theorem d_As_addBytes_39 : decode b_As_addBytes 39 = .ok (.aload_n 0, 1) := by decide +kernel
theorem d_As_addBytes_40 : decode b_As_addBytes 40 = .ok (.iload_n 3, 1) := by decide +kernel
theorem d_As_addBytes_41 : decode b_As_addBytes 41 = .ok (.sipush 255, 3) := by decide +kernel
theorem d_As_addBytes_44 : decode b_As_addBytes 44 = .ok (.iand, 1) := by decide +kernel
theorem d_As_addBytes_45 : decode b_As_addBytes 45 = .ok (.invokevirtual 94, 3) := by decide +kernel
theorem d_As_addBytes_48 : decode b_As_addBytes 48 = .ok (.return_, 1) := by decide +kernel
theorem d_As_addByte_0 : decode b_As_addByte 0 = .ok (.aload_n 0, 1) := by decide +kernel
theorem d_As_addByte_1 : decode b_As_addByte 1 = .ok (.getfield 15, 3) := by decide +kernel
theorem d_As_addByte_4 : decode b_As_addByte 4 = .ok (.sipush 160, 3) := by decide +kernel
theorem d_As_addByte_7 : decode b_As_addByte 7 = .ok (.if_icmp .ge 13, 3) := by decide +kernel
theorem d_As_addByte_10 : decode b_As_addByte 10 = .ok (.aload_n 0, 1) := by decide +kernel
theorem d_As_addByte_11 : decode b_As_addByte 11 = .ok (.getfield 9, 3) := by decide +kernel
theorem d_As_addByte_14 : decode b_As_addByte 14 = .ok (.aload_n 0, 1) := by decide +kernel
theorem d_As_addByte_15 : decode b_As_addByte 15 = .ok (.getfield 15, 3) := by decide +kernel
theorem d_As_addByte_18 : decode b_As_addByte 18 = .ok (.iload_n 1, 1) := by decide +kernel
theorem d_As_addByte_19 : decode b_As_addByte 19 = .ok (.iastore, 1) := by decide +kernel
theorem d_As_addByte_20 : decode b_As_addByte 20 = .ok (.aload_n 0, 1) := by decide +kernel
theorem d_As_addByte_21 : decode b_As_addByte 21 = .ok (.dup, 1) := by decide +kernel
theorem d_As_addByte_22 : decode b_As_addByte 22 = .ok (.getfield 15, 3) := by decide +kernel
theorem d_As_addByte_25 : decode b_As_addByte 25 = .ok (.iconst 1, 1) := by decide +kernel
theorem d_As_addByte_26 : decode b_As_addByte 26 = .ok (.iadd, 1) := by decide +kernel
theorem d_As_addByte_27 : decode b_As_addByte 27 = .ok (.putfield 15, 3) := by decide +kernel
theorem d_As_addByte_30 : decode b_As_addByte 30 = .ok (.return_, 1) := by decide +kernel
theorem d_Im_init_0 : decode b_Im_init 0 = .ok (.aload_n 0, 1) := by decide +kernel
theorem d_Im_init_1 : decode b_Im_init 1 = .ok (.invokespecial 3, 3) := by decide +kernel
theorem d_Im_init_4 : decode b_Im_init 4 = .ok (.aload_n 0, 1) := by decide +kernel
theorem d_Im_init_5 : decode b_Im_init 5 = .ok (.sipush 160, 3) := by decide +kernel
theorem d_Im_init_8 : decode b_Im_init 8 = .ok (.newarray .int, 2) := by decide +kernel
theorem d_Im_init_10 : decode b_Im_init 10 = .ok (.putfield 9, 3) := by decide +kernel
theorem d_Im_init_13 : decode b_Im_init 13 = .ok (.return_, 1) := by decide +kernel
theorem d_Im_count_0 : decode b_Im_count 0 = .ok (.aload_n 0, 1) := by decide +kernel
theorem d_Im_count_1 : decode b_Im_count 1 = .ok (.getfield 15, 3) := by decide +kernel
theorem d_Im_count_4 : decode b_Im_count 4 = .ok (.ireturn, 1) := by decide +kernel
theorem d_Im_holds_0 : decode b_Im_holds 0 = .ok (.iload_n 1, 1) := by decide +kernel
theorem d_Im_holds_1 : decode b_Im_holds 1 = .ok (.ifCond .lt 15, 3) := by decide +kernel
theorem d_Im_holds_4 : decode b_Im_holds 4 = .ok (.iload_n 1, 1) := by decide +kernel
theorem d_Im_holds_5 : decode b_Im_holds 5 = .ok (.aload_n 0, 1) := by decide +kernel
theorem d_Im_holds_6 : decode b_Im_holds 6 = .ok (.getfield 15, 3) := by decide +kernel
theorem d_Im_holds_9 : decode b_Im_holds 9 = .ok (.if_icmp .ge 7, 3) := by decide +kernel
theorem d_Im_holds_12 : decode b_Im_holds 12 = .ok (.iconst 1, 1) := by decide +kernel
theorem d_Im_holds_13 : decode b_Im_holds 13 = .ok (.goto 4, 3) := by decide +kernel
theorem d_Im_holds_16 : decode b_Im_holds 16 = .ok (.iconst 0, 1) := by decide +kernel
theorem d_Im_holds_17 : decode b_Im_holds 17 = .ok (.ireturn, 1) := by decide +kernel
theorem d_Im_at_0 : decode b_Im_at 0 = .ok (.aload_n 0, 1) := by decide +kernel
theorem d_Im_at_1 : decode b_Im_at 1 = .ok (.iload_n 1, 1) := by decide +kernel
theorem d_Im_at_2 : decode b_Im_at 2 = .ok (.invokevirtual 19, 3) := by decide +kernel
theorem d_Im_at_5 : decode b_Im_at 5 = .ok (.ifCond .eq 12, 3) := by decide +kernel
theorem d_Im_at_8 : decode b_Im_at 8 = .ok (.aload_n 0, 1) := by decide +kernel
theorem d_Im_at_9 : decode b_Im_at 9 = .ok (.getfield 9, 3) := by decide +kernel
theorem d_Im_at_12 : decode b_Im_at 12 = .ok (.iload_n 1, 1) := by decide +kernel
theorem d_Im_at_13 : decode b_Im_at 13 = .ok (.iaload, 1) := by decide +kernel
theorem d_Im_at_14 : decode b_Im_at 14 = .ok (.goto 4, 3) := by decide +kernel
theorem d_Im_at_17 : decode b_Im_at 17 = .ok (.iconst (-1), 1) := by decide +kernel
theorem d_Im_at_18 : decode b_Im_at 18 = .ok (.ireturn, 1) := by decide +kernel
theorem d_Im_add_0 : decode b_Im_add 0 = .ok (.aload_n 0, 1) := by decide +kernel
theorem d_Im_add_1 : decode b_Im_add 1 = .ok (.getfield 15, 3) := by decide +kernel
theorem d_Im_add_4 : decode b_Im_add 4 = .ok (.sipush 160, 3) := by decide +kernel
theorem d_Im_add_7 : decode b_Im_add 7 = .ok (.if_icmp .ge 23, 3) := by decide +kernel
theorem d_Im_add_10 : decode b_Im_add 10 = .ok (.aload_n 0, 1) := by decide +kernel
theorem d_Im_add_11 : decode b_Im_add 11 = .ok (.getfield 9, 3) := by decide +kernel
theorem d_Im_add_14 : decode b_Im_add 14 = .ok (.aload_n 0, 1) := by decide +kernel
theorem d_Im_add_15 : decode b_Im_add 15 = .ok (.getfield 15, 3) := by decide +kernel
theorem d_Im_add_18 : decode b_Im_add 18 = .ok (.iload_n 1, 1) := by decide +kernel
theorem d_Im_add_19 : decode b_Im_add 19 = .ok (.iastore, 1) := by decide +kernel
theorem d_Im_add_20 : decode b_Im_add 20 = .ok (.aload_n 0, 1) := by decide +kernel
theorem d_Im_add_21 : decode b_Im_add 21 = .ok (.dup, 1) := by decide +kernel
theorem d_Im_add_22 : decode b_Im_add 22 = .ok (.getfield 15, 3) := by decide +kernel
theorem d_Im_add_25 : decode b_Im_add 25 = .ok (.iconst 1, 1) := by decide +kernel
theorem d_Im_add_26 : decode b_Im_add 26 = .ok (.iadd, 1) := by decide +kernel
theorem d_Im_add_27 : decode b_Im_add 27 = .ok (.putfield 15, 3) := by decide +kernel
theorem d_Im_add_30 : decode b_Im_add 30 = .ok (.return_, 1) := by decide +kernel
theorem d_Im_drop_0 : decode b_Im_drop 0 = .ok (.aload_n 0, 1) := by decide +kernel
theorem d_Im_drop_1 : decode b_Im_drop 1 = .ok (.iconst 0, 1) := by decide +kernel
theorem d_Im_drop_2 : decode b_Im_drop 2 = .ok (.putfield 15, 3) := by decide +kernel
theorem d_Im_drop_5 : decode b_Im_drop 5 = .ok (.return_, 1) := by decide +kernel
theorem d_Im_codeKind_0 : decode b_Im_codeKind 0 = .ok (.aload_n 0, 1) := by decide +kernel
theorem d_Im_codeKind_1 : decode b_Im_codeKind 1 = .ok (.iload_n 1, 1) := by decide +kernel
theorem d_Im_codeKind_2 : decode b_Im_codeKind 2 = .ok (.invokevirtual 23, 3) := by decide +kernel
theorem d_Im_codeKind_5 : decode b_Im_codeKind 5 = .ok (.invokestatic 27, 3) := by decide +kernel
theorem d_Im_codeKind_8 : decode b_Im_codeKind 8 = .ok (.istore_n 2, 1) := by decide +kernel
theorem d_Im_codeKind_9 : decode b_Im_codeKind 9 = .ok (.iload_n 2, 1) := by decide +kernel
theorem d_Im_codeKind_10 : decode b_Im_codeKind 10 = .ok (.iconst (-1), 1) := by decide +kernel
theorem d_Im_codeKind_11 : decode b_Im_codeKind 11 = .ok (.if_icmp .eq 20, 3) := by decide +kernel
theorem d_Im_codeKind_14 : decode b_Im_codeKind 14 = .ok (.iload_n 2, 1) := by decide +kernel
theorem d_Im_codeKind_15 : decode b_Im_codeKind 15 = .ok (.invokestatic 32, 3) := by decide +kernel
theorem d_Im_codeKind_18 : decode b_Im_codeKind 18 = .ok (.aload_n 0, 1) := by decide +kernel
theorem d_Im_codeKind_19 : decode b_Im_codeKind 19 = .ok (.getfield 15, 3) := by decide +kernel
theorem d_Im_codeKind_22 : decode b_Im_codeKind 22 = .ok (.iload_n 1, 1) := by decide +kernel
theorem d_Im_codeKind_23 : decode b_Im_codeKind 23 = .ok (.isub, 1) := by decide +kernel
theorem d_Im_codeKind_24 : decode b_Im_codeKind 24 = .ok (.if_icmp .gt 7, 3) := by decide +kernel
theorem d_Im_codeKind_27 : decode b_Im_codeKind 27 = .ok (.iload_n 2, 1) := by decide +kernel
theorem d_Im_codeKind_28 : decode b_Im_codeKind 28 = .ok (.goto 4, 3) := by decide +kernel
theorem d_Im_codeKind_31 : decode b_Im_codeKind 31 = .ok (.iconst (-1), 1) := by decide +kernel
theorem d_Im_codeKind_32 : decode b_Im_codeKind 32 = .ok (.ireturn, 1) := by decide +kernel
theorem d_Im_codeLength_0 : decode b_Im_codeLength 0 = .ok (.aload_n 0, 1) := by decide +kernel
theorem d_Im_codeLength_1 : decode b_Im_codeLength 1 = .ok (.iload_n 1, 1) := by decide +kernel
theorem d_Im_codeLength_2 : decode b_Im_codeLength 2 = .ok (.invokevirtual 34, 3) := by decide +kernel
theorem d_Im_codeLength_5 : decode b_Im_codeLength 5 = .ok (.istore_n 2, 1) := by decide +kernel
theorem d_Im_codeLength_6 : decode b_Im_codeLength 6 = .ok (.iload_n 2, 1) := by decide +kernel
theorem d_Im_codeLength_7 : decode b_Im_codeLength 7 = .ok (.iconst (-1), 1) := by decide +kernel
theorem d_Im_codeLength_8 : decode b_Im_codeLength 8 = .ok (.if_icmp .ne 7, 3) := by decide +kernel
theorem d_Im_codeLength_11 : decode b_Im_codeLength 11 = .ok (.iconst 0, 1) := by decide +kernel
theorem d_Im_codeLength_12 : decode b_Im_codeLength 12 = .ok (.goto 7, 3) := by decide +kernel
theorem d_Im_codeLength_15 : decode b_Im_codeLength 15 = .ok (.iload_n 2, 1) := by decide +kernel
theorem d_Im_codeLength_16 : decode b_Im_codeLength 16 = .ok (.invokestatic 32, 3) := by decide +kernel
theorem d_Im_codeLength_19 : decode b_Im_codeLength 19 = .ok (.ireturn, 1) := by decide +kernel
theorem d_Im_number_0 : decode b_Im_number 0 = .ok (.iload_n 2, 1) := by decide +kernel
theorem d_Im_number_1 : decode b_Im_number 1 = .ok (.invokestatic 37, 3) := by decide +kernel
theorem d_Im_number_4 : decode b_Im_number 4 = .ok (.tableswitch 65 1 3 #[28, 36, 45], 28) := by decide +kernel
theorem d_Im_number_32 : decode b_Im_number 32 = .ok (.aload_n 0, 1) := by decide +kernel
theorem d_Im_number_33 : decode b_Im_number 33 = .ok (.iload_n 1, 1) := by decide +kernel
theorem d_Im_number_34 : decode b_Im_number 34 = .ok (.iconst 1, 1) := by decide +kernel
theorem d_Im_number_35 : decode b_Im_number 35 = .ok (.iadd, 1) := by decide +kernel
theorem d_Im_number_36 : decode b_Im_number 36 = .ok (.invokevirtual 23, 3) := by decide +kernel
theorem d_Im_number_39 : decode b_Im_number 39 = .ok (.ireturn, 1) := by decide +kernel
theorem d_Im_number_40 : decode b_Im_number 40 = .ok (.aload_n 0, 1) := by decide +kernel
theorem d_Im_number_41 : decode b_Im_number 41 = .ok (.iload_n 1, 1) := by decide +kernel
theorem d_Im_number_42 : decode b_Im_number 42 = .ok (.iconst 1, 1) := by decide +kernel
theorem d_Im_number_43 : decode b_Im_number 43 = .ok (.iadd, 1) := by decide +kernel
theorem d_Im_number_44 : decode b_Im_number 44 = .ok (.invokevirtual 23, 3) := by decide +kernel
theorem d_Im_number_47 : decode b_Im_number 47 = .ok (.i2b, 1) := by decide +kernel
theorem d_Im_number_48 : decode b_Im_number 48 = .ok (.ireturn, 1) := by decide +kernel
theorem d_Im_number_49 : decode b_Im_number 49 = .ok (.sipush 256, 3) := by decide +kernel
theorem d_Im_number_52 : decode b_Im_number 52 = .ok (.aload_n 0, 1) := by decide +kernel
theorem d_Im_number_53 : decode b_Im_number 53 = .ok (.iload_n 1, 1) := by decide +kernel
theorem d_Im_number_54 : decode b_Im_number 54 = .ok (.iconst 1, 1) := by decide +kernel
theorem d_Im_number_55 : decode b_Im_number 55 = .ok (.iadd, 1) := by decide +kernel
theorem d_Im_number_56 : decode b_Im_number 56 = .ok (.invokevirtual 23, 3) := by decide +kernel
theorem d_Im_number_59 : decode b_Im_number 59 = .ok (.imul, 1) := by decide +kernel
theorem d_Im_number_60 : decode b_Im_number 60 = .ok (.aload_n 0, 1) := by decide +kernel
