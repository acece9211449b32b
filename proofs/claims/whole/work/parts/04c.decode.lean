theorem d_Mo_number_58 : decode b_Mo_number 58 = .ok (.iadd, 1) := by decide +kernel
theorem d_Mo_number_59 : decode b_Mo_number 59 = .ok (.invokevirtual 76, 3) := by decide +kernel
theorem d_Mo_number_62 : decode b_Mo_number 62 = .ok (.iload_n 2, 1) := by decide +kernel
theorem d_Mo_number_63 : decode b_Mo_number 63 = .ok (.bipush 99, 2) := by decide +kernel
theorem d_Mo_number_65 : decode b_Mo_number 65 = .ok (.if_icmp .le 17, 3) := by decide +kernel
theorem d_Mo_number_68 : decode b_Mo_number 68 = .ok (.aload_n 0, 1) := by decide +kernel
theorem d_Mo_number_69 : decode b_Mo_number 69 = .ok (.bipush 48, 2) := by decide +kernel
theorem d_Mo_number_71 : decode b_Mo_number 71 = .ok (.iload_n 2, 1) := by decide +kernel
theorem d_Mo_number_72 : decode b_Mo_number 72 = .ok (.bipush 100, 2) := by decide +kernel
theorem d_Mo_number_74 : decode b_Mo_number 74 = .ok (.idiv, 1) := by decide +kernel
theorem d_Mo_number_75 : decode b_Mo_number 75 = .ok (.bipush 10, 2) := by decide +kernel
theorem d_Mo_number_77 : decode b_Mo_number 77 = .ok (.irem, 1) := by decide +kernel
theorem d_Mo_number_78 : decode b_Mo_number 78 = .ok (.iadd, 1) := by decide +kernel
theorem d_Mo_number_79 : decode b_Mo_number 79 = .ok (.invokevirtual 76, 3) := by decide +kernel
theorem d_Mo_number_82 : decode b_Mo_number 82 = .ok (.iload_n 2, 1) := by decide +kernel
theorem d_Mo_number_83 : decode b_Mo_number 83 = .ok (.bipush 9, 2) := by decide +kernel
theorem d_Mo_number_85 : decode b_Mo_number 85 = .ok (.if_icmp .le 17, 3) := by decide +kernel
theorem d_Mo_number_88 : decode b_Mo_number 88 = .ok (.aload_n 0, 1) := by decide +kernel
theorem d_Mo_number_89 : decode b_Mo_number 89 = .ok (.bipush 48, 2) := by decide +kernel
theorem d_Mo_number_91 : decode b_Mo_number 91 = .ok (.iload_n 2, 1) := by decide +kernel
theorem d_Mo_number_92 : decode b_Mo_number 92 = .ok (.bipush 10, 2) := by decide +kernel
theorem d_Mo_number_94 : decode b_Mo_number 94 = .ok (.idiv, 1) := by decide +kernel
theorem d_Mo_number_95 : decode b_Mo_number 95 = .ok (.bipush 10, 2) := by decide +kernel
theorem d_Mo_number_97 : decode b_Mo_number 97 = .ok (.irem, 1) := by decide +kernel
theorem d_Mo_number_98 : decode b_Mo_number 98 = .ok (.iadd, 1) := by decide +kernel
theorem d_Mo_number_99 : decode b_Mo_number 99 = .ok (.invokevirtual 76, 3) := by decide +kernel
theorem d_Mo_number_102 : decode b_Mo_number 102 = .ok (.aload_n 0, 1) := by decide +kernel
theorem d_Mo_number_103 : decode b_Mo_number 103 = .ok (.bipush 48, 2) := by decide +kernel
theorem d_Mo_number_105 : decode b_Mo_number 105 = .ok (.iload_n 2, 1) := by decide +kernel
theorem d_Mo_number_106 : decode b_Mo_number 106 = .ok (.bipush 10, 2) := by decide +kernel
theorem d_Mo_number_108 : decode b_Mo_number 108 = .ok (.irem, 1) := by decide +kernel
theorem d_Mo_number_109 : decode b_Mo_number 109 = .ok (.iadd, 1) := by decide +kernel
theorem d_Mo_number_110 : decode b_Mo_number 110 = .ok (.invokevirtual 76, 3) := by decide +kernel
theorem d_Mo_number_113 : decode b_Mo_number 113 = .ok (.return_, 1) := by decide +kernel
theorem d_Mo_register_0 : decode b_Mo_register 0 = .ok (.aload_n 0, 1) := by decide +kernel
theorem d_Mo_register_1 : decode b_Mo_register 1 = .ok (.bipush 114, 2) := by decide +kernel
theorem d_Mo_register_3 : decode b_Mo_register 3 = .ok (.invokevirtual 76, 3) := by decide +kernel
theorem d_Mo_register_6 : decode b_Mo_register 6 = .ok (.aload_n 0, 1) := by decide +kernel
theorem d_Mo_register_7 : decode b_Mo_register 7 = .ok (.bipush 48, 2) := by decide +kernel
theorem d_Mo_register_9 : decode b_Mo_register 9 = .ok (.iload_n 1, 1) := by decide +kernel
theorem d_Mo_register_10 : decode b_Mo_register 10 = .ok (.iadd, 1) := by decide +kernel
theorem d_Mo_register_11 : decode b_Mo_register 11 = .ok (.invokevirtual 76, 3) := by decide +kernel
theorem d_Mo_register_14 : decode b_Mo_register 14 = .ok (.return_, 1) := by decide +kernel
theorem d_Mo_front_0 : decode b_Mo_front 0 = .ok (.aload_n 0, 1) := by decide +kernel
theorem d_Mo_front_1 : decode b_Mo_front 1 = .ok (.iconst 0, 1) := by decide +kernel
theorem d_Mo_front_2 : decode b_Mo_front 2 = .ok (.putfield 73, 3) := by decide +kernel
theorem d_Mo_front_5 : decode b_Mo_front 5 = .ok (.iload_n 1, 1) := by decide +kernel
theorem d_Mo_front_6 : decode b_Mo_front 6 = .ok (.bipush 16, 2) := by decide +kernel
theorem d_Mo_front_8 : decode b_Mo_front 8 = .ok (.idiv, 1) := by decide +kernel
theorem d_Mo_front_9 : decode b_Mo_front 9 = .ok (.istore_n 2, 1) := by decide +kernel
theorem d_Mo_front_10 : decode b_Mo_front 10 = .ok (.iload_n 2, 1) := by decide +kernel
theorem d_Mo_front_11 : decode b_Mo_front 11 = .ok (.ifCond .ne 59, 3) := by decide +kernel
theorem d_Mo_front_14 : decode b_Mo_front 14 = .ok (.iload_n 1, 1) := by decide +kernel
theorem d_Mo_front_15 : decode b_Mo_front 15 = .ok (.ifCond .ne 13, 3) := by decide +kernel
theorem d_Mo_front_18 : decode b_Mo_front 18 = .ok (.aload_n 0, 1) := by decide +kernel
theorem d_Mo_front_19 : decode b_Mo_front 19 = .ok (.bipush 78, 2) := by decide +kernel
theorem d_Mo_front_21 : decode b_Mo_front 21 = .ok (.bipush 79, 2) := by decide +kernel
theorem d_Mo_front_23 : decode b_Mo_front 23 = .ok (.bipush 80, 2) := by decide +kernel
theorem d_Mo_front_25 : decode b_Mo_front 25 = .ok (.invokevirtual 80, 3) := by decide +kernel
theorem d_Mo_front_28 : decode b_Mo_front 28 = .ok (.iload_n 1, 1) := by decide +kernel
theorem d_Mo_front_29 : decode b_Mo_front 29 = .ok (.iconst 1, 1) := by decide +kernel
theorem d_Mo_front_30 : decode b_Mo_front 30 = .ok (.if_icmp .ne 13, 3) := by decide +kernel
theorem d_Mo_front_33 : decode b_Mo_front 33 = .ok (.aload_n 0, 1) := by decide +kernel
theorem d_Mo_front_34 : decode b_Mo_front 34 = .ok (.bipush 72, 2) := by decide +kernel
theorem d_Mo_front_36 : decode b_Mo_front 36 = .ok (.bipush 65, 2) := by decide +kernel
theorem d_Mo_front_38 : decode b_Mo_front 38 = .ok (.bipush 76, 2) := by decide +kernel
theorem d_Mo_front_40 : decode b_Mo_front 40 = .ok (.invokevirtual 80, 3) := by decide +kernel
theorem d_Mo_front_43 : decode b_Mo_front 43 = .ok (.iload_n 1, 1) := by decide +kernel
theorem d_Mo_front_44 : decode b_Mo_front 44 = .ok (.iconst 1, 1) := by decide +kernel
theorem d_Mo_front_45 : decode b_Mo_front 45 = .ok (.if_icmp .ne 9, 3) := by decide +kernel
theorem d_Mo_front_48 : decode b_Mo_front 48 = .ok (.aload_n 0, 1) := by decide +kernel
theorem d_Mo_front_49 : decode b_Mo_front 49 = .ok (.bipush 84, 2) := by decide +kernel
theorem d_Mo_front_51 : decode b_Mo_front 51 = .ok (.invokevirtual 76, 3) := by decide +kernel
theorem d_Mo_front_54 : decode b_Mo_front 54 = .ok (.iload_n 1, 1) := by decide +kernel
theorem d_Mo_front_55 : decode b_Mo_front 55 = .ok (.iconst 2, 1) := by decide +kernel
theorem d_Mo_front_56 : decode b_Mo_front 56 = .ok (.if_icmp .ne 13, 3) := by decide +kernel
theorem d_Mo_front_59 : decode b_Mo_front 59 = .ok (.aload_n 0, 1) := by decide +kernel
theorem d_Mo_front_60 : decode b_Mo_front 60 = .ok (.bipush 82, 2) := by decide +kernel
theorem d_Mo_front_62 : decode b_Mo_front 62 = .ok (.bipush 69, 2) := by decide +kernel
theorem d_Mo_front_64 : decode b_Mo_front 64 = .ok (.bipush 84, 2) := by decide +kernel
theorem d_Mo_front_66 : decode b_Mo_front 66 = .ok (.invokevirtual 80, 3) := by decide +kernel
theorem d_Mo_front_69 : decode b_Mo_front 69 = .ok (.return_, 1) := by decide +kernel
theorem d_Mo_front_70 : decode b_Mo_front 70 = .ok (.iload_n 2, 1) := by decide +kernel
theorem d_Mo_front_71 : decode b_Mo_front 71 = .ok (.iconst 1, 1) := by decide +kernel
theorem d_Mo_front_72 : decode b_Mo_front 72 = .ok (.if_icmp .ne 13, 3) := by decide +kernel
theorem d_Mo_front_75 : decode b_Mo_front 75 = .ok (.aload_n 0, 1) := by decide +kernel
theorem d_Mo_front_76 : decode b_Mo_front 76 = .ok (.bipush 73, 2) := by decide +kernel
theorem d_Mo_front_78 : decode b_Mo_front 78 = .ok (.bipush 78, 2) := by decide +kernel
theorem d_Mo_front_80 : decode b_Mo_front 80 = .ok (.bipush 67, 2) := by decide +kernel
theorem d_Mo_front_82 : decode b_Mo_front 82 = .ok (.invokevirtual 80, 3) := by decide +kernel
theorem d_Mo_front_85 : decode b_Mo_front 85 = .ok (.iload_n 2, 1) := by decide +kernel
theorem d_Mo_front_86 : decode b_Mo_front 86 = .ok (.iconst 2, 1) := by decide +kernel
theorem d_Mo_front_87 : decode b_Mo_front 87 = .ok (.if_icmp .ne 13, 3) := by decide +kernel
theorem d_Mo_front_90 : decode b_Mo_front 90 = .ok (.aload_n 0, 1) := by decide +kernel
theorem d_Mo_front_91 : decode b_Mo_front 91 = .ok (.bipush 76, 2) := by decide +kernel
theorem d_Mo_front_93 : decode b_Mo_front 93 = .ok (.bipush 68, 2) := by decide +kernel
theorem d_Mo_front_95 : decode b_Mo_front 95 = .ok (.bipush 73, 2) := by decide +kernel
theorem d_Mo_front_97 : decode b_Mo_front 97 = .ok (.invokevirtual 80, 3) := by decide +kernel
theorem d_Mo_front_100 : decode b_Mo_front 100 = .ok (.iload_n 2, 1) := by decide +kernel
theorem d_Mo_front_101 : decode b_Mo_front 101 = .ok (.iconst 3, 1) := by decide +kernel
theorem d_Mo_front_102 : decode b_Mo_front 102 = .ok (.if_icmp .ne 13, 3) := by decide +kernel
theorem d_Mo_front_105 : decode b_Mo_front 105 = .ok (.aload_n 0, 1) := by decide +kernel
theorem d_Mo_front_106 : decode b_Mo_front 106 = .ok (.bipush 77, 2) := by decide +kernel
theorem d_Mo_front_108 : decode b_Mo_front 108 = .ok (.bipush 79, 2) := by decide +kernel
theorem d_Mo_front_110 : decode b_Mo_front 110 = .ok (.bipush 86, 2) := by decide +kernel
theorem d_Mo_front_112 : decode b_Mo_front 112 = .ok (.invokevirtual 80, 3) := by decide +kernel
theorem d_Mo_front_115 : decode b_Mo_front 115 = .ok (.iload_n 2, 1) := by decide +kernel
theorem d_Mo_front_116 : decode b_Mo_front 116 = .ok (.iconst 4, 1) := by decide +kernel
theorem d_Mo_front_117 : decode b_Mo_front 117 = .ok (.if_icmp .ne 13, 3) := by decide +kernel
theorem d_Mo_front_120 : decode b_Mo_front 120 = .ok (.aload_n 0, 1) := by decide +kernel
theorem d_Mo_front_121 : decode b_Mo_front 121 = .ok (.bipush 65, 2) := by decide +kernel
theorem d_Mo_front_123 : decode b_Mo_front 123 = .ok (.bipush 68, 2) := by decide +kernel
theorem d_Mo_front_125 : decode b_Mo_front 125 = .ok (.bipush 68, 2) := by decide +kernel
theorem d_Mo_front_127 : decode b_Mo_front 127 = .ok (.invokevirtual 80, 3) := by decide +kernel
theorem d_Mo_front_130 : decode b_Mo_front 130 = .ok (.iload_n 1, 1) := by decide +kernel
theorem d_Mo_front_131 : decode b_Mo_front 131 = .ok (.bipush 80, 2) := by decide +kernel
theorem d_Mo_front_133 : decode b_Mo_front 133 = .ok (.if_icmp .ne 13, 3) := by decide +kernel
theorem d_Mo_front_136 : decode b_Mo_front 136 = .ok (.aload_n 0, 1) := by decide +kernel
theorem d_Mo_front_137 : decode b_Mo_front 137 = .ok (.bipush 74, 2) := by decide +kernel
theorem d_Mo_front_139 : decode b_Mo_front 139 = .ok (.bipush 77, 2) := by decide +kernel
theorem d_Mo_front_141 : decode b_Mo_front 141 = .ok (.bipush 80, 2) := by decide +kernel
theorem d_Mo_front_143 : decode b_Mo_front 143 = .ok (.invokevirtual 80, 3) := by decide +kernel
theorem d_Mo_front_146 : decode b_Mo_front 146 = .ok (.iload_n 1, 1) := by decide +kernel
theorem d_Mo_front_147 : decode b_Mo_front 147 = .ok (.bipush 81, 2) := by decide +kernel
theorem d_Mo_front_149 : decode b_Mo_front 149 = .ok (.if_icmp .ne 13, 3) := by decide +kernel
theorem d_Mo_front_152 : decode b_Mo_front 152 = .ok (.aload_n 0, 1) := by decide +kernel
theorem d_Mo_front_153 : decode b_Mo_front 153 = .ok (.bipush 67, 2) := by decide +kernel
theorem d_Mo_front_155 : decode b_Mo_front 155 = .ok (.bipush 65, 2) := by decide +kernel
theorem d_Mo_front_157 : decode b_Mo_front 157 = .ok (.bipush 76, 2) := by decide +kernel
theorem d_Mo_front_159 : decode b_Mo_front 159 = .ok (.invokevirtual 80, 3) := by decide +kernel
theorem d_Mo_front_162 : decode b_Mo_front 162 = .ok (.iload_n 1, 1) := by decide +kernel
theorem d_Mo_front_163 : decode b_Mo_front 163 = .ok (.bipush 81, 2) := by decide +kernel
theorem d_Mo_front_165 : decode b_Mo_front 165 = .ok (.if_icmp .ne 9, 3) := by decide +kernel
theorem d_Mo_front_168 : decode b_Mo_front 168 = .ok (.aload_n 0, 1) := by decide +kernel
theorem d_Mo_front_169 : decode b_Mo_front 169 = .ok (.bipush 76, 2) := by decide +kernel
theorem d_Mo_front_171 : decode b_Mo_front 171 = .ok (.invokevirtual 76, 3) := by decide +kernel
theorem d_Mo_front_174 : decode b_Mo_front 174 = .ok (.iload_n 1, 1) := by decide +kernel
theorem d_Mo_front_175 : decode b_Mo_front 175 = .ok (.bipush 82, 2) := by decide +kernel
theorem d_Mo_front_177 : decode b_Mo_front 177 = .ok (.if_icmp .lt 18, 3) := by decide +kernel
theorem d_Mo_front_180 : decode b_Mo_front 180 = .ok (.iload_n 1, 1) := by decide +kernel
theorem d_Mo_front_181 : decode b_Mo_front 181 = .ok (.bipush 85, 2) := by decide +kernel
theorem d_Mo_front_183 : decode b_Mo_front 183 = .ok (.if_icmp .gt 12, 3) := by decide +kernel
theorem d_Mo_front_186 : decode b_Mo_front 186 = .ok (.aload_n 0, 1) := by decide +kernel
theorem d_Mo_front_187 : decode b_Mo_front 187 = .ok (.bipush 74, 2) := by decide +kernel
theorem d_Mo_front_189 : decode b_Mo_front 189 = .ok (.bipush 90, 2) := by decide +kernel
theorem d_Mo_front_191 : decode b_Mo_front 191 = .ok (.iconst 0, 1) := by decide +kernel
theorem d_Mo_front_192 : decode b_Mo_front 192 = .ok (.invokevirtual 80, 3) := by decide +kernel
theorem d_Mo_front_195 : decode b_Mo_front 195 = .ok (.iload_n 2, 1) := by decide +kernel
theorem d_Mo_front_196 : decode b_Mo_front 196 = .ok (.bipush 6, 2) := by decide +kernel
theorem d_Mo_front_198 : decode b_Mo_front 198 = .ok (.if_icmp .ne 13, 3) := by decide +kernel
theorem d_Mo_front_201 : decode b_Mo_front 201 = .ok (.aload_n 0, 1) := by decide +kernel
theorem d_Mo_front_202 : decode b_Mo_front 202 = .ok (.bipush 66, 2) := by decide +kernel
theorem d_Mo_front_204 : decode b_Mo_front 204 = .ok (.bipush 78, 2) := by decide +kernel
theorem d_Mo_front_206 : decode b_Mo_front 206 = .ok (.bipush 90, 2) := by decide +kernel
theorem d_Mo_front_208 : decode b_Mo_front 208 = .ok (.invokevirtual 80, 3) := by decide +kernel
theorem d_Mo_front_211 : decode b_Mo_front 211 = .ok (.iload_n 1, 1) := by decide +kernel
theorem d_Mo_front_212 : decode b_Mo_front 212 = .ok (.bipush 112, 2) := by decide +kernel
theorem d_Mo_front_214 : decode b_Mo_front 214 = .ok (.if_icmp .lt 18, 3) := by decide +kernel
theorem d_Mo_front_217 : decode b_Mo_front 217 = .ok (.iload_n 1, 1) := by decide +kernel
theorem d_Mo_front_218 : decode b_Mo_front 218 = .ok (.bipush 115, 2) := by decide +kernel
theorem d_Mo_front_220 : decode b_Mo_front 220 = .ok (.if_icmp .gt 12, 3) := by decide +kernel
theorem d_Mo_front_223 : decode b_Mo_front 223 = .ok (.aload_n 0, 1) := by decide +kernel
theorem d_Mo_front_224 : decode b_Mo_front 224 = .ok (.bipush 76, 2) := by decide +kernel
theorem d_Mo_front_226 : decode b_Mo_front 226 = .ok (.bipush 68, 2) := by decide +kernel
theorem d_Mo_front_228 : decode b_Mo_front 228 = .ok (.iconst 0, 1) := by decide +kernel
theorem d_Mo_front_229 : decode b_Mo_front 229 = .ok (.invokevirtual 80, 3) := by decide +kernel
theorem d_Mo_front_232 : decode b_Mo_front 232 = .ok (.iload_n 1, 1) := by decide +kernel
theorem d_Mo_front_233 : decode b_Mo_front 233 = .ok (.bipush 116, 2) := by decide +kernel
theorem d_Mo_front_235 : decode b_Mo_front 235 = .ok (.if_icmp .lt 12, 3) := by decide +kernel
theorem d_Mo_front_238 : decode b_Mo_front 238 = .ok (.aload_n 0, 1) := by decide +kernel
theorem d_Mo_front_239 : decode b_Mo_front 239 = .ok (.bipush 83, 2) := by decide +kernel
theorem d_Mo_front_241 : decode b_Mo_front 241 = .ok (.bipush 84, 2) := by decide +kernel
theorem d_Mo_front_243 : decode b_Mo_front 243 = .ok (.iconst 0, 1) := by decide +kernel
theorem d_Mo_front_244 : decode b_Mo_front 244 = .ok (.invokevirtual 80, 3) := by decide +kernel
theorem d_Mo_front_247 : decode b_Mo_front 247 = .ok (.aload_n 0, 1) := by decide +kernel
theorem d_Mo_front_248 : decode b_Mo_front 248 = .ok (.bipush 32, 2) := by decide +kernel
theorem d_Mo_front_250 : decode b_Mo_front 250 = .ok (.invokevirtual 76, 3) := by decide +kernel
theorem d_Mo_front_253 : decode b_Mo_front 253 = .ok (.iload_n 2, 1) := by decide +kernel
theorem d_Mo_front_254 : decode b_Mo_front 254 = .ok (.iconst 3, 1) := by decide +kernel
theorem d_Mo_front_255 : decode b_Mo_front 255 = .ok (.if_icmp .eq 8, 3) := by decide +kernel
theorem d_Mo_front_258 : decode b_Mo_front 258 = .ok (.iload_n 2, 1) := by decide +kernel
theorem d_Mo_front_259 : decode b_Mo_front 259 = .ok (.iconst 4, 1) := by decide +kernel
theorem d_Mo_front_260 : decode b_Mo_front 260 = .ok (.if_icmp .ne 18, 3) := by decide +kernel
theorem d_Mo_front_263 : decode b_Mo_front 263 = .ok (.aload_n 0, 1) := by decide +kernel
theorem d_Mo_front_264 : decode b_Mo_front 264 = .ok (.iload_n 1, 1) := by decide +kernel
theorem d_Mo_front_265 : decode b_Mo_front 265 = .ok (.iconst 4, 1) := by decide +kernel
theorem d_Mo_front_266 : decode b_Mo_front 266 = .ok (.idiv, 1) := by decide +kernel
theorem d_Mo_front_267 : decode b_Mo_front 267 = .ok (.iconst 4, 1) := by decide +kernel
theorem d_Mo_front_268 : decode b_Mo_front 268 = .ok (.irem, 1) := by decide +kernel
theorem d_Mo_front_269 : decode b_Mo_front 269 = .ok (.invokevirtual 84, 3) := by decide +kernel
theorem d_Mo_front_272 : decode b_Mo_front 272 = .ok (.aload_n 0, 1) := by decide +kernel
theorem d_Mo_front_273 : decode b_Mo_front 273 = .ok (.bipush 44, 2) := by decide +kernel
theorem d_Mo_front_275 : decode b_Mo_front 275 = .ok (.invokevirtual 76, 3) := by decide +kernel
theorem d_Mo_front_278 : decode b_Mo_front 278 = .ok (.iload_n 1, 1) := by decide +kernel
theorem d_Mo_front_279 : decode b_Mo_front 279 = .ok (.bipush 82, 2) := by decide +kernel
theorem d_Mo_front_281 : decode b_Mo_front 281 = .ok (.if_icmp .lt 20, 3) := by decide +kernel
theorem d_Mo_front_284 : decode b_Mo_front 284 = .ok (.iload_n 1, 1) := by decide +kernel
theorem d_Mo_front_285 : decode b_Mo_front 285 = .ok (.bipush 85, 2) := by decide +kernel
theorem d_Mo_front_287 : decode b_Mo_front 287 = .ok (.if_icmp .gt 14, 3) := by decide +kernel
theorem d_Mo_front_290 : decode b_Mo_front 290 = .ok (.aload_n 0, 1) := by decide +kernel
theorem d_Mo_front_291 : decode b_Mo_front 291 = .ok (.iload_n 1, 1) := by decide +kernel
theorem d_Mo_front_292 : decode b_Mo_front 292 = .ok (.bipush 82, 2) := by decide +kernel
theorem d_Mo_front_294 : decode b_Mo_front 294 = .ok (.isub, 1) := by decide +kernel
theorem d_Mo_front_295 : decode b_Mo_front 295 = .ok (.invokevirtual 84, 3) := by decide +kernel
theorem d_Mo_front_298 : decode b_Mo_front 298 = .ok (.goto 15, 3) := by decide +kernel
theorem d_Mo_front_301 : decode b_Mo_front 301 = .ok (.iload_n 2, 1) := by decide +kernel
theorem d_Mo_front_302 : decode b_Mo_front 302 = .ok (.iconst 5, 1) := by decide +kernel
theorem d_Mo_front_303 : decode b_Mo_front 303 = .ok (.if_icmp .eq 10, 3) := by decide +kernel
theorem d_Mo_front_306 : decode b_Mo_front 306 = .ok (.aload_n 0, 1) := by decide +kernel
theorem d_Mo_front_307 : decode b_Mo_front 307 = .ok (.iload_n 1, 1) := by decide +kernel
theorem d_Mo_front_308 : decode b_Mo_front 308 = .ok (.iconst 4, 1) := by decide +kernel
theorem d_Mo_front_309 : decode b_Mo_front 309 = .ok (.irem, 1) := by decide +kernel
theorem d_Mo_front_310 : decode b_Mo_front 310 = .ok (.invokevirtual 84, 3) := by decide +kernel
theorem d_Mo_front_313 : decode b_Mo_front 313 = .ok (.iload_n 1, 1) := by decide +kernel
theorem d_Mo_front_314 : decode b_Mo_front 314 = .ok (.invokestatic 49, 3) := by decide +kernel
theorem d_Mo_front_317 : decode b_Mo_front 317 = .ok (.iconst 1, 1) := by decide +kernel
theorem d_Mo_front_318 : decode b_Mo_front 318 = .ok (.if_icmp .le 21, 3) := by decide +kernel
theorem d_Mo_front_321 : decode b_Mo_front 321 = .ok (.iload_n 1, 1) := by decide +kernel
theorem d_Mo_front_322 : decode b_Mo_front 322 = .ok (.bipush 80, 2) := by decide +kernel
theorem d_Mo_front_324 : decode b_Mo_front 324 = .ok (.if_icmp .eq 15, 3) := by decide +kernel
theorem d_Mo_front_327 : decode b_Mo_front 327 = .ok (.iload_n 1, 1) := by decide +kernel
theorem d_Mo_front_328 : decode b_Mo_front 328 = .ok (.bipush 81, 2) := by decide +kernel
theorem d_Mo_front_330 : decode b_Mo_front 330 = .ok (.if_icmp .eq 9, 3) := by decide +kernel
theorem d_Mo_front_333 : decode b_Mo_front 333 = .ok (.aload_n 0, 1) := by decide +kernel
theorem d_Mo_front_334 : decode b_Mo_front 334 = .ok (.bipush 44, 2) := by decide +kernel
theorem d_Mo_front_336 : decode b_Mo_front 336 = .ok (.invokevirtual 76, 3) := by decide +kernel
theorem d_Mo_front_339 : decode b_Mo_front 339 = .ok (.return_, 1) := by decide +kernel
theorem d_Mo_print_0 : decode b_Mo_print 0 = .ok (.aload_n 0, 1) := by decide +kernel
theorem d_Mo_print_1 : decode b_Mo_print 1 = .ok (.iload_n 1, 1) := by decide +kernel
theorem d_Mo_print_2 : decode b_Mo_print 2 = .ok (.invokevirtual 87, 3) := by decide +kernel
theorem d_Mo_print_5 : decode b_Mo_print 5 = .ok (.iload_n 1, 1) := by decide +kernel
theorem d_Mo_print_6 : decode b_Mo_print 6 = .ok (.invokestatic 49, 3) := by decide +kernel
theorem d_Mo_print_9 : decode b_Mo_print 9 = .ok (.iconst 1, 1) := by decide +kernel
theorem d_Mo_print_10 : decode b_Mo_print 10 = .ok (.if_icmp .le 8, 3) := by decide +kernel
theorem d_Mo_print_13 : decode b_Mo_print 13 = .ok (.aload_n 0, 1) := by decide +kernel
theorem d_Mo_print_14 : decode b_Mo_print 14 = .ok (.iload_n 2, 1) := by decide +kernel
theorem d_Mo_print_15 : decode b_Mo_print 15 = .ok (.invokevirtual 90, 3) := by decide +kernel
theorem d_Mo_print_18 : decode b_Mo_print 18 = .ok (.return_, 1) := by decide +kernel
theorem d_Mo_data_0 : decode b_Mo_data 0 = .ok (.aload_n 0, 1) := by decide +kernel
theorem d_Mo_data_1 : decode b_Mo_data 1 = .ok (.iconst 0, 1) := by decide +kernel
theorem d_Mo_data_2 : decode b_Mo_data 2 = .ok (.putfield 73, 3) := by decide +kernel
theorem d_Mo_data_5 : decode b_Mo_data 5 = .ok (.aload_n 0, 1) := by decide +kernel
theorem d_Mo_data_6 : decode b_Mo_data 6 = .ok (.bipush 46, 2) := by decide +kernel
theorem d_Mo_data_8 : decode b_Mo_data 8 = .ok (.bipush 98, 2) := by decide +kernel
theorem d_Mo_data_10 : decode b_Mo_data 10 = .ok (.bipush 121, 2) := by decide +kernel
theorem d_Mo_data_12 : decode b_Mo_data 12 = .ok (.invokevirtual 80, 3) := by decide +kernel
theorem d_Mo_data_15 : decode b_Mo_data 15 = .ok (.aload_n 0, 1) := by decide +kernel
theorem d_Mo_data_16 : decode b_Mo_data 16 = .ok (.bipush 116, 2) := by decide +kernel
theorem d_Mo_data_18 : decode b_Mo_data 18 = .ok (.bipush 101, 2) := by decide +kernel
theorem d_Mo_data_20 : decode b_Mo_data 20 = .ok (.bipush 32, 2) := by decide +kernel
theorem d_Mo_data_22 : decode b_Mo_data 22 = .ok (.invokevirtual 80, 3) := by decide +kernel
theorem d_Mo_data_25 : decode b_Mo_data 25 = .ok (.aload_n 0, 1) := by decide +kernel
theorem d_Mo_data_26 : decode b_Mo_data 26 = .ok (.iload_n 1, 1) := by decide +kernel
theorem d_Mo_data_27 : decode b_Mo_data 27 = .ok (.invokevirtual 90, 3) := by decide +kernel
theorem d_Mo_data_30 : decode b_Mo_data 30 = .ok (.return_, 1) := by decide +kernel
theorem d_Mo_list_0 : decode b_Mo_list 0 = .ok (.aload_n 0, 1) := by decide +kernel
theorem d_Mo_list_1 : decode b_Mo_list 1 = .ok (.invokevirtual 69, 3) := by decide +kernel
theorem d_Mo_list_4 : decode b_Mo_list 4 = .ok (.istore_n 1, 1) := by decide +kernel
theorem d_Mo_list_5 : decode b_Mo_list 5 = .ok (.aload_n 0, 1) := by decide +kernel
theorem d_Mo_list_6 : decode b_Mo_list 6 = .ok (.iconst 0, 1) := by decide +kernel
theorem d_Mo_list_7 : decode b_Mo_list 7 = .ok (.putfield 43, 3) := by decide +kernel
theorem d_Mo_list_10 : decode b_Mo_list 10 = .ok (.iconst 0, 1) := by decide +kernel
theorem d_Mo_list_11 : decode b_Mo_list 11 = .ok (.istore_n 2, 1) := by decide +kernel
theorem d_Mo_list_12 : decode b_Mo_list 12 = .ok (.iconst 0, 1) := by decide +kernel
theorem d_Mo_list_13 : decode b_Mo_list 13 = .ok (.istore_n 3, 1) := by decide +kernel
theorem d_Mo_list_14 : decode b_Mo_list 14 = .ok (.iload_n 3, 1) := by decide +kernel
theorem d_Mo_list_15 : decode b_Mo_list 15 = .ok (.aload_n 0, 1) := by decide +kernel
theorem d_Mo_list_16 : decode b_Mo_list 16 = .ok (.getfield 32, 3) := by decide +kernel
theorem d_Mo_list_19 : decode b_Mo_list 19 = .ok (.if_icmp .ge 196, 3) := by decide +kernel
theorem d_Mo_list_22 : decode b_Mo_list 22 = .ok (.iload_n 2, 1) := by decide +kernel
theorem d_Mo_list_23 : decode b_Mo_list 23 = .ok (.ifCond .le 10, 3) := by decide +kernel
theorem d_Mo_list_26 : decode b_Mo_list 26 = .ok (.iload_n 2, 1) := by decide +kernel
theorem d_Mo_list_27 : decode b_Mo_list 27 = .ok (.iconst 1, 1) := by decide +kernel
theorem d_Mo_list_28 : decode b_Mo_list 28 = .ok (.isub, 1) := by decide +kernel
theorem d_Mo_list_29 : decode b_Mo_list 29 = .ok (.istore_n 2, 1) := by decide +kernel
theorem d_Mo_list_30 : decode b_Mo_list 30 = .ok (.goto 179, 3) := by decide +kernel
theorem d_Mo_list_33 : decode b_Mo_list 33 = .ok (.aload_n 0, 1) := by decide +kernel
theorem d_Mo_list_34 : decode b_Mo_list 34 = .ok (.getfield 25, 3) := by decide +kernel
theorem d_Mo_list_37 : decode b_Mo_list 37 = .ok (.iload_n 3, 1) := by decide +kernel
theorem d_Mo_list_38 : decode b_Mo_list 38 = .ok (.baload, 1) := by decide +kernel
theorem d_Mo_list_39 : decode b_Mo_list 39 = .ok (.ifCond .eq 11, 3) := by decide +kernel
theorem d_Mo_list_42 : decode b_Mo_list 42 = .ok (.aload_n 0, 1) := by decide +kernel
theorem d_Mo_list_43 : decode b_Mo_list 43 = .ok (.iload_n 3, 1) := by decide +kernel
theorem d_Mo_list_44 : decode b_Mo_list 44 = .ok (.invokevirtual 53, 3) := by decide +kernel
theorem d_Mo_list_47 : decode b_Mo_list 47 = .ok (.goto 4, 3) := by decide +kernel
theorem d_Mo_list_50 : decode b_Mo_list 50 = .ok (.iconst 0, 1) := by decide +kernel
theorem d_Mo_list_51 : decode b_Mo_list 51 = .ok (.istore 4, 2) := by decide +kernel
theorem d_Mo_list_53 : decode b_Mo_list 53 = .ok (.iload 4, 2) := by decide +kernel
theorem d_Mo_list_55 : decode b_Mo_list 55 = .ok (.ifCond .ne 16, 3) := by decide +kernel
theorem d_Mo_list_58 : decode b_Mo_list 58 = .ok (.aload_n 0, 1) := by decide +kernel
theorem d_Mo_list_59 : decode b_Mo_list 59 = .ok (.aload_n 0, 1) := by decide +kernel
theorem d_Mo_list_60 : decode b_Mo_list 60 = .ok (.getfield 7, 3) := by decide +kernel
theorem d_Mo_list_63 : decode b_Mo_list 63 = .ok (.iload_n 3, 1) := by decide +kernel
theorem d_Mo_list_64 : decode b_Mo_list 64 = .ok (.iaload, 1) := by decide +kernel
theorem d_Mo_list_65 : decode b_Mo_list 65 = .ok (.invokevirtual 93, 3) := by decide +kernel
theorem d_Mo_list_68 : decode b_Mo_list 68 = .ok (.goto 85, 3) := by decide +kernel
theorem d_Mo_list_71 : decode b_Mo_list 71 = .ok (.aload_n 0, 1) := by decide +kernel
theorem d_Mo_list_72 : decode b_Mo_list 72 = .ok (.getfield 7, 3) := by decide +kernel
theorem d_Mo_list_75 : decode b_Mo_list 75 = .ok (.iload_n 3, 1) := by decide +kernel
theorem d_Mo_list_76 : decode b_Mo_list 76 = .ok (.iaload, 1) := by decide +kernel
theorem d_Mo_list_77 : decode b_Mo_list 77 = .ok (.istore 5, 2) := by decide +kernel
theorem d_Mo_list_79 : decode b_Mo_list 79 = .ok (.iload 4, 2) := by decide +kernel
theorem d_Mo_list_81 : decode b_Mo_list 81 = .ok (.iconst 1, 1) := by decide +kernel
theorem d_Mo_list_82 : decode b_Mo_list 82 = .ok (.if_icmp .le 14, 3) := by decide +kernel
theorem d_Mo_list_85 : decode b_Mo_list 85 = .ok (.aload_n 0, 1) := by decide +kernel
theorem d_Mo_list_86 : decode b_Mo_list 86 = .ok (.getfield 7, 3) := by decide +kernel
theorem d_Mo_list_89 : decode b_Mo_list 89 = .ok (.iload_n 3, 1) := by decide +kernel
theorem d_Mo_list_90 : decode b_Mo_list 90 = .ok (.iconst 1, 1) := by decide +kernel
theorem d_Mo_list_91 : decode b_Mo_list 91 = .ok (.iadd, 1) := by decide +kernel
theorem d_Mo_list_92 : decode b_Mo_list 92 = .ok (.iaload, 1) := by decide +kernel
theorem d_Mo_list_93 : decode b_Mo_list 93 = .ok (.goto 4, 3) := by decide +kernel
theorem d_Mo_list_96 : decode b_Mo_list 96 = .ok (.iconst 0, 1) := by decide +kernel
theorem d_Mo_list_97 : decode b_Mo_list 97 = .ok (.istore 6, 2) := by decide +kernel
theorem d_Mo_list_99 : decode b_Mo_list 99 = .ok (.iload 4, 2) := by decide +kernel
theorem d_Mo_list_101 : decode b_Mo_list 101 = .ok (.iconst 3, 1) := by decide +kernel
theorem d_Mo_list_102 : decode b_Mo_list 102 = .ok (.if_icmp .ne 21, 3) := by decide +kernel
theorem d_Mo_list_105 : decode b_Mo_list 105 = .ok (.sipush 256, 3) := by decide +kernel
theorem d_Mo_list_108 : decode b_Mo_list 108 = .ok (.iload 6, 2) := by decide +kernel
theorem d_Mo_list_110 : decode b_Mo_list 110 = .ok (.imul, 1) := by decide +kernel
theorem d_Mo_list_111 : decode b_Mo_list 111 = .ok (.aload_n 0, 1) := by decide +kernel
theorem d_Mo_list_112 : decode b_Mo_list 112 = .ok (.getfield 7, 3) := by decide +kernel
theorem d_Mo_list_115 : decode b_Mo_list 115 = .ok (.iload_n 3, 1) := by decide +kernel
theorem d_Mo_list_116 : decode b_Mo_list 116 = .ok (.iconst 2, 1) := by decide +kernel
theorem d_Mo_list_117 : decode b_Mo_list 117 = .ok (.iadd, 1) := by decide +kernel
theorem d_Mo_list_118 : decode b_Mo_list 118 = .ok (.iaload, 1) := by decide +kernel
theorem d_Mo_list_119 : decode b_Mo_list 119 = .ok (.iadd, 1) := by decide +kernel
theorem d_Mo_list_120 : decode b_Mo_list 120 = .ok (.goto 18, 3) := by decide +kernel
theorem d_Mo_list_123 : decode b_Mo_list 123 = .ok (.iload 5, 2) := by decide +kernel
theorem d_Mo_list_125 : decode b_Mo_list 125 = .ok (.bipush 96, 2) := by decide +kernel
theorem d_Mo_list_127 : decode b_Mo_list 127 = .ok (.if_icmp .lt 9, 3) := by decide +kernel
theorem d_Mo_list_130 : decode b_Mo_list 130 = .ok (.iload 6, 2) := by decide +kernel
theorem d_Mo_list_132 : decode b_Mo_list 132 = .ok (.i2b, 1) := by decide +kernel
theorem d_Mo_list_133 : decode b_Mo_list 133 = .ok (.goto 5, 3) := by decide +kernel
theorem d_Mo_list_136 : decode b_Mo_list 136 = .ok (.iload 6, 2) := by decide +kernel
theorem d_Mo_list_138 : decode b_Mo_list 138 = .ok (.istore 7, 2) := by decide +kernel
theorem d_Mo_list_140 : decode b_Mo_list 140 = .ok (.aload_n 0, 1) := by decide +kernel
theorem d_Mo_list_141 : decode b_Mo_list 141 = .ok (.iload 5, 2) := by decide +kernel
theorem d_Mo_list_143 : decode b_Mo_list 143 = .ok (.iload 7, 2) := by decide +kernel
theorem d_Mo_list_145 : decode b_Mo_list 145 = .ok (.invokevirtual 96, 3) := by decide +kernel
theorem d_Mo_list_148 : decode b_Mo_list 148 = .ok (.iload 4, 2) := by decide +kernel
theorem d_Mo_list_150 : decode b_Mo_list 150 = .ok (.iconst 1, 1) := by decide +kernel
theorem d_Mo_list_151 : decode b_Mo_list 151 = .ok (.isub, 1) := by decide +kernel
theorem d_Mo_list_152 : decode b_Mo_list 152 = .ok (.istore_n 2, 1) := by decide +kernel
theorem d_Mo_list_153 : decode b_Mo_list 153 = .ok (.aload_n 0, 1) := by decide +kernel
theorem d_Mo_list_154 : decode b_Mo_list 154 = .ok (.bipush 10, 2) := by decide +kernel
theorem d_Mo_list_156 : decode b_Mo_list 156 = .ok (.invokevirtual 76, 3) := by decide +kernel
theorem d_Mo_list_159 : decode b_Mo_list 159 = .ok (.iconst 0, 1) := by decide +kernel
theorem d_Mo_list_160 : decode b_Mo_list 160 = .ok (.istore 5, 2) := by decide +kernel
theorem d_Mo_list_162 : decode b_Mo_list 162 = .ok (.iload 5, 2) := by decide +kernel
theorem d_Mo_list_164 : decode b_Mo_list 164 = .ok (.aload_n 0, 1) := by decide +kernel
theorem d_Mo_list_165 : decode b_Mo_list 165 = .ok (.getfield 73, 3) := by decide +kernel
theorem d_Mo_list_168 : decode b_Mo_list 168 = .ok (.if_icmp .ge 28, 3) := by decide +kernel
theorem d_Mo_list_171 : decode b_Mo_list 171 = .ok (.aload_n 0, 1) := by decide +kernel
theorem d_Mo_list_172 : decode b_Mo_list 172 = .ok (.getfield 16, 3) := by decide +kernel
theorem d_Mo_list_175 : decode b_Mo_list 175 = .ok (.aload_n 0, 1) := by decide +kernel
theorem d_Mo_list_176 : decode b_Mo_list 176 = .ok (.getfield 43, 3) := by decide +kernel
theorem d_Mo_list_179 : decode b_Mo_list 179 = .ok (.iload 5, 2) := by decide +kernel
theorem d_Mo_list_181 : decode b_Mo_list 181 = .ok (.iadd, 1) := by decide +kernel
theorem d_Mo_list_182 : decode b_Mo_list 182 = .ok (.aload_n 0, 1) := by decide +kernel
theorem d_Mo_list_183 : decode b_Mo_list 183 = .ok (.getfield 29, 3) := by decide +kernel
theorem d_Mo_list_186 : decode b_Mo_list 186 = .ok (.iload 5, 2) := by decide +kernel
theorem d_Mo_list_188 : decode b_Mo_list 188 = .ok (.iaload, 1) := by decide +kernel
theorem d_Mo_list_189 : decode b_Mo_list 189 = .ok (.iastore, 1) := by decide +kernel
theorem d_Mo_list_190 : decode b_Mo_list 190 = .ok (.iinc 5 1, 3) := by decide +kernel
theorem d_Mo_list_193 : decode b_Mo_list 193 = .ok (.goto (-31), 3) := by decide +kernel
theorem d_Mo_list_196 : decode b_Mo_list 196 = .ok (.aload_n 0, 1) := by decide +kernel
theorem d_Mo_list_197 : decode b_Mo_list 197 = .ok (.aload_n 0, 1) := by decide +kernel
theorem d_Mo_list_198 : decode b_Mo_list 198 = .ok (.getfield 43, 3) := by decide +kernel
theorem d_Mo_list_201 : decode b_Mo_list 201 = .ok (.aload_n 0, 1) := by decide +kernel
theorem d_Mo_list_202 : decode b_Mo_list 202 = .ok (.getfield 73, 3) := by decide +kernel
theorem d_Mo_list_205 : decode b_Mo_list 205 = .ok (.iadd, 1) := by decide +kernel
theorem d_Mo_list_206 : decode b_Mo_list 206 = .ok (.putfield 43, 3) := by decide +kernel
theorem d_Mo_list_209 : decode b_Mo_list 209 = .ok (.iinc 3 1, 3) := by decide +kernel
theorem d_Mo_list_212 : decode b_Mo_list 212 = .ok (.goto (-198), 3) := by decide +kernel
theorem d_Mo_list_215 : decode b_Mo_list 215 = .ok (.aload_n 0, 1) := by decide +kernel
theorem d_Mo_list_216 : decode b_Mo_list 216 = .ok (.getfield 43, 3) := by decide +kernel
theorem d_Mo_list_219 : decode b_Mo_list 219 = .ok (.ireturn, 1) := by decide +kernel
theorem d_Mo_textLength_0 : decode b_Mo_textLength 0 = .ok (.aload_n 0, 1) := by decide +kernel
theorem d_Mo_textLength_1 : decode b_Mo_textLength 1 = .ok (.getfield 43, 3) := by decide +kernel
theorem d_Mo_textLength_4 : decode b_Mo_textLength 4 = .ok (.ireturn, 1) := by decide +kernel
theorem d_Mo_charAt_0 : decode b_Mo_charAt 0 = .ok (.iload_n 1, 1) := by decide +kernel
theorem d_Mo_charAt_1 : decode b_Mo_charAt 1 = .ok (.ifCond .lt 20, 3) := by decide +kernel
theorem d_Mo_charAt_4 : decode b_Mo_charAt 4 = .ok (.iload_n 1, 1) := by decide +kernel
theorem d_Mo_charAt_5 : decode b_Mo_charAt 5 = .ok (.aload_n 0, 1) := by decide +kernel
theorem d_Mo_charAt_6 : decode b_Mo_charAt 6 = .ok (.getfield 43, 3) := by decide +kernel
theorem d_Mo_charAt_9 : decode b_Mo_charAt 9 = .ok (.if_icmp .ge 12, 3) := by decide +kernel
theorem d_Mo_charAt_12 : decode b_Mo_charAt 12 = .ok (.aload_n 0, 1) := by decide +kernel
theorem d_Mo_charAt_13 : decode b_Mo_charAt 13 = .ok (.getfield 16, 3) := by decide +kernel
theorem d_Mo_charAt_16 : decode b_Mo_charAt 16 = .ok (.iload_n 1, 1) := by decide +kernel
theorem d_Mo_charAt_17 : decode b_Mo_charAt 17 = .ok (.iaload, 1) := by decide +kernel
theorem d_Mo_charAt_18 : decode b_Mo_charAt 18 = .ok (.goto 4, 3) := by decide +kernel
theorem d_Mo_charAt_21 : decode b_Mo_charAt 21 = .ok (.iconst (-1), 1) := by decide +kernel
theorem d_Mo_charAt_22 : decode b_Mo_charAt 22 = .ok (.ireturn, 1) := by decide +kernel
theorem d_Mo_type_0 : decode b_Mo_type 0 = .ok (.iload_n 1, 1) := by decide +kernel
theorem d_Mo_type_1 : decode b_Mo_type 1 = .ok (.ifCond .lt 29, 3) := by decide +kernel
theorem d_Mo_type_4 : decode b_Mo_type 4 = .ok (.iload_n 1, 1) := by decide +kernel
theorem d_Mo_type_5 : decode b_Mo_type 5 = .ok (.aload_n 0, 1) := by decide +kernel
theorem d_Mo_type_6 : decode b_Mo_type 6 = .ok (.getfield 43, 3) := by decide +kernel
theorem d_Mo_type_9 : decode b_Mo_type 9 = .ok (.if_icmp .gt 21, 3) := by decide +kernel
theorem d_Mo_type_12 : decode b_Mo_type 12 = .ok (.iload_n 1, 1) := by decide +kernel
theorem d_Mo_type_13 : decode b_Mo_type 13 = .ok (.sipush 2400, 3) := by decide +kernel
theorem d_Mo_type_16 : decode b_Mo_type 16 = .ok (.if_icmp .ge 14, 3) := by decide +kernel
theorem d_Mo_type_19 : decode b_Mo_type 19 = .ok (.iload_n 2, 1) := by decide +kernel
theorem d_Mo_type_20 : decode b_Mo_type 20 = .ok (.ifCond .lt 10, 3) := by decide +kernel
theorem d_Mo_type_23 : decode b_Mo_type 23 = .ok (.iload_n 2, 1) := by decide +kernel
theorem d_Mo_type_24 : decode b_Mo_type 24 = .ok (.sipush 255, 3) := by decide +kernel
theorem d_Mo_type_27 : decode b_Mo_type 27 = .ok (.if_icmp .le 5, 3) := by decide +kernel
theorem d_Mo_type_30 : decode b_Mo_type 30 = .ok (.iconst 0, 1) := by decide +kernel
theorem d_Mo_type_31 : decode b_Mo_type 31 = .ok (.ireturn, 1) := by decide +kernel
theorem d_Mo_type_32 : decode b_Mo_type 32 = .ok (.aload_n 0, 1) := by decide +kernel
theorem d_Mo_type_33 : decode b_Mo_type 33 = .ok (.getfield 16, 3) := by decide +kernel
theorem d_Mo_type_36 : decode b_Mo_type 36 = .ok (.iload_n 1, 1) := by decide +kernel
theorem d_Mo_type_37 : decode b_Mo_type 37 = .ok (.iload_n 2, 1) := by decide +kernel
theorem d_Mo_type_38 : decode b_Mo_type 38 = .ok (.iastore, 1) := by decide +kernel
theorem d_Mo_type_39 : decode b_Mo_type 39 = .ok (.iload_n 1, 1) := by decide +kernel
theorem d_Mo_type_40 : decode b_Mo_type 40 = .ok (.aload_n 0, 1) := by decide +kernel
theorem d_Mo_type_41 : decode b_Mo_type 41 = .ok (.getfield 43, 3) := by decide +kernel
theorem d_Mo_type_44 : decode b_Mo_type 44 = .ok (.if_icmp .ne 13, 3) := by decide +kernel
theorem d_Mo_type_47 : decode b_Mo_type 47 = .ok (.aload_n 0, 1) := by decide +kernel
theorem d_Mo_type_48 : decode b_Mo_type 48 = .ok (.aload_n 0, 1) := by decide +kernel
theorem d_Mo_type_49 : decode b_Mo_type 49 = .ok (.getfield 43, 3) := by decide +kernel
theorem d_Mo_type_52 : decode b_Mo_type 52 = .ok (.iconst 1, 1) := by decide +kernel
theorem d_Mo_type_53 : decode b_Mo_type 53 = .ok (.iadd, 1) := by decide +kernel
theorem d_Mo_type_54 : decode b_Mo_type 54 = .ok (.putfield 43, 3) := by decide +kernel
theorem d_Mo_type_57 : decode b_Mo_type 57 = .ok (.iconst 1, 1) := by decide +kernel
theorem d_Mo_type_58 : decode b_Mo_type 58 = .ok (.ireturn, 1) := by decide +kernel
theorem d_Mo_begins_0 : decode b_Mo_begins 0 = .ok (.iconst 0, 1) := by decide +kernel
theorem d_Mo_begins_1 : decode b_Mo_begins 1 = .ok (.istore_n 2, 1) := by decide +kernel
theorem d_Mo_begins_2 : decode b_Mo_begins 2 = .ok (.iload_n 2, 1) := by decide +kernel
theorem d_Mo_begins_3 : decode b_Mo_begins 3 = .ok (.aload_n 0, 1) := by decide +kernel
theorem d_Mo_begins_4 : decode b_Mo_begins 4 = .ok (.getfield 73, 3) := by decide +kernel
theorem d_Mo_begins_7 : decode b_Mo_begins 7 = .ok (.if_icmp .ge 38, 3) := by decide +kernel
theorem d_Mo_begins_10 : decode b_Mo_begins 10 = .ok (.iload_n 1, 1) := by decide +kernel
theorem d_Mo_begins_11 : decode b_Mo_begins 11 = .ok (.iload_n 2, 1) := by decide +kernel
theorem d_Mo_begins_12 : decode b_Mo_begins 12 = .ok (.iadd, 1) := by decide +kernel
theorem d_Mo_begins_13 : decode b_Mo_begins 13 = .ok (.aload_n 0, 1) := by decide +kernel
theorem d_Mo_begins_14 : decode b_Mo_begins 14 = .ok (.getfield 43, 3) := by decide +kernel
theorem d_Mo_begins_17 : decode b_Mo_begins 17 = .ok (.if_icmp .ge 20, 3) := by decide +kernel
theorem d_Mo_begins_20 : decode b_Mo_begins 20 = .ok (.aload_n 0, 1) := by decide +kernel
theorem d_Mo_begins_21 : decode b_Mo_begins 21 = .ok (.getfield 16, 3) := by decide +kernel
theorem d_Mo_begins_24 : decode b_Mo_begins 24 = .ok (.iload_n 1, 1) := by decide +kernel
theorem d_Mo_begins_25 : decode b_Mo_begins 25 = .ok (.iload_n 2, 1) := by decide +kernel
theorem d_Mo_begins_26 : decode b_Mo_begins 26 = .ok (.iadd, 1) := by decide +kernel
theorem d_Mo_begins_27 : decode b_Mo_begins 27 = .ok (.iaload, 1) := by decide +kernel
theorem d_Mo_begins_28 : decode b_Mo_begins 28 = .ok (.aload_n 0, 1) := by decide +kernel
theorem d_Mo_begins_29 : decode b_Mo_begins 29 = .ok (.getfield 29, 3) := by decide +kernel
theorem d_Mo_begins_32 : decode b_Mo_begins 32 = .ok (.iload_n 2, 1) := by decide +kernel
theorem d_Mo_begins_33 : decode b_Mo_begins 33 = .ok (.iaload, 1) := by decide +kernel
theorem d_Mo_begins_34 : decode b_Mo_begins 34 = .ok (.if_icmp .eq 5, 3) := by decide +kernel
theorem d_Mo_begins_37 : decode b_Mo_begins 37 = .ok (.iconst 0, 1) := by decide +kernel
theorem d_Mo_begins_38 : decode b_Mo_begins 38 = .ok (.ireturn, 1) := by decide +kernel
theorem d_Mo_begins_39 : decode b_Mo_begins 39 = .ok (.iinc 2 1, 3) := by decide +kernel
theorem d_Mo_begins_42 : decode b_Mo_begins 42 = .ok (.goto (-40), 3) := by decide +kernel
theorem d_Mo_begins_45 : decode b_Mo_begins 45 = .ok (.iconst 1, 1) := by decide +kernel
theorem d_Mo_begins_46 : decode b_Mo_begins 46 = .ok (.ireturn, 1) := by decide +kernel
theorem d_Mo_here_0 : decode b_Mo_here 0 = .ok (.aload_n 0, 1) := by decide +kernel
theorem d_Mo_here_1 : decode b_Mo_here 1 = .ok (.bipush 10, 2) := by decide +kernel
theorem d_Mo_here_3 : decode b_Mo_here 3 = .ok (.invokevirtual 76, 3) := by decide +kernel
theorem d_Mo_here_6 : decode b_Mo_here 6 = .ok (.aload_n 0, 1) := by decide +kernel
theorem d_Mo_here_7 : decode b_Mo_here 7 = .ok (.iload_n 1, 1) := by decide +kernel
theorem d_Mo_here_8 : decode b_Mo_here 8 = .ok (.invokevirtual 100, 3) := by decide +kernel
theorem d_Mo_here_11 : decode b_Mo_here 11 = .ok (.istore_n 2, 1) := by decide +kernel
theorem d_Mo_here_12 : decode b_Mo_here 12 = .ok (.aload_n 0, 1) := by decide +kernel
theorem d_Mo_here_13 : decode b_Mo_here 13 = .ok (.aload_n 0, 1) := by decide +kernel
theorem d_Mo_here_14 : decode b_Mo_here 14 = .ok (.getfield 73, 3) := by decide +kernel
theorem d_Mo_here_17 : decode b_Mo_here 17 = .ok (.iconst 1, 1) := by decide +kernel
theorem d_Mo_here_18 : decode b_Mo_here 18 = .ok (.isub, 1) := by decide +kernel
theorem d_Mo_here_19 : decode b_Mo_here 19 = .ok (.putfield 73, 3) := by decide +kernel
theorem d_Mo_here_22 : decode b_Mo_here 22 = .ok (.iload_n 2, 1) := by decide +kernel
theorem d_Mo_here_23 : decode b_Mo_here 23 = .ok (.ireturn, 1) := by decide +kernel
theorem d_Mo_understand_0 : decode b_Mo_understand 0 = .ok (.iconst 0, 1) := by decide +kernel
theorem d_Mo_understand_1 : decode b_Mo_understand 1 = .ok (.istore_n 2, 1) := by decide +kernel
theorem d_Mo_understand_2 : decode b_Mo_understand 2 = .ok (.iload_n 2, 1) := by decide +kernel
theorem d_Mo_understand_3 : decode b_Mo_understand 3 = .ok (.sipush 256, 3) := by decide +kernel
theorem d_Mo_understand_6 : decode b_Mo_understand 6 = .ok (.if_icmp .ge 36, 3) := by decide +kernel
theorem d_Mo_understand_9 : decode b_Mo_understand 9 = .ok (.aload_n 0, 1) := by decide +kernel
theorem d_Mo_understand_10 : decode b_Mo_understand 10 = .ok (.iload_n 2, 1) := by decide +kernel
theorem d_Mo_understand_11 : decode b_Mo_understand 11 = .ok (.invokevirtual 93, 3) := by decide +kernel
theorem d_Mo_understand_14 : decode b_Mo_understand 14 = .ok (.aload_n 0, 1) := by decide +kernel
theorem d_Mo_understand_15 : decode b_Mo_understand 15 = .ok (.iload_n 1, 1) := by decide +kernel
