theorem dL_pond_0 : decode cL_pond 0 = .ok (.aload_n 0, 1) := by decide +kernel
theorem dL_pond_1 : decode cL_pond 1 = .ok (.iload_n 1, 1) := by decide +kernel
theorem dL_pond_2 : decode cL_pond 2 = .ok (.iload_n 2, 1) := by decide +kernel
theorem dL_pond_3 : decode cL_pond 3 = .ok (.iload_n 3, 1) := by decide +kernel
theorem dL_pond_4 : decode cL_pond 4 = .ok (.iload 4, 2) := by decide +kernel
theorem dL_pond_6 : decode cL_pond 6 = .ok (.invokevirtual 7, 3) := by decide +kernel
theorem dL_pond_9 : decode cL_pond 9 = .ok (.iconst 0, 1) := by decide +kernel
theorem dL_pond_10 : decode cL_pond 10 = .ok (.ireturn, 1) := by decide +kernel
theorem dL_pond_11 : decode cL_pond 11 = .ok (.astore 5, 2) := by decide +kernel
theorem dL_pond_13 : decode cL_pond 13 = .ok (.sipush (-8002), 3) := by decide +kernel
theorem dL_pond_16 : decode cL_pond 16 = .ok (.ireturn, 1) := by decide +kernel
theorem dL_act_0 : decode cL_act 0 = .ok (.iload_n 1, 1) := by decide +kernel
theorem dL_act_1 : decode cL_act 1 = .ok (.ifCond .ne 14, 3) := by decide +kernel
theorem dL_act_4 : decode cL_act 4 = .ok (.aload_n 0, 1) := by decide +kernel
theorem dL_act_5 : decode cL_act 5 = .ok (.iload_n 2, 1) := by decide +kernel
theorem dL_act_6 : decode cL_act 6 = .ok (.iload_n 3, 1) := by decide +kernel
theorem dL_act_7 : decode cL_act 7 = .ok (.iload 4, 2) := by decide +kernel
theorem dL_act_9 : decode cL_act 9 = .ok (.invokevirtual 15, 3) := by decide +kernel
theorem dL_act_12 : decode cL_act 12 = .ok (.goto 287, 3) := by decide +kernel
theorem dL_act_15 : decode cL_act 15 = .ok (.iload_n 1, 1) := by decide +kernel
theorem dL_act_16 : decode cL_act 16 = .ok (.iconst 1, 1) := by decide +kernel
theorem dL_act_17 : decode cL_act 17 = .ok (.if_icmp .ne 12, 3) := by decide +kernel
theorem dL_act_20 : decode cL_act 20 = .ok (.aload_n 0, 1) := by decide +kernel
theorem dL_act_21 : decode cL_act 21 = .ok (.iload_n 2, 1) := by decide +kernel
theorem dL_act_22 : decode cL_act 22 = .ok (.iload_n 3, 1) := by decide +kernel
theorem dL_act_23 : decode cL_act 23 = .ok (.invokevirtual 19, 3) := by decide +kernel
theorem dL_act_26 : decode cL_act 26 = .ok (.goto 273, 3) := by decide +kernel
theorem dL_act_29 : decode cL_act 29 = .ok (.iload_n 1, 1) := by decide +kernel
theorem dL_act_30 : decode cL_act 30 = .ok (.iconst 2, 1) := by decide +kernel
theorem dL_act_31 : decode cL_act 31 = .ok (.if_icmp .ne 14, 3) := by decide +kernel
theorem dL_act_34 : decode cL_act 34 = .ok (.aload_n 0, 1) := by decide +kernel
theorem dL_act_35 : decode cL_act 35 = .ok (.iload_n 2, 1) := by decide +kernel
theorem dL_act_36 : decode cL_act 36 = .ok (.iload_n 3, 1) := by decide +kernel
theorem dL_act_37 : decode cL_act 37 = .ok (.iload 4, 2) := by decide +kernel
theorem dL_act_39 : decode cL_act 39 = .ok (.invokevirtual 23, 3) := by decide +kernel
theorem dL_act_42 : decode cL_act 42 = .ok (.goto 257, 3) := by decide +kernel
theorem dL_act_45 : decode cL_act 45 = .ok (.iload_n 1, 1) := by decide +kernel
theorem dL_act_46 : decode cL_act 46 = .ok (.iconst 3, 1) := by decide +kernel
theorem dL_act_47 : decode cL_act 47 = .ok (.if_icmp .ne 16, 3) := by decide +kernel
theorem dL_act_50 : decode cL_act 50 = .ok (.aload_n 0, 1) := by decide +kernel
theorem dL_act_51 : decode cL_act 51 = .ok (.iload_n 2, 1) := by decide +kernel
theorem dL_act_52 : decode cL_act 52 = .ok (.iload_n 3, 1) := by decide +kernel
theorem dL_act_53 : decode cL_act 53 = .ok (.iload 4, 2) := by decide +kernel
theorem dL_act_55 : decode cL_act 55 = .ok (.iload 5, 2) := by decide +kernel
theorem dL_act_57 : decode cL_act 57 = .ok (.invokevirtual 26, 3) := by decide +kernel
theorem dL_act_60 : decode cL_act 60 = .ok (.goto 239, 3) := by decide +kernel
theorem dL_act_63 : decode cL_act 63 = .ok (.iload_n 1, 1) := by decide +kernel
theorem dL_act_64 : decode cL_act 64 = .ok (.iconst 4, 1) := by decide +kernel
theorem dL_act_65 : decode cL_act 65 = .ok (.if_icmp .ne 11, 3) := by decide +kernel
theorem dL_act_68 : decode cL_act 68 = .ok (.aload_n 0, 1) := by decide +kernel
theorem dL_act_69 : decode cL_act 69 = .ok (.iload_n 2, 1) := by decide +kernel
theorem dL_act_70 : decode cL_act 70 = .ok (.invokevirtual 30, 3) := by decide +kernel
theorem dL_act_73 : decode cL_act 73 = .ok (.goto 226, 3) := by decide +kernel
theorem dL_act_76 : decode cL_act 76 = .ok (.iload_n 1, 1) := by decide +kernel
theorem dL_act_77 : decode cL_act 77 = .ok (.iconst 5, 1) := by decide +kernel
theorem dL_act_78 : decode cL_act 78 = .ok (.if_icmp .ne 14, 3) := by decide +kernel
theorem dL_act_81 : decode cL_act 81 = .ok (.aload_n 0, 1) := by decide +kernel
theorem dL_act_82 : decode cL_act 82 = .ok (.iload_n 2, 1) := by decide +kernel
theorem dL_act_83 : decode cL_act 83 = .ok (.iload_n 3, 1) := by decide +kernel
theorem dL_act_84 : decode cL_act 84 = .ok (.iload 4, 2) := by decide +kernel
theorem dL_act_86 : decode cL_act 86 = .ok (.invokevirtual 34, 3) := by decide +kernel
theorem dL_act_89 : decode cL_act 89 = .ok (.goto 210, 3) := by decide +kernel
theorem dL_act_92 : decode cL_act 92 = .ok (.iload_n 1, 1) := by decide +kernel
theorem dL_act_93 : decode cL_act 93 = .ok (.bipush 6, 2) := by decide +kernel
theorem dL_act_95 : decode cL_act 95 = .ok (.if_icmp .ne 12, 3) := by decide +kernel
theorem dL_act_98 : decode cL_act 98 = .ok (.aload_n 0, 1) := by decide +kernel
theorem dL_act_99 : decode cL_act 99 = .ok (.iload_n 2, 1) := by decide +kernel
theorem dL_act_100 : decode cL_act 100 = .ok (.iload_n 3, 1) := by decide +kernel
theorem dL_act_101 : decode cL_act 101 = .ok (.invokevirtual 37, 3) := by decide +kernel
theorem dL_act_104 : decode cL_act 104 = .ok (.goto 195, 3) := by decide +kernel
theorem dL_act_107 : decode cL_act 107 = .ok (.iload_n 1, 1) := by decide +kernel
theorem dL_act_108 : decode cL_act 108 = .ok (.bipush 7, 2) := by decide +kernel
theorem dL_act_110 : decode cL_act 110 = .ok (.if_icmp .ne 11, 3) := by decide +kernel
theorem dL_act_113 : decode cL_act 113 = .ok (.aload_n 0, 1) := by decide +kernel
theorem dL_act_114 : decode cL_act 114 = .ok (.iload_n 2, 1) := by decide +kernel
theorem dL_act_115 : decode cL_act 115 = .ok (.invokevirtual 40, 3) := by decide +kernel
theorem dL_act_118 : decode cL_act 118 = .ok (.goto 181, 3) := by decide +kernel
theorem dL_act_121 : decode cL_act 121 = .ok (.iload_n 1, 1) := by decide +kernel
theorem dL_act_122 : decode cL_act 122 = .ok (.bipush 8, 2) := by decide +kernel
theorem dL_act_124 : decode cL_act 124 = .ok (.if_icmp .ne 12, 3) := by decide +kernel
theorem dL_act_127 : decode cL_act 127 = .ok (.aload_n 0, 1) := by decide +kernel
theorem dL_act_128 : decode cL_act 128 = .ok (.iload_n 2, 1) := by decide +kernel
theorem dL_act_129 : decode cL_act 129 = .ok (.iload_n 3, 1) := by decide +kernel
theorem dL_act_130 : decode cL_act 130 = .ok (.invokevirtual 43, 3) := by decide +kernel
theorem dL_act_133 : decode cL_act 133 = .ok (.goto 166, 3) := by decide +kernel
theorem dL_act_136 : decode cL_act 136 = .ok (.iload_n 1, 1) := by decide +kernel
theorem dL_act_137 : decode cL_act 137 = .ok (.bipush 9, 2) := by decide +kernel
theorem dL_act_139 : decode cL_act 139 = .ok (.if_icmp .ne 14, 3) := by decide +kernel
theorem dL_act_142 : decode cL_act 142 = .ok (.aload_n 0, 1) := by decide +kernel
theorem dL_act_143 : decode cL_act 143 = .ok (.iload_n 2, 1) := by decide +kernel
theorem dL_act_144 : decode cL_act 144 = .ok (.iload_n 3, 1) := by decide +kernel
theorem dL_act_145 : decode cL_act 145 = .ok (.iload 4, 2) := by decide +kernel
theorem dL_act_147 : decode cL_act 147 = .ok (.invokevirtual 46, 3) := by decide +kernel
theorem dL_act_150 : decode cL_act 150 = .ok (.goto 149, 3) := by decide +kernel
theorem dL_act_153 : decode cL_act 153 = .ok (.iload_n 1, 1) := by decide +kernel
theorem dL_act_154 : decode cL_act 154 = .ok (.bipush 10, 2) := by decide +kernel
theorem dL_act_156 : decode cL_act 156 = .ok (.if_icmp .ne 11, 3) := by decide +kernel
theorem dL_act_159 : decode cL_act 159 = .ok (.aload_n 0, 1) := by decide +kernel
theorem dL_act_160 : decode cL_act 160 = .ok (.iload_n 2, 1) := by decide +kernel
theorem dL_act_161 : decode cL_act 161 = .ok (.invokevirtual 49, 3) := by decide +kernel
theorem dL_act_164 : decode cL_act 164 = .ok (.goto 135, 3) := by decide +kernel
theorem dL_act_167 : decode cL_act 167 = .ok (.iload_n 1, 1) := by decide +kernel
theorem dL_act_168 : decode cL_act 168 = .ok (.bipush 11, 2) := by decide +kernel
theorem dL_act_170 : decode cL_act 170 = .ok (.if_icmp .ne 11, 3) := by decide +kernel
theorem dL_act_173 : decode cL_act 173 = .ok (.aload_n 0, 1) := by decide +kernel
theorem dL_act_174 : decode cL_act 174 = .ok (.iload_n 2, 1) := by decide +kernel
theorem dL_act_175 : decode cL_act 175 = .ok (.invokevirtual 52, 3) := by decide +kernel
theorem dL_act_178 : decode cL_act 178 = .ok (.goto 121, 3) := by decide +kernel
theorem dL_act_181 : decode cL_act 181 = .ok (.iload_n 1, 1) := by decide +kernel
theorem dL_act_182 : decode cL_act 182 = .ok (.bipush 12, 2) := by decide +kernel
theorem dL_act_184 : decode cL_act 184 = .ok (.if_icmp .ne 11, 3) := by decide +kernel
theorem dL_act_187 : decode cL_act 187 = .ok (.aload_n 0, 1) := by decide +kernel
theorem dL_act_188 : decode cL_act 188 = .ok (.iload_n 2, 1) := by decide +kernel
theorem dL_act_189 : decode cL_act 189 = .ok (.invokevirtual 55, 3) := by decide +kernel
theorem dL_act_192 : decode cL_act 192 = .ok (.goto 107, 3) := by decide +kernel
theorem dL_act_195 : decode cL_act 195 = .ok (.iload_n 1, 1) := by decide +kernel
theorem dL_act_196 : decode cL_act 196 = .ok (.bipush 13, 2) := by decide +kernel
theorem dL_act_198 : decode cL_act 198 = .ok (.if_icmp .ne 11, 3) := by decide +kernel
theorem dL_act_201 : decode cL_act 201 = .ok (.aload_n 0, 1) := by decide +kernel
theorem dL_act_202 : decode cL_act 202 = .ok (.iload_n 2, 1) := by decide +kernel
theorem dL_act_203 : decode cL_act 203 = .ok (.invokevirtual 58, 3) := by decide +kernel
theorem dL_act_206 : decode cL_act 206 = .ok (.goto 93, 3) := by decide +kernel
theorem dL_act_209 : decode cL_act 209 = .ok (.iload_n 1, 1) := by decide +kernel
theorem dL_act_210 : decode cL_act 210 = .ok (.bipush 14, 2) := by decide +kernel
theorem dL_act_212 : decode cL_act 212 = .ok (.if_icmp .ne 11, 3) := by decide +kernel
theorem dL_act_215 : decode cL_act 215 = .ok (.aload_n 0, 1) := by decide +kernel
theorem dL_act_216 : decode cL_act 216 = .ok (.iload_n 2, 1) := by decide +kernel
theorem dL_act_217 : decode cL_act 217 = .ok (.invokevirtual 61, 3) := by decide +kernel
theorem dL_act_220 : decode cL_act 220 = .ok (.goto 79, 3) := by decide +kernel
theorem dL_act_223 : decode cL_act 223 = .ok (.iload_n 1, 1) := by decide +kernel
theorem dL_act_224 : decode cL_act 224 = .ok (.bipush 15, 2) := by decide +kernel
theorem dL_act_226 : decode cL_act 226 = .ok (.if_icmp .ne 11, 3) := by decide +kernel
theorem dL_act_229 : decode cL_act 229 = .ok (.aload_n 0, 1) := by decide +kernel
theorem dL_act_230 : decode cL_act 230 = .ok (.iload_n 2, 1) := by decide +kernel
theorem dL_act_231 : decode cL_act 231 = .ok (.invokevirtual 64, 3) := by decide +kernel
theorem dL_act_234 : decode cL_act 234 = .ok (.goto 65, 3) := by decide +kernel
theorem dL_act_237 : decode cL_act 237 = .ok (.iload_n 1, 1) := by decide +kernel
theorem dL_act_238 : decode cL_act 238 = .ok (.bipush 16, 2) := by decide +kernel
theorem dL_act_240 : decode cL_act 240 = .ok (.if_icmp .ne 11, 3) := by decide +kernel
theorem dL_act_243 : decode cL_act 243 = .ok (.aload_n 0, 1) := by decide +kernel
theorem dL_act_244 : decode cL_act 244 = .ok (.iload_n 2, 1) := by decide +kernel
theorem dL_act_245 : decode cL_act 245 = .ok (.invokevirtual 67, 3) := by decide +kernel
theorem dL_act_248 : decode cL_act 248 = .ok (.goto 51, 3) := by decide +kernel
theorem dL_act_251 : decode cL_act 251 = .ok (.iload_n 1, 1) := by decide +kernel
theorem dL_act_252 : decode cL_act 252 = .ok (.bipush 17, 2) := by decide +kernel
theorem dL_act_254 : decode cL_act 254 = .ok (.if_icmp .ne 12, 3) := by decide +kernel
theorem dL_act_257 : decode cL_act 257 = .ok (.aload_n 0, 1) := by decide +kernel
theorem dL_act_258 : decode cL_act 258 = .ok (.iload_n 2, 1) := by decide +kernel
theorem dL_act_259 : decode cL_act 259 = .ok (.iload_n 3, 1) := by decide +kernel
theorem dL_act_260 : decode cL_act 260 = .ok (.invokevirtual 70, 3) := by decide +kernel
theorem dL_act_263 : decode cL_act 263 = .ok (.goto 36, 3) := by decide +kernel
theorem dL_act_266 : decode cL_act 266 = .ok (.iload_n 1, 1) := by decide +kernel
theorem dL_act_267 : decode cL_act 267 = .ok (.bipush 18, 2) := by decide +kernel
theorem dL_act_269 : decode cL_act 269 = .ok (.if_icmp .ne 11, 3) := by decide +kernel
theorem dL_act_272 : decode cL_act 272 = .ok (.aload_n 0, 1) := by decide +kernel
theorem dL_act_273 : decode cL_act 273 = .ok (.iload_n 2, 1) := by decide +kernel
theorem dL_act_274 : decode cL_act 274 = .ok (.invokevirtual 73, 3) := by decide +kernel
theorem dL_act_277 : decode cL_act 277 = .ok (.goto 22, 3) := by decide +kernel
theorem dL_act_280 : decode cL_act 280 = .ok (.iload_n 1, 1) := by decide +kernel
theorem dL_act_281 : decode cL_act 281 = .ok (.bipush 19, 2) := by decide +kernel
theorem dL_act_283 : decode cL_act 283 = .ok (.if_icmp .ne 11, 3) := by decide +kernel
theorem dL_act_286 : decode cL_act 286 = .ok (.aload_n 0, 1) := by decide +kernel
theorem dL_act_287 : decode cL_act 287 = .ok (.iload_n 2, 1) := by decide +kernel
theorem dL_act_288 : decode cL_act 288 = .ok (.invokevirtual 76, 3) := by decide +kernel
theorem dL_act_291 : decode cL_act 291 = .ok (.goto 8, 3) := by decide +kernel
theorem dL_act_294 : decode cL_act 294 = .ok (.aload_n 0, 1) := by decide +kernel
theorem dL_act_295 : decode cL_act 295 = .ok (.iload_n 2, 1) := by decide +kernel
theorem dL_act_296 : decode cL_act 296 = .ok (.invokevirtual 79, 3) := by decide +kernel
theorem dL_act_299 : decode cL_act 299 = .ok (.ireturn, 1) := by decide +kernel
theorem dL_act_300 : decode cL_act 300 = .ok (.astore 6, 2) := by decide +kernel
theorem dL_act_302 : decode cL_act 302 = .ok (.sipush (-8002), 3) := by decide +kernel
theorem dL_act_305 : decode cL_act 305 = .ok (.ireturn, 1) := by decide +kernel
theorem dL_act_306 : decode cL_act 306 = .ok (.astore 6, 2) := by decide +kernel
theorem dL_act_308 : decode cL_act 308 = .ok (.sipush (-8003), 3) := by decide +kernel
theorem dL_act_311 : decode cL_act 311 = .ok (.ireturn, 1) := by decide +kernel
theorem dL_refuses_0 : decode cL_refuses 0 = .ok (.aload_n 0, 1) := by decide +kernel
theorem dL_refuses_1 : decode cL_refuses 1 = .ok (.invokevirtual 84, 3) := by decide +kernel
theorem dL_refuses_4 : decode cL_refuses 4 = .ok (.istore_n 1, 1) := by decide +kernel
theorem dL_refuses_5 : decode cL_refuses 5 = .ok (.aload_n 0, 1) := by decide +kernel
theorem dL_refuses_6 : decode cL_refuses 6 = .ok (.iconst 0, 1) := by decide +kernel
theorem dL_refuses_7 : decode cL_refuses 7 = .ok (.invokevirtual 40, 3) := by decide +kernel
theorem dL_refuses_10 : decode cL_refuses 10 = .ok (.istore_n 2, 1) := by decide +kernel
theorem dL_refuses_11 : decode cL_refuses 11 = .ok (.aload_n 0, 1) := by decide +kernel
theorem dL_refuses_12 : decode cL_refuses 12 = .ok (.iconst 0, 1) := by decide +kernel
theorem dL_refuses_13 : decode cL_refuses 13 = .ok (.invokevirtual 67, 3) := by decide +kernel
theorem dL_refuses_16 : decode cL_refuses 16 = .ok (.istore_n 3, 1) := by decide +kernel
theorem dL_refuses_17 : decode cL_refuses 17 = .ok (.sipush (-8002), 3) := by decide +kernel
theorem dL_refuses_20 : decode cL_refuses 20 = .ok (.istore 4, 2) := by decide +kernel
theorem dL_refuses_22 : decode cL_refuses 22 = .ok (.ldc 88, 2) := by decide +kernel
theorem dL_refuses_24 : decode cL_refuses 24 = .ok (.istore 5, 2) := by decide +kernel
theorem dL_refuses_26 : decode cL_refuses 26 = .ok (.iconst 0, 1) := by decide +kernel
theorem dL_refuses_27 : decode cL_refuses 27 = .ok (.istore 6, 2) := by decide +kernel
theorem dL_refuses_29 : decode cL_refuses 29 = .ok (.iload 6, 2) := by decide +kernel
theorem dL_refuses_31 : decode cL_refuses 31 = .ok (.iconst 4, 1) := by decide +kernel
theorem dL_refuses_32 : decode cL_refuses 32 = .ok (.if_icmp .ge 876, 3) := by decide +kernel
theorem dL_refuses_35 : decode cL_refuses 35 = .ok (.iload 6, 2) := by decide +kernel
theorem dL_refuses_37 : decode cL_refuses 37 = .ok (.ifCond .ne 7, 3) := by decide +kernel
theorem dL_refuses_40 : decode cL_refuses 40 = .ok (.iconst (-1), 1) := by decide +kernel
theorem dL_refuses_41 : decode cL_refuses 41 = .ok (.goto 19, 3) := by decide +kernel
theorem dL_refuses_44 : decode cL_refuses 44 = .ok (.iload 6, 2) := by decide +kernel
theorem dL_refuses_46 : decode cL_refuses 46 = .ok (.iconst 2, 1) := by decide +kernel
theorem dL_refuses_47 : decode cL_refuses 47 = .ok (.if_icmp .ne 8, 3) := by decide +kernel
theorem dL_refuses_50 : decode cL_refuses 50 = .ok (.iload 5, 2) := by decide +kernel
theorem dL_refuses_52 : decode cL_refuses 52 = .ok (.goto 8, 3) := by decide +kernel
theorem dL_refuses_55 : decode cL_refuses 55 = .ok (.iload 5, 2) := by decide +kernel
theorem dL_refuses_57 : decode cL_refuses 57 = .ok (.ineg, 1) := by decide +kernel
theorem dL_refuses_58 : decode cL_refuses 58 = .ok (.iconst 1, 1) := by decide +kernel
theorem dL_refuses_59 : decode cL_refuses 59 = .ok (.isub, 1) := by decide +kernel
theorem dL_refuses_60 : decode cL_refuses 60 = .ok (.istore 7, 2) := by decide +kernel
theorem dL_refuses_62 : decode cL_refuses 62 = .ok (.iload 6, 2) := by decide +kernel
theorem dL_refuses_64 : decode cL_refuses 64 = .ok (.iconst 1, 1) := by decide +kernel
theorem dL_refuses_65 : decode cL_refuses 65 = .ok (.if_icmp .ne 7, 3) := by decide +kernel
theorem dL_refuses_68 : decode cL_refuses 68 = .ok (.iconst 3, 1) := by decide +kernel
theorem dL_refuses_69 : decode cL_refuses 69 = .ok (.goto 5, 3) := by decide +kernel
theorem dL_refuses_72 : decode cL_refuses 72 = .ok (.iload 7, 2) := by decide +kernel
theorem dL_refuses_74 : decode cL_refuses 74 = .ok (.istore 8, 2) := by decide +kernel
theorem dL_refuses_76 : decode cL_refuses 76 = .ok (.iload 6, 2) := by decide +kernel
theorem dL_refuses_78 : decode cL_refuses 78 = .ok (.iconst 1, 1) := by decide +kernel
theorem dL_refuses_79 : decode cL_refuses 79 = .ok (.if_icmp .ne 7, 3) := by decide +kernel
theorem dL_refuses_82 : decode cL_refuses 82 = .ok (.iconst 2, 1) := by decide +kernel
theorem dL_refuses_83 : decode cL_refuses 83 = .ok (.goto 5, 3) := by decide +kernel
theorem dL_refuses_86 : decode cL_refuses 86 = .ok (.iload 7, 2) := by decide +kernel
theorem dL_refuses_88 : decode cL_refuses 88 = .ok (.istore 9, 2) := by decide +kernel
theorem dL_refuses_90 : decode cL_refuses 90 = .ok (.iload 6, 2) := by decide +kernel
theorem dL_refuses_92 : decode cL_refuses 92 = .ok (.ifCond .ne 7, 3) := by decide +kernel
theorem dL_refuses_95 : decode cL_refuses 95 = .ok (.iconst 0, 1) := by decide +kernel
theorem dL_refuses_96 : decode cL_refuses 96 = .ok (.goto 16, 3) := by decide +kernel
theorem dL_refuses_99 : decode cL_refuses 99 = .ok (.iload 6, 2) := by decide +kernel
theorem dL_refuses_101 : decode cL_refuses 101 = .ok (.iconst 1, 1) := by decide +kernel
theorem dL_refuses_102 : decode cL_refuses 102 = .ok (.if_icmp .ne 8, 3) := by decide +kernel
theorem dL_refuses_105 : decode cL_refuses 105 = .ok (.bipush 25, 2) := by decide +kernel
theorem dL_refuses_107 : decode cL_refuses 107 = .ok (.goto 5, 3) := by decide +kernel
theorem dL_refuses_110 : decode cL_refuses 110 = .ok (.iload 7, 2) := by decide +kernel
theorem dL_refuses_112 : decode cL_refuses 112 = .ok (.istore 10, 2) := by decide +kernel
theorem dL_refuses_114 : decode cL_refuses 114 = .ok (.iload 6, 2) := by decide +kernel
theorem dL_refuses_116 : decode cL_refuses 116 = .ok (.ifCond .ne 7, 3) := by decide +kernel
theorem dL_refuses_119 : decode cL_refuses 119 = .ok (.iconst 0, 1) := by decide +kernel
theorem dL_refuses_120 : decode cL_refuses 120 = .ok (.goto 16, 3) := by decide +kernel
theorem dL_refuses_123 : decode cL_refuses 123 = .ok (.iload 6, 2) := by decide +kernel
theorem dL_refuses_125 : decode cL_refuses 125 = .ok (.iconst 1, 1) := by decide +kernel
theorem dL_refuses_126 : decode cL_refuses 126 = .ok (.if_icmp .ne 8, 3) := by decide +kernel
theorem dL_refuses_129 : decode cL_refuses 129 = .ok (.bipush 7, 2) := by decide +kernel
theorem dL_refuses_131 : decode cL_refuses 131 = .ok (.goto 5, 3) := by decide +kernel
theorem dL_refuses_134 : decode cL_refuses 134 = .ok (.iload 7, 2) := by decide +kernel
theorem dL_refuses_136 : decode cL_refuses 136 = .ok (.istore 11, 2) := by decide +kernel
theorem dL_refuses_138 : decode cL_refuses 138 = .ok (.aload_n 0, 1) := by decide +kernel
theorem dL_refuses_139 : decode cL_refuses 139 = .ok (.iload 8, 2) := by decide +kernel
theorem dL_refuses_141 : decode cL_refuses 141 = .ok (.iconst 5, 1) := by decide +kernel
theorem dL_refuses_142 : decode cL_refuses 142 = .ok (.iconst 5, 1) := by decide +kernel
theorem dL_refuses_143 : decode cL_refuses 143 = .ok (.iconst 5, 1) := by decide +kernel
theorem dL_refuses_144 : decode cL_refuses 144 = .ok (.invokestatic 89, 3) := by decide +kernel
theorem dL_refuses_147 : decode cL_refuses 147 = .ok (.iload 4, 2) := by decide +kernel
theorem dL_refuses_149 : decode cL_refuses 149 = .ok (.if_icmp .ne 256, 3) := by decide +kernel
theorem dL_refuses_152 : decode cL_refuses 152 = .ok (.aload_n 0, 1) := by decide +kernel
theorem dL_refuses_153 : decode cL_refuses 153 = .ok (.iconst 0, 1) := by decide +kernel
theorem dL_refuses_154 : decode cL_refuses 154 = .ok (.iload 6, 2) := by decide +kernel
theorem dL_refuses_156 : decode cL_refuses 156 = .ok (.ifCond .ne 7, 3) := by decide +kernel
theorem dL_refuses_159 : decode cL_refuses 159 = .ok (.iconst 0, 1) := by decide +kernel
theorem dL_refuses_160 : decode cL_refuses 160 = .ok (.goto 17, 3) := by decide +kernel
theorem dL_refuses_163 : decode cL_refuses 163 = .ok (.iload 6, 2) := by decide +kernel
theorem dL_refuses_165 : decode cL_refuses 165 = .ok (.iconst 1, 1) := by decide +kernel
theorem dL_refuses_166 : decode cL_refuses 166 = .ok (.if_icmp .ne 9, 3) := by decide +kernel
theorem dL_refuses_169 : decode cL_refuses 169 = .ok (.sipush 201, 3) := by decide +kernel
theorem dL_refuses_172 : decode cL_refuses 172 = .ok (.goto 5, 3) := by decide +kernel
theorem dL_refuses_175 : decode cL_refuses 175 = .ok (.iload 7, 2) := by decide +kernel
theorem dL_refuses_177 : decode cL_refuses 177 = .ok (.iconst 5, 1) := by decide +kernel
theorem dL_refuses_178 : decode cL_refuses 178 = .ok (.iconst 5, 1) := by decide +kernel
theorem dL_refuses_179 : decode cL_refuses 179 = .ok (.invokestatic 89, 3) := by decide +kernel
theorem dL_refuses_182 : decode cL_refuses 182 = .ok (.iload 4, 2) := by decide +kernel
theorem dL_refuses_184 : decode cL_refuses 184 = .ok (.if_icmp .ne 221, 3) := by decide +kernel
theorem dL_refuses_187 : decode cL_refuses 187 = .ok (.aload_n 0, 1) := by decide +kernel
theorem dL_refuses_188 : decode cL_refuses 188 = .ok (.iconst 0, 1) := by decide +kernel
theorem dL_refuses_189 : decode cL_refuses 189 = .ok (.iconst 5, 1) := by decide +kernel
theorem dL_refuses_190 : decode cL_refuses 190 = .ok (.iload 6, 2) := by decide +kernel
theorem dL_refuses_192 : decode cL_refuses 192 = .ok (.iconst 1, 1) := by decide +kernel
theorem dL_refuses_193 : decode cL_refuses 193 = .ok (.if_icmp .ne 8, 3) := by decide +kernel
theorem dL_refuses_196 : decode cL_refuses 196 = .ok (.bipush 101, 2) := by decide +kernel
theorem dL_refuses_198 : decode cL_refuses 198 = .ok (.goto 5, 3) := by decide +kernel
theorem dL_refuses_201 : decode cL_refuses 201 = .ok (.iload 7, 2) := by decide +kernel
theorem dL_refuses_203 : decode cL_refuses 203 = .ok (.iconst 5, 1) := by decide +kernel
theorem dL_refuses_204 : decode cL_refuses 204 = .ok (.invokestatic 89, 3) := by decide +kernel
theorem dL_refuses_207 : decode cL_refuses 207 = .ok (.iload 4, 2) := by decide +kernel
theorem dL_refuses_209 : decode cL_refuses 209 = .ok (.if_icmp .ne 196, 3) := by decide +kernel
theorem dL_refuses_212 : decode cL_refuses 212 = .ok (.aload_n 0, 1) := by decide +kernel
theorem dL_refuses_213 : decode cL_refuses 213 = .ok (.iconst 0, 1) := by decide +kernel
theorem dL_refuses_214 : decode cL_refuses 214 = .ok (.iconst 5, 1) := by decide +kernel
theorem dL_refuses_215 : decode cL_refuses 215 = .ok (.iconst 5, 1) := by decide +kernel
theorem dL_refuses_216 : decode cL_refuses 216 = .ok (.iload 6, 2) := by decide +kernel
theorem dL_refuses_218 : decode cL_refuses 218 = .ok (.iconst 1, 1) := by decide +kernel
theorem dL_refuses_219 : decode cL_refuses 219 = .ok (.if_icmp .ne 8, 3) := by decide +kernel
theorem dL_refuses_222 : decode cL_refuses 222 = .ok (.bipush 6, 2) := by decide +kernel
theorem dL_refuses_224 : decode cL_refuses 224 = .ok (.goto 5, 3) := by decide +kernel
theorem dL_refuses_227 : decode cL_refuses 227 = .ok (.iload 7, 2) := by decide +kernel
theorem dL_refuses_229 : decode cL_refuses 229 = .ok (.invokestatic 89, 3) := by decide +kernel
theorem dL_refuses_232 : decode cL_refuses 232 = .ok (.iload 4, 2) := by decide +kernel
theorem dL_refuses_234 : decode cL_refuses 234 = .ok (.if_icmp .ne 171, 3) := by decide +kernel
theorem dL_refuses_237 : decode cL_refuses 237 = .ok (.aload_n 0, 1) := by decide +kernel
theorem dL_refuses_238 : decode cL_refuses 238 = .ok (.iconst 0, 1) := by decide +kernel
theorem dL_refuses_239 : decode cL_refuses 239 = .ok (.iload 8, 2) := by decide +kernel
theorem dL_refuses_241 : decode cL_refuses 241 = .ok (.iconst 5, 1) := by decide +kernel
theorem dL_refuses_242 : decode cL_refuses 242 = .ok (.iconst 5, 1) := by decide +kernel
theorem dL_refuses_243 : decode cL_refuses 243 = .ok (.iconst 0, 1) := by decide +kernel
theorem dL_refuses_244 : decode cL_refuses 244 = .ok (.invokestatic 95, 3) := by decide +kernel
theorem dL_refuses_247 : decode cL_refuses 247 = .ok (.iload 4, 2) := by decide +kernel
theorem dL_refuses_249 : decode cL_refuses 249 = .ok (.if_icmp .ne 156, 3) := by decide +kernel
theorem dL_refuses_252 : decode cL_refuses 252 = .ok (.aload_n 0, 1) := by decide +kernel
theorem dL_refuses_253 : decode cL_refuses 253 = .ok (.iconst 0, 1) := by decide +kernel
theorem dL_refuses_254 : decode cL_refuses 254 = .ok (.iconst 0, 1) := by decide +kernel
theorem dL_refuses_255 : decode cL_refuses 255 = .ok (.iload 6, 2) := by decide +kernel
theorem dL_refuses_257 : decode cL_refuses 257 = .ok (.iconst 1, 1) := by decide +kernel
theorem dL_refuses_258 : decode cL_refuses 258 = .ok (.if_icmp .ne 8, 3) := by decide +kernel
theorem dL_refuses_261 : decode cL_refuses 261 = .ok (.bipush 51, 2) := by decide +kernel
theorem dL_refuses_263 : decode cL_refuses 263 = .ok (.goto 5, 3) := by decide +kernel
theorem dL_refuses_266 : decode cL_refuses 266 = .ok (.iload 7, 2) := by decide +kernel
theorem dL_refuses_268 : decode cL_refuses 268 = .ok (.iconst 5, 1) := by decide +kernel
theorem dL_refuses_269 : decode cL_refuses 269 = .ok (.iconst 0, 1) := by decide +kernel
theorem dL_refuses_270 : decode cL_refuses 270 = .ok (.invokestatic 95, 3) := by decide +kernel
theorem dL_refuses_273 : decode cL_refuses 273 = .ok (.iload 4, 2) := by decide +kernel
theorem dL_refuses_275 : decode cL_refuses 275 = .ok (.if_icmp .ne 130, 3) := by decide +kernel
theorem dL_refuses_278 : decode cL_refuses 278 = .ok (.aload_n 0, 1) := by decide +kernel
theorem dL_refuses_279 : decode cL_refuses 279 = .ok (.iconst 0, 1) := by decide +kernel
theorem dL_refuses_280 : decode cL_refuses 280 = .ok (.iconst 0, 1) := by decide +kernel
theorem dL_refuses_281 : decode cL_refuses 281 = .ok (.iconst 5, 1) := by decide +kernel
theorem dL_refuses_282 : decode cL_refuses 282 = .ok (.iload 6, 2) := by decide +kernel
theorem dL_refuses_284 : decode cL_refuses 284 = .ok (.iconst 1, 1) := by decide +kernel
theorem dL_refuses_285 : decode cL_refuses 285 = .ok (.if_icmp .ne 8, 3) := by decide +kernel
theorem dL_refuses_288 : decode cL_refuses 288 = .ok (.bipush 101, 2) := by decide +kernel
theorem dL_refuses_290 : decode cL_refuses 290 = .ok (.goto 5, 3) := by decide +kernel
theorem dL_refuses_293 : decode cL_refuses 293 = .ok (.iload 7, 2) := by decide +kernel
theorem dL_refuses_295 : decode cL_refuses 295 = .ok (.iconst 0, 1) := by decide +kernel
theorem dL_refuses_296 : decode cL_refuses 296 = .ok (.invokestatic 95, 3) := by decide +kernel
theorem dL_refuses_299 : decode cL_refuses 299 = .ok (.iload 4, 2) := by decide +kernel
theorem dL_refuses_301 : decode cL_refuses 301 = .ok (.if_icmp .ne 104, 3) := by decide +kernel
theorem dL_refuses_304 : decode cL_refuses 304 = .ok (.aload_n 0, 1) := by decide +kernel
theorem dL_refuses_305 : decode cL_refuses 305 = .ok (.iconst 1, 1) := by decide +kernel
theorem dL_refuses_306 : decode cL_refuses 306 = .ok (.iload 8, 2) := by decide +kernel
theorem dL_refuses_308 : decode cL_refuses 308 = .ok (.iconst 5, 1) := by decide +kernel
theorem dL_refuses_309 : decode cL_refuses 309 = .ok (.iconst 0, 1) := by decide +kernel
theorem dL_refuses_310 : decode cL_refuses 310 = .ok (.iconst 0, 1) := by decide +kernel
theorem dL_refuses_311 : decode cL_refuses 311 = .ok (.invokestatic 95, 3) := by decide +kernel
theorem dL_refuses_314 : decode cL_refuses 314 = .ok (.iload 4, 2) := by decide +kernel
theorem dL_refuses_316 : decode cL_refuses 316 = .ok (.if_icmp .ne 89, 3) := by decide +kernel
theorem dL_refuses_319 : decode cL_refuses 319 = .ok (.aload_n 0, 1) := by decide +kernel
theorem dL_refuses_320 : decode cL_refuses 320 = .ok (.iconst 1, 1) := by decide +kernel
theorem dL_refuses_321 : decode cL_refuses 321 = .ok (.iconst 0, 1) := by decide +kernel
theorem dL_refuses_322 : decode cL_refuses 322 = .ok (.iload 6, 2) := by decide +kernel
theorem dL_refuses_324 : decode cL_refuses 324 = .ok (.iconst 1, 1) := by decide +kernel
theorem dL_refuses_325 : decode cL_refuses 325 = .ok (.if_icmp .ne 8, 3) := by decide +kernel
theorem dL_refuses_328 : decode cL_refuses 328 = .ok (.bipush 21, 2) := by decide +kernel
theorem dL_refuses_330 : decode cL_refuses 330 = .ok (.goto 5, 3) := by decide +kernel
theorem dL_refuses_333 : decode cL_refuses 333 = .ok (.iload 7, 2) := by decide +kernel
theorem dL_refuses_335 : decode cL_refuses 335 = .ok (.iconst 0, 1) := by decide +kernel
theorem dL_refuses_336 : decode cL_refuses 336 = .ok (.iconst 0, 1) := by decide +kernel
theorem dL_refuses_337 : decode cL_refuses 337 = .ok (.invokestatic 95, 3) := by decide +kernel
theorem dL_refuses_340 : decode cL_refuses 340 = .ok (.iload 4, 2) := by decide +kernel
theorem dL_refuses_342 : decode cL_refuses 342 = .ok (.if_icmp .ne 63, 3) := by decide +kernel
theorem dL_refuses_345 : decode cL_refuses 345 = .ok (.aload_n 0, 1) := by decide +kernel
theorem dL_refuses_346 : decode cL_refuses 346 = .ok (.iconst 2, 1) := by decide +kernel
theorem dL_refuses_347 : decode cL_refuses 347 = .ok (.iload 8, 2) := by decide +kernel
theorem dL_refuses_349 : decode cL_refuses 349 = .ok (.iconst 0, 1) := by decide +kernel
theorem dL_refuses_350 : decode cL_refuses 350 = .ok (.iconst 5, 1) := by decide +kernel
theorem dL_refuses_351 : decode cL_refuses 351 = .ok (.iconst 0, 1) := by decide +kernel
theorem dL_refuses_352 : decode cL_refuses 352 = .ok (.invokestatic 95, 3) := by decide +kernel
theorem dL_refuses_355 : decode cL_refuses 355 = .ok (.iload 4, 2) := by decide +kernel
theorem dL_refuses_357 : decode cL_refuses 357 = .ok (.if_icmp .ne 48, 3) := by decide +kernel
theorem dL_refuses_360 : decode cL_refuses 360 = .ok (.aload_n 0, 1) := by decide +kernel
theorem dL_refuses_361 : decode cL_refuses 361 = .ok (.iconst 2, 1) := by decide +kernel
theorem dL_refuses_362 : decode cL_refuses 362 = .ok (.iconst 0, 1) := by decide +kernel
theorem dL_refuses_363 : decode cL_refuses 363 = .ok (.iload 9, 2) := by decide +kernel
theorem dL_refuses_365 : decode cL_refuses 365 = .ok (.iconst 5, 1) := by decide +kernel
theorem dL_refuses_366 : decode cL_refuses 366 = .ok (.iconst 0, 1) := by decide +kernel
theorem dL_refuses_367 : decode cL_refuses 367 = .ok (.invokestatic 95, 3) := by decide +kernel
theorem dL_refuses_370 : decode cL_refuses 370 = .ok (.iload 4, 2) := by decide +kernel
theorem dL_refuses_372 : decode cL_refuses 372 = .ok (.if_icmp .ne 33, 3) := by decide +kernel
theorem dL_refuses_375 : decode cL_refuses 375 = .ok (.aload_n 0, 1) := by decide +kernel
theorem dL_refuses_376 : decode cL_refuses 376 = .ok (.iconst 2, 1) := by decide +kernel
theorem dL_refuses_377 : decode cL_refuses 377 = .ok (.iconst 0, 1) := by decide +kernel
theorem dL_refuses_378 : decode cL_refuses 378 = .ok (.iconst 0, 1) := by decide +kernel
theorem dL_refuses_379 : decode cL_refuses 379 = .ok (.iload 6, 2) := by decide +kernel
theorem dL_refuses_381 : decode cL_refuses 381 = .ok (.iconst 1, 1) := by decide +kernel
theorem dL_refuses_382 : decode cL_refuses 382 = .ok (.if_icmp .ne 8, 3) := by decide +kernel
theorem dL_refuses_385 : decode cL_refuses 385 = .ok (.bipush 31, 2) := by decide +kernel
theorem dL_refuses_387 : decode cL_refuses 387 = .ok (.goto 5, 3) := by decide +kernel
theorem dL_refuses_390 : decode cL_refuses 390 = .ok (.iload 7, 2) := by decide +kernel
theorem dL_refuses_392 : decode cL_refuses 392 = .ok (.iconst 0, 1) := by decide +kernel
theorem dL_refuses_393 : decode cL_refuses 393 = .ok (.invokestatic 95, 3) := by decide +kernel
theorem dL_refuses_396 : decode cL_refuses 396 = .ok (.iload 4, 2) := by decide +kernel
theorem dL_refuses_398 : decode cL_refuses 398 = .ok (.if_icmp .ne 7, 3) := by decide +kernel
theorem dL_refuses_401 : decode cL_refuses 401 = .ok (.iconst 1, 1) := by decide +kernel
theorem dL_refuses_402 : decode cL_refuses 402 = .ok (.goto 4, 3) := by decide +kernel
theorem dL_refuses_405 : decode cL_refuses 405 = .ok (.iconst 0, 1) := by decide +kernel
theorem dL_refuses_406 : decode cL_refuses 406 = .ok (.istore 12, 2) := by decide +kernel
theorem dL_refuses_408 : decode cL_refuses 408 = .ok (.iload 12, 2) := by decide +kernel
theorem dL_refuses_410 : decode cL_refuses 410 = .ok (.ifCond .eq 380, 3) := by decide +kernel
theorem dL_refuses_413 : decode cL_refuses 413 = .ok (.aload_n 0, 1) := by decide +kernel
theorem dL_refuses_414 : decode cL_refuses 414 = .ok (.iconst 3, 1) := by decide +kernel
theorem dL_refuses_415 : decode cL_refuses 415 = .ok (.iload 8, 2) := by decide +kernel
theorem dL_refuses_417 : decode cL_refuses 417 = .ok (.iconst 0, 1) := by decide +kernel
theorem dL_refuses_418 : decode cL_refuses 418 = .ok (.iconst 5, 1) := by decide +kernel
theorem dL_refuses_419 : decode cL_refuses 419 = .ok (.iconst 5, 1) := by decide +kernel
theorem dL_refuses_420 : decode cL_refuses 420 = .ok (.invokestatic 95, 3) := by decide +kernel
theorem dL_refuses_423 : decode cL_refuses 423 = .ok (.iload 4, 2) := by decide +kernel
theorem dL_refuses_425 : decode cL_refuses 425 = .ok (.if_icmp .ne 365, 3) := by decide +kernel
theorem dL_refuses_428 : decode cL_refuses 428 = .ok (.aload_n 0, 1) := by decide +kernel
theorem dL_refuses_429 : decode cL_refuses 429 = .ok (.iconst 3, 1) := by decide +kernel
theorem dL_refuses_430 : decode cL_refuses 430 = .ok (.iconst 0, 1) := by decide +kernel
theorem dL_refuses_431 : decode cL_refuses 431 = .ok (.iload 9, 2) := by decide +kernel
theorem dL_refuses_433 : decode cL_refuses 433 = .ok (.iconst 5, 1) := by decide +kernel
theorem dL_refuses_434 : decode cL_refuses 434 = .ok (.iconst 5, 1) := by decide +kernel
theorem dL_refuses_435 : decode cL_refuses 435 = .ok (.invokestatic 95, 3) := by decide +kernel
theorem dL_refuses_438 : decode cL_refuses 438 = .ok (.iload 4, 2) := by decide +kernel
theorem dL_refuses_440 : decode cL_refuses 440 = .ok (.if_icmp .ne 350, 3) := by decide +kernel
theorem dL_refuses_443 : decode cL_refuses 443 = .ok (.aload_n 0, 1) := by decide +kernel
theorem dL_refuses_444 : decode cL_refuses 444 = .ok (.iconst 3, 1) := by decide +kernel
theorem dL_refuses_445 : decode cL_refuses 445 = .ok (.iconst 0, 1) := by decide +kernel
theorem dL_refuses_446 : decode cL_refuses 446 = .ok (.iconst 0, 1) := by decide +kernel
theorem dL_refuses_447 : decode cL_refuses 447 = .ok (.iload 6, 2) := by decide +kernel
theorem dL_refuses_449 : decode cL_refuses 449 = .ok (.ifCond .ne 7, 3) := by decide +kernel
theorem dL_refuses_452 : decode cL_refuses 452 = .ok (.iconst 0, 1) := by decide +kernel
theorem dL_refuses_453 : decode cL_refuses 453 = .ok (.goto 16, 3) := by decide +kernel
theorem dL_refuses_456 : decode cL_refuses 456 = .ok (.iload 6, 2) := by decide +kernel
theorem dL_refuses_458 : decode cL_refuses 458 = .ok (.iconst 1, 1) := by decide +kernel
theorem dL_refuses_459 : decode cL_refuses 459 = .ok (.if_icmp .ne 8, 3) := by decide +kernel
theorem dL_refuses_462 : decode cL_refuses 462 = .ok (.bipush 9, 2) := by decide +kernel
theorem dL_refuses_464 : decode cL_refuses 464 = .ok (.goto 5, 3) := by decide +kernel
theorem dL_refuses_467 : decode cL_refuses 467 = .ok (.iload 7, 2) := by decide +kernel
theorem dL_refuses_469 : decode cL_refuses 469 = .ok (.iconst 5, 1) := by decide +kernel
theorem dL_refuses_470 : decode cL_refuses 470 = .ok (.invokestatic 95, 3) := by decide +kernel
theorem dL_refuses_473 : decode cL_refuses 473 = .ok (.iload 4, 2) := by decide +kernel
theorem dL_refuses_475 : decode cL_refuses 475 = .ok (.if_icmp .ne 315, 3) := by decide +kernel
theorem dL_refuses_478 : decode cL_refuses 478 = .ok (.aload_n 0, 1) := by decide +kernel
theorem dL_refuses_479 : decode cL_refuses 479 = .ok (.iconst 3, 1) := by decide +kernel
theorem dL_refuses_480 : decode cL_refuses 480 = .ok (.iconst 0, 1) := by decide +kernel
theorem dL_refuses_481 : decode cL_refuses 481 = .ok (.iconst 0, 1) := by decide +kernel
theorem dL_refuses_482 : decode cL_refuses 482 = .ok (.iconst 5, 1) := by decide +kernel
theorem dL_refuses_483 : decode cL_refuses 483 = .ok (.iload 6, 2) := by decide +kernel
theorem dL_refuses_485 : decode cL_refuses 485 = .ok (.iconst 1, 1) := by decide +kernel
theorem dL_refuses_486 : decode cL_refuses 486 = .ok (.if_icmp .ne 9, 3) := by decide +kernel
theorem dL_refuses_489 : decode cL_refuses 489 = .ok (.sipush 201, 3) := by decide +kernel
theorem dL_refuses_492 : decode cL_refuses 492 = .ok (.goto 5, 3) := by decide +kernel
theorem dL_refuses_495 : decode cL_refuses 495 = .ok (.iload 7, 2) := by decide +kernel
theorem dL_refuses_497 : decode cL_refuses 497 = .ok (.invokestatic 95, 3) := by decide +kernel
theorem dL_refuses_500 : decode cL_refuses 500 = .ok (.iload 4, 2) := by decide +kernel
theorem dL_refuses_502 : decode cL_refuses 502 = .ok (.if_icmp .ne 288, 3) := by decide +kernel
theorem dL_refuses_505 : decode cL_refuses 505 = .ok (.aload_n 0, 1) := by decide +kernel
theorem dL_refuses_506 : decode cL_refuses 506 = .ok (.iconst 4, 1) := by decide +kernel
theorem dL_refuses_507 : decode cL_refuses 507 = .ok (.iload 10, 2) := by decide +kernel
theorem dL_refuses_509 : decode cL_refuses 509 = .ok (.iconst 0, 1) := by decide +kernel
theorem dL_refuses_510 : decode cL_refuses 510 = .ok (.iconst 0, 1) := by decide +kernel
theorem dL_refuses_511 : decode cL_refuses 511 = .ok (.iconst 0, 1) := by decide +kernel
theorem dL_refuses_512 : decode cL_refuses 512 = .ok (.invokestatic 95, 3) := by decide +kernel
theorem dL_refuses_515 : decode cL_refuses 515 = .ok (.iload 4, 2) := by decide +kernel
theorem dL_refuses_517 : decode cL_refuses 517 = .ok (.if_icmp .ne 273, 3) := by decide +kernel
theorem dL_refuses_520 : decode cL_refuses 520 = .ok (.aload_n 0, 1) := by decide +kernel
theorem dL_refuses_521 : decode cL_refuses 521 = .ok (.iconst 5, 1) := by decide +kernel
theorem dL_refuses_522 : decode cL_refuses 522 = .ok (.iload 8, 2) := by decide +kernel
theorem dL_refuses_524 : decode cL_refuses 524 = .ok (.iconst 0, 1) := by decide +kernel
theorem dL_refuses_525 : decode cL_refuses 525 = .ok (.iconst 1, 1) := by decide +kernel
theorem dL_refuses_526 : decode cL_refuses 526 = .ok (.iconst 0, 1) := by decide +kernel
theorem dL_refuses_527 : decode cL_refuses 527 = .ok (.invokestatic 95, 3) := by decide +kernel
theorem dL_refuses_530 : decode cL_refuses 530 = .ok (.iload 4, 2) := by decide +kernel
theorem dL_refuses_532 : decode cL_refuses 532 = .ok (.if_icmp .ne 258, 3) := by decide +kernel
theorem dL_refuses_535 : decode cL_refuses 535 = .ok (.aload_n 0, 1) := by decide +kernel
theorem dL_refuses_536 : decode cL_refuses 536 = .ok (.iconst 5, 1) := by decide +kernel
theorem dL_refuses_537 : decode cL_refuses 537 = .ok (.iconst 0, 1) := by decide +kernel
theorem dL_refuses_538 : decode cL_refuses 538 = .ok (.iload 9, 2) := by decide +kernel
theorem dL_refuses_540 : decode cL_refuses 540 = .ok (.iconst 1, 1) := by decide +kernel
theorem dL_refuses_541 : decode cL_refuses 541 = .ok (.iconst 0, 1) := by decide +kernel
theorem dL_refuses_542 : decode cL_refuses 542 = .ok (.invokestatic 95, 3) := by decide +kernel
theorem dL_refuses_545 : decode cL_refuses 545 = .ok (.iload 4, 2) := by decide +kernel
theorem dL_refuses_547 : decode cL_refuses 547 = .ok (.if_icmp .ne 243, 3) := by decide +kernel
theorem dL_refuses_550 : decode cL_refuses 550 = .ok (.aload_n 0, 1) := by decide +kernel
theorem dL_refuses_551 : decode cL_refuses 551 = .ok (.iconst 5, 1) := by decide +kernel
theorem dL_refuses_552 : decode cL_refuses 552 = .ok (.iconst 0, 1) := by decide +kernel
theorem dL_refuses_553 : decode cL_refuses 553 = .ok (.iconst 0, 1) := by decide +kernel
theorem dL_refuses_554 : decode cL_refuses 554 = .ok (.iload 6, 2) := by decide +kernel
theorem dL_refuses_556 : decode cL_refuses 556 = .ok (.ifCond .ne 7, 3) := by decide +kernel
theorem dL_refuses_559 : decode cL_refuses 559 = .ok (.iconst 0, 1) := by decide +kernel
theorem dL_refuses_560 : decode cL_refuses 560 = .ok (.goto 16, 3) := by decide +kernel
theorem dL_refuses_563 : decode cL_refuses 563 = .ok (.iload 6, 2) := by decide +kernel
theorem dL_refuses_565 : decode cL_refuses 565 = .ok (.iconst 1, 1) := by decide +kernel
theorem dL_refuses_566 : decode cL_refuses 566 = .ok (.if_icmp .ne 8, 3) := by decide +kernel
theorem dL_refuses_569 : decode cL_refuses 569 = .ok (.bipush 101, 2) := by decide +kernel
theorem dL_refuses_571 : decode cL_refuses 571 = .ok (.goto 5, 3) := by decide +kernel
theorem dL_refuses_574 : decode cL_refuses 574 = .ok (.iload 7, 2) := by decide +kernel
theorem dL_refuses_576 : decode cL_refuses 576 = .ok (.iconst 0, 1) := by decide +kernel
theorem dL_refuses_577 : decode cL_refuses 577 = .ok (.invokestatic 95, 3) := by decide +kernel
theorem dL_refuses_580 : decode cL_refuses 580 = .ok (.iload 4, 2) := by decide +kernel
theorem dL_refuses_582 : decode cL_refuses 582 = .ok (.if_icmp .ne 208, 3) := by decide +kernel
theorem dL_refuses_585 : decode cL_refuses 585 = .ok (.aload_n 0, 1) := by decide +kernel
theorem dL_refuses_586 : decode cL_refuses 586 = .ok (.bipush 6, 2) := by decide +kernel
theorem dL_refuses_588 : decode cL_refuses 588 = .ok (.iload 8, 2) := by decide +kernel
theorem dL_refuses_590 : decode cL_refuses 590 = .ok (.iconst 0, 1) := by decide +kernel
theorem dL_refuses_591 : decode cL_refuses 591 = .ok (.iconst 0, 1) := by decide +kernel
theorem dL_refuses_592 : decode cL_refuses 592 = .ok (.iconst 0, 1) := by decide +kernel
theorem dL_refuses_593 : decode cL_refuses 593 = .ok (.invokestatic 95, 3) := by decide +kernel
theorem dL_refuses_596 : decode cL_refuses 596 = .ok (.iload 4, 2) := by decide +kernel
theorem dL_refuses_598 : decode cL_refuses 598 = .ok (.if_icmp .ne 192, 3) := by decide +kernel
theorem dL_refuses_601 : decode cL_refuses 601 = .ok (.aload_n 0, 1) := by decide +kernel
theorem dL_refuses_602 : decode cL_refuses 602 = .ok (.bipush 6, 2) := by decide +kernel
theorem dL_refuses_604 : decode cL_refuses 604 = .ok (.iconst 0, 1) := by decide +kernel
theorem dL_refuses_605 : decode cL_refuses 605 = .ok (.iload 9, 2) := by decide +kernel
theorem dL_refuses_607 : decode cL_refuses 607 = .ok (.iconst 0, 1) := by decide +kernel
theorem dL_refuses_608 : decode cL_refuses 608 = .ok (.iconst 0, 1) := by decide +kernel
theorem dL_refuses_609 : decode cL_refuses 609 = .ok (.invokestatic 95, 3) := by decide +kernel
theorem dL_refuses_612 : decode cL_refuses 612 = .ok (.iload 4, 2) := by decide +kernel
theorem dL_refuses_614 : decode cL_refuses 614 = .ok (.if_icmp .ne 176, 3) := by decide +kernel
theorem dL_refuses_617 : decode cL_refuses 617 = .ok (.aload_n 0, 1) := by decide +kernel
theorem dL_refuses_618 : decode cL_refuses 618 = .ok (.bipush 7, 2) := by decide +kernel
theorem dL_refuses_620 : decode cL_refuses 620 = .ok (.iload 8, 2) := by decide +kernel
theorem dL_refuses_622 : decode cL_refuses 622 = .ok (.iconst 0, 1) := by decide +kernel
theorem dL_refuses_623 : decode cL_refuses 623 = .ok (.iconst 0, 1) := by decide +kernel
theorem dL_refuses_624 : decode cL_refuses 624 = .ok (.iconst 0, 1) := by decide +kernel
theorem dL_refuses_625 : decode cL_refuses 625 = .ok (.invokestatic 95, 3) := by decide +kernel
theorem dL_refuses_628 : decode cL_refuses 628 = .ok (.iload 4, 2) := by decide +kernel
theorem dL_refuses_630 : decode cL_refuses 630 = .ok (.if_icmp .ne 160, 3) := by decide +kernel
theorem dL_refuses_633 : decode cL_refuses 633 = .ok (.aload_n 0, 1) := by decide +kernel
theorem dL_refuses_634 : decode cL_refuses 634 = .ok (.bipush 8, 2) := by decide +kernel
theorem dL_refuses_636 : decode cL_refuses 636 = .ok (.iload 6, 2) := by decide +kernel
theorem dL_refuses_638 : decode cL_refuses 638 = .ok (.ifCond .ne 7, 3) := by decide +kernel
theorem dL_refuses_641 : decode cL_refuses 641 = .ok (.iconst 0, 1) := by decide +kernel
theorem dL_refuses_642 : decode cL_refuses 642 = .ok (.goto 5, 3) := by decide +kernel
theorem dL_refuses_645 : decode cL_refuses 645 = .ok (.iload 8, 2) := by decide +kernel
theorem dL_refuses_647 : decode cL_refuses 647 = .ok (.iconst 0, 1) := by decide +kernel
theorem dL_refuses_648 : decode cL_refuses 648 = .ok (.iconst 0, 1) := by decide +kernel
theorem dL_refuses_649 : decode cL_refuses 649 = .ok (.iconst 0, 1) := by decide +kernel
theorem dL_refuses_650 : decode cL_refuses 650 = .ok (.invokestatic 95, 3) := by decide +kernel
theorem dL_refuses_653 : decode cL_refuses 653 = .ok (.iload 4, 2) := by decide +kernel
theorem dL_refuses_655 : decode cL_refuses 655 = .ok (.if_icmp .ne 135, 3) := by decide +kernel
theorem dL_refuses_658 : decode cL_refuses 658 = .ok (.aload_n 0, 1) := by decide +kernel
theorem dL_refuses_659 : decode cL_refuses 659 = .ok (.bipush 8, 2) := by decide +kernel
theorem dL_refuses_661 : decode cL_refuses 661 = .ok (.iconst 1, 1) := by decide +kernel
theorem dL_refuses_662 : decode cL_refuses 662 = .ok (.iload 9, 2) := by decide +kernel
theorem dL_refuses_664 : decode cL_refuses 664 = .ok (.iconst 0, 1) := by decide +kernel
theorem dL_refuses_665 : decode cL_refuses 665 = .ok (.iconst 0, 1) := by decide +kernel
theorem dL_refuses_666 : decode cL_refuses 666 = .ok (.invokestatic 95, 3) := by decide +kernel
theorem dL_refuses_669 : decode cL_refuses 669 = .ok (.iload 4, 2) := by decide +kernel
theorem dL_refuses_671 : decode cL_refuses 671 = .ok (.if_icmp .ne 119, 3) := by decide +kernel
theorem dL_refuses_674 : decode cL_refuses 674 = .ok (.aload_n 0, 1) := by decide +kernel
theorem dL_refuses_675 : decode cL_refuses 675 = .ok (.bipush 9, 2) := by decide +kernel
theorem dL_refuses_677 : decode cL_refuses 677 = .ok (.iload 6, 2) := by decide +kernel
theorem dL_refuses_679 : decode cL_refuses 679 = .ok (.ifCond .ne 7, 3) := by decide +kernel
theorem dL_refuses_682 : decode cL_refuses 682 = .ok (.iconst 0, 1) := by decide +kernel
theorem dL_refuses_683 : decode cL_refuses 683 = .ok (.goto 5, 3) := by decide +kernel
theorem dL_refuses_686 : decode cL_refuses 686 = .ok (.iload 8, 2) := by decide +kernel
theorem dL_refuses_688 : decode cL_refuses 688 = .ok (.iconst 0, 1) := by decide +kernel
theorem dL_refuses_689 : decode cL_refuses 689 = .ok (.iconst 5, 1) := by decide +kernel
theorem dL_refuses_690 : decode cL_refuses 690 = .ok (.iconst 0, 1) := by decide +kernel
theorem dL_refuses_691 : decode cL_refuses 691 = .ok (.invokestatic 95, 3) := by decide +kernel
theorem dL_refuses_694 : decode cL_refuses 694 = .ok (.iload 4, 2) := by decide +kernel
theorem dL_refuses_696 : decode cL_refuses 696 = .ok (.if_icmp .ne 94, 3) := by decide +kernel
theorem dL_refuses_699 : decode cL_refuses 699 = .ok (.aload_n 0, 1) := by decide +kernel
theorem dL_refuses_700 : decode cL_refuses 700 = .ok (.bipush 9, 2) := by decide +kernel
theorem dL_refuses_702 : decode cL_refuses 702 = .ok (.iconst 1, 1) := by decide +kernel
theorem dL_refuses_703 : decode cL_refuses 703 = .ok (.iload 9, 2) := by decide +kernel
theorem dL_refuses_705 : decode cL_refuses 705 = .ok (.iconst 5, 1) := by decide +kernel
theorem dL_refuses_706 : decode cL_refuses 706 = .ok (.iconst 0, 1) := by decide +kernel
theorem dL_refuses_707 : decode cL_refuses 707 = .ok (.invokestatic 95, 3) := by decide +kernel
theorem dL_refuses_710 : decode cL_refuses 710 = .ok (.iload 4, 2) := by decide +kernel
theorem dL_refuses_712 : decode cL_refuses 712 = .ok (.if_icmp .ne 78, 3) := by decide +kernel
