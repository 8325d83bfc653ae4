theorem dX10_init_0 : decode cX10_init 0 = .ok (.aload_n 0, 1) := by decide +kernel
theorem dX10_init_1 : decode cX10_init 1 = .ok (.invokespecial 1, 3) := by decide +kernel
theorem dX10_init_4 : decode cX10_init 4 = .ok (.aload_n 0, 1) := by decide +kernel
theorem dX10_init_5 : decode cX10_init 5 = .ok (.bipush 44, 2) := by decide +kernel
theorem dX10_init_7 : decode cX10_init 7 = .ok (.newarray .int, 2) := by decide +kernel
theorem dX10_init_9 : decode cX10_init 9 = .ok (.putfield 7, 3) := by decide +kernel
theorem dX10_init_12 : decode cX10_init 12 = .ok (.aload_n 0, 1) := by decide +kernel
theorem dX10_init_13 : decode cX10_init 13 = .ok (.bipush 16, 2) := by decide +kernel
theorem dX10_init_15 : decode cX10_init 15 = .ok (.newarray .int, 2) := by decide +kernel
theorem dX10_init_17 : decode cX10_init 17 = .ok (.putfield 13, 3) := by decide +kernel
theorem dX10_init_20 : decode cX10_init 20 = .ok (.aload_n 0, 1) := by decide +kernel
theorem dX10_init_21 : decode cX10_init 21 = .ok (.sipush 384, 3) := by decide +kernel
theorem dX10_init_24 : decode cX10_init 24 = .ok (.newarray .int, 2) := by decide +kernel
theorem dX10_init_26 : decode cX10_init 26 = .ok (.putfield 16, 3) := by decide +kernel
theorem dX10_init_29 : decode cX10_init 29 = .ok (.aload_n 0, 1) := by decide +kernel
theorem dX10_init_30 : decode cX10_init 30 = .ok (.bipush 12, 2) := by decide +kernel
theorem dX10_init_32 : decode cX10_init 32 = .ok (.newarray .int, 2) := by decide +kernel
theorem dX10_init_34 : decode cX10_init 34 = .ok (.putfield 19, 3) := by decide +kernel
theorem dX10_init_37 : decode cX10_init 37 = .ok (.aload_n 0, 1) := by decide +kernel
theorem dX10_init_38 : decode cX10_init 38 = .ok (.bipush 24, 2) := by decide +kernel
theorem dX10_init_40 : decode cX10_init 40 = .ok (.newarray .int, 2) := by decide +kernel
theorem dX10_init_42 : decode cX10_init 42 = .ok (.putfield 22, 3) := by decide +kernel
theorem dX10_init_45 : decode cX10_init 45 = .ok (.aload_n 0, 1) := by decide +kernel
theorem dX10_init_46 : decode cX10_init 46 = .ok (.bipush 6, 2) := by decide +kernel
theorem dX10_init_48 : decode cX10_init 48 = .ok (.newarray .int, 2) := by decide +kernel
theorem dX10_init_50 : decode cX10_init 50 = .ok (.putfield 25, 3) := by decide +kernel
theorem dX10_init_53 : decode cX10_init 53 = .ok (.aload_n 0, 1) := by decide +kernel
theorem dX10_init_54 : decode cX10_init 54 = .ok (.bipush 96, 2) := by decide +kernel
theorem dX10_init_56 : decode cX10_init 56 = .ok (.newarray .int, 2) := by decide +kernel
theorem dX10_init_58 : decode cX10_init 58 = .ok (.putfield 28, 3) := by decide +kernel
theorem dX10_init_61 : decode cX10_init 61 = .ok (.aload_n 0, 1) := by decide +kernel
theorem dX10_init_62 : decode cX10_init 62 = .ok (.bipush 6, 2) := by decide +kernel
theorem dX10_init_64 : decode cX10_init 64 = .ok (.newarray .int, 2) := by decide +kernel
theorem dX10_init_66 : decode cX10_init 66 = .ok (.putfield 31, 3) := by decide +kernel
theorem dX10_init_69 : decode cX10_init 69 = .ok (.aload_n 0, 1) := by decide +kernel
theorem dX10_init_70 : decode cX10_init 70 = .ok (.bipush 6, 2) := by decide +kernel
theorem dX10_init_72 : decode cX10_init 72 = .ok (.newarray .int, 2) := by decide +kernel
theorem dX10_init_74 : decode cX10_init 74 = .ok (.putfield 34, 3) := by decide +kernel
theorem dX10_init_77 : decode cX10_init 77 = .ok (.aload_n 0, 1) := by decide +kernel
theorem dX10_init_78 : decode cX10_init 78 = .ok (.iconst 2, 1) := by decide +kernel
theorem dX10_init_79 : decode cX10_init 79 = .ok (.newarray .boolean, 2) := by decide +kernel
theorem dX10_init_81 : decode cX10_init 81 = .ok (.putfield 37, 3) := by decide +kernel
theorem dX10_init_84 : decode cX10_init 84 = .ok (.aload_n 0, 1) := by decide +kernel
theorem dX10_init_85 : decode cX10_init 85 = .ok (.iconst 2, 1) := by decide +kernel
theorem dX10_init_86 : decode cX10_init 86 = .ok (.newarray .int, 2) := by decide +kernel
theorem dX10_init_88 : decode cX10_init 88 = .ok (.putfield 41, 3) := by decide +kernel
theorem dX10_init_91 : decode cX10_init 91 = .ok (.aload_n 0, 1) := by decide +kernel
theorem dX10_init_92 : decode cX10_init 92 = .ok (.iconst 2, 1) := by decide +kernel
theorem dX10_init_93 : decode cX10_init 93 = .ok (.newarray .int, 2) := by decide +kernel
theorem dX10_init_95 : decode cX10_init 95 = .ok (.putfield 44, 3) := by decide +kernel
theorem dX10_init_98 : decode cX10_init 98 = .ok (.aload_n 0, 1) := by decide +kernel
theorem dX10_init_99 : decode cX10_init 99 = .ok (.iconst 2, 1) := by decide +kernel
theorem dX10_init_100 : decode cX10_init 100 = .ok (.newarray .int, 2) := by decide +kernel
theorem dX10_init_102 : decode cX10_init 102 = .ok (.putfield 47, 3) := by decide +kernel
theorem dX10_init_105 : decode cX10_init 105 = .ok (.aload_n 0, 1) := by decide +kernel
theorem dX10_init_106 : decode cX10_init 106 = .ok (.iconst 2, 1) := by decide +kernel
theorem dX10_init_107 : decode cX10_init 107 = .ok (.newarray .int, 2) := by decide +kernel
theorem dX10_init_109 : decode cX10_init 109 = .ok (.putfield 50, 3) := by decide +kernel
theorem dX10_init_112 : decode cX10_init 112 = .ok (.aload_n 0, 1) := by decide +kernel
theorem dX10_init_113 : decode cX10_init 113 = .ok (.iconst 2, 1) := by decide +kernel
theorem dX10_init_114 : decode cX10_init 114 = .ok (.newarray .int, 2) := by decide +kernel
theorem dX10_init_116 : decode cX10_init 116 = .ok (.putfield 53, 3) := by decide +kernel
theorem dX10_init_119 : decode cX10_init 119 = .ok (.aload_n 0, 1) := by decide +kernel
theorem dX10_init_120 : decode cX10_init 120 = .ok (.iconst 2, 1) := by decide +kernel
theorem dX10_init_121 : decode cX10_init 121 = .ok (.newarray .int, 2) := by decide +kernel
theorem dX10_init_123 : decode cX10_init 123 = .ok (.putfield 56, 3) := by decide +kernel
theorem dX10_init_126 : decode cX10_init 126 = .ok (.aload_n 0, 1) := by decide +kernel
theorem dX10_init_127 : decode cX10_init 127 = .ok (.iconst 2, 1) := by decide +kernel
theorem dX10_init_128 : decode cX10_init 128 = .ok (.newarray .int, 2) := by decide +kernel
theorem dX10_init_130 : decode cX10_init 130 = .ok (.putfield 59, 3) := by decide +kernel
theorem dX10_init_133 : decode cX10_init 133 = .ok (.aload_n 0, 1) := by decide +kernel
theorem dX10_init_134 : decode cX10_init 134 = .ok (.bipush 64, 2) := by decide +kernel
theorem dX10_init_136 : decode cX10_init 136 = .ok (.newarray .int, 2) := by decide +kernel
theorem dX10_init_138 : decode cX10_init 138 = .ok (.putfield 62, 3) := by decide +kernel
theorem dX10_init_141 : decode cX10_init 141 = .ok (.aload_n 0, 1) := by decide +kernel
theorem dX10_init_142 : decode cX10_init 142 = .ok (.bipush 32, 2) := by decide +kernel
theorem dX10_init_144 : decode cX10_init 144 = .ok (.newarray .int, 2) := by decide +kernel
theorem dX10_init_146 : decode cX10_init 146 = .ok (.putfield 65, 3) := by decide +kernel
theorem dX10_init_149 : decode cX10_init 149 = .ok (.aload_n 0, 1) := by decide +kernel
theorem dX10_init_150 : decode cX10_init 150 = .ok (.bipush 32, 2) := by decide +kernel
theorem dX10_init_152 : decode cX10_init 152 = .ok (.newarray .int, 2) := by decide +kernel
theorem dX10_init_154 : decode cX10_init 154 = .ok (.putfield 68, 3) := by decide +kernel
theorem dX10_init_157 : decode cX10_init 157 = .ok (.aload_n 0, 1) := by decide +kernel
theorem dX10_init_158 : decode cX10_init 158 = .ok (.iconst 3, 1) := by decide +kernel
theorem dX10_init_159 : decode cX10_init 159 = .ok (.newarray .int, 2) := by decide +kernel
theorem dX10_init_161 : decode cX10_init 161 = .ok (.putfield 71, 3) := by decide +kernel
theorem dX10_init_164 : decode cX10_init 164 = .ok (.aload_n 0, 1) := by decide +kernel
theorem dX10_init_165 : decode cX10_init 165 = .ok (.iconst 3, 1) := by decide +kernel
theorem dX10_init_166 : decode cX10_init 166 = .ok (.newarray .int, 2) := by decide +kernel
theorem dX10_init_168 : decode cX10_init 168 = .ok (.putfield 74, 3) := by decide +kernel
theorem dX10_init_171 : decode cX10_init 171 = .ok (.aload_n 0, 1) := by decide +kernel
theorem dX10_init_172 : decode cX10_init 172 = .ok (.iconst 3, 1) := by decide +kernel
theorem dX10_init_173 : decode cX10_init 173 = .ok (.newarray .int, 2) := by decide +kernel
theorem dX10_init_175 : decode cX10_init 175 = .ok (.putfield 77, 3) := by decide +kernel
theorem dX10_init_178 : decode cX10_init 178 = .ok (.aload_n 0, 1) := by decide +kernel
theorem dX10_init_179 : decode cX10_init 179 = .ok (.iconst 3, 1) := by decide +kernel
theorem dX10_init_180 : decode cX10_init 180 = .ok (.newarray .int, 2) := by decide +kernel
theorem dX10_init_182 : decode cX10_init 182 = .ok (.putfield 80, 3) := by decide +kernel
theorem dX10_init_185 : decode cX10_init 185 = .ok (.aload_n 0, 1) := by decide +kernel
theorem dX10_init_186 : decode cX10_init 186 = .ok (.iconst 3, 1) := by decide +kernel
theorem dX10_init_187 : decode cX10_init 187 = .ok (.newarray .int, 2) := by decide +kernel
theorem dX10_init_189 : decode cX10_init 189 = .ok (.putfield 83, 3) := by decide +kernel
theorem dX10_init_192 : decode cX10_init 192 = .ok (.aload_n 0, 1) := by decide +kernel
theorem dX10_init_193 : decode cX10_init 193 = .ok (.iconst 3, 1) := by decide +kernel
theorem dX10_init_194 : decode cX10_init 194 = .ok (.newarray .int, 2) := by decide +kernel
theorem dX10_init_196 : decode cX10_init 196 = .ok (.putfield 86, 3) := by decide +kernel
theorem dX10_init_199 : decode cX10_init 199 = .ok (.aload_n 0, 1) := by decide +kernel
theorem dX10_init_200 : decode cX10_init 200 = .ok (.iconst 3, 1) := by decide +kernel
theorem dX10_init_201 : decode cX10_init 201 = .ok (.newarray .int, 2) := by decide +kernel
theorem dX10_init_203 : decode cX10_init 203 = .ok (.putfield 89, 3) := by decide +kernel
theorem dX10_init_206 : decode cX10_init 206 = .ok (.aload_n 0, 1) := by decide +kernel
theorem dX10_init_207 : decode cX10_init 207 = .ok (.iconst 3, 1) := by decide +kernel
theorem dX10_init_208 : decode cX10_init 208 = .ok (.newarray .int, 2) := by decide +kernel
theorem dX10_init_210 : decode cX10_init 210 = .ok (.putfield 92, 3) := by decide +kernel
theorem dX10_init_213 : decode cX10_init 213 = .ok (.aload_n 0, 1) := by decide +kernel
theorem dX10_init_214 : decode cX10_init 214 = .ok (.iconst 3, 1) := by decide +kernel
theorem dX10_init_215 : decode cX10_init 215 = .ok (.newarray .int, 2) := by decide +kernel
theorem dX10_init_217 : decode cX10_init 217 = .ok (.putfield 95, 3) := by decide +kernel
theorem dX10_init_220 : decode cX10_init 220 = .ok (.aload_n 0, 1) := by decide +kernel
theorem dX10_init_221 : decode cX10_init 221 = .ok (.iconst 3, 1) := by decide +kernel
theorem dX10_init_222 : decode cX10_init 222 = .ok (.newarray .int, 2) := by decide +kernel
theorem dX10_init_224 : decode cX10_init 224 = .ok (.putfield 98, 3) := by decide +kernel
theorem dX10_init_227 : decode cX10_init 227 = .ok (.aload_n 0, 1) := by decide +kernel
theorem dX10_init_228 : decode cX10_init 228 = .ok (.sipush 192, 3) := by decide +kernel
theorem dX10_init_231 : decode cX10_init 231 = .ok (.newarray .int, 2) := by decide +kernel
theorem dX10_init_233 : decode cX10_init 233 = .ok (.putfield 101, 3) := by decide +kernel
theorem dX10_init_236 : decode cX10_init 236 = .ok (.aload_n 0, 1) := by decide +kernel
theorem dX10_init_237 : decode cX10_init 237 = .ok (.iconst 3, 1) := by decide +kernel
theorem dX10_init_238 : decode cX10_init 238 = .ok (.newarray .int, 2) := by decide +kernel
theorem dX10_init_240 : decode cX10_init 240 = .ok (.putfield 104, 3) := by decide +kernel
theorem dX10_init_243 : decode cX10_init 243 = .ok (.aload_n 0, 1) := by decide +kernel
theorem dX10_init_244 : decode cX10_init 244 = .ok (.bipush 48, 2) := by decide +kernel
theorem dX10_init_246 : decode cX10_init 246 = .ok (.newarray .int, 2) := by decide +kernel
theorem dX10_init_248 : decode cX10_init 248 = .ok (.putfield 107, 3) := by decide +kernel
theorem dX10_init_251 : decode cX10_init 251 = .ok (.aload_n 0, 1) := by decide +kernel
theorem dX10_init_252 : decode cX10_init 252 = .ok (.iconst 3, 1) := by decide +kernel
theorem dX10_init_253 : decode cX10_init 253 = .ok (.newarray .int, 2) := by decide +kernel
theorem dX10_init_255 : decode cX10_init 255 = .ok (.putfield 110, 3) := by decide +kernel
theorem dX10_init_258 : decode cX10_init 258 = .ok (.aload_n 0, 1) := by decide +kernel
theorem dX10_init_259 : decode cX10_init 259 = .ok (.bipush 18, 2) := by decide +kernel
theorem dX10_init_261 : decode cX10_init 261 = .ok (.newarray .int, 2) := by decide +kernel
theorem dX10_init_263 : decode cX10_init 263 = .ok (.putfield 113, 3) := by decide +kernel
theorem dX10_init_266 : decode cX10_init 266 = .ok (.iconst 0, 1) := by decide +kernel
theorem dX10_init_267 : decode cX10_init 267 = .ok (.istore_n 1, 1) := by decide +kernel
theorem dX10_init_268 : decode cX10_init 268 = .ok (.iload_n 1, 1) := by decide +kernel
theorem dX10_init_269 : decode cX10_init 269 = .ok (.bipush 16, 2) := by decide +kernel
theorem dX10_init_271 : decode cX10_init 271 = .ok (.if_icmp .ge 16, 3) := by decide +kernel
theorem dX10_init_274 : decode cX10_init 274 = .ok (.aload_n 0, 1) := by decide +kernel
theorem dX10_init_275 : decode cX10_init 275 = .ok (.getfield 13, 3) := by decide +kernel
theorem dX10_init_278 : decode cX10_init 278 = .ok (.iload_n 1, 1) := by decide +kernel
theorem dX10_init_279 : decode cX10_init 279 = .ok (.iconst (-1), 1) := by decide +kernel
theorem dX10_init_280 : decode cX10_init 280 = .ok (.iastore, 1) := by decide +kernel
theorem dX10_init_281 : decode cX10_init 281 = .ok (.iinc 1 1, 3) := by decide +kernel
theorem dX10_init_284 : decode cX10_init 284 = .ok (.goto (-16), 3) := by decide +kernel
theorem dX10_init_287 : decode cX10_init 287 = .ok (.return_, 1) := by decide +kernel
theorem dX10_is_0 : decode cX10_is 0 = .ok (.iload_n 0, 1) := by decide +kernel
theorem dX10_is_1 : decode cX10_is 1 = .ok (.iload_n 1, 1) := by decide +kernel
theorem dX10_is_2 : decode cX10_is 2 = .ok (.if_icmp .lt 12, 3) := by decide +kernel
theorem dX10_is_5 : decode cX10_is 5 = .ok (.iload_n 0, 1) := by decide +kernel
theorem dX10_is_6 : decode cX10_is 6 = .ok (.iload_n 2, 1) := by decide +kernel
theorem dX10_is_7 : decode cX10_is 7 = .ok (.if_icmp .gt 7, 3) := by decide +kernel
theorem dX10_is_10 : decode cX10_is 10 = .ok (.iconst 1, 1) := by decide +kernel
theorem dX10_is_11 : decode cX10_is 11 = .ok (.goto 4, 3) := by decide +kernel
theorem dX10_is_14 : decode cX10_is 14 = .ok (.iconst 0, 1) := by decide +kernel
theorem dX10_is_15 : decode cX10_is 15 = .ok (.ireturn, 1) := by decide +kernel
theorem dX10_open_0 : decode cX10_open 0 = .ok (.bipush 11, 2) := by decide +kernel
theorem dX10_open_2 : decode cX10_open 2 = .ok (.istore_n 3, 1) := by decide +kernel
theorem dX10_open_3 : decode cX10_open 3 = .ok (.iload_n 3, 1) := by decide +kernel
theorem dX10_open_4 : decode cX10_open 4 = .ok (.ifCond .le 65, 3) := by decide +kernel
theorem dX10_open_7 : decode cX10_open 7 = .ok (.aload_n 0, 1) := by decide +kernel
theorem dX10_open_8 : decode cX10_open 8 = .ok (.getfield 19, 3) := by decide +kernel
theorem dX10_open_11 : decode cX10_open 11 = .ok (.iload_n 3, 1) := by decide +kernel
theorem dX10_open_12 : decode cX10_open 12 = .ok (.aload_n 0, 1) := by decide +kernel
theorem dX10_open_13 : decode cX10_open 13 = .ok (.getfield 19, 3) := by decide +kernel
theorem dX10_open_16 : decode cX10_open 16 = .ok (.iload_n 3, 1) := by decide +kernel
theorem dX10_open_17 : decode cX10_open 17 = .ok (.iconst 1, 1) := by decide +kernel
theorem dX10_open_18 : decode cX10_open 18 = .ok (.isub, 1) := by decide +kernel
theorem dX10_open_19 : decode cX10_open 19 = .ok (.iaload, 1) := by decide +kernel
theorem dX10_open_20 : decode cX10_open 20 = .ok (.iastore, 1) := by decide +kernel
theorem dX10_open_21 : decode cX10_open 21 = .ok (.iconst 0, 1) := by decide +kernel
theorem dX10_open_22 : decode cX10_open 22 = .ok (.istore 4, 2) := by decide +kernel
theorem dX10_open_24 : decode cX10_open 24 = .ok (.iload 4, 2) := by decide +kernel
theorem dX10_open_26 : decode cX10_open 26 = .ok (.bipush 32, 2) := by decide +kernel
theorem dX10_open_28 : decode cX10_open 28 = .ok (.if_icmp .ge 35, 3) := by decide +kernel
theorem dX10_open_31 : decode cX10_open 31 = .ok (.aload_n 0, 1) := by decide +kernel
theorem dX10_open_32 : decode cX10_open 32 = .ok (.getfield 16, 3) := by decide +kernel
theorem dX10_open_35 : decode cX10_open 35 = .ok (.bipush 32, 2) := by decide +kernel
theorem dX10_open_37 : decode cX10_open 37 = .ok (.iload_n 3, 1) := by decide +kernel
theorem dX10_open_38 : decode cX10_open 38 = .ok (.imul, 1) := by decide +kernel
theorem dX10_open_39 : decode cX10_open 39 = .ok (.iload 4, 2) := by decide +kernel
theorem dX10_open_41 : decode cX10_open 41 = .ok (.iadd, 1) := by decide +kernel
theorem dX10_open_42 : decode cX10_open 42 = .ok (.aload_n 0, 1) := by decide +kernel
theorem dX10_open_43 : decode cX10_open 43 = .ok (.getfield 16, 3) := by decide +kernel
theorem dX10_open_46 : decode cX10_open 46 = .ok (.bipush 32, 2) := by decide +kernel
theorem dX10_open_48 : decode cX10_open 48 = .ok (.iload_n 3, 1) := by decide +kernel
theorem dX10_open_49 : decode cX10_open 49 = .ok (.iconst 1, 1) := by decide +kernel
theorem dX10_open_50 : decode cX10_open 50 = .ok (.isub, 1) := by decide +kernel
theorem dX10_open_51 : decode cX10_open 51 = .ok (.imul, 1) := by decide +kernel
theorem dX10_open_52 : decode cX10_open 52 = .ok (.iload 4, 2) := by decide +kernel
theorem dX10_open_54 : decode cX10_open 54 = .ok (.iadd, 1) := by decide +kernel
theorem dX10_open_55 : decode cX10_open 55 = .ok (.iaload, 1) := by decide +kernel
theorem dX10_open_56 : decode cX10_open 56 = .ok (.iastore, 1) := by decide +kernel
theorem dX10_open_57 : decode cX10_open 57 = .ok (.iinc 4 1, 3) := by decide +kernel
theorem dX10_open_60 : decode cX10_open 60 = .ok (.goto (-36), 3) := by decide +kernel
theorem dX10_open_63 : decode cX10_open 63 = .ok (.iinc 3 (-1), 3) := by decide +kernel
theorem dX10_open_66 : decode cX10_open 66 = .ok (.goto (-63), 3) := by decide +kernel
theorem dX10_open_69 : decode cX10_open 69 = .ok (.aload_n 0, 1) := by decide +kernel
theorem dX10_open_70 : decode cX10_open 70 = .ok (.getfield 19, 3) := by decide +kernel
theorem dX10_open_73 : decode cX10_open 73 = .ok (.iconst 0, 1) := by decide +kernel
theorem dX10_open_74 : decode cX10_open 74 = .ok (.iconst 0, 1) := by decide +kernel
theorem dX10_open_75 : decode cX10_open 75 = .ok (.iastore, 1) := by decide +kernel
theorem dX10_open_76 : decode cX10_open 76 = .ok (.aload_n 0, 1) := by decide +kernel
theorem dX10_open_77 : decode cX10_open 77 = .ok (.iload_n 1, 1) := by decide +kernel
theorem dX10_open_78 : decode cX10_open 78 = .ok (.invokevirtual 116, 3) := by decide +kernel
theorem dX10_open_81 : decode cX10_open 81 = .ok (.aload_n 0, 1) := by decide +kernel
theorem dX10_open_82 : decode cX10_open 82 = .ok (.iconst 1, 1) := by decide +kernel
theorem dX10_open_83 : decode cX10_open 83 = .ok (.invokevirtual 116, 3) := by decide +kernel
theorem dX10_open_86 : decode cX10_open 86 = .ok (.aload_n 0, 1) := by decide +kernel
theorem dX10_open_87 : decode cX10_open 87 = .ok (.iload_n 2, 1) := by decide +kernel
theorem dX10_open_88 : decode cX10_open 88 = .ok (.invokevirtual 116, 3) := by decide +kernel
theorem dX10_open_91 : decode cX10_open 91 = .ok (.aload_n 0, 1) := by decide +kernel
theorem dX10_open_92 : decode cX10_open 92 = .ok (.dup, 1) := by decide +kernel
theorem dX10_open_93 : decode cX10_open 93 = .ok (.getfield 120, 3) := by decide +kernel
theorem dX10_open_96 : decode cX10_open 96 = .ok (.iconst 1, 1) := by decide +kernel
theorem dX10_open_97 : decode cX10_open 97 = .ok (.iadd, 1) := by decide +kernel
theorem dX10_open_98 : decode cX10_open 98 = .ok (.putfield 120, 3) := by decide +kernel
theorem dX10_open_101 : decode cX10_open 101 = .ok (.return_, 1) := by decide +kernel
theorem dX10_put_0 : decode cX10_put 0 = .ok (.aload_n 0, 1) := by decide +kernel
theorem dX10_put_1 : decode cX10_put 1 = .ok (.getfield 16, 3) := by decide +kernel
theorem dX10_put_4 : decode cX10_put 4 = .ok (.aload_n 0, 1) := by decide +kernel
theorem dX10_put_5 : decode cX10_put 5 = .ok (.getfield 19, 3) := by decide +kernel
theorem dX10_put_8 : decode cX10_put 8 = .ok (.iconst 0, 1) := by decide +kernel
theorem dX10_put_9 : decode cX10_put 9 = .ok (.dup2, 1) := by decide +kernel
theorem dX10_put_10 : decode cX10_put 10 = .ok (.iaload, 1) := by decide +kernel
theorem dX10_put_11 : decode cX10_put 11 = .ok (.dup_x2, 1) := by decide +kernel
theorem dX10_put_12 : decode cX10_put 12 = .ok (.iconst 1, 1) := by decide +kernel
theorem dX10_put_13 : decode cX10_put 13 = .ok (.iadd, 1) := by decide +kernel
theorem dX10_put_14 : decode cX10_put 14 = .ok (.iastore, 1) := by decide +kernel
theorem dX10_put_15 : decode cX10_put 15 = .ok (.iload_n 1, 1) := by decide +kernel
theorem dX10_put_16 : decode cX10_put 16 = .ok (.sipush 255, 3) := by decide +kernel
theorem dX10_put_19 : decode cX10_put 19 = .ok (.iand, 1) := by decide +kernel
theorem dX10_put_20 : decode cX10_put 20 = .ok (.iastore, 1) := by decide +kernel
theorem dX10_put_21 : decode cX10_put 21 = .ok (.return_, 1) := by decide +kernel
theorem dX10_datagram_0 : decode cX10_datagram 0 = .ok (.aload_n 0, 1) := by decide +kernel
theorem dX10_datagram_1 : decode cX10_datagram 1 = .ok (.iload_n 1, 1) := by decide +kernel
theorem dX10_datagram_2 : decode cX10_datagram 2 = .ok (.iconst 3, 1) := by decide +kernel
theorem dX10_datagram_3 : decode cX10_datagram 3 = .ok (.invokevirtual 124, 3) := by decide +kernel
theorem dX10_datagram_6 : decode cX10_datagram 6 = .ok (.iconst 1, 1) := by decide +kernel
theorem dX10_datagram_7 : decode cX10_datagram 7 = .ok (.iload_n 2, 1) := by decide +kernel
theorem dX10_datagram_8 : decode cX10_datagram 8 = .ok (.iadd, 1) := by decide +kernel
theorem dX10_datagram_9 : decode cX10_datagram 9 = .ok (.iload_n 3, 1) := by decide +kernel
theorem dX10_datagram_10 : decode cX10_datagram 10 = .ok (.iadd, 1) := by decide +kernel
theorem dX10_datagram_11 : decode cX10_datagram 11 = .ok (.iload 4, 2) := by decide +kernel
theorem dX10_datagram_13 : decode cX10_datagram 13 = .ok (.iadd, 1) := by decide +kernel
theorem dX10_datagram_14 : decode cX10_datagram 14 = .ok (.iload 5, 2) := by decide +kernel
theorem dX10_datagram_16 : decode cX10_datagram 16 = .ok (.iadd, 1) := by decide +kernel
theorem dX10_datagram_17 : decode cX10_datagram 17 = .ok (.istore 8, 2) := by decide +kernel
theorem dX10_datagram_19 : decode cX10_datagram 19 = .ok (.iload 6, 2) := by decide +kernel
theorem dX10_datagram_21 : decode cX10_datagram 21 = .ok (.istore 9, 2) := by decide +kernel
theorem dX10_datagram_23 : decode cX10_datagram 23 = .ok (.iload 9, 2) := by decide +kernel
theorem dX10_datagram_25 : decode cX10_datagram 25 = .ok (.iload 6, 2) := by decide +kernel
theorem dX10_datagram_27 : decode cX10_datagram 27 = .ok (.iload 7, 2) := by decide +kernel
theorem dX10_datagram_29 : decode cX10_datagram 29 = .ok (.iadd, 1) := by decide +kernel
theorem dX10_datagram_30 : decode cX10_datagram 30 = .ok (.if_icmp .ge 21, 3) := by decide +kernel
theorem dX10_datagram_33 : decode cX10_datagram 33 = .ok (.iload 8, 2) := by decide +kernel
theorem dX10_datagram_35 : decode cX10_datagram 35 = .ok (.aload_n 0, 1) := by decide +kernel
theorem dX10_datagram_36 : decode cX10_datagram 36 = .ok (.getfield 68, 3) := by decide +kernel
theorem dX10_datagram_39 : decode cX10_datagram 39 = .ok (.iload 9, 2) := by decide +kernel
theorem dX10_datagram_41 : decode cX10_datagram 41 = .ok (.iaload, 1) := by decide +kernel
theorem dX10_datagram_42 : decode cX10_datagram 42 = .ok (.iadd, 1) := by decide +kernel
theorem dX10_datagram_43 : decode cX10_datagram 43 = .ok (.istore 8, 2) := by decide +kernel
theorem dX10_datagram_45 : decode cX10_datagram 45 = .ok (.iinc 9 1, 3) := by decide +kernel
theorem dX10_datagram_48 : decode cX10_datagram 48 = .ok (.goto (-25), 3) := by decide +kernel
theorem dX10_datagram_51 : decode cX10_datagram 51 = .ok (.aload_n 0, 1) := by decide +kernel
theorem dX10_datagram_52 : decode cX10_datagram 52 = .ok (.iconst 1, 1) := by decide +kernel
theorem dX10_datagram_53 : decode cX10_datagram 53 = .ok (.invokevirtual 116, 3) := by decide +kernel
theorem dX10_datagram_56 : decode cX10_datagram 56 = .ok (.aload_n 0, 1) := by decide +kernel
theorem dX10_datagram_57 : decode cX10_datagram 57 = .ok (.iload_n 2, 1) := by decide +kernel
theorem dX10_datagram_58 : decode cX10_datagram 58 = .ok (.invokevirtual 116, 3) := by decide +kernel
theorem dX10_datagram_61 : decode cX10_datagram 61 = .ok (.aload_n 0, 1) := by decide +kernel
theorem dX10_datagram_62 : decode cX10_datagram 62 = .ok (.iload_n 3, 1) := by decide +kernel
theorem dX10_datagram_63 : decode cX10_datagram 63 = .ok (.invokevirtual 116, 3) := by decide +kernel
theorem dX10_datagram_66 : decode cX10_datagram 66 = .ok (.aload_n 0, 1) := by decide +kernel
theorem dX10_datagram_67 : decode cX10_datagram 67 = .ok (.iload 4, 2) := by decide +kernel
theorem dX10_datagram_69 : decode cX10_datagram 69 = .ok (.invokevirtual 116, 3) := by decide +kernel
theorem dX10_datagram_72 : decode cX10_datagram 72 = .ok (.aload_n 0, 1) := by decide +kernel
theorem dX10_datagram_73 : decode cX10_datagram 73 = .ok (.iload 5, 2) := by decide +kernel
theorem dX10_datagram_75 : decode cX10_datagram 75 = .ok (.invokevirtual 116, 3) := by decide +kernel
theorem dX10_datagram_78 : decode cX10_datagram 78 = .ok (.aload_n 0, 1) := by decide +kernel
theorem dX10_datagram_79 : decode cX10_datagram 79 = .ok (.iload 8, 2) := by decide +kernel
theorem dX10_datagram_81 : decode cX10_datagram 81 = .ok (.ineg, 1) := by decide +kernel
theorem dX10_datagram_82 : decode cX10_datagram 82 = .ok (.invokevirtual 116, 3) := by decide +kernel
theorem dX10_datagram_85 : decode cX10_datagram 85 = .ok (.iload 6, 2) := by decide +kernel
theorem dX10_datagram_87 : decode cX10_datagram 87 = .ok (.istore 9, 2) := by decide +kernel
theorem dX10_datagram_89 : decode cX10_datagram 89 = .ok (.iload 9, 2) := by decide +kernel
theorem dX10_datagram_91 : decode cX10_datagram 91 = .ok (.iload 6, 2) := by decide +kernel
theorem dX10_datagram_93 : decode cX10_datagram 93 = .ok (.iload 7, 2) := by decide +kernel
theorem dX10_datagram_95 : decode cX10_datagram 95 = .ok (.iadd, 1) := by decide +kernel
theorem dX10_datagram_96 : decode cX10_datagram 96 = .ok (.if_icmp .ge 20, 3) := by decide +kernel
theorem dX10_datagram_99 : decode cX10_datagram 99 = .ok (.aload_n 0, 1) := by decide +kernel
theorem dX10_datagram_100 : decode cX10_datagram 100 = .ok (.aload_n 0, 1) := by decide +kernel
theorem dX10_datagram_101 : decode cX10_datagram 101 = .ok (.getfield 68, 3) := by decide +kernel
theorem dX10_datagram_104 : decode cX10_datagram 104 = .ok (.iload 9, 2) := by decide +kernel
theorem dX10_datagram_106 : decode cX10_datagram 106 = .ok (.iaload, 1) := by decide +kernel
theorem dX10_datagram_107 : decode cX10_datagram 107 = .ok (.invokevirtual 116, 3) := by decide +kernel
theorem dX10_datagram_110 : decode cX10_datagram 110 = .ok (.iinc 9 1, 3) := by decide +kernel
theorem dX10_datagram_113 : decode cX10_datagram 113 = .ok (.goto (-24), 3) := by decide +kernel
theorem dX10_datagram_116 : decode cX10_datagram 116 = .ok (.return_, 1) := by decide +kernel
theorem dX10_sendTo_0 : decode cX10_sendTo 0 = .ok (.aload_n 0, 1) := by decide +kernel
theorem dX10_sendTo_1 : decode cX10_sendTo 1 = .ok (.getfield 13, 3) := by decide +kernel
theorem dX10_sendTo_4 : decode cX10_sendTo 4 = .ok (.iload_n 1, 1) := by decide +kernel
theorem dX10_sendTo_5 : decode cX10_sendTo 5 = .ok (.iaload, 1) := by decide +kernel
theorem dX10_sendTo_6 : decode cX10_sendTo 6 = .ok (.istore_n 3, 1) := by decide +kernel
theorem dX10_sendTo_7 : decode cX10_sendTo 7 = .ok (.iload_n 3, 1) := by decide +kernel
theorem dX10_sendTo_8 : decode cX10_sendTo 8 = .ok (.ifCond .ge 21, 3) := by decide +kernel
theorem dX10_sendTo_11 : decode cX10_sendTo 11 = .ok (.aload_n 0, 1) := by decide +kernel
theorem dX10_sendTo_12 : decode cX10_sendTo 12 = .ok (.bipush 15, 2) := by decide +kernel
theorem dX10_sendTo_14 : decode cX10_sendTo 14 = .ok (.iconst 1, 1) := by decide +kernel
theorem dX10_sendTo_15 : decode cX10_sendTo 15 = .ok (.invokevirtual 124, 3) := by decide +kernel
theorem dX10_sendTo_18 : decode cX10_sendTo 18 = .ok (.aload_n 0, 1) := by decide +kernel
theorem dX10_sendTo_19 : decode cX10_sendTo 19 = .ok (.iconst 1, 1) := by decide +kernel
theorem dX10_sendTo_20 : decode cX10_sendTo 20 = .ok (.invokevirtual 116, 3) := by decide +kernel
theorem dX10_sendTo_23 : decode cX10_sendTo 23 = .ok (.aload_n 0, 1) := by decide +kernel
theorem dX10_sendTo_24 : decode cX10_sendTo 24 = .ok (.iload_n 1, 1) := by decide +kernel
theorem dX10_sendTo_25 : decode cX10_sendTo 25 = .ok (.invokevirtual 116, 3) := by decide +kernel
theorem dX10_sendTo_28 : decode cX10_sendTo 28 = .ok (.return_, 1) := by decide +kernel
theorem dX10_sendTo_29 : decode cX10_sendTo 29 = .ok (.aload_n 0, 1) := by decide +kernel
theorem dX10_sendTo_30 : decode cX10_sendTo 30 = .ok (.dup, 1) := by decide +kernel
theorem dX10_sendTo_31 : decode cX10_sendTo 31 = .ok (.getfield 128, 3) := by decide +kernel
theorem dX10_sendTo_34 : decode cX10_sendTo 34 = .ok (.dup_x1, 1) := by decide +kernel
theorem dX10_sendTo_35 : decode cX10_sendTo 35 = .ok (.iconst 1, 1) := by decide +kernel
theorem dX10_sendTo_36 : decode cX10_sendTo 36 = .ok (.iadd, 1) := by decide +kernel
theorem dX10_sendTo_37 : decode cX10_sendTo 37 = .ok (.putfield 128, 3) := by decide +kernel
theorem dX10_sendTo_40 : decode cX10_sendTo 40 = .ok (.sipush 255, 3) := by decide +kernel
theorem dX10_sendTo_43 : decode cX10_sendTo 43 = .ok (.iand, 1) := by decide +kernel
theorem dX10_sendTo_44 : decode cX10_sendTo 44 = .ok (.istore 4, 2) := by decide +kernel
theorem dX10_sendTo_46 : decode cX10_sendTo 46 = .ok (.aload_n 0, 1) := by decide +kernel
theorem dX10_sendTo_47 : decode cX10_sendTo 47 = .ok (.getfield 131, 3) := by decide +kernel
theorem dX10_sendTo_50 : decode cX10_sendTo 50 = .ok (.bipush 16, 2) := by decide +kernel
theorem dX10_sendTo_52 : decode cX10_sendTo 52 = .ok (.if_icmp .le 40, 3) := by decide +kernel
theorem dX10_sendTo_55 : decode cX10_sendTo 55 = .ok (.aload_n 0, 1) := by decide +kernel
theorem dX10_sendTo_56 : decode cX10_sendTo 56 = .ok (.iload_n 3, 1) := by decide +kernel
theorem dX10_sendTo_57 : decode cX10_sendTo 57 = .ok (.iload_n 1, 1) := by decide +kernel
theorem dX10_sendTo_58 : decode cX10_sendTo 58 = .ok (.iload 4, 2) := by decide +kernel
theorem dX10_sendTo_60 : decode cX10_sendTo 60 = .ok (.sipush 128, 3) := by decide +kernel
theorem dX10_sendTo_63 : decode cX10_sendTo 63 = .ok (.iload_n 2, 1) := by decide +kernel
theorem dX10_sendTo_64 : decode cX10_sendTo 64 = .ok (.iconst 0, 1) := by decide +kernel
theorem dX10_sendTo_65 : decode cX10_sendTo 65 = .ok (.bipush 16, 2) := by decide +kernel
theorem dX10_sendTo_67 : decode cX10_sendTo 67 = .ok (.invokevirtual 134, 3) := by decide +kernel
theorem dX10_sendTo_70 : decode cX10_sendTo 70 = .ok (.aload_n 0, 1) := by decide +kernel
theorem dX10_sendTo_71 : decode cX10_sendTo 71 = .ok (.iload_n 3, 1) := by decide +kernel
theorem dX10_sendTo_72 : decode cX10_sendTo 72 = .ok (.iload_n 1, 1) := by decide +kernel
theorem dX10_sendTo_73 : decode cX10_sendTo 73 = .ok (.iload 4, 2) := by decide +kernel
theorem dX10_sendTo_75 : decode cX10_sendTo 75 = .ok (.iconst 4, 1) := by decide +kernel
theorem dX10_sendTo_76 : decode cX10_sendTo 76 = .ok (.iload_n 2, 1) := by decide +kernel
theorem dX10_sendTo_77 : decode cX10_sendTo 77 = .ok (.bipush 16, 2) := by decide +kernel
theorem dX10_sendTo_79 : decode cX10_sendTo 79 = .ok (.aload_n 0, 1) := by decide +kernel
theorem dX10_sendTo_80 : decode cX10_sendTo 80 = .ok (.getfield 131, 3) := by decide +kernel
theorem dX10_sendTo_83 : decode cX10_sendTo 83 = .ok (.bipush 16, 2) := by decide +kernel
theorem dX10_sendTo_85 : decode cX10_sendTo 85 = .ok (.isub, 1) := by decide +kernel
theorem dX10_sendTo_86 : decode cX10_sendTo 86 = .ok (.invokevirtual 134, 3) := by decide +kernel
theorem dX10_sendTo_89 : decode cX10_sendTo 89 = .ok (.goto 18, 3) := by decide +kernel
theorem dX10_sendTo_92 : decode cX10_sendTo 92 = .ok (.aload_n 0, 1) := by decide +kernel
theorem dX10_sendTo_93 : decode cX10_sendTo 93 = .ok (.iload_n 3, 1) := by decide +kernel
theorem dX10_sendTo_94 : decode cX10_sendTo 94 = .ok (.iload_n 1, 1) := by decide +kernel
theorem dX10_sendTo_95 : decode cX10_sendTo 95 = .ok (.iload 4, 2) := by decide +kernel
theorem dX10_sendTo_97 : decode cX10_sendTo 97 = .ok (.iconst 0, 1) := by decide +kernel
theorem dX10_sendTo_98 : decode cX10_sendTo 98 = .ok (.iload_n 2, 1) := by decide +kernel
theorem dX10_sendTo_99 : decode cX10_sendTo 99 = .ok (.iconst 0, 1) := by decide +kernel
theorem dX10_sendTo_100 : decode cX10_sendTo 100 = .ok (.aload_n 0, 1) := by decide +kernel
theorem dX10_sendTo_101 : decode cX10_sendTo 101 = .ok (.getfield 131, 3) := by decide +kernel
theorem dX10_sendTo_104 : decode cX10_sendTo 104 = .ok (.invokevirtual 134, 3) := by decide +kernel
theorem dX10_sendTo_107 : decode cX10_sendTo 107 = .ok (.return_, 1) := by decide +kernel
theorem dX10_octet_0 : decode cX10_octet 0 = .ok (.iload_n 1, 1) := by decide +kernel
theorem dX10_octet_1 : decode cX10_octet 1 = .ok (.iconst 0, 1) := by decide +kernel
theorem dX10_octet_2 : decode cX10_octet 2 = .ok (.sipush 255, 3) := by decide +kernel
theorem dX10_octet_5 : decode cX10_octet 5 = .ok (.invokestatic 138, 3) := by decide +kernel
theorem dX10_octet_8 : decode cX10_octet 8 = .ok (.ifCond .ne 5, 3) := by decide +kernel
theorem dX10_octet_11 : decode cX10_octet 11 = .ok (.iconst (-1), 1) := by decide +kernel
theorem dX10_octet_12 : decode cX10_octet 12 = .ok (.ireturn, 1) := by decide +kernel
theorem dX10_octet_13 : decode cX10_octet 13 = .ok (.aload_n 0, 1) := by decide +kernel
theorem dX10_octet_14 : decode cX10_octet 14 = .ok (.getfield 142, 3) := by decide +kernel
theorem dX10_octet_17 : decode cX10_octet 17 = .ok (.bipush 44, 2) := by decide +kernel
theorem dX10_octet_19 : decode cX10_octet 19 = .ok (.if_icmp .ne 6, 3) := by decide +kernel
theorem dX10_octet_22 : decode cX10_octet 22 = .ok (.bipush (-2), 2) := by decide +kernel
theorem dX10_octet_24 : decode cX10_octet 24 = .ok (.ireturn, 1) := by decide +kernel
theorem dX10_octet_25 : decode cX10_octet 25 = .ok (.aload_n 0, 1) := by decide +kernel
theorem dX10_octet_26 : decode cX10_octet 26 = .ok (.getfield 7, 3) := by decide +kernel
theorem dX10_octet_29 : decode cX10_octet 29 = .ok (.aload_n 0, 1) := by decide +kernel
theorem dX10_octet_30 : decode cX10_octet 30 = .ok (.getfield 142, 3) := by decide +kernel
theorem dX10_octet_33 : decode cX10_octet 33 = .ok (.iload_n 1, 1) := by decide +kernel
theorem dX10_octet_34 : decode cX10_octet 34 = .ok (.iastore, 1) := by decide +kernel
theorem dX10_octet_35 : decode cX10_octet 35 = .ok (.aload_n 0, 1) := by decide +kernel
theorem dX10_octet_36 : decode cX10_octet 36 = .ok (.dup, 1) := by decide +kernel
theorem dX10_octet_37 : decode cX10_octet 37 = .ok (.getfield 142, 3) := by decide +kernel
theorem dX10_octet_40 : decode cX10_octet 40 = .ok (.iconst 1, 1) := by decide +kernel
theorem dX10_octet_41 : decode cX10_octet 41 = .ok (.iadd, 1) := by decide +kernel
theorem dX10_octet_42 : decode cX10_octet 42 = .ok (.dup_x1, 1) := by decide +kernel
theorem dX10_octet_43 : decode cX10_octet 43 = .ok (.putfield 142, 3) := by decide +kernel
theorem dX10_octet_46 : decode cX10_octet 46 = .ok (.ireturn, 1) := by decide +kernel
theorem dX10_isGood_0 : decode cX10_isGood 0 = .ok (.iload_n 1, 1) := by decide +kernel
theorem dX10_isGood_1 : decode cX10_isGood 1 = .ok (.iconst 5, 1) := by decide +kernel
theorem dX10_isGood_2 : decode cX10_isGood 2 = .ok (.bipush 41, 2) := by decide +kernel
theorem dX10_isGood_4 : decode cX10_isGood 4 = .ok (.invokestatic 138, 3) := by decide +kernel
theorem dX10_isGood_7 : decode cX10_isGood 7 = .ok (.ifCond .eq 71, 3) := by decide +kernel
theorem dX10_isGood_10 : decode cX10_isGood 10 = .ok (.aload_n 0, 1) := by decide +kernel
theorem dX10_isGood_11 : decode cX10_isGood 11 = .ok (.getfield 7, 3) := by decide +kernel
theorem dX10_isGood_14 : decode cX10_isGood 14 = .ok (.iconst 0, 1) := by decide +kernel
theorem dX10_isGood_15 : decode cX10_isGood 15 = .ok (.iaload, 1) := by decide +kernel
theorem dX10_isGood_16 : decode cX10_isGood 16 = .ok (.iconst 1, 1) := by decide +kernel
theorem dX10_isGood_17 : decode cX10_isGood 17 = .ok (.if_icmp .eq 14, 3) := by decide +kernel
theorem dX10_isGood_20 : decode cX10_isGood 20 = .ok (.aload_n 0, 1) := by decide +kernel
theorem dX10_isGood_21 : decode cX10_isGood 21 = .ok (.getfield 7, 3) := by decide +kernel
theorem dX10_isGood_24 : decode cX10_isGood 24 = .ok (.iconst 0, 1) := by decide +kernel
theorem dX10_isGood_25 : decode cX10_isGood 25 = .ok (.iaload, 1) := by decide +kernel
theorem dX10_isGood_26 : decode cX10_isGood 26 = .ok (.bipush 15, 2) := by decide +kernel
theorem dX10_isGood_28 : decode cX10_isGood 28 = .ok (.if_icmp .ne 50, 3) := by decide +kernel
theorem dX10_isGood_31 : decode cX10_isGood 31 = .ok (.aload_n 0, 1) := by decide +kernel
theorem dX10_isGood_32 : decode cX10_isGood 32 = .ok (.getfield 7, 3) := by decide +kernel
theorem dX10_isGood_35 : decode cX10_isGood 35 = .ok (.iconst 1, 1) := by decide +kernel
theorem dX10_isGood_36 : decode cX10_isGood 36 = .ok (.iaload, 1) := by decide +kernel
theorem dX10_isGood_37 : decode cX10_isGood 37 = .ok (.bipush 14, 2) := by decide +kernel
theorem dX10_isGood_39 : decode cX10_isGood 39 = .ok (.if_icmp .gt 39, 3) := by decide +kernel
theorem dX10_isGood_42 : decode cX10_isGood 42 = .ok (.aload_n 0, 1) := by decide +kernel
theorem dX10_isGood_43 : decode cX10_isGood 43 = .ok (.getfield 7, 3) := by decide +kernel
theorem dX10_isGood_46 : decode cX10_isGood 46 = .ok (.iconst 2, 1) := by decide +kernel
theorem dX10_isGood_47 : decode cX10_isGood 47 = .ok (.iaload, 1) := by decide +kernel
theorem dX10_isGood_48 : decode cX10_isGood 48 = .ok (.iconst 1, 1) := by decide +kernel
theorem dX10_isGood_49 : decode cX10_isGood 49 = .ok (.iconst 3, 1) := by decide +kernel
theorem dX10_isGood_50 : decode cX10_isGood 50 = .ok (.invokestatic 138, 3) := by decide +kernel
theorem dX10_isGood_53 : decode cX10_isGood 53 = .ok (.ifCond .eq 25, 3) := by decide +kernel
theorem dX10_isGood_56 : decode cX10_isGood 56 = .ok (.aload_n 0, 1) := by decide +kernel
theorem dX10_isGood_57 : decode cX10_isGood 57 = .ok (.getfield 7, 3) := by decide +kernel
theorem dX10_isGood_60 : decode cX10_isGood 60 = .ok (.iconst 3, 1) := by decide +kernel
theorem dX10_isGood_61 : decode cX10_isGood 61 = .ok (.iaload, 1) := by decide +kernel
theorem dX10_isGood_62 : decode cX10_isGood 62 = .ok (.bipush 15, 2) := by decide +kernel
theorem dX10_isGood_64 : decode cX10_isGood 64 = .ok (.if_icmp .gt 14, 3) := by decide +kernel
theorem dX10_isGood_67 : decode cX10_isGood 67 = .ok (.aload_n 0, 1) := by decide +kernel
theorem dX10_isGood_68 : decode cX10_isGood 68 = .ok (.getfield 7, 3) := by decide +kernel
theorem dX10_isGood_71 : decode cX10_isGood 71 = .ok (.iconst 4, 1) := by decide +kernel
theorem dX10_isGood_72 : decode cX10_isGood 72 = .ok (.iaload, 1) := by decide +kernel
theorem dX10_isGood_73 : decode cX10_isGood 73 = .ok (.bipush 15, 2) := by decide +kernel
theorem dX10_isGood_75 : decode cX10_isGood 75 = .ok (.if_icmp .le 5, 3) := by decide +kernel
theorem dX10_isGood_78 : decode cX10_isGood 78 = .ok (.iconst 0, 1) := by decide +kernel
theorem dX10_isGood_79 : decode cX10_isGood 79 = .ok (.ireturn, 1) := by decide +kernel
theorem dX10_isGood_80 : decode cX10_isGood 80 = .ok (.aload_n 0, 1) := by decide +kernel
theorem dX10_isGood_81 : decode cX10_isGood 81 = .ok (.getfield 7, 3) := by decide +kernel
theorem dX10_isGood_84 : decode cX10_isGood 84 = .ok (.iconst 2, 1) := by decide +kernel
theorem dX10_isGood_85 : decode cX10_isGood 85 = .ok (.iaload, 1) := by decide +kernel
theorem dX10_isGood_86 : decode cX10_isGood 86 = .ok (.iconst 3, 1) := by decide +kernel
theorem dX10_isGood_87 : decode cX10_isGood 87 = .ok (.if_icmp .ge 14, 3) := by decide +kernel
theorem dX10_isGood_90 : decode cX10_isGood 90 = .ok (.iload_n 1, 1) := by decide +kernel
theorem dX10_isGood_91 : decode cX10_isGood 91 = .ok (.iconst 5, 1) := by decide +kernel
theorem dX10_isGood_92 : decode cX10_isGood 92 = .ok (.if_icmp .ne 7, 3) := by decide +kernel
theorem dX10_isGood_95 : decode cX10_isGood 95 = .ok (.iconst 1, 1) := by decide +kernel
theorem dX10_isGood_96 : decode cX10_isGood 96 = .ok (.goto 4, 3) := by decide +kernel
theorem dX10_isGood_99 : decode cX10_isGood 99 = .ok (.iconst 0, 1) := by decide +kernel
theorem dX10_isGood_100 : decode cX10_isGood 100 = .ok (.ireturn, 1) := by decide +kernel
theorem dX10_isGood_101 : decode cX10_isGood 101 = .ok (.iconst 0, 1) := by decide +kernel
theorem dX10_isGood_102 : decode cX10_isGood 102 = .ok (.istore_n 2, 1) := by decide +kernel
theorem dX10_isGood_103 : decode cX10_isGood 103 = .ok (.iconst 3, 1) := by decide +kernel
theorem dX10_isGood_104 : decode cX10_isGood 104 = .ok (.istore_n 3, 1) := by decide +kernel
theorem dX10_isGood_105 : decode cX10_isGood 105 = .ok (.iload_n 3, 1) := by decide +kernel
theorem dX10_isGood_106 : decode cX10_isGood 106 = .ok (.iload_n 1, 1) := by decide +kernel
theorem dX10_isGood_107 : decode cX10_isGood 107 = .ok (.if_icmp .ge 18, 3) := by decide +kernel
theorem dX10_isGood_110 : decode cX10_isGood 110 = .ok (.iload_n 2, 1) := by decide +kernel
theorem dX10_isGood_111 : decode cX10_isGood 111 = .ok (.aload_n 0, 1) := by decide +kernel
theorem dX10_isGood_112 : decode cX10_isGood 112 = .ok (.getfield 7, 3) := by decide +kernel
theorem dX10_isGood_115 : decode cX10_isGood 115 = .ok (.iload_n 3, 1) := by decide +kernel
theorem dX10_isGood_116 : decode cX10_isGood 116 = .ok (.iaload, 1) := by decide +kernel
theorem dX10_isGood_117 : decode cX10_isGood 117 = .ok (.iadd, 1) := by decide +kernel
theorem dX10_isGood_118 : decode cX10_isGood 118 = .ok (.istore_n 2, 1) := by decide +kernel
theorem dX10_isGood_119 : decode cX10_isGood 119 = .ok (.iinc 3 1, 3) := by decide +kernel
theorem dX10_isGood_122 : decode cX10_isGood 122 = .ok (.goto (-17), 3) := by decide +kernel
theorem dX10_isGood_125 : decode cX10_isGood 125 = .ok (.iload_n 1, 1) := by decide +kernel
theorem dX10_isGood_126 : decode cX10_isGood 126 = .ok (.bipush 9, 2) := by decide +kernel
theorem dX10_isGood_128 : decode cX10_isGood 128 = .ok (.if_icmp .lt 21, 3) := by decide +kernel
theorem dX10_isGood_131 : decode cX10_isGood 131 = .ok (.iload_n 2, 1) := by decide +kernel
theorem dX10_isGood_132 : decode cX10_isGood 132 = .ok (.sipush 255, 3) := by decide +kernel
theorem dX10_isGood_135 : decode cX10_isGood 135 = .ok (.iand, 1) := by decide +kernel
theorem dX10_isGood_136 : decode cX10_isGood 136 = .ok (.ifCond .ne 13, 3) := by decide +kernel
theorem dX10_isGood_139 : decode cX10_isGood 139 = .ok (.aload_n 0, 1) := by decide +kernel
theorem dX10_isGood_140 : decode cX10_isGood 140 = .ok (.getfield 7, 3) := by decide +kernel
theorem dX10_isGood_143 : decode cX10_isGood 143 = .ok (.iconst 4, 1) := by decide +kernel
theorem dX10_isGood_144 : decode cX10_isGood 144 = .ok (.iaload, 1) := by decide +kernel
theorem dX10_isGood_145 : decode cX10_isGood 145 = .ok (.iconst 1, 1) := by decide +kernel
theorem dX10_isGood_146 : decode cX10_isGood 146 = .ok (.if_icmp .eq 5, 3) := by decide +kernel
theorem dX10_isGood_149 : decode cX10_isGood 149 = .ok (.iconst 0, 1) := by decide +kernel
theorem dX10_isGood_150 : decode cX10_isGood 150 = .ok (.ireturn, 1) := by decide +kernel
theorem dX10_isGood_151 : decode cX10_isGood 151 = .ok (.aload_n 0, 1) := by decide +kernel
theorem dX10_isGood_152 : decode cX10_isGood 152 = .ok (.getfield 7, 3) := by decide +kernel
theorem dX10_isGood_155 : decode cX10_isGood 155 = .ok (.bipush 6, 2) := by decide +kernel
theorem dX10_isGood_157 : decode cX10_isGood 157 = .ok (.iaload, 1) := by decide +kernel
theorem dX10_isGood_158 : decode cX10_isGood 158 = .ok (.istore_n 3, 1) := by decide +kernel
theorem dX10_isGood_159 : decode cX10_isGood 159 = .ok (.iload_n 3, 1) := by decide +kernel
theorem dX10_isGood_160 : decode cX10_isGood 160 = .ok (.bipush 127, 2) := by decide +kernel
theorem dX10_isGood_162 : decode cX10_isGood 162 = .ok (.iand, 1) := by decide +kernel
theorem dX10_isGood_163 : decode cX10_isGood 163 = .ok (.istore 4, 2) := by decide +kernel
theorem dX10_isGood_165 : decode cX10_isGood 165 = .ok (.iload_n 1, 1) := by decide +kernel
theorem dX10_isGood_166 : decode cX10_isGood 166 = .ok (.bipush 9, 2) := by decide +kernel
theorem dX10_isGood_168 : decode cX10_isGood 168 = .ok (.isub, 1) := by decide +kernel
theorem dX10_isGood_169 : decode cX10_isGood 169 = .ok (.istore 5, 2) := by decide +kernel
theorem dX10_isGood_171 : decode cX10_isGood 171 = .ok (.iload_n 3, 1) := by decide +kernel
theorem dX10_isGood_172 : decode cX10_isGood 172 = .ok (.ifCond .eq 41, 3) := by decide +kernel
theorem dX10_isGood_175 : decode cX10_isGood 175 = .ok (.iload 4, 2) := by decide +kernel
theorem dX10_isGood_177 : decode cX10_isGood 177 = .ok (.bipush 8, 2) := by decide +kernel
theorem dX10_isGood_179 : decode cX10_isGood 179 = .ok (.if_icmp .ge 38, 3) := by decide +kernel
theorem dX10_isGood_182 : decode cX10_isGood 182 = .ok (.iconst 4, 1) := by decide +kernel
theorem dX10_isGood_183 : decode cX10_isGood 183 = .ok (.iload 4, 2) := by decide +kernel
theorem dX10_isGood_185 : decode cX10_isGood 185 = .ok (.imul, 1) := by decide +kernel
theorem dX10_isGood_186 : decode cX10_isGood 186 = .ok (.iload 5, 2) := by decide +kernel
theorem dX10_isGood_188 : decode cX10_isGood 188 = .ok (.iadd, 1) := by decide +kernel
theorem dX10_isGood_189 : decode cX10_isGood 189 = .ok (.bipush 33, 2) := by decide +kernel
theorem dX10_isGood_191 : decode cX10_isGood 191 = .ok (.if_icmp .ge 26, 3) := by decide +kernel
theorem dX10_isGood_194 : decode cX10_isGood 194 = .ok (.iload_n 3, 1) := by decide +kernel
theorem dX10_isGood_195 : decode cX10_isGood 195 = .ok (.sipush 128, 3) := by decide +kernel
theorem dX10_isGood_198 : decode cX10_isGood 198 = .ok (.if_icmp .lt 15, 3) := by decide +kernel
theorem dX10_isGood_201 : decode cX10_isGood 201 = .ok (.iload 5, 2) := by decide +kernel
theorem dX10_isGood_203 : decode cX10_isGood 203 = .ok (.ifCond .le 14, 3) := by decide +kernel
theorem dX10_isGood_206 : decode cX10_isGood 206 = .ok (.iload 5, 2) := by decide +kernel
theorem dX10_isGood_208 : decode cX10_isGood 208 = .ok (.iconst 4, 1) := by decide +kernel
theorem dX10_isGood_209 : decode cX10_isGood 209 = .ok (.irem, 1) := by decide +kernel
theorem dX10_isGood_210 : decode cX10_isGood 210 = .ok (.ifCond .ne 7, 3) := by decide +kernel
theorem dX10_isGood_213 : decode cX10_isGood 213 = .ok (.iconst 1, 1) := by decide +kernel
theorem dX10_isGood_214 : decode cX10_isGood 214 = .ok (.goto 4, 3) := by decide +kernel
theorem dX10_isGood_217 : decode cX10_isGood 217 = .ok (.iconst 0, 1) := by decide +kernel
theorem dX10_isGood_218 : decode cX10_isGood 218 = .ok (.ireturn, 1) := by decide +kernel
theorem dX10_arrive_0 : decode cX10_arrive 0 = .ok (.aload_n 0, 1) := by decide +kernel
theorem dX10_arrive_1 : decode cX10_arrive 1 = .ok (.getfield 142, 3) := by decide +kernel
theorem dX10_arrive_4 : decode cX10_arrive 4 = .ok (.istore_n 1, 1) := by decide +kernel
theorem dX10_arrive_5 : decode cX10_arrive 5 = .ok (.aload_n 0, 1) := by decide +kernel
theorem dX10_arrive_6 : decode cX10_arrive 6 = .ok (.getfield 120, 3) := by decide +kernel
theorem dX10_arrive_9 : decode cX10_arrive 9 = .ok (.istore_n 2, 1) := by decide +kernel
theorem dX10_arrive_10 : decode cX10_arrive 10 = .ok (.aload_n 0, 1) := by decide +kernel
theorem dX10_arrive_11 : decode cX10_arrive 11 = .ok (.iconst 0, 1) := by decide +kernel
theorem dX10_arrive_12 : decode cX10_arrive 12 = .ok (.putfield 142, 3) := by decide +kernel
theorem dX10_arrive_15 : decode cX10_arrive 15 = .ok (.aload_n 0, 1) := by decide +kernel
theorem dX10_arrive_16 : decode cX10_arrive 16 = .ok (.dup, 1) := by decide +kernel
theorem dX10_arrive_17 : decode cX10_arrive 17 = .ok (.getfield 145, 3) := by decide +kernel
theorem dX10_arrive_20 : decode cX10_arrive 20 = .ok (.iconst 1, 1) := by decide +kernel
theorem dX10_arrive_21 : decode cX10_arrive 21 = .ok (.iadd, 1) := by decide +kernel
theorem dX10_arrive_22 : decode cX10_arrive 22 = .ok (.putfield 145, 3) := by decide +kernel
theorem dX10_arrive_25 : decode cX10_arrive 25 = .ok (.aload_n 0, 1) := by decide +kernel
theorem dX10_arrive_26 : decode cX10_arrive 26 = .ok (.iload_n 1, 1) := by decide +kernel
theorem dX10_arrive_27 : decode cX10_arrive 27 = .ok (.invokevirtual 148, 3) := by decide +kernel
theorem dX10_arrive_30 : decode cX10_arrive 30 = .ok (.ifCond .ne 15, 3) := by decide +kernel
theorem dX10_arrive_33 : decode cX10_arrive 33 = .ok (.aload_n 0, 1) := by decide +kernel
theorem dX10_arrive_34 : decode cX10_arrive 34 = .ok (.dup, 1) := by decide +kernel
theorem dX10_arrive_35 : decode cX10_arrive 35 = .ok (.getfield 152, 3) := by decide +kernel
theorem dX10_arrive_38 : decode cX10_arrive 38 = .ok (.iconst 1, 1) := by decide +kernel
theorem dX10_arrive_39 : decode cX10_arrive 39 = .ok (.iadd, 1) := by decide +kernel
theorem dX10_arrive_40 : decode cX10_arrive 40 = .ok (.putfield 152, 3) := by decide +kernel
theorem dX10_arrive_43 : decode cX10_arrive 43 = .ok (.iconst (-1), 1) := by decide +kernel
theorem dX10_arrive_44 : decode cX10_arrive 44 = .ok (.ireturn, 1) := by decide +kernel
theorem dX10_arrive_45 : decode cX10_arrive 45 = .ok (.aload_n 0, 1) := by decide +kernel
theorem dX10_arrive_46 : decode cX10_arrive 46 = .ok (.getfield 7, 3) := by decide +kernel
theorem dX10_arrive_49 : decode cX10_arrive 49 = .ok (.iconst 2, 1) := by decide +kernel
theorem dX10_arrive_50 : decode cX10_arrive 50 = .ok (.iaload, 1) := by decide +kernel
theorem dX10_arrive_51 : decode cX10_arrive 51 = .ok (.iconst 3, 1) := by decide +kernel
theorem dX10_arrive_52 : decode cX10_arrive 52 = .ok (.if_icmp .ne 103, 3) := by decide +kernel
theorem dX10_arrive_55 : decode cX10_arrive 55 = .ok (.bipush 9, 2) := by decide +kernel
theorem dX10_arrive_57 : decode cX10_arrive 57 = .ok (.istore_n 3, 1) := by decide +kernel
theorem dX10_arrive_58 : decode cX10_arrive 58 = .ok (.iload_n 3, 1) := by decide +kernel
theorem dX10_arrive_59 : decode cX10_arrive 59 = .ok (.iload_n 1, 1) := by decide +kernel
theorem dX10_arrive_60 : decode cX10_arrive 60 = .ok (.if_icmp .ge 24, 3) := by decide +kernel
theorem dX10_arrive_63 : decode cX10_arrive 63 = .ok (.aload_n 0, 1) := by decide +kernel
theorem dX10_arrive_64 : decode cX10_arrive 64 = .ok (.getfield 65, 3) := by decide +kernel
theorem dX10_arrive_67 : decode cX10_arrive 67 = .ok (.iload_n 3, 1) := by decide +kernel
theorem dX10_arrive_68 : decode cX10_arrive 68 = .ok (.bipush 9, 2) := by decide +kernel
theorem dX10_arrive_70 : decode cX10_arrive 70 = .ok (.isub, 1) := by decide +kernel
theorem dX10_arrive_71 : decode cX10_arrive 71 = .ok (.aload_n 0, 1) := by decide +kernel
theorem dX10_arrive_72 : decode cX10_arrive 72 = .ok (.getfield 7, 3) := by decide +kernel
theorem dX10_arrive_75 : decode cX10_arrive 75 = .ok (.iload_n 3, 1) := by decide +kernel
theorem dX10_arrive_76 : decode cX10_arrive 76 = .ok (.iaload, 1) := by decide +kernel
theorem dX10_arrive_77 : decode cX10_arrive 77 = .ok (.iastore, 1) := by decide +kernel
theorem dX10_arrive_78 : decode cX10_arrive 78 = .ok (.iinc 3 1, 3) := by decide +kernel
theorem dX10_arrive_81 : decode cX10_arrive 81 = .ok (.goto (-23), 3) := by decide +kernel
theorem dX10_arrive_84 : decode cX10_arrive 84 = .ok (.aload_n 0, 1) := by decide +kernel
theorem dX10_arrive_85 : decode cX10_arrive 85 = .ok (.getfield 7, 3) := by decide +kernel
theorem dX10_arrive_88 : decode cX10_arrive 88 = .ok (.bipush 6, 2) := by decide +kernel
theorem dX10_arrive_90 : decode cX10_arrive 90 = .ok (.iaload, 1) := by decide +kernel
theorem dX10_arrive_91 : decode cX10_arrive 91 = .ok (.ifCond .ne 27, 3) := by decide +kernel
theorem dX10_arrive_94 : decode cX10_arrive 94 = .ok (.aload_n 0, 1) := by decide +kernel
theorem dX10_arrive_95 : decode cX10_arrive 95 = .ok (.aload_n 0, 1) := by decide +kernel
theorem dX10_arrive_96 : decode cX10_arrive 96 = .ok (.getfield 7, 3) := by decide +kernel
theorem dX10_arrive_99 : decode cX10_arrive 99 = .ok (.iconst 3, 1) := by decide +kernel
theorem dX10_arrive_100 : decode cX10_arrive 100 = .ok (.iaload, 1) := by decide +kernel
theorem dX10_arrive_101 : decode cX10_arrive 101 = .ok (.aload_n 0, 1) := by decide +kernel
theorem dX10_arrive_102 : decode cX10_arrive 102 = .ok (.getfield 7, 3) := by decide +kernel
theorem dX10_arrive_105 : decode cX10_arrive 105 = .ok (.bipush 7, 2) := by decide +kernel
theorem dX10_arrive_107 : decode cX10_arrive 107 = .ok (.iaload, 1) := by decide +kernel
theorem dX10_arrive_108 : decode cX10_arrive 108 = .ok (.iload_n 1, 1) := by decide +kernel
theorem dX10_arrive_109 : decode cX10_arrive 109 = .ok (.bipush 9, 2) := by decide +kernel
theorem dX10_arrive_111 : decode cX10_arrive 111 = .ok (.isub, 1) := by decide +kernel
theorem dX10_arrive_112 : decode cX10_arrive 112 = .ok (.invokevirtual 155, 3) := by decide +kernel
theorem dX10_arrive_115 : decode cX10_arrive 115 = .ok (.goto 105, 3) := by decide +kernel
theorem dX10_arrive_118 : decode cX10_arrive 118 = .ok (.aload_n 0, 1) := by decide +kernel
theorem dX10_arrive_119 : decode cX10_arrive 119 = .ok (.aload_n 0, 1) := by decide +kernel
theorem dX10_arrive_120 : decode cX10_arrive 120 = .ok (.getfield 7, 3) := by decide +kernel
theorem dX10_arrive_123 : decode cX10_arrive 123 = .ok (.iconst 3, 1) := by decide +kernel
theorem dX10_arrive_124 : decode cX10_arrive 124 = .ok (.iaload, 1) := by decide +kernel
theorem dX10_arrive_125 : decode cX10_arrive 125 = .ok (.aload_n 0, 1) := by decide +kernel
theorem dX10_arrive_126 : decode cX10_arrive 126 = .ok (.getfield 7, 3) := by decide +kernel
theorem dX10_arrive_129 : decode cX10_arrive 129 = .ok (.iconst 5, 1) := by decide +kernel
theorem dX10_arrive_130 : decode cX10_arrive 130 = .ok (.iaload, 1) := by decide +kernel
theorem dX10_arrive_131 : decode cX10_arrive 131 = .ok (.aload_n 0, 1) := by decide +kernel
theorem dX10_arrive_132 : decode cX10_arrive 132 = .ok (.getfield 7, 3) := by decide +kernel
theorem dX10_arrive_135 : decode cX10_arrive 135 = .ok (.bipush 6, 2) := by decide +kernel
theorem dX10_arrive_137 : decode cX10_arrive 137 = .ok (.iaload, 1) := by decide +kernel
theorem dX10_arrive_138 : decode cX10_arrive 138 = .ok (.aload_n 0, 1) := by decide +kernel
theorem dX10_arrive_139 : decode cX10_arrive 139 = .ok (.getfield 7, 3) := by decide +kernel
theorem dX10_arrive_142 : decode cX10_arrive 142 = .ok (.bipush 7, 2) := by decide +kernel
theorem dX10_arrive_144 : decode cX10_arrive 144 = .ok (.iaload, 1) := by decide +kernel
theorem dX10_arrive_145 : decode cX10_arrive 145 = .ok (.iload_n 1, 1) := by decide +kernel
theorem dX10_arrive_146 : decode cX10_arrive 146 = .ok (.bipush 9, 2) := by decide +kernel
theorem dX10_arrive_148 : decode cX10_arrive 148 = .ok (.isub, 1) := by decide +kernel
theorem dX10_arrive_149 : decode cX10_arrive 149 = .ok (.invokevirtual 159, 3) := by decide +kernel
theorem dX10_arrive_152 : decode cX10_arrive 152 = .ok (.goto 68, 3) := by decide +kernel
theorem dX10_arrive_155 : decode cX10_arrive 155 = .ok (.aload_n 0, 1) := by decide +kernel
theorem dX10_arrive_156 : decode cX10_arrive 156 = .ok (.getfield 7, 3) := by decide +kernel
theorem dX10_arrive_159 : decode cX10_arrive 159 = .ok (.iconst 4, 1) := by decide +kernel
theorem dX10_arrive_160 : decode cX10_arrive 160 = .ok (.iaload, 1) := by decide +kernel
theorem dX10_arrive_161 : decode cX10_arrive 161 = .ok (.iconst 1, 1) := by decide +kernel
theorem dX10_arrive_162 : decode cX10_arrive 162 = .ok (.if_icmp .ne 58, 3) := by decide +kernel
theorem dX10_arrive_165 : decode cX10_arrive 165 = .ok (.aload_n 0, 1) := by decide +kernel
theorem dX10_arrive_166 : decode cX10_arrive 166 = .ok (.getfield 13, 3) := by decide +kernel
theorem dX10_arrive_169 : decode cX10_arrive 169 = .ok (.aload_n 0, 1) := by decide +kernel
theorem dX10_arrive_170 : decode cX10_arrive 170 = .ok (.getfield 7, 3) := by decide +kernel
theorem dX10_arrive_173 : decode cX10_arrive 173 = .ok (.iconst 3, 1) := by decide +kernel
theorem dX10_arrive_174 : decode cX10_arrive 174 = .ok (.iaload, 1) := by decide +kernel
theorem dX10_arrive_175 : decode cX10_arrive 175 = .ok (.aload_n 0, 1) := by decide +kernel
theorem dX10_arrive_176 : decode cX10_arrive 176 = .ok (.getfield 7, 3) := by decide +kernel
theorem dX10_arrive_179 : decode cX10_arrive 179 = .ok (.iconst 1, 1) := by decide +kernel
theorem dX10_arrive_180 : decode cX10_arrive 180 = .ok (.iaload, 1) := by decide +kernel
theorem dX10_arrive_181 : decode cX10_arrive 181 = .ok (.iastore, 1) := by decide +kernel
theorem dX10_arrive_182 : decode cX10_arrive 182 = .ok (.aload_n 0, 1) := by decide +kernel
theorem dX10_arrive_183 : decode cX10_arrive 183 = .ok (.getfield 7, 3) := by decide +kernel
theorem dX10_arrive_186 : decode cX10_arrive 186 = .ok (.iconst 2, 1) := by decide +kernel
theorem dX10_arrive_187 : decode cX10_arrive 187 = .ok (.iaload, 1) := by decide +kernel
theorem dX10_arrive_188 : decode cX10_arrive 188 = .ok (.iconst 1, 1) := by decide +kernel
theorem dX10_arrive_189 : decode cX10_arrive 189 = .ok (.if_icmp .ne 31, 3) := by decide +kernel
theorem dX10_arrive_192 : decode cX10_arrive 192 = .ok (.aload_n 0, 1) := by decide +kernel
theorem dX10_arrive_193 : decode cX10_arrive 193 = .ok (.getfield 7, 3) := by decide +kernel
theorem dX10_arrive_196 : decode cX10_arrive 196 = .ok (.iconst 3, 1) := by decide +kernel
theorem dX10_arrive_197 : decode cX10_arrive 197 = .ok (.iaload, 1) := by decide +kernel
theorem dX10_arrive_198 : decode cX10_arrive 198 = .ok (.istore_n 3, 1) := by decide +kernel
theorem dX10_arrive_199 : decode cX10_arrive 199 = .ok (.aload_n 0, 1) := by decide +kernel
theorem dX10_arrive_200 : decode cX10_arrive 200 = .ok (.aload_n 0, 1) := by decide +kernel
theorem dX10_arrive_201 : decode cX10_arrive 201 = .ok (.getfield 7, 3) := by decide +kernel
theorem dX10_arrive_204 : decode cX10_arrive 204 = .ok (.iconst 1, 1) := by decide +kernel
theorem dX10_arrive_205 : decode cX10_arrive 205 = .ok (.iaload, 1) := by decide +kernel
theorem dX10_arrive_206 : decode cX10_arrive 206 = .ok (.iconst 2, 1) := by decide +kernel
theorem dX10_arrive_207 : decode cX10_arrive 207 = .ok (.invokevirtual 124, 3) := by decide +kernel
theorem dX10_arrive_210 : decode cX10_arrive 210 = .ok (.aload_n 0, 1) := by decide +kernel
theorem dX10_arrive_211 : decode cX10_arrive 211 = .ok (.iconst 1, 1) := by decide +kernel
theorem dX10_arrive_212 : decode cX10_arrive 212 = .ok (.invokevirtual 116, 3) := by decide +kernel
theorem dX10_arrive_215 : decode cX10_arrive 215 = .ok (.aload_n 0, 1) := by decide +kernel
theorem dX10_arrive_216 : decode cX10_arrive 216 = .ok (.iload_n 3, 1) := by decide +kernel
theorem dX10_arrive_217 : decode cX10_arrive 217 = .ok (.invokevirtual 116, 3) := by decide +kernel
theorem dX10_arrive_220 : decode cX10_arrive 220 = .ok (.aload_n 0, 1) := by decide +kernel
theorem dX10_arrive_221 : decode cX10_arrive 221 = .ok (.getfield 120, 3) := by decide +kernel
theorem dX10_arrive_224 : decode cX10_arrive 224 = .ok (.iload_n 2, 1) := by decide +kernel
theorem dX10_arrive_225 : decode cX10_arrive 225 = .ok (.isub, 1) := by decide +kernel
theorem dX10_arrive_226 : decode cX10_arrive 226 = .ok (.ireturn, 1) := by decide +kernel
theorem dX10_assemblyOf_0 : decode cX10_assemblyOf 0 = .ok (.iconst 0, 1) := by decide +kernel
theorem dX10_assemblyOf_1 : decode cX10_assemblyOf 1 = .ok (.istore_n 3, 1) := by decide +kernel
theorem dX10_assemblyOf_2 : decode cX10_assemblyOf 2 = .ok (.iload_n 3, 1) := by decide +kernel
theorem dX10_assemblyOf_3 : decode cX10_assemblyOf 3 = .ok (.iconst 2, 1) := by decide +kernel
theorem dX10_assemblyOf_4 : decode cX10_assemblyOf 4 = .ok (.if_icmp .ge 40, 3) := by decide +kernel
theorem dX10_assemblyOf_7 : decode cX10_assemblyOf 7 = .ok (.aload_n 0, 1) := by decide +kernel
theorem dX10_assemblyOf_8 : decode cX10_assemblyOf 8 = .ok (.getfield 37, 3) := by decide +kernel
theorem dX10_assemblyOf_11 : decode cX10_assemblyOf 11 = .ok (.iload_n 3, 1) := by decide +kernel
theorem dX10_assemblyOf_12 : decode cX10_assemblyOf 12 = .ok (.baload, 1) := by decide +kernel
theorem dX10_assemblyOf_13 : decode cX10_assemblyOf 13 = .ok (.ifCond .eq 25, 3) := by decide +kernel
theorem dX10_assemblyOf_16 : decode cX10_assemblyOf 16 = .ok (.aload_n 0, 1) := by decide +kernel
theorem dX10_assemblyOf_17 : decode cX10_assemblyOf 17 = .ok (.getfield 41, 3) := by decide +kernel
theorem dX10_assemblyOf_20 : decode cX10_assemblyOf 20 = .ok (.iload_n 3, 1) := by decide +kernel
theorem dX10_assemblyOf_21 : decode cX10_assemblyOf 21 = .ok (.iaload, 1) := by decide +kernel
theorem dX10_assemblyOf_22 : decode cX10_assemblyOf 22 = .ok (.iload_n 1, 1) := by decide +kernel
theorem dX10_assemblyOf_23 : decode cX10_assemblyOf 23 = .ok (.if_icmp .ne 15, 3) := by decide +kernel
theorem dX10_assemblyOf_26 : decode cX10_assemblyOf 26 = .ok (.aload_n 0, 1) := by decide +kernel
theorem dX10_assemblyOf_27 : decode cX10_assemblyOf 27 = .ok (.getfield 44, 3) := by decide +kernel
theorem dX10_assemblyOf_30 : decode cX10_assemblyOf 30 = .ok (.iload_n 3, 1) := by decide +kernel
theorem dX10_assemblyOf_31 : decode cX10_assemblyOf 31 = .ok (.iaload, 1) := by decide +kernel
theorem dX10_assemblyOf_32 : decode cX10_assemblyOf 32 = .ok (.iload_n 2, 1) := by decide +kernel
theorem dX10_assemblyOf_33 : decode cX10_assemblyOf 33 = .ok (.if_icmp .ne 5, 3) := by decide +kernel
theorem dX10_assemblyOf_36 : decode cX10_assemblyOf 36 = .ok (.iload_n 3, 1) := by decide +kernel
theorem dX10_assemblyOf_37 : decode cX10_assemblyOf 37 = .ok (.ireturn, 1) := by decide +kernel
theorem dX10_assemblyOf_38 : decode cX10_assemblyOf 38 = .ok (.iinc 3 1, 3) := by decide +kernel
theorem dX10_assemblyOf_41 : decode cX10_assemblyOf 41 = .ok (.goto (-39), 3) := by decide +kernel
theorem dX10_assemblyOf_44 : decode cX10_assemblyOf 44 = .ok (.aload_n 0, 1) := by decide +kernel
theorem dX10_assemblyOf_45 : decode cX10_assemblyOf 45 = .ok (.getfield 37, 3) := by decide +kernel
theorem dX10_assemblyOf_48 : decode cX10_assemblyOf 48 = .ok (.iconst 0, 1) := by decide +kernel
theorem dX10_assemblyOf_49 : decode cX10_assemblyOf 49 = .ok (.baload, 1) := by decide +kernel
theorem dX10_assemblyOf_50 : decode cX10_assemblyOf 50 = .ok (.ifCond .ne 7, 3) := by decide +kernel
theorem dX10_assemblyOf_53 : decode cX10_assemblyOf 53 = .ok (.iconst 0, 1) := by decide +kernel
theorem dX10_assemblyOf_54 : decode cX10_assemblyOf 54 = .ok (.goto 32, 3) := by decide +kernel
theorem dX10_assemblyOf_57 : decode cX10_assemblyOf 57 = .ok (.aload_n 0, 1) := by decide +kernel
theorem dX10_assemblyOf_58 : decode cX10_assemblyOf 58 = .ok (.getfield 37, 3) := by decide +kernel
theorem dX10_assemblyOf_61 : decode cX10_assemblyOf 61 = .ok (.iconst 1, 1) := by decide +kernel
theorem dX10_assemblyOf_62 : decode cX10_assemblyOf 62 = .ok (.baload, 1) := by decide +kernel
theorem dX10_assemblyOf_63 : decode cX10_assemblyOf 63 = .ok (.ifCond .eq 18, 3) := by decide +kernel
theorem dX10_assemblyOf_66 : decode cX10_assemblyOf 66 = .ok (.aload_n 0, 1) := by decide +kernel
theorem dX10_assemblyOf_67 : decode cX10_assemblyOf 67 = .ok (.getfield 56, 3) := by decide +kernel
theorem dX10_assemblyOf_70 : decode cX10_assemblyOf 70 = .ok (.iconst 1, 1) := by decide +kernel
theorem dX10_assemblyOf_71 : decode cX10_assemblyOf 71 = .ok (.iaload, 1) := by decide +kernel
theorem dX10_assemblyOf_72 : decode cX10_assemblyOf 72 = .ok (.aload_n 0, 1) := by decide +kernel
theorem dX10_assemblyOf_73 : decode cX10_assemblyOf 73 = .ok (.getfield 56, 3) := by decide +kernel
theorem dX10_assemblyOf_76 : decode cX10_assemblyOf 76 = .ok (.iconst 0, 1) := by decide +kernel
theorem dX10_assemblyOf_77 : decode cX10_assemblyOf 77 = .ok (.iaload, 1) := by decide +kernel
theorem dX10_assemblyOf_78 : decode cX10_assemblyOf 78 = .ok (.if_icmp .ge 7, 3) := by decide +kernel
theorem dX10_assemblyOf_81 : decode cX10_assemblyOf 81 = .ok (.iconst 1, 1) := by decide +kernel
theorem dX10_assemblyOf_82 : decode cX10_assemblyOf 82 = .ok (.goto 4, 3) := by decide +kernel
theorem dX10_assemblyOf_85 : decode cX10_assemblyOf 85 = .ok (.iconst 0, 1) := by decide +kernel
theorem dX10_assemblyOf_86 : decode cX10_assemblyOf 86 = .ok (.istore_n 3, 1) := by decide +kernel
theorem dX10_assemblyOf_87 : decode cX10_assemblyOf 87 = .ok (.aload_n 0, 1) := by decide +kernel
theorem dX10_assemblyOf_88 : decode cX10_assemblyOf 88 = .ok (.getfield 37, 3) := by decide +kernel
theorem dX10_assemblyOf_91 : decode cX10_assemblyOf 91 = .ok (.iload_n 3, 1) := by decide +kernel
theorem dX10_assemblyOf_92 : decode cX10_assemblyOf 92 = .ok (.iconst 1, 1) := by decide +kernel
theorem dX10_assemblyOf_93 : decode cX10_assemblyOf 93 = .ok (.bastore, 1) := by decide +kernel
theorem dX10_assemblyOf_94 : decode cX10_assemblyOf 94 = .ok (.aload_n 0, 1) := by decide +kernel
theorem dX10_assemblyOf_95 : decode cX10_assemblyOf 95 = .ok (.getfield 41, 3) := by decide +kernel
theorem dX10_assemblyOf_98 : decode cX10_assemblyOf 98 = .ok (.iload_n 3, 1) := by decide +kernel
theorem dX10_assemblyOf_99 : decode cX10_assemblyOf 99 = .ok (.iload_n 1, 1) := by decide +kernel
theorem dX10_assemblyOf_100 : decode cX10_assemblyOf 100 = .ok (.iastore, 1) := by decide +kernel
theorem dX10_assemblyOf_101 : decode cX10_assemblyOf 101 = .ok (.aload_n 0, 1) := by decide +kernel
theorem dX10_assemblyOf_102 : decode cX10_assemblyOf 102 = .ok (.getfield 44, 3) := by decide +kernel
theorem dX10_assemblyOf_105 : decode cX10_assemblyOf 105 = .ok (.iload_n 3, 1) := by decide +kernel
theorem dX10_assemblyOf_106 : decode cX10_assemblyOf 106 = .ok (.iload_n 2, 1) := by decide +kernel
theorem dX10_assemblyOf_107 : decode cX10_assemblyOf 107 = .ok (.iastore, 1) := by decide +kernel
theorem dX10_assemblyOf_108 : decode cX10_assemblyOf 108 = .ok (.aload_n 0, 1) := by decide +kernel
theorem dX10_assemblyOf_109 : decode cX10_assemblyOf 109 = .ok (.getfield 47, 3) := by decide +kernel
theorem dX10_assemblyOf_112 : decode cX10_assemblyOf 112 = .ok (.iload_n 3, 1) := by decide +kernel
theorem dX10_assemblyOf_113 : decode cX10_assemblyOf 113 = .ok (.iconst 0, 1) := by decide +kernel
theorem dX10_assemblyOf_114 : decode cX10_assemblyOf 114 = .ok (.iastore, 1) := by decide +kernel
theorem dX10_assemblyOf_115 : decode cX10_assemblyOf 115 = .ok (.aload_n 0, 1) := by decide +kernel
theorem dX10_assemblyOf_116 : decode cX10_assemblyOf 116 = .ok (.getfield 50, 3) := by decide +kernel
theorem dX10_assemblyOf_119 : decode cX10_assemblyOf 119 = .ok (.iload_n 3, 1) := by decide +kernel
theorem dX10_assemblyOf_120 : decode cX10_assemblyOf 120 = .ok (.iconst (-1), 1) := by decide +kernel
theorem dX10_assemblyOf_121 : decode cX10_assemblyOf 121 = .ok (.iastore, 1) := by decide +kernel
theorem dX10_assemblyOf_122 : decode cX10_assemblyOf 122 = .ok (.aload_n 0, 1) := by decide +kernel
theorem dX10_assemblyOf_123 : decode cX10_assemblyOf 123 = .ok (.getfield 53, 3) := by decide +kernel
theorem dX10_assemblyOf_126 : decode cX10_assemblyOf 126 = .ok (.iload_n 3, 1) := by decide +kernel
theorem dX10_assemblyOf_127 : decode cX10_assemblyOf 127 = .ok (.aload_n 0, 1) := by decide +kernel
theorem dX10_assemblyOf_128 : decode cX10_assemblyOf 128 = .ok (.getfield 163, 3) := by decide +kernel
theorem dX10_assemblyOf_131 : decode cX10_assemblyOf 131 = .ok (.iastore, 1) := by decide +kernel
theorem dX10_assemblyOf_132 : decode cX10_assemblyOf 132 = .ok (.aload_n 0, 1) := by decide +kernel
theorem dX10_assemblyOf_133 : decode cX10_assemblyOf 133 = .ok (.getfield 56, 3) := by decide +kernel
theorem dX10_assemblyOf_136 : decode cX10_assemblyOf 136 = .ok (.iload_n 3, 1) := by decide +kernel
theorem dX10_assemblyOf_137 : decode cX10_assemblyOf 137 = .ok (.aload_n 0, 1) := by decide +kernel
theorem dX10_assemblyOf_138 : decode cX10_assemblyOf 138 = .ok (.dup, 1) := by decide +kernel
theorem dX10_assemblyOf_139 : decode cX10_assemblyOf 139 = .ok (.getfield 166, 3) := by decide +kernel
theorem dX10_assemblyOf_142 : decode cX10_assemblyOf 142 = .ok (.dup_x1, 1) := by decide +kernel
theorem dX10_assemblyOf_143 : decode cX10_assemblyOf 143 = .ok (.iconst 1, 1) := by decide +kernel
theorem dX10_assemblyOf_144 : decode cX10_assemblyOf 144 = .ok (.iadd, 1) := by decide +kernel
theorem dX10_assemblyOf_145 : decode cX10_assemblyOf 145 = .ok (.putfield 166, 3) := by decide +kernel
theorem dX10_assemblyOf_148 : decode cX10_assemblyOf 148 = .ok (.iastore, 1) := by decide +kernel
theorem dX10_assemblyOf_149 : decode cX10_assemblyOf 149 = .ok (.iload_n 3, 1) := by decide +kernel
theorem dX10_assemblyOf_150 : decode cX10_assemblyOf 150 = .ok (.ireturn, 1) := by decide +kernel
theorem dX10_fragment_0 : decode cX10_fragment 0 = .ok (.aload_n 0, 1) := by decide +kernel
theorem dX10_fragment_1 : decode cX10_fragment 1 = .ok (.iload_n 1, 1) := by decide +kernel
theorem dX10_fragment_2 : decode cX10_fragment 2 = .ok (.iload_n 2, 1) := by decide +kernel
theorem dX10_fragment_3 : decode cX10_fragment 3 = .ok (.invokevirtual 169, 3) := by decide +kernel
theorem dX10_fragment_6 : decode cX10_fragment 6 = .ok (.istore 6, 2) := by decide +kernel
theorem dX10_fragment_8 : decode cX10_fragment 8 = .ok (.iload_n 3, 1) := by decide +kernel
theorem dX10_fragment_9 : decode cX10_fragment 9 = .ok (.bipush 127, 2) := by decide +kernel
theorem dX10_fragment_11 : decode cX10_fragment 11 = .ok (.iand, 1) := by decide +kernel
theorem dX10_fragment_12 : decode cX10_fragment 12 = .ok (.istore 7, 2) := by decide +kernel
theorem dX10_fragment_14 : decode cX10_fragment 14 = .ok (.iconst 4, 1) := by decide +kernel
theorem dX10_fragment_15 : decode cX10_fragment 15 = .ok (.iload 7, 2) := by decide +kernel
theorem dX10_fragment_17 : decode cX10_fragment 17 = .ok (.imul, 1) := by decide +kernel
theorem dX10_fragment_18 : decode cX10_fragment 18 = .ok (.iload 5, 2) := by decide +kernel
theorem dX10_fragment_20 : decode cX10_fragment 20 = .ok (.iadd, 1) := by decide +kernel
theorem dX10_fragment_21 : decode cX10_fragment 21 = .ok (.istore 8, 2) := by decide +kernel
theorem dX10_fragment_23 : decode cX10_fragment 23 = .ok (.iconst 0, 1) := by decide +kernel
theorem dX10_fragment_24 : decode cX10_fragment 24 = .ok (.istore 9, 2) := by decide +kernel
theorem dX10_fragment_26 : decode cX10_fragment 26 = .ok (.iconst (-1), 1) := by decide +kernel
theorem dX10_fragment_27 : decode cX10_fragment 27 = .ok (.istore 10, 2) := by decide +kernel
theorem dX10_fragment_29 : decode cX10_fragment 29 = .ok (.iconst 0, 1) := by decide +kernel
theorem dX10_fragment_30 : decode cX10_fragment 30 = .ok (.istore 11, 2) := by decide +kernel
theorem dX10_fragment_32 : decode cX10_fragment 32 = .ok (.iload 11, 2) := by decide +kernel
theorem dX10_fragment_34 : decode cX10_fragment 34 = .ok (.bipush 8, 2) := by decide +kernel
theorem dX10_fragment_36 : decode cX10_fragment 36 = .ok (.if_icmp .ge 54, 3) := by decide +kernel
theorem dX10_fragment_39 : decode cX10_fragment 39 = .ok (.iload 11, 2) := by decide +kernel
theorem dX10_fragment_41 : decode cX10_fragment 41 = .ok (.iload 7, 2) := by decide +kernel
theorem dX10_fragment_43 : decode cX10_fragment 43 = .ok (.if_icmp .lt 21, 3) := by decide +kernel
theorem dX10_fragment_46 : decode cX10_fragment 46 = .ok (.iconst 4, 1) := by decide +kernel
theorem dX10_fragment_47 : decode cX10_fragment 47 = .ok (.iload 11, 2) := by decide +kernel
theorem dX10_fragment_49 : decode cX10_fragment 49 = .ok (.imul, 1) := by decide +kernel
theorem dX10_fragment_50 : decode cX10_fragment 50 = .ok (.iload 8, 2) := by decide +kernel
theorem dX10_fragment_52 : decode cX10_fragment 52 = .ok (.if_icmp .ge 12, 3) := by decide +kernel
theorem dX10_fragment_55 : decode cX10_fragment 55 = .ok (.iload 9, 2) := by decide +kernel
theorem dX10_fragment_57 : decode cX10_fragment 57 = .ok (.iconst 1, 1) := by decide +kernel
theorem dX10_fragment_58 : decode cX10_fragment 58 = .ok (.iload 11, 2) := by decide +kernel
theorem dX10_fragment_60 : decode cX10_fragment 60 = .ok (.ishl, 1) := by decide +kernel
theorem dX10_fragment_61 : decode cX10_fragment 61 = .ok (.ior, 1) := by decide +kernel
theorem dX10_fragment_62 : decode cX10_fragment 62 = .ok (.istore 9, 2) := by decide +kernel
theorem dX10_fragment_64 : decode cX10_fragment 64 = .ok (.aload_n 0, 1) := by decide +kernel
theorem dX10_fragment_65 : decode cX10_fragment 65 = .ok (.getfield 47, 3) := by decide +kernel
theorem dX10_fragment_68 : decode cX10_fragment 68 = .ok (.iload 6, 2) := by decide +kernel
theorem dX10_fragment_70 : decode cX10_fragment 70 = .ok (.iaload, 1) := by decide +kernel
theorem dX10_fragment_71 : decode cX10_fragment 71 = .ok (.iload 11, 2) := by decide +kernel
theorem dX10_fragment_73 : decode cX10_fragment 73 = .ok (.ishr, 1) := by decide +kernel
theorem dX10_fragment_74 : decode cX10_fragment 74 = .ok (.iconst 1, 1) := by decide +kernel
theorem dX10_fragment_75 : decode cX10_fragment 75 = .ok (.iand, 1) := by decide +kernel
theorem dX10_fragment_76 : decode cX10_fragment 76 = .ok (.iconst 1, 1) := by decide +kernel
theorem dX10_fragment_77 : decode cX10_fragment 77 = .ok (.if_icmp .ne 7, 3) := by decide +kernel
theorem dX10_fragment_80 : decode cX10_fragment 80 = .ok (.iload 11, 2) := by decide +kernel
theorem dX10_fragment_82 : decode cX10_fragment 82 = .ok (.istore 10, 2) := by decide +kernel
theorem dX10_fragment_84 : decode cX10_fragment 84 = .ok (.iinc 11 1, 3) := by decide +kernel
theorem dX10_fragment_87 : decode cX10_fragment 87 = .ok (.goto (-55), 3) := by decide +kernel
theorem dX10_fragment_90 : decode cX10_fragment 90 = .ok (.iload_n 3, 1) := by decide +kernel
theorem dX10_fragment_91 : decode cX10_fragment 91 = .ok (.sipush 128, 3) := by decide +kernel
theorem dX10_fragment_94 : decode cX10_fragment 94 = .ok (.if_icmp .ge 7, 3) := by decide +kernel
theorem dX10_fragment_97 : decode cX10_fragment 97 = .ok (.iconst 1, 1) := by decide +kernel
theorem dX10_fragment_98 : decode cX10_fragment 98 = .ok (.goto 4, 3) := by decide +kernel
theorem dX10_fragment_101 : decode cX10_fragment 101 = .ok (.iconst 0, 1) := by decide +kernel
theorem dX10_fragment_102 : decode cX10_fragment 102 = .ok (.istore 11, 2) := by decide +kernel
theorem dX10_fragment_104 : decode cX10_fragment 104 = .ok (.aload_n 0, 1) := by decide +kernel
theorem dX10_fragment_105 : decode cX10_fragment 105 = .ok (.getfield 47, 3) := by decide +kernel
theorem dX10_fragment_108 : decode cX10_fragment 108 = .ok (.iload 6, 2) := by decide +kernel
theorem dX10_fragment_110 : decode cX10_fragment 110 = .ok (.iaload, 1) := by decide +kernel
theorem dX10_fragment_111 : decode cX10_fragment 111 = .ok (.iload 9, 2) := by decide +kernel
theorem dX10_fragment_113 : decode cX10_fragment 113 = .ok (.iand, 1) := by decide +kernel
theorem dX10_fragment_114 : decode cX10_fragment 114 = .ok (.ifCond .ne 68, 3) := by decide +kernel
theorem dX10_fragment_117 : decode cX10_fragment 117 = .ok (.aload_n 0, 1) := by decide +kernel
theorem dX10_fragment_118 : decode cX10_fragment 118 = .ok (.getfield 50, 3) := by decide +kernel
theorem dX10_fragment_121 : decode cX10_fragment 121 = .ok (.iload 6, 2) := by decide +kernel
theorem dX10_fragment_123 : decode cX10_fragment 123 = .ok (.iaload, 1) := by decide +kernel
theorem dX10_fragment_124 : decode cX10_fragment 124 = .ok (.ifCond .lt 32, 3) := by decide +kernel
theorem dX10_fragment_127 : decode cX10_fragment 127 = .ok (.iload 8, 2) := by decide +kernel
theorem dX10_fragment_129 : decode cX10_fragment 129 = .ok (.aload_n 0, 1) := by decide +kernel
theorem dX10_fragment_130 : decode cX10_fragment 130 = .ok (.getfield 50, 3) := by decide +kernel
theorem dX10_fragment_133 : decode cX10_fragment 133 = .ok (.iload 6, 2) := by decide +kernel
theorem dX10_fragment_135 : decode cX10_fragment 135 = .ok (.iaload, 1) := by decide +kernel
theorem dX10_fragment_136 : decode cX10_fragment 136 = .ok (.if_icmp .gt 46, 3) := by decide +kernel
theorem dX10_fragment_139 : decode cX10_fragment 139 = .ok (.iload 11, 2) := by decide +kernel
theorem dX10_fragment_141 : decode cX10_fragment 141 = .ok (.ifCond .eq 15, 3) := by decide +kernel
theorem dX10_fragment_144 : decode cX10_fragment 144 = .ok (.iload 8, 2) := by decide +kernel
theorem dX10_fragment_146 : decode cX10_fragment 146 = .ok (.aload_n 0, 1) := by decide +kernel
theorem dX10_fragment_147 : decode cX10_fragment 147 = .ok (.getfield 50, 3) := by decide +kernel
theorem dX10_fragment_150 : decode cX10_fragment 150 = .ok (.iload 6, 2) := by decide +kernel
theorem dX10_fragment_152 : decode cX10_fragment 152 = .ok (.iaload, 1) := by decide +kernel
theorem dX10_fragment_153 : decode cX10_fragment 153 = .ok (.if_icmp .ne 29, 3) := by decide +kernel
theorem dX10_fragment_156 : decode cX10_fragment 156 = .ok (.iload 11, 2) := by decide +kernel
theorem dX10_fragment_158 : decode cX10_fragment 158 = .ok (.ifCond .eq 33, 3) := by decide +kernel
theorem dX10_fragment_161 : decode cX10_fragment 161 = .ok (.aload_n 0, 1) := by decide +kernel
theorem dX10_fragment_162 : decode cX10_fragment 162 = .ok (.getfield 50, 3) := by decide +kernel
theorem dX10_fragment_165 : decode cX10_fragment 165 = .ok (.iload 6, 2) := by decide +kernel
theorem dX10_fragment_167 : decode cX10_fragment 167 = .ok (.iaload, 1) := by decide +kernel
theorem dX10_fragment_168 : decode cX10_fragment 168 = .ok (.ifCond .ge 23, 3) := by decide +kernel
theorem dX10_fragment_171 : decode cX10_fragment 171 = .ok (.iconst 4, 1) := by decide +kernel
theorem dX10_fragment_172 : decode cX10_fragment 172 = .ok (.iload 10, 2) := by decide +kernel
theorem dX10_fragment_174 : decode cX10_fragment 174 = .ok (.imul, 1) := by decide +kernel
theorem dX10_fragment_175 : decode cX10_fragment 175 = .ok (.iconst 4, 1) := by decide +kernel
theorem dX10_fragment_176 : decode cX10_fragment 176 = .ok (.iadd, 1) := by decide +kernel
theorem dX10_fragment_177 : decode cX10_fragment 177 = .ok (.iload 8, 2) := by decide +kernel
theorem dX10_fragment_179 : decode cX10_fragment 179 = .ok (.if_icmp .le 12, 3) := by decide +kernel
theorem dX10_fragment_182 : decode cX10_fragment 182 = .ok (.aload_n 0, 1) := by decide +kernel
theorem dX10_fragment_183 : decode cX10_fragment 183 = .ok (.getfield 37, 3) := by decide +kernel
theorem dX10_fragment_186 : decode cX10_fragment 186 = .ok (.iload 6, 2) := by decide +kernel
theorem dX10_fragment_188 : decode cX10_fragment 188 = .ok (.iconst 0, 1) := by decide +kernel
theorem dX10_fragment_189 : decode cX10_fragment 189 = .ok (.bastore, 1) := by decide +kernel
theorem dX10_fragment_190 : decode cX10_fragment 190 = .ok (.return_, 1) := by decide +kernel
theorem dX10_fragment_191 : decode cX10_fragment 191 = .ok (.aload_n 0, 1) := by decide +kernel
theorem dX10_fragment_192 : decode cX10_fragment 192 = .ok (.getfield 47, 3) := by decide +kernel
theorem dX10_fragment_195 : decode cX10_fragment 195 = .ok (.iload 6, 2) := by decide +kernel
theorem dX10_fragment_197 : decode cX10_fragment 197 = .ok (.dup2, 1) := by decide +kernel
theorem dX10_fragment_198 : decode cX10_fragment 198 = .ok (.iaload, 1) := by decide +kernel
theorem dX10_fragment_199 : decode cX10_fragment 199 = .ok (.iload 9, 2) := by decide +kernel
theorem dX10_fragment_201 : decode cX10_fragment 201 = .ok (.ior, 1) := by decide +kernel
theorem dX10_fragment_202 : decode cX10_fragment 202 = .ok (.iastore, 1) := by decide +kernel
theorem dX10_fragment_203 : decode cX10_fragment 203 = .ok (.iload 11, 2) := by decide +kernel
theorem dX10_fragment_205 : decode cX10_fragment 205 = .ok (.ifCond .eq 12, 3) := by decide +kernel
theorem dX10_fragment_208 : decode cX10_fragment 208 = .ok (.aload_n 0, 1) := by decide +kernel
theorem dX10_fragment_209 : decode cX10_fragment 209 = .ok (.getfield 50, 3) := by decide +kernel
theorem dX10_fragment_212 : decode cX10_fragment 212 = .ok (.iload 6, 2) := by decide +kernel
theorem dX10_fragment_214 : decode cX10_fragment 214 = .ok (.iload 8, 2) := by decide +kernel
theorem dX10_fragment_216 : decode cX10_fragment 216 = .ok (.iastore, 1) := by decide +kernel
theorem dX10_fragment_217 : decode cX10_fragment 217 = .ok (.iload 7, 2) := by decide +kernel
theorem dX10_fragment_219 : decode cX10_fragment 219 = .ok (.ifCond .ne 12, 3) := by decide +kernel
theorem dX10_fragment_222 : decode cX10_fragment 222 = .ok (.aload_n 0, 1) := by decide +kernel
theorem dX10_fragment_223 : decode cX10_fragment 223 = .ok (.getfield 59, 3) := by decide +kernel
theorem dX10_fragment_226 : decode cX10_fragment 226 = .ok (.iload 6, 2) := by decide +kernel
theorem dX10_fragment_228 : decode cX10_fragment 228 = .ok (.iload 4, 2) := by decide +kernel
theorem dX10_fragment_230 : decode cX10_fragment 230 = .ok (.iastore, 1) := by decide +kernel
theorem dX10_fragment_231 : decode cX10_fragment 231 = .ok (.iconst 0, 1) := by decide +kernel
theorem dX10_fragment_232 : decode cX10_fragment 232 = .ok (.istore 12, 2) := by decide +kernel
theorem dX10_fragment_234 : decode cX10_fragment 234 = .ok (.iload 12, 2) := by decide +kernel
theorem dX10_fragment_236 : decode cX10_fragment 236 = .ok (.iload 5, 2) := by decide +kernel
theorem dX10_fragment_238 : decode cX10_fragment 238 = .ok (.if_icmp .ge 34, 3) := by decide +kernel
theorem dX10_fragment_241 : decode cX10_fragment 241 = .ok (.aload_n 0, 1) := by decide +kernel
theorem dX10_fragment_242 : decode cX10_fragment 242 = .ok (.getfield 62, 3) := by decide +kernel
theorem dX10_fragment_245 : decode cX10_fragment 245 = .ok (.bipush 32, 2) := by decide +kernel
theorem dX10_fragment_247 : decode cX10_fragment 247 = .ok (.iload 6, 2) := by decide +kernel
theorem dX10_fragment_249 : decode cX10_fragment 249 = .ok (.imul, 1) := by decide +kernel
theorem dX10_fragment_250 : decode cX10_fragment 250 = .ok (.iconst 4, 1) := by decide +kernel
theorem dX10_fragment_251 : decode cX10_fragment 251 = .ok (.iload 7, 2) := by decide +kernel
theorem dX10_fragment_253 : decode cX10_fragment 253 = .ok (.imul, 1) := by decide +kernel
theorem dX10_fragment_254 : decode cX10_fragment 254 = .ok (.iadd, 1) := by decide +kernel
theorem dX10_fragment_255 : decode cX10_fragment 255 = .ok (.iload 12, 2) := by decide +kernel
theorem dX10_fragment_257 : decode cX10_fragment 257 = .ok (.iadd, 1) := by decide +kernel
theorem dX10_fragment_258 : decode cX10_fragment 258 = .ok (.aload_n 0, 1) := by decide +kernel
theorem dX10_fragment_259 : decode cX10_fragment 259 = .ok (.getfield 65, 3) := by decide +kernel
theorem dX10_fragment_262 : decode cX10_fragment 262 = .ok (.iload 12, 2) := by decide +kernel
theorem dX10_fragment_264 : decode cX10_fragment 264 = .ok (.iaload, 1) := by decide +kernel
theorem dX10_fragment_265 : decode cX10_fragment 265 = .ok (.iastore, 1) := by decide +kernel
theorem dX10_fragment_266 : decode cX10_fragment 266 = .ok (.iinc 12 1, 3) := by decide +kernel
theorem dX10_fragment_269 : decode cX10_fragment 269 = .ok (.goto (-35), 3) := by decide +kernel
theorem dX10_fragment_272 : decode cX10_fragment 272 = .ok (.aload_n 0, 1) := by decide +kernel
theorem dX10_fragment_273 : decode cX10_fragment 273 = .ok (.getfield 50, 3) := by decide +kernel
theorem dX10_fragment_276 : decode cX10_fragment 276 = .ok (.iload 6, 2) := by decide +kernel
theorem dX10_fragment_278 : decode cX10_fragment 278 = .ok (.iaload, 1) := by decide +kernel
theorem dX10_fragment_279 : decode cX10_fragment 279 = .ok (.ifCond .lt 28, 3) := by decide +kernel
theorem dX10_fragment_282 : decode cX10_fragment 282 = .ok (.aload_n 0, 1) := by decide +kernel
theorem dX10_fragment_283 : decode cX10_fragment 283 = .ok (.getfield 47, 3) := by decide +kernel
theorem dX10_fragment_286 : decode cX10_fragment 286 = .ok (.iload 6, 2) := by decide +kernel
theorem dX10_fragment_288 : decode cX10_fragment 288 = .ok (.iaload, 1) := by decide +kernel
theorem dX10_fragment_289 : decode cX10_fragment 289 = .ok (.iconst 1, 1) := by decide +kernel
theorem dX10_fragment_290 : decode cX10_fragment 290 = .ok (.aload_n 0, 1) := by decide +kernel
theorem dX10_fragment_291 : decode cX10_fragment 291 = .ok (.getfield 50, 3) := by decide +kernel
theorem dX10_fragment_294 : decode cX10_fragment 294 = .ok (.iload 6, 2) := by decide +kernel
theorem dX10_fragment_296 : decode cX10_fragment 296 = .ok (.iaload, 1) := by decide +kernel
theorem dX10_fragment_297 : decode cX10_fragment 297 = .ok (.iconst 3, 1) := by decide +kernel
theorem dX10_fragment_298 : decode cX10_fragment 298 = .ok (.iadd, 1) := by decide +kernel
theorem dX10_fragment_299 : decode cX10_fragment 299 = .ok (.iconst 4, 1) := by decide +kernel
theorem dX10_fragment_300 : decode cX10_fragment 300 = .ok (.idiv, 1) := by decide +kernel
theorem dX10_fragment_301 : decode cX10_fragment 301 = .ok (.ishl, 1) := by decide +kernel
theorem dX10_fragment_302 : decode cX10_fragment 302 = .ok (.iconst 1, 1) := by decide +kernel
theorem dX10_fragment_303 : decode cX10_fragment 303 = .ok (.isub, 1) := by decide +kernel
theorem dX10_fragment_304 : decode cX10_fragment 304 = .ok (.if_icmp .eq 4, 3) := by decide +kernel
theorem dX10_fragment_307 : decode cX10_fragment 307 = .ok (.return_, 1) := by decide +kernel
theorem dX10_fragment_308 : decode cX10_fragment 308 = .ok (.aload_n 0, 1) := by decide +kernel
theorem dX10_fragment_309 : decode cX10_fragment 309 = .ok (.getfield 37, 3) := by decide +kernel
theorem dX10_fragment_312 : decode cX10_fragment 312 = .ok (.iload 6, 2) := by decide +kernel
theorem dX10_fragment_314 : decode cX10_fragment 314 = .ok (.iconst 0, 1) := by decide +kernel
theorem dX10_fragment_315 : decode cX10_fragment 315 = .ok (.bastore, 1) := by decide +kernel
theorem dX10_fragment_316 : decode cX10_fragment 316 = .ok (.iconst 0, 1) := by decide +kernel
theorem dX10_fragment_317 : decode cX10_fragment 317 = .ok (.istore 12, 2) := by decide +kernel
theorem dX10_fragment_319 : decode cX10_fragment 319 = .ok (.iload 12, 2) := by decide +kernel
theorem dX10_fragment_321 : decode cX10_fragment 321 = .ok (.aload_n 0, 1) := by decide +kernel
theorem dX10_fragment_322 : decode cX10_fragment 322 = .ok (.getfield 50, 3) := by decide +kernel
theorem dX10_fragment_325 : decode cX10_fragment 325 = .ok (.iload 6, 2) := by decide +kernel
theorem dX10_fragment_327 : decode cX10_fragment 327 = .ok (.iaload, 1) := by decide +kernel
theorem dX10_fragment_328 : decode cX10_fragment 328 = .ok (.if_icmp .ge 29, 3) := by decide +kernel
theorem dX10_fragment_331 : decode cX10_fragment 331 = .ok (.aload_n 0, 1) := by decide +kernel
theorem dX10_fragment_332 : decode cX10_fragment 332 = .ok (.getfield 65, 3) := by decide +kernel
theorem dX10_fragment_335 : decode cX10_fragment 335 = .ok (.iload 12, 2) := by decide +kernel
theorem dX10_fragment_337 : decode cX10_fragment 337 = .ok (.aload_n 0, 1) := by decide +kernel
theorem dX10_fragment_338 : decode cX10_fragment 338 = .ok (.getfield 62, 3) := by decide +kernel
theorem dX10_fragment_341 : decode cX10_fragment 341 = .ok (.bipush 32, 2) := by decide +kernel
theorem dX10_fragment_343 : decode cX10_fragment 343 = .ok (.iload 6, 2) := by decide +kernel
theorem dX10_fragment_345 : decode cX10_fragment 345 = .ok (.imul, 1) := by decide +kernel
theorem dX10_fragment_346 : decode cX10_fragment 346 = .ok (.iload 12, 2) := by decide +kernel
theorem dX10_fragment_348 : decode cX10_fragment 348 = .ok (.iadd, 1) := by decide +kernel
theorem dX10_fragment_349 : decode cX10_fragment 349 = .ok (.iaload, 1) := by decide +kernel
theorem dX10_fragment_350 : decode cX10_fragment 350 = .ok (.iastore, 1) := by decide +kernel
theorem dX10_fragment_351 : decode cX10_fragment 351 = .ok (.iinc 12 1, 3) := by decide +kernel
theorem dX10_fragment_354 : decode cX10_fragment 354 = .ok (.goto (-35), 3) := by decide +kernel
theorem dX10_fragment_357 : decode cX10_fragment 357 = .ok (.aload_n 0, 1) := by decide +kernel
theorem dX10_fragment_358 : decode cX10_fragment 358 = .ok (.iload_n 1, 1) := by decide +kernel
theorem dX10_fragment_359 : decode cX10_fragment 359 = .ok (.aload_n 0, 1) := by decide +kernel
theorem dX10_fragment_360 : decode cX10_fragment 360 = .ok (.getfield 59, 3) := by decide +kernel
theorem dX10_fragment_363 : decode cX10_fragment 363 = .ok (.iload 6, 2) := by decide +kernel
theorem dX10_fragment_365 : decode cX10_fragment 365 = .ok (.iaload, 1) := by decide +kernel
theorem dX10_fragment_366 : decode cX10_fragment 366 = .ok (.aload_n 0, 1) := by decide +kernel
theorem dX10_fragment_367 : decode cX10_fragment 367 = .ok (.getfield 50, 3) := by decide +kernel
theorem dX10_fragment_370 : decode cX10_fragment 370 = .ok (.iload 6, 2) := by decide +kernel
theorem dX10_fragment_372 : decode cX10_fragment 372 = .ok (.iaload, 1) := by decide +kernel
theorem dX10_fragment_373 : decode cX10_fragment 373 = .ok (.invokevirtual 155, 3) := by decide +kernel
theorem dX10_fragment_376 : decode cX10_fragment 376 = .ok (.return_, 1) := by decide +kernel
theorem dX10_take_0 : decode cX10_take 0 = .ok (.iload_n 2, 1) := by decide +kernel
theorem dX10_take_1 : decode cX10_take 1 = .ok (.iconst 1, 1) := by decide +kernel
theorem dX10_take_2 : decode cX10_take 2 = .ok (.if_icmp .ne 70, 3) := by decide +kernel
theorem dX10_take_5 : decode cX10_take 5 = .ok (.iload_n 3, 1) := by decide +kernel
theorem dX10_take_6 : decode cX10_take 6 = .ok (.ifCond .le 66, 3) := by decide +kernel
theorem dX10_take_9 : decode cX10_take 9 = .ok (.aload_n 0, 1) := by decide +kernel
theorem dX10_take_10 : decode cX10_take 10 = .ok (.getfield 65, 3) := by decide +kernel
theorem dX10_take_13 : decode cX10_take 13 = .ok (.iconst 0, 1) := by decide +kernel
theorem dX10_take_14 : decode cX10_take 14 = .ok (.iaload, 1) := by decide +kernel
theorem dX10_take_15 : decode cX10_take 15 = .ok (.bipush 8, 2) := by decide +kernel
theorem dX10_take_17 : decode cX10_take 17 = .ok (.if_icmp .ne 55, 3) := by decide +kernel
theorem dX10_take_20 : decode cX10_take 20 = .ok (.iconst 0, 1) := by decide +kernel
theorem dX10_take_21 : decode cX10_take 21 = .ok (.istore 4, 2) := by decide +kernel
theorem dX10_take_23 : decode cX10_take 23 = .ok (.iload 4, 2) := by decide +kernel
theorem dX10_take_25 : decode cX10_take 25 = .ok (.iload_n 3, 1) := by decide +kernel
theorem dX10_take_26 : decode cX10_take 26 = .ok (.if_icmp .ge 32, 3) := by decide +kernel
theorem dX10_take_29 : decode cX10_take 29 = .ok (.aload_n 0, 1) := by decide +kernel
theorem dX10_take_30 : decode cX10_take 30 = .ok (.getfield 68, 3) := by decide +kernel
theorem dX10_take_33 : decode cX10_take 33 = .ok (.iload 4, 2) := by decide +kernel
theorem dX10_take_35 : decode cX10_take 35 = .ok (.iload 4, 2) := by decide +kernel
theorem dX10_take_37 : decode cX10_take 37 = .ok (.ifCond .ne 7, 3) := by decide +kernel
theorem dX10_take_40 : decode cX10_take 40 = .ok (.iconst 0, 1) := by decide +kernel
theorem dX10_take_41 : decode cX10_take 41 = .ok (.goto 10, 3) := by decide +kernel
theorem dX10_take_44 : decode cX10_take 44 = .ok (.aload_n 0, 1) := by decide +kernel
theorem dX10_take_45 : decode cX10_take 45 = .ok (.getfield 65, 3) := by decide +kernel
theorem dX10_take_48 : decode cX10_take 48 = .ok (.iload 4, 2) := by decide +kernel
theorem dX10_take_50 : decode cX10_take 50 = .ok (.iaload, 1) := by decide +kernel
theorem dX10_take_51 : decode cX10_take 51 = .ok (.iastore, 1) := by decide +kernel
theorem dX10_take_52 : decode cX10_take 52 = .ok (.iinc 4 1, 3) := by decide +kernel
theorem dX10_take_55 : decode cX10_take 55 = .ok (.goto (-32), 3) := by decide +kernel
theorem dX10_take_58 : decode cX10_take 58 = .ok (.aload_n 0, 1) := by decide +kernel
theorem dX10_take_59 : decode cX10_take 59 = .ok (.iload_n 3, 1) := by decide +kernel
theorem dX10_take_60 : decode cX10_take 60 = .ok (.putfield 131, 3) := by decide +kernel
theorem dX10_take_63 : decode cX10_take 63 = .ok (.aload_n 0, 1) := by decide +kernel
theorem dX10_take_64 : decode cX10_take 64 = .ok (.iload_n 1, 1) := by decide +kernel
theorem dX10_take_65 : decode cX10_take 65 = .ok (.iconst 1, 1) := by decide +kernel
theorem dX10_take_66 : decode cX10_take 66 = .ok (.invokevirtual 173, 3) := by decide +kernel
theorem dX10_take_69 : decode cX10_take 69 = .ok (.goto 22, 3) := by decide +kernel
theorem dX10_take_72 : decode cX10_take 72 = .ok (.iload_n 2, 1) := by decide +kernel
theorem dX10_take_73 : decode cX10_take 73 = .ok (.bipush 6, 2) := by decide +kernel
theorem dX10_take_75 : decode cX10_take 75 = .ok (.if_icmp .ne 16, 3) := by decide +kernel
theorem dX10_take_78 : decode cX10_take 78 = .ok (.iload_n 3, 1) := by decide +kernel
theorem dX10_take_79 : decode cX10_take 79 = .ok (.iconst 4, 1) := by decide +kernel
theorem dX10_take_80 : decode cX10_take 80 = .ok (.if_icmp .le 11, 3) := by decide +kernel
theorem dX10_take_83 : decode cX10_take 83 = .ok (.aload_n 0, 1) := by decide +kernel
theorem dX10_take_84 : decode cX10_take 84 = .ok (.iload_n 1, 1) := by decide +kernel
theorem dX10_take_85 : decode cX10_take 85 = .ok (.iload_n 3, 1) := by decide +kernel
theorem dX10_take_86 : decode cX10_take 86 = .ok (.iconst 5, 1) := by decide +kernel
theorem dX10_take_87 : decode cX10_take 87 = .ok (.isub, 1) := by decide +kernel
theorem dX10_take_88 : decode cX10_take 88 = .ok (.invokevirtual 176, 3) := by decide +kernel
theorem dX10_take_91 : decode cX10_take 91 = .ok (.return_, 1) := by decide +kernel
theorem dX10_way_0 : decode cX10_way 0 = .ok (.aload_n 0, 1) := by decide +kernel
theorem dX10_way_1 : decode cX10_way 1 = .ok (.getfield 86, 3) := by decide +kernel
theorem dX10_way_4 : decode cX10_way 4 = .ok (.iload_n 1, 1) := by decide +kernel
theorem dX10_way_5 : decode cX10_way 5 = .ok (.iaload, 1) := by decide +kernel
theorem dX10_way_6 : decode cX10_way 6 = .ok (.aload_n 0, 1) := by decide +kernel
theorem dX10_way_7 : decode cX10_way 7 = .ok (.getfield 83, 3) := by decide +kernel
theorem dX10_way_10 : decode cX10_way 10 = .ok (.iload_n 1, 1) := by decide +kernel
theorem dX10_way_11 : decode cX10_way 11 = .ok (.iaload, 1) := by decide +kernel
theorem dX10_way_12 : decode cX10_way 12 = .ok (.isub, 1) := by decide +kernel
theorem dX10_way_13 : decode cX10_way 13 = .ok (.sipush 255, 3) := by decide +kernel
theorem dX10_way_16 : decode cX10_way 16 = .ok (.iand, 1) := by decide +kernel
theorem dX10_way_17 : decode cX10_way 17 = .ok (.ireturn, 1) := by decide +kernel
theorem dX10_say_0 : decode cX10_say 0 = .ok (.aload_n 0, 1) := by decide +kernel
theorem dX10_say_1 : decode cX10_say 1 = .ok (.getfield 68, 3) := by decide +kernel
theorem dX10_say_4 : decode cX10_say 4 = .ok (.iconst 0, 1) := by decide +kernel
theorem dX10_say_5 : decode cX10_say 5 = .ok (.iload_n 1, 1) := by decide +kernel
theorem dX10_say_6 : decode cX10_say 6 = .ok (.iastore, 1) := by decide +kernel
theorem dX10_say_7 : decode cX10_say 7 = .ok (.aload_n 0, 1) := by decide +kernel
theorem dX10_say_8 : decode cX10_say 8 = .ok (.getfield 68, 3) := by decide +kernel
theorem dX10_say_11 : decode cX10_say 11 = .ok (.iconst 1, 1) := by decide +kernel
theorem dX10_say_12 : decode cX10_say 12 = .ok (.iload_n 2, 1) := by decide +kernel
theorem dX10_say_13 : decode cX10_say 13 = .ok (.sipush 255, 3) := by decide +kernel
theorem dX10_say_16 : decode cX10_say 16 = .ok (.iand, 1) := by decide +kernel
theorem dX10_say_17 : decode cX10_say 17 = .ok (.iastore, 1) := by decide +kernel
theorem dX10_say_18 : decode cX10_say 18 = .ok (.aload_n 0, 1) := by decide +kernel
theorem dX10_say_19 : decode cX10_say 19 = .ok (.getfield 68, 3) := by decide +kernel
theorem dX10_say_22 : decode cX10_say 22 = .ok (.iconst 2, 1) := by decide +kernel
theorem dX10_say_23 : decode cX10_say 23 = .ok (.iload_n 3, 1) := by decide +kernel
theorem dX10_say_24 : decode cX10_say 24 = .ok (.sipush 255, 3) := by decide +kernel
theorem dX10_say_27 : decode cX10_say 27 = .ok (.iand, 1) := by decide +kernel
theorem dX10_say_28 : decode cX10_say 28 = .ok (.iastore, 1) := by decide +kernel
theorem dX10_say_29 : decode cX10_say 29 = .ok (.aload_n 0, 1) := by decide +kernel
theorem dX10_say_30 : decode cX10_say 30 = .ok (.getfield 68, 3) := by decide +kernel
theorem dX10_say_33 : decode cX10_say 33 = .ok (.iconst 3, 1) := by decide +kernel
theorem dX10_say_34 : decode cX10_say 34 = .ok (.iload 4, 2) := by decide +kernel
theorem dX10_say_36 : decode cX10_say 36 = .ok (.iastore, 1) := by decide +kernel
theorem dX10_say_37 : decode cX10_say 37 = .ok (.aload_n 0, 1) := by decide +kernel
theorem dX10_say_38 : decode cX10_say 38 = .ok (.getfield 68, 3) := by decide +kernel
theorem dX10_say_41 : decode cX10_say 41 = .ok (.iconst 4, 1) := by decide +kernel
theorem dX10_say_42 : decode cX10_say 42 = .ok (.iload 5, 2) := by decide +kernel
theorem dX10_say_44 : decode cX10_say 44 = .ok (.iastore, 1) := by decide +kernel
theorem dX10_say_45 : decode cX10_say 45 = .ok (.aload_n 0, 1) := by decide +kernel
theorem dX10_say_46 : decode cX10_say 46 = .ok (.iconst 5, 1) := by decide +kernel
theorem dX10_say_47 : decode cX10_say 47 = .ok (.putfield 131, 3) := by decide +kernel
theorem dX10_say_50 : decode cX10_say 50 = .ok (.return_, 1) := by decide +kernel
theorem dX10_tell_0 : decode cX10_tell 0 = .ok (.aload_n 0, 1) := by decide +kernel
theorem dX10_tell_1 : decode cX10_tell 1 = .ok (.aload_n 0, 1) := by decide +kernel
theorem dX10_tell_2 : decode cX10_tell 2 = .ok (.getfield 77, 3) := by decide +kernel
theorem dX10_tell_5 : decode cX10_tell 5 = .ok (.iload_n 1, 1) := by decide +kernel
theorem dX10_tell_6 : decode cX10_tell 6 = .ok (.iaload, 1) := by decide +kernel
theorem dX10_tell_7 : decode cX10_tell 7 = .ok (.aload_n 0, 1) := by decide +kernel
theorem dX10_tell_8 : decode cX10_tell 8 = .ok (.getfield 86, 3) := by decide +kernel
theorem dX10_tell_11 : decode cX10_tell 11 = .ok (.iload_n 1, 1) := by decide +kernel
theorem dX10_tell_12 : decode cX10_tell 12 = .ok (.iaload, 1) := by decide +kernel
theorem dX10_tell_13 : decode cX10_tell 13 = .ok (.aload_n 0, 1) := by decide +kernel
theorem dX10_tell_14 : decode cX10_tell 14 = .ok (.getfield 80, 3) := by decide +kernel
theorem dX10_tell_17 : decode cX10_tell 17 = .ok (.iload_n 1, 1) := by decide +kernel
theorem dX10_tell_18 : decode cX10_tell 18 = .ok (.iaload, 1) := by decide +kernel
theorem dX10_tell_19 : decode cX10_tell 19 = .ok (.iload_n 2, 1) := by decide +kernel
theorem dX10_tell_20 : decode cX10_tell 20 = .ok (.bipush 16, 2) := by decide +kernel
theorem dX10_tell_22 : decode cX10_tell 22 = .ok (.aload_n 0, 1) := by decide +kernel
theorem dX10_tell_23 : decode cX10_tell 23 = .ok (.getfield 110, 3) := by decide +kernel
theorem dX10_tell_26 : decode cX10_tell 26 = .ok (.iload_n 1, 1) := by decide +kernel
theorem dX10_tell_27 : decode cX10_tell 27 = .ok (.iaload, 1) := by decide +kernel
theorem dX10_tell_28 : decode cX10_tell 28 = .ok (.isub, 1) := by decide +kernel
theorem dX10_tell_29 : decode cX10_tell 29 = .ok (.invokevirtual 179, 3) := by decide +kernel
theorem dX10_tell_32 : decode cX10_tell 32 = .ok (.aload_n 0, 1) := by decide +kernel
theorem dX10_tell_33 : decode cX10_tell 33 = .ok (.aload_n 0, 1) := by decide +kernel
theorem dX10_tell_34 : decode cX10_tell 34 = .ok (.getfield 74, 3) := by decide +kernel
theorem dX10_tell_37 : decode cX10_tell 37 = .ok (.iload_n 1, 1) := by decide +kernel
theorem dX10_tell_38 : decode cX10_tell 38 = .ok (.iaload, 1) := by decide +kernel
theorem dX10_tell_39 : decode cX10_tell 39 = .ok (.bipush 6, 2) := by decide +kernel
theorem dX10_tell_41 : decode cX10_tell 41 = .ok (.invokevirtual 173, 3) := by decide +kernel
theorem dX10_tell_44 : decode cX10_tell 44 = .ok (.return_, 1) := by decide +kernel
theorem dX10_advance_0 : decode cX10_advance 0 = .ok (.aload_n 0, 1) := by decide +kernel
theorem dX10_advance_1 : decode cX10_advance 1 = .ok (.iload_n 1, 1) := by decide +kernel
theorem dX10_advance_2 : decode cX10_advance 2 = .ok (.invokevirtual 182, 3) := by decide +kernel
theorem dX10_advance_5 : decode cX10_advance 5 = .ok (.ifCond .ne 10, 3) := by decide +kernel
theorem dX10_advance_8 : decode cX10_advance 8 = .ok (.aload_n 0, 1) := by decide +kernel
theorem dX10_advance_9 : decode cX10_advance 9 = .ok (.getfield 98, 3) := by decide +kernel
theorem dX10_advance_12 : decode cX10_advance 12 = .ok (.iload_n 1, 1) := by decide +kernel
theorem dX10_advance_13 : decode cX10_advance 13 = .ok (.iconst 0, 1) := by decide +kernel
theorem dX10_advance_14 : decode cX10_advance 14 = .ok (.iastore, 1) := by decide +kernel
theorem dX10_advance_15 : decode cX10_advance 15 = .ok (.aload_n 0, 1) := by decide +kernel
theorem dX10_advance_16 : decode cX10_advance 16 = .ok (.getfield 86, 3) := by decide +kernel
theorem dX10_advance_19 : decode cX10_advance 19 = .ok (.iload_n 1, 1) := by decide +kernel
theorem dX10_advance_20 : decode cX10_advance 20 = .ok (.aload_n 0, 1) := by decide +kernel
theorem dX10_advance_21 : decode cX10_advance 21 = .ok (.getfield 86, 3) := by decide +kernel
theorem dX10_advance_24 : decode cX10_advance 24 = .ok (.iload_n 1, 1) := by decide +kernel
theorem dX10_advance_25 : decode cX10_advance 25 = .ok (.iaload, 1) := by decide +kernel
theorem dX10_advance_26 : decode cX10_advance 26 = .ok (.iload_n 2, 1) := by decide +kernel
theorem dX10_advance_27 : decode cX10_advance 27 = .ok (.iadd, 1) := by decide +kernel
theorem dX10_advance_28 : decode cX10_advance 28 = .ok (.sipush 255, 3) := by decide +kernel
theorem dX10_advance_31 : decode cX10_advance 31 = .ok (.iand, 1) := by decide +kernel
theorem dX10_advance_32 : decode cX10_advance 32 = .ok (.iastore, 1) := by decide +kernel
theorem dX10_advance_33 : decode cX10_advance 33 = .ok (.return_, 1) := by decide +kernel
theorem dX10_reset_0 : decode cX10_reset 0 = .ok (.aload_n 0, 1) := by decide +kernel
theorem dX10_reset_1 : decode cX10_reset 1 = .ok (.iload_n 2, 1) := by decide +kernel
theorem dX10_reset_2 : decode cX10_reset 2 = .ok (.iload_n 3, 1) := by decide +kernel
theorem dX10_reset_3 : decode cX10_reset 3 = .ok (.iconst 0, 1) := by decide +kernel
theorem dX10_reset_4 : decode cX10_reset 4 = .ok (.iconst 4, 1) := by decide +kernel
theorem dX10_reset_5 : decode cX10_reset 5 = .ok (.iconst 0, 1) := by decide +kernel
theorem dX10_reset_6 : decode cX10_reset 6 = .ok (.invokevirtual 179, 3) := by decide +kernel
theorem dX10_reset_9 : decode cX10_reset 9 = .ok (.aload_n 0, 1) := by decide +kernel
theorem dX10_reset_10 : decode cX10_reset 10 = .ok (.iload_n 1, 1) := by decide +kernel
theorem dX10_reset_11 : decode cX10_reset 11 = .ok (.bipush 6, 2) := by decide +kernel
theorem dX10_reset_13 : decode cX10_reset 13 = .ok (.invokevirtual 173, 3) := by decide +kernel
theorem dX10_reset_16 : decode cX10_reset 16 = .ok (.return_, 1) := by decide +kernel
theorem dX10_segment_0 : decode cX10_segment 0 = .ok (.aload_n 0, 1) := by decide +kernel
theorem dX10_segment_1 : decode cX10_segment 1 = .ok (.getfield 65, 3) := by decide +kernel
theorem dX10_segment_4 : decode cX10_segment 4 = .ok (.iconst 0, 1) := by decide +kernel
theorem dX10_segment_5 : decode cX10_segment 5 = .ok (.iaload, 1) := by decide +kernel
theorem dX10_segment_6 : decode cX10_segment 6 = .ok (.istore_n 3, 1) := by decide +kernel
theorem dX10_segment_7 : decode cX10_segment 7 = .ok (.aload_n 0, 1) := by decide +kernel
theorem dX10_segment_8 : decode cX10_segment 8 = .ok (.getfield 65, 3) := by decide +kernel
theorem dX10_segment_11 : decode cX10_segment 11 = .ok (.iconst 1, 1) := by decide +kernel
theorem dX10_segment_12 : decode cX10_segment 12 = .ok (.iaload, 1) := by decide +kernel
theorem dX10_segment_13 : decode cX10_segment 13 = .ok (.istore 4, 2) := by decide +kernel
theorem dX10_segment_15 : decode cX10_segment 15 = .ok (.aload_n 0, 1) := by decide +kernel
theorem dX10_segment_16 : decode cX10_segment 16 = .ok (.getfield 65, 3) := by decide +kernel
theorem dX10_segment_19 : decode cX10_segment 19 = .ok (.iconst 2, 1) := by decide +kernel
theorem dX10_segment_20 : decode cX10_segment 20 = .ok (.iaload, 1) := by decide +kernel
theorem dX10_segment_21 : decode cX10_segment 21 = .ok (.istore 5, 2) := by decide +kernel
theorem dX10_segment_23 : decode cX10_segment 23 = .ok (.aload_n 0, 1) := by decide +kernel
theorem dX10_segment_24 : decode cX10_segment 24 = .ok (.getfield 65, 3) := by decide +kernel
theorem dX10_segment_27 : decode cX10_segment 27 = .ok (.iconst 3, 1) := by decide +kernel
theorem dX10_segment_28 : decode cX10_segment 28 = .ok (.iaload, 1) := by decide +kernel
theorem dX10_segment_29 : decode cX10_segment 29 = .ok (.istore 6, 2) := by decide +kernel
theorem dX10_segment_31 : decode cX10_segment 31 = .ok (.aload_n 0, 1) := by decide +kernel
theorem dX10_segment_32 : decode cX10_segment 32 = .ok (.getfield 65, 3) := by decide +kernel
theorem dX10_segment_35 : decode cX10_segment 35 = .ok (.iconst 4, 1) := by decide +kernel
theorem dX10_segment_36 : decode cX10_segment 36 = .ok (.iaload, 1) := by decide +kernel
theorem dX10_segment_37 : decode cX10_segment 37 = .ok (.istore 7, 2) := by decide +kernel
theorem dX10_segment_39 : decode cX10_segment 39 = .ok (.iconst 0, 1) := by decide +kernel
theorem dX10_segment_40 : decode cX10_segment 40 = .ok (.istore 8, 2) := by decide +kernel
theorem dX10_segment_42 : decode cX10_segment 42 = .ok (.iload 8, 2) := by decide +kernel
theorem dX10_segment_44 : decode cX10_segment 44 = .ok (.iconst 3, 1) := by decide +kernel
theorem dX10_segment_45 : decode cX10_segment 45 = .ok (.if_icmp .ge 41, 3) := by decide +kernel
theorem dX10_segment_48 : decode cX10_segment 48 = .ok (.aload_n 0, 1) := by decide +kernel
theorem dX10_segment_49 : decode cX10_segment 49 = .ok (.getfield 71, 3) := by decide +kernel
theorem dX10_segment_52 : decode cX10_segment 52 = .ok (.iload 8, 2) := by decide +kernel
theorem dX10_segment_54 : decode cX10_segment 54 = .ok (.iaload, 1) := by decide +kernel
theorem dX10_segment_55 : decode cX10_segment 55 = .ok (.ifCond .eq 25, 3) := by decide +kernel
theorem dX10_segment_58 : decode cX10_segment 58 = .ok (.aload_n 0, 1) := by decide +kernel
theorem dX10_segment_59 : decode cX10_segment 59 = .ok (.getfield 74, 3) := by decide +kernel
theorem dX10_segment_62 : decode cX10_segment 62 = .ok (.iload 8, 2) := by decide +kernel
theorem dX10_segment_64 : decode cX10_segment 64 = .ok (.iaload, 1) := by decide +kernel
theorem dX10_segment_65 : decode cX10_segment 65 = .ok (.iload_n 1, 1) := by decide +kernel
theorem dX10_segment_66 : decode cX10_segment 66 = .ok (.if_icmp .ne 14, 3) := by decide +kernel
theorem dX10_segment_69 : decode cX10_segment 69 = .ok (.aload_n 0, 1) := by decide +kernel
theorem dX10_segment_70 : decode cX10_segment 70 = .ok (.getfield 77, 3) := by decide +kernel
theorem dX10_segment_73 : decode cX10_segment 73 = .ok (.iload 8, 2) := by decide +kernel
theorem dX10_segment_75 : decode cX10_segment 75 = .ok (.iaload, 1) := by decide +kernel
theorem dX10_segment_76 : decode cX10_segment 76 = .ok (.iload_n 3, 1) := by decide +kernel
theorem dX10_segment_77 : decode cX10_segment 77 = .ok (.if_icmp .eq 9, 3) := by decide +kernel
theorem dX10_segment_80 : decode cX10_segment 80 = .ok (.iinc 8 1, 3) := by decide +kernel
theorem dX10_segment_83 : decode cX10_segment 83 = .ok (.goto (-41), 3) := by decide +kernel
theorem dX10_segment_86 : decode cX10_segment 86 = .ok (.iload 8, 2) := by decide +kernel
theorem dX10_segment_88 : decode cX10_segment 88 = .ok (.iconst 3, 1) := by decide +kernel
theorem dX10_segment_89 : decode cX10_segment 89 = .ok (.if_icmp .ne 79, 3) := by decide +kernel
theorem dX10_segment_92 : decode cX10_segment 92 = .ok (.iload 6, 2) := by decide +kernel
theorem dX10_segment_94 : decode cX10_segment 94 = .ok (.iconst 4, 1) := by decide +kernel
theorem dX10_segment_95 : decode cX10_segment 95 = .ok (.iand, 1) := by decide +kernel
theorem dX10_segment_96 : decode cX10_segment 96 = .ok (.ifCond .eq 4, 3) := by decide +kernel
theorem dX10_segment_99 : decode cX10_segment 99 = .ok (.return_, 1) := by decide +kernel
theorem dX10_segment_100 : decode cX10_segment 100 = .ok (.iconst 0, 1) := by decide +kernel
theorem dX10_segment_101 : decode cX10_segment 101 = .ok (.istore 9, 2) := by decide +kernel
theorem dX10_segment_103 : decode cX10_segment 103 = .ok (.iload 9, 2) := by decide +kernel
theorem dX10_segment_105 : decode cX10_segment 105 = .ok (.iconst 3, 1) := by decide +kernel
theorem dX10_segment_106 : decode cX10_segment 106 = .ok (.if_icmp .ge 19, 3) := by decide +kernel
theorem dX10_segment_109 : decode cX10_segment 109 = .ok (.aload_n 0, 1) := by decide +kernel
theorem dX10_segment_110 : decode cX10_segment 110 = .ok (.getfield 71, 3) := by decide +kernel
theorem dX10_segment_113 : decode cX10_segment 113 = .ok (.iload 9, 2) := by decide +kernel
theorem dX10_segment_115 : decode cX10_segment 115 = .ok (.iaload, 1) := by decide +kernel
theorem dX10_segment_116 : decode cX10_segment 116 = .ok (.ifCond .eq 9, 3) := by decide +kernel
theorem dX10_segment_119 : decode cX10_segment 119 = .ok (.iinc 9 1, 3) := by decide +kernel
theorem dX10_segment_122 : decode cX10_segment 122 = .ok (.goto (-19), 3) := by decide +kernel
theorem dX10_segment_125 : decode cX10_segment 125 = .ok (.iload 6, 2) := by decide +kernel
theorem dX10_segment_127 : decode cX10_segment 127 = .ok (.bipush 19, 2) := by decide +kernel
theorem dX10_segment_129 : decode cX10_segment 129 = .ok (.iand, 1) := by decide +kernel
theorem dX10_segment_130 : decode cX10_segment 130 = .ok (.iconst 2, 1) := by decide +kernel
theorem dX10_segment_131 : decode cX10_segment 131 = .ok (.if_icmp .ne 28, 3) := by decide +kernel
theorem dX10_segment_134 : decode cX10_segment 134 = .ok (.iload_n 2, 1) := by decide +kernel
theorem dX10_segment_135 : decode cX10_segment 135 = .ok (.ifCond .ne 24, 3) := by decide +kernel
theorem dX10_segment_138 : decode cX10_segment 138 = .ok (.iload 9, 2) := by decide +kernel
theorem dX10_segment_140 : decode cX10_segment 140 = .ok (.iconst 3, 1) := by decide +kernel
theorem dX10_segment_141 : decode cX10_segment 141 = .ok (.if_icmp .ge 18, 3) := by decide +kernel
theorem dX10_segment_144 : decode cX10_segment 144 = .ok (.aload_n 0, 1) := by decide +kernel
theorem dX10_segment_145 : decode cX10_segment 145 = .ok (.iload 9, 2) := by decide +kernel
theorem dX10_segment_147 : decode cX10_segment 147 = .ok (.iload_n 1, 1) := by decide +kernel
theorem dX10_segment_148 : decode cX10_segment 148 = .ok (.iload_n 3, 1) := by decide +kernel
theorem dX10_segment_149 : decode cX10_segment 149 = .ok (.iload 4, 2) := by decide +kernel
theorem dX10_segment_151 : decode cX10_segment 151 = .ok (.iload 7, 2) := by decide +kernel
theorem dX10_segment_153 : decode cX10_segment 153 = .ok (.invokevirtual 186, 3) := by decide +kernel
theorem dX10_segment_156 : decode cX10_segment 156 = .ok (.goto 11, 3) := by decide +kernel
theorem dX10_segment_159 : decode cX10_segment 159 = .ok (.aload_n 0, 1) := by decide +kernel
theorem dX10_segment_160 : decode cX10_segment 160 = .ok (.iload_n 1, 1) := by decide +kernel
theorem dX10_segment_161 : decode cX10_segment 161 = .ok (.iload_n 3, 1) := by decide +kernel
theorem dX10_segment_162 : decode cX10_segment 162 = .ok (.iload 5, 2) := by decide +kernel
theorem dX10_segment_164 : decode cX10_segment 164 = .ok (.invokevirtual 189, 3) := by decide +kernel
theorem dX10_segment_167 : decode cX10_segment 167 = .ok (.return_, 1) := by decide +kernel
theorem dX10_segment_168 : decode cX10_segment 168 = .ok (.iload 6, 2) := by decide +kernel
theorem dX10_segment_170 : decode cX10_segment 170 = .ok (.iconst 4, 1) := by decide +kernel
theorem dX10_segment_171 : decode cX10_segment 171 = .ok (.iand, 1) := by decide +kernel
theorem dX10_segment_172 : decode cX10_segment 172 = .ok (.ifCond .eq 26, 3) := by decide +kernel
theorem dX10_segment_175 : decode cX10_segment 175 = .ok (.iload 4, 2) := by decide +kernel
theorem dX10_segment_177 : decode cX10_segment 177 = .ok (.aload_n 0, 1) := by decide +kernel
theorem dX10_segment_178 : decode cX10_segment 178 = .ok (.getfield 80, 3) := by decide +kernel
theorem dX10_segment_181 : decode cX10_segment 181 = .ok (.iload 8, 2) := by decide +kernel
theorem dX10_segment_183 : decode cX10_segment 183 = .ok (.iaload, 1) := by decide +kernel
theorem dX10_segment_184 : decode cX10_segment 184 = .ok (.if_icmp .ne 65, 3) := by decide +kernel
theorem dX10_segment_187 : decode cX10_segment 187 = .ok (.aload_n 0, 1) := by decide +kernel
theorem dX10_segment_188 : decode cX10_segment 188 = .ok (.getfield 71, 3) := by decide +kernel
theorem dX10_segment_191 : decode cX10_segment 191 = .ok (.iload 8, 2) := by decide +kernel
theorem dX10_segment_193 : decode cX10_segment 193 = .ok (.iconst 0, 1) := by decide +kernel
theorem dX10_segment_194 : decode cX10_segment 194 = .ok (.iastore, 1) := by decide +kernel
theorem dX10_segment_195 : decode cX10_segment 195 = .ok (.goto 54, 3) := by decide +kernel
theorem dX10_segment_198 : decode cX10_segment 198 = .ok (.iload 6, 2) := by decide +kernel
theorem dX10_segment_200 : decode cX10_segment 200 = .ok (.iconst 2, 1) := by decide +kernel
theorem dX10_segment_201 : decode cX10_segment 201 = .ok (.iand, 1) := by decide +kernel
theorem dX10_segment_202 : decode cX10_segment 202 = .ok (.ifCond .eq 14, 3) := by decide +kernel
theorem dX10_segment_205 : decode cX10_segment 205 = .ok (.aload_n 0, 1) := by decide +kernel
theorem dX10_segment_206 : decode cX10_segment 206 = .ok (.iload 8, 2) := by decide +kernel
theorem dX10_segment_208 : decode cX10_segment 208 = .ok (.bipush 16, 2) := by decide +kernel
theorem dX10_segment_210 : decode cX10_segment 210 = .ok (.invokevirtual 192, 3) := by decide +kernel
theorem dX10_segment_213 : decode cX10_segment 213 = .ok (.goto 36, 3) := by decide +kernel
theorem dX10_segment_216 : decode cX10_segment 216 = .ok (.iload 6, 2) := by decide +kernel
theorem dX10_segment_218 : decode cX10_segment 218 = .ok (.bipush 16, 2) := by decide +kernel
theorem dX10_segment_220 : decode cX10_segment 220 = .ok (.iand, 1) := by decide +kernel
theorem dX10_segment_221 : decode cX10_segment 221 = .ok (.ifCond .eq 28, 3) := by decide +kernel
theorem dX10_segment_224 : decode cX10_segment 224 = .ok (.aload_n 0, 1) := by decide +kernel
theorem dX10_segment_225 : decode cX10_segment 225 = .ok (.iload 8, 2) := by decide +kernel
theorem dX10_segment_227 : decode cX10_segment 227 = .ok (.iload 4, 2) := by decide +kernel
theorem dX10_segment_229 : decode cX10_segment 229 = .ok (.iload 5, 2) := by decide +kernel
theorem dX10_segment_231 : decode cX10_segment 231 = .ok (.iload 6, 2) := by decide +kernel
theorem dX10_segment_233 : decode cX10_segment 233 = .ok (.iconst 1, 1) := by decide +kernel
theorem dX10_segment_234 : decode cX10_segment 234 = .ok (.iand, 1) := by decide +kernel
theorem dX10_segment_235 : decode cX10_segment 235 = .ok (.ifCond .eq 7, 3) := by decide +kernel
theorem dX10_segment_238 : decode cX10_segment 238 = .ok (.iconst 1, 1) := by decide +kernel
theorem dX10_segment_239 : decode cX10_segment 239 = .ok (.goto 4, 3) := by decide +kernel
theorem dX10_segment_242 : decode cX10_segment 242 = .ok (.iconst 0, 1) := by decide +kernel
theorem dX10_segment_243 : decode cX10_segment 243 = .ok (.iload 7, 2) := by decide +kernel
theorem dX10_segment_245 : decode cX10_segment 245 = .ok (.iload_n 2, 1) := by decide +kernel
theorem dX10_segment_246 : decode cX10_segment 246 = .ok (.invokevirtual 195, 3) := by decide +kernel
theorem dX10_segment_249 : decode cX10_segment 249 = .ok (.return_, 1) := by decide +kernel
theorem dX10_begin_0 : decode cX10_begin 0 = .ok (.aload_n 0, 1) := by decide +kernel
theorem dX10_begin_1 : decode cX10_begin 1 = .ok (.getfield 71, 3) := by decide +kernel
theorem dX10_begin_4 : decode cX10_begin 4 = .ok (.iload_n 1, 1) := by decide +kernel
theorem dX10_begin_5 : decode cX10_begin 5 = .ok (.iconst 1, 1) := by decide +kernel
theorem dX10_begin_6 : decode cX10_begin 6 = .ok (.iastore, 1) := by decide +kernel
theorem dX10_begin_7 : decode cX10_begin 7 = .ok (.aload_n 0, 1) := by decide +kernel
theorem dX10_begin_8 : decode cX10_begin 8 = .ok (.getfield 74, 3) := by decide +kernel
theorem dX10_begin_11 : decode cX10_begin 11 = .ok (.iload_n 1, 1) := by decide +kernel
theorem dX10_begin_12 : decode cX10_begin 12 = .ok (.iload_n 2, 1) := by decide +kernel
theorem dX10_begin_13 : decode cX10_begin 13 = .ok (.iastore, 1) := by decide +kernel
theorem dX10_begin_14 : decode cX10_begin 14 = .ok (.aload_n 0, 1) := by decide +kernel
theorem dX10_begin_15 : decode cX10_begin 15 = .ok (.getfield 77, 3) := by decide +kernel
theorem dX10_begin_18 : decode cX10_begin 18 = .ok (.iload_n 1, 1) := by decide +kernel
theorem dX10_begin_19 : decode cX10_begin 19 = .ok (.iload_n 3, 1) := by decide +kernel
theorem dX10_begin_20 : decode cX10_begin 20 = .ok (.iastore, 1) := by decide +kernel
theorem dX10_begin_21 : decode cX10_begin 21 = .ok (.aload_n 0, 1) := by decide +kernel
theorem dX10_begin_22 : decode cX10_begin 22 = .ok (.getfield 80, 3) := by decide +kernel
theorem dX10_begin_25 : decode cX10_begin 25 = .ok (.iload_n 1, 1) := by decide +kernel
theorem dX10_begin_26 : decode cX10_begin 26 = .ok (.iload 4, 2) := by decide +kernel
theorem dX10_begin_28 : decode cX10_begin 28 = .ok (.iconst 1, 1) := by decide +kernel
theorem dX10_begin_29 : decode cX10_begin 29 = .ok (.iadd, 1) := by decide +kernel
theorem dX10_begin_30 : decode cX10_begin 30 = .ok (.sipush 255, 3) := by decide +kernel
theorem dX10_begin_33 : decode cX10_begin 33 = .ok (.iand, 1) := by decide +kernel
theorem dX10_begin_34 : decode cX10_begin 34 = .ok (.iastore, 1) := by decide +kernel
theorem dX10_begin_35 : decode cX10_begin 35 = .ok (.aload_n 0, 1) := by decide +kernel
theorem dX10_begin_36 : decode cX10_begin 36 = .ok (.getfield 83, 3) := by decide +kernel
theorem dX10_begin_39 : decode cX10_begin 39 = .ok (.iload_n 1, 1) := by decide +kernel
theorem dX10_begin_40 : decode cX10_begin 40 = .ok (.iconst 4, 1) := by decide +kernel
theorem dX10_begin_41 : decode cX10_begin 41 = .ok (.aload_n 0, 1) := by decide +kernel
theorem dX10_begin_42 : decode cX10_begin 42 = .ok (.getfield 163, 3) := by decide +kernel
theorem dX10_begin_45 : decode cX10_begin 45 = .ok (.imul, 1) := by decide +kernel
theorem dX10_begin_46 : decode cX10_begin 46 = .ok (.sipush 255, 3) := by decide +kernel
theorem dX10_begin_49 : decode cX10_begin 49 = .ok (.iand, 1) := by decide +kernel
theorem dX10_begin_50 : decode cX10_begin 50 = .ok (.iastore, 1) := by decide +kernel
theorem dX10_begin_51 : decode cX10_begin 51 = .ok (.aload_n 0, 1) := by decide +kernel
theorem dX10_begin_52 : decode cX10_begin 52 = .ok (.getfield 86, 3) := by decide +kernel
theorem dX10_begin_55 : decode cX10_begin 55 = .ok (.iload_n 1, 1) := by decide +kernel
theorem dX10_begin_56 : decode cX10_begin 56 = .ok (.aload_n 0, 1) := by decide +kernel
theorem dX10_begin_57 : decode cX10_begin 57 = .ok (.getfield 83, 3) := by decide +kernel
theorem dX10_begin_60 : decode cX10_begin 60 = .ok (.iload_n 1, 1) := by decide +kernel
theorem dX10_begin_61 : decode cX10_begin 61 = .ok (.iaload, 1) := by decide +kernel
theorem dX10_begin_62 : decode cX10_begin 62 = .ok (.iastore, 1) := by decide +kernel
theorem dX10_begin_63 : decode cX10_begin 63 = .ok (.aload_n 0, 1) := by decide +kernel
theorem dX10_begin_64 : decode cX10_begin 64 = .ok (.getfield 89, 3) := by decide +kernel
theorem dX10_begin_67 : decode cX10_begin 67 = .ok (.iload_n 1, 1) := by decide +kernel
theorem dX10_begin_68 : decode cX10_begin 68 = .ok (.iload 5, 2) := by decide +kernel
theorem dX10_begin_70 : decode cX10_begin 70 = .ok (.iastore, 1) := by decide +kernel
theorem dX10_begin_71 : decode cX10_begin 71 = .ok (.aload_n 0, 1) := by decide +kernel
theorem dX10_begin_72 : decode cX10_begin 72 = .ok (.getfield 92, 3) := by decide +kernel
theorem dX10_begin_75 : decode cX10_begin 75 = .ok (.iload_n 1, 1) := by decide +kernel
theorem dX10_begin_76 : decode cX10_begin 76 = .ok (.iconst 1, 1) := by decide +kernel
theorem dX10_begin_77 : decode cX10_begin 77 = .ok (.iastore, 1) := by decide +kernel
theorem dX10_begin_78 : decode cX10_begin 78 = .ok (.aload_n 0, 1) := by decide +kernel
theorem dX10_begin_79 : decode cX10_begin 79 = .ok (.getfield 95, 3) := by decide +kernel
theorem dX10_begin_82 : decode cX10_begin 82 = .ok (.iload_n 1, 1) := by decide +kernel
theorem dX10_begin_83 : decode cX10_begin 83 = .ok (.iconst 0, 1) := by decide +kernel
theorem dX10_begin_84 : decode cX10_begin 84 = .ok (.iastore, 1) := by decide +kernel
theorem dX10_begin_85 : decode cX10_begin 85 = .ok (.aload_n 0, 1) := by decide +kernel
theorem dX10_begin_86 : decode cX10_begin 86 = .ok (.getfield 104, 3) := by decide +kernel
theorem dX10_begin_89 : decode cX10_begin 89 = .ok (.iload_n 1, 1) := by decide +kernel
theorem dX10_begin_90 : decode cX10_begin 90 = .ok (.iconst 0, 1) := by decide +kernel
theorem dX10_begin_91 : decode cX10_begin 91 = .ok (.iastore, 1) := by decide +kernel
theorem dX10_begin_92 : decode cX10_begin 92 = .ok (.aload_n 0, 1) := by decide +kernel
theorem dX10_begin_93 : decode cX10_begin 93 = .ok (.getfield 110, 3) := by decide +kernel
theorem dX10_begin_96 : decode cX10_begin 96 = .ok (.iload_n 1, 1) := by decide +kernel
theorem dX10_begin_97 : decode cX10_begin 97 = .ok (.iconst 0, 1) := by decide +kernel
theorem dX10_begin_98 : decode cX10_begin 98 = .ok (.iastore, 1) := by decide +kernel
theorem dX10_begin_99 : decode cX10_begin 99 = .ok (.aload_n 0, 1) := by decide +kernel
theorem dX10_begin_100 : decode cX10_begin 100 = .ok (.dup, 1) := by decide +kernel
theorem dX10_begin_101 : decode cX10_begin 101 = .ok (.getfield 199, 3) := by decide +kernel
theorem dX10_begin_104 : decode cX10_begin 104 = .ok (.iconst 1, 1) := by decide +kernel
theorem dX10_begin_105 : decode cX10_begin 105 = .ok (.iadd, 1) := by decide +kernel
theorem dX10_begin_106 : decode cX10_begin 106 = .ok (.putfield 199, 3) := by decide +kernel
theorem dX10_begin_109 : decode cX10_begin 109 = .ok (.aload_n 0, 1) := by decide +kernel
theorem dX10_begin_110 : decode cX10_begin 110 = .ok (.iload_n 1, 1) := by decide +kernel
theorem dX10_begin_111 : decode cX10_begin 111 = .ok (.bipush 18, 2) := by decide +kernel
theorem dX10_begin_113 : decode cX10_begin 113 = .ok (.invokevirtual 192, 3) := by decide +kernel
theorem dX10_begin_116 : decode cX10_begin 116 = .ok (.aload_n 0, 1) := by decide +kernel
theorem dX10_begin_117 : decode cX10_begin 117 = .ok (.iload_n 1, 1) := by decide +kernel
theorem dX10_begin_118 : decode cX10_begin 118 = .ok (.iconst 1, 1) := by decide +kernel
theorem dX10_begin_119 : decode cX10_begin 119 = .ok (.invokevirtual 202, 3) := by decide +kernel
theorem dX10_begin_122 : decode cX10_begin 122 = .ok (.return_, 1) := by decide +kernel
theorem dX10_goOn_0 : decode cX10_goOn 0 = .ok (.iload_n 3, 1) := by decide +kernel
theorem dX10_goOn_1 : decode cX10_goOn 1 = .ok (.aload_n 0, 1) := by decide +kernel
theorem dX10_goOn_2 : decode cX10_goOn 2 = .ok (.getfield 83, 3) := by decide +kernel
theorem dX10_goOn_5 : decode cX10_goOn 5 = .ok (.iload_n 1, 1) := by decide +kernel
theorem dX10_goOn_6 : decode cX10_goOn 6 = .ok (.iaload, 1) := by decide +kernel
theorem dX10_goOn_7 : decode cX10_goOn 7 = .ok (.isub, 1) := by decide +kernel
theorem dX10_goOn_8 : decode cX10_goOn 8 = .ok (.sipush 255, 3) := by decide +kernel
theorem dX10_goOn_11 : decode cX10_goOn 11 = .ok (.iand, 1) := by decide +kernel
theorem dX10_goOn_12 : decode cX10_goOn 12 = .ok (.istore 7, 2) := by decide +kernel
theorem dX10_goOn_14 : decode cX10_goOn 14 = .ok (.aload_n 0, 1) := by decide +kernel
theorem dX10_goOn_15 : decode cX10_goOn 15 = .ok (.iload_n 1, 1) := by decide +kernel
theorem dX10_goOn_16 : decode cX10_goOn 16 = .ok (.invokevirtual 182, 3) := by decide +kernel
theorem dX10_goOn_19 : decode cX10_goOn 19 = .ok (.istore 8, 2) := by decide +kernel
theorem dX10_goOn_21 : decode cX10_goOn 21 = .ok (.iload 7, 2) := by decide +kernel
theorem dX10_goOn_23 : decode cX10_goOn 23 = .ok (.ifCond .le 162, 3) := by decide +kernel
theorem dX10_goOn_26 : decode cX10_goOn 26 = .ok (.iload 7, 2) := by decide +kernel
theorem dX10_goOn_28 : decode cX10_goOn 28 = .ok (.iload 8, 2) := by decide +kernel
theorem dX10_goOn_30 : decode cX10_goOn 30 = .ok (.if_icmp .gt 155, 3) := by decide +kernel
theorem dX10_goOn_33 : decode cX10_goOn 33 = .ok (.aload_n 0, 1) := by decide +kernel
theorem dX10_goOn_34 : decode cX10_goOn 34 = .ok (.getfield 71, 3) := by decide +kernel
theorem dX10_goOn_37 : decode cX10_goOn 37 = .ok (.iload_n 1, 1) := by decide +kernel
theorem dX10_goOn_38 : decode cX10_goOn 38 = .ok (.iaload, 1) := by decide +kernel
theorem dX10_goOn_39 : decode cX10_goOn 39 = .ok (.iconst 4, 1) := by decide +kernel
theorem dX10_goOn_40 : decode cX10_goOn 40 = .ok (.if_icmp .ne 18, 3) := by decide +kernel
theorem dX10_goOn_43 : decode cX10_goOn 43 = .ok (.iload 7, 2) := by decide +kernel
theorem dX10_goOn_45 : decode cX10_goOn 45 = .ok (.iload 8, 2) := by decide +kernel
theorem dX10_goOn_47 : decode cX10_goOn 47 = .ok (.if_icmp .ne 11, 3) := by decide +kernel
theorem dX10_goOn_50 : decode cX10_goOn 50 = .ok (.aload_n 0, 1) := by decide +kernel
theorem dX10_goOn_51 : decode cX10_goOn 51 = .ok (.getfield 71, 3) := by decide +kernel
theorem dX10_goOn_54 : decode cX10_goOn 54 = .ok (.iload_n 1, 1) := by decide +kernel
theorem dX10_goOn_55 : decode cX10_goOn 55 = .ok (.iconst 0, 1) := by decide +kernel
theorem dX10_goOn_56 : decode cX10_goOn 56 = .ok (.iastore, 1) := by decide +kernel
theorem dX10_goOn_57 : decode cX10_goOn 57 = .ok (.return_, 1) := by decide +kernel
theorem dX10_goOn_58 : decode cX10_goOn 58 = .ok (.aload_n 0, 1) := by decide +kernel
theorem dX10_goOn_59 : decode cX10_goOn 59 = .ok (.getfield 83, 3) := by decide +kernel
theorem dX10_goOn_62 : decode cX10_goOn 62 = .ok (.iload_n 1, 1) := by decide +kernel
theorem dX10_goOn_63 : decode cX10_goOn 63 = .ok (.iload_n 3, 1) := by decide +kernel
theorem dX10_goOn_64 : decode cX10_goOn 64 = .ok (.iastore, 1) := by decide +kernel
theorem dX10_goOn_65 : decode cX10_goOn 65 = .ok (.aload_n 0, 1) := by decide +kernel
theorem dX10_goOn_66 : decode cX10_goOn 66 = .ok (.getfield 71, 3) := by decide +kernel
theorem dX10_goOn_69 : decode cX10_goOn 69 = .ok (.iload_n 1, 1) := by decide +kernel
theorem dX10_goOn_70 : decode cX10_goOn 70 = .ok (.iaload, 1) := by decide +kernel
theorem dX10_goOn_71 : decode cX10_goOn 71 = .ok (.iconst 1, 1) := by decide +kernel
theorem dX10_goOn_72 : decode cX10_goOn 72 = .ok (.if_icmp .ne 13, 3) := by decide +kernel
theorem dX10_goOn_75 : decode cX10_goOn 75 = .ok (.aload_n 0, 1) := by decide +kernel
theorem dX10_goOn_76 : decode cX10_goOn 76 = .ok (.getfield 71, 3) := by decide +kernel
theorem dX10_goOn_79 : decode cX10_goOn 79 = .ok (.iload_n 1, 1) := by decide +kernel
theorem dX10_goOn_80 : decode cX10_goOn 80 = .ok (.iconst 2, 1) := by decide +kernel
theorem dX10_goOn_81 : decode cX10_goOn 81 = .ok (.iastore, 1) := by decide +kernel
theorem dX10_goOn_82 : decode cX10_goOn 82 = .ok (.goto 61, 3) := by decide +kernel
theorem dX10_goOn_85 : decode cX10_goOn 85 = .ok (.aload_n 0, 1) := by decide +kernel
theorem dX10_goOn_86 : decode cX10_goOn 86 = .ok (.getfield 104, 3) := by decide +kernel
theorem dX10_goOn_89 : decode cX10_goOn 89 = .ok (.iload_n 1, 1) := by decide +kernel
theorem dX10_goOn_90 : decode cX10_goOn 90 = .ok (.dup2, 1) := by decide +kernel
theorem dX10_goOn_91 : decode cX10_goOn 91 = .ok (.iaload, 1) := by decide +kernel
theorem dX10_goOn_92 : decode cX10_goOn 92 = .ok (.iload 7, 2) := by decide +kernel
theorem dX10_goOn_94 : decode cX10_goOn 94 = .ok (.isub, 1) := by decide +kernel
theorem dX10_goOn_95 : decode cX10_goOn 95 = .ok (.iastore, 1) := by decide +kernel
theorem dX10_goOn_96 : decode cX10_goOn 96 = .ok (.iconst 0, 1) := by decide +kernel
theorem dX10_goOn_97 : decode cX10_goOn 97 = .ok (.istore 9, 2) := by decide +kernel
theorem dX10_goOn_99 : decode cX10_goOn 99 = .ok (.iload 9, 2) := by decide +kernel
theorem dX10_goOn_101 : decode cX10_goOn 101 = .ok (.aload_n 0, 1) := by decide +kernel
theorem dX10_goOn_102 : decode cX10_goOn 102 = .ok (.getfield 104, 3) := by decide +kernel
theorem dX10_goOn_105 : decode cX10_goOn 105 = .ok (.iload_n 1, 1) := by decide +kernel
theorem dX10_goOn_106 : decode cX10_goOn 106 = .ok (.iaload, 1) := by decide +kernel
theorem dX10_goOn_107 : decode cX10_goOn 107 = .ok (.if_icmp .ge 36, 3) := by decide +kernel
theorem dX10_goOn_110 : decode cX10_goOn 110 = .ok (.aload_n 0, 1) := by decide +kernel
theorem dX10_goOn_111 : decode cX10_goOn 111 = .ok (.getfield 101, 3) := by decide +kernel
theorem dX10_goOn_114 : decode cX10_goOn 114 = .ok (.bipush 64, 2) := by decide +kernel
theorem dX10_goOn_116 : decode cX10_goOn 116 = .ok (.iload_n 1, 1) := by decide +kernel
theorem dX10_goOn_117 : decode cX10_goOn 117 = .ok (.imul, 1) := by decide +kernel
theorem dX10_goOn_118 : decode cX10_goOn 118 = .ok (.iload 9, 2) := by decide +kernel
theorem dX10_goOn_120 : decode cX10_goOn 120 = .ok (.iadd, 1) := by decide +kernel
theorem dX10_goOn_121 : decode cX10_goOn 121 = .ok (.aload_n 0, 1) := by decide +kernel
theorem dX10_goOn_122 : decode cX10_goOn 122 = .ok (.getfield 101, 3) := by decide +kernel
theorem dX10_goOn_125 : decode cX10_goOn 125 = .ok (.bipush 64, 2) := by decide +kernel
theorem dX10_goOn_127 : decode cX10_goOn 127 = .ok (.iload_n 1, 1) := by decide +kernel
theorem dX10_goOn_128 : decode cX10_goOn 128 = .ok (.imul, 1) := by decide +kernel
theorem dX10_goOn_129 : decode cX10_goOn 129 = .ok (.iload 9, 2) := by decide +kernel
theorem dX10_goOn_131 : decode cX10_goOn 131 = .ok (.iadd, 1) := by decide +kernel
theorem dX10_goOn_132 : decode cX10_goOn 132 = .ok (.iload 7, 2) := by decide +kernel
theorem dX10_goOn_134 : decode cX10_goOn 134 = .ok (.iadd, 1) := by decide +kernel
theorem dX10_goOn_135 : decode cX10_goOn 135 = .ok (.iaload, 1) := by decide +kernel
theorem dX10_goOn_136 : decode cX10_goOn 136 = .ok (.iastore, 1) := by decide +kernel
theorem dX10_goOn_137 : decode cX10_goOn 137 = .ok (.iinc 9 1, 3) := by decide +kernel
theorem dX10_goOn_140 : decode cX10_goOn 140 = .ok (.goto (-41), 3) := by decide +kernel
theorem dX10_goOn_143 : decode cX10_goOn 143 = .ok (.aload_n 0, 1) := by decide +kernel
theorem dX10_goOn_144 : decode cX10_goOn 144 = .ok (.getfield 92, 3) := by decide +kernel
theorem dX10_goOn_147 : decode cX10_goOn 147 = .ok (.iload_n 1, 1) := by decide +kernel
theorem dX10_goOn_148 : decode cX10_goOn 148 = .ok (.aload_n 0, 1) := by decide +kernel
theorem dX10_goOn_149 : decode cX10_goOn 149 = .ok (.getfield 92, 3) := by decide +kernel
theorem dX10_goOn_152 : decode cX10_goOn 152 = .ok (.iload_n 1, 1) := by decide +kernel
theorem dX10_goOn_153 : decode cX10_goOn 153 = .ok (.iaload, 1) := by decide +kernel
theorem dX10_goOn_154 : decode cX10_goOn 154 = .ok (.iconst 4, 1) := by decide +kernel
theorem dX10_goOn_155 : decode cX10_goOn 155 = .ok (.if_icmp .ne 7, 3) := by decide +kernel
theorem dX10_goOn_158 : decode cX10_goOn 158 = .ok (.iconst 4, 1) := by decide +kernel
theorem dX10_goOn_159 : decode cX10_goOn 159 = .ok (.goto 11, 3) := by decide +kernel
theorem dX10_goOn_162 : decode cX10_goOn 162 = .ok (.aload_n 0, 1) := by decide +kernel
theorem dX10_goOn_163 : decode cX10_goOn 163 = .ok (.getfield 92, 3) := by decide +kernel
theorem dX10_goOn_166 : decode cX10_goOn 166 = .ok (.iload_n 1, 1) := by decide +kernel
theorem dX10_goOn_167 : decode cX10_goOn 167 = .ok (.iaload, 1) := by decide +kernel
theorem dX10_goOn_168 : decode cX10_goOn 168 = .ok (.iconst 1, 1) := by decide +kernel
theorem dX10_goOn_169 : decode cX10_goOn 169 = .ok (.iadd, 1) := by decide +kernel
theorem dX10_goOn_170 : decode cX10_goOn 170 = .ok (.iastore, 1) := by decide +kernel
theorem dX10_goOn_171 : decode cX10_goOn 171 = .ok (.aload_n 0, 1) := by decide +kernel
theorem dX10_goOn_172 : decode cX10_goOn 172 = .ok (.getfield 95, 3) := by decide +kernel
theorem dX10_goOn_175 : decode cX10_goOn 175 = .ok (.iload_n 1, 1) := by decide +kernel
theorem dX10_goOn_176 : decode cX10_goOn 176 = .ok (.iconst 0, 1) := by decide +kernel
theorem dX10_goOn_177 : decode cX10_goOn 177 = .ok (.iastore, 1) := by decide +kernel
theorem dX10_goOn_178 : decode cX10_goOn 178 = .ok (.aload_n 0, 1) := by decide +kernel
theorem dX10_goOn_179 : decode cX10_goOn 179 = .ok (.getfield 98, 3) := by decide +kernel
theorem dX10_goOn_182 : decode cX10_goOn 182 = .ok (.iload_n 1, 1) := by decide +kernel
theorem dX10_goOn_183 : decode cX10_goOn 183 = .ok (.iconst 0, 1) := by decide +kernel
theorem dX10_goOn_184 : decode cX10_goOn 184 = .ok (.iastore, 1) := by decide +kernel
theorem dX10_goOn_185 : decode cX10_goOn 185 = .ok (.aload_n 0, 1) := by decide +kernel
theorem dX10_goOn_186 : decode cX10_goOn 186 = .ok (.getfield 89, 3) := by decide +kernel
theorem dX10_goOn_189 : decode cX10_goOn 189 = .ok (.iload_n 1, 1) := by decide +kernel
theorem dX10_goOn_190 : decode cX10_goOn 190 = .ok (.iload 5, 2) := by decide +kernel
theorem dX10_goOn_192 : decode cX10_goOn 192 = .ok (.iastore, 1) := by decide +kernel
theorem dX10_goOn_193 : decode cX10_goOn 193 = .ok (.aload_n 0, 1) := by decide +kernel
theorem dX10_goOn_194 : decode cX10_goOn 194 = .ok (.getfield 71, 3) := by decide +kernel
theorem dX10_goOn_197 : decode cX10_goOn 197 = .ok (.iload_n 1, 1) := by decide +kernel
theorem dX10_goOn_198 : decode cX10_goOn 198 = .ok (.iaload, 1) := by decide +kernel
theorem dX10_goOn_199 : decode cX10_goOn 199 = .ok (.iconst 1, 1) := by decide +kernel
theorem dX10_goOn_200 : decode cX10_goOn 200 = .ok (.if_icmp .ne 4, 3) := by decide +kernel
theorem dX10_goOn_203 : decode cX10_goOn 203 = .ok (.return_, 1) := by decide +kernel
theorem dX10_goOn_204 : decode cX10_goOn 204 = .ok (.iload_n 2, 1) := by decide +kernel
theorem dX10_goOn_205 : decode cX10_goOn 205 = .ok (.aload_n 0, 1) := by decide +kernel
theorem dX10_goOn_206 : decode cX10_goOn 206 = .ok (.getfield 80, 3) := by decide +kernel
theorem dX10_goOn_209 : decode cX10_goOn 209 = .ok (.iload_n 1, 1) := by decide +kernel
theorem dX10_goOn_210 : decode cX10_goOn 210 = .ok (.iaload, 1) := by decide +kernel
theorem dX10_goOn_211 : decode cX10_goOn 211 = .ok (.if_icmp .ne 126, 3) := by decide +kernel
theorem dX10_goOn_214 : decode cX10_goOn 214 = .ok (.aload_n 0, 1) := by decide +kernel
theorem dX10_goOn_215 : decode cX10_goOn 215 = .ok (.getfield 71, 3) := by decide +kernel
theorem dX10_goOn_218 : decode cX10_goOn 218 = .ok (.iload_n 1, 1) := by decide +kernel
theorem dX10_goOn_219 : decode cX10_goOn 219 = .ok (.iaload, 1) := by decide +kernel
theorem dX10_goOn_220 : decode cX10_goOn 220 = .ok (.iconst 2, 1) := by decide +kernel
theorem dX10_goOn_221 : decode cX10_goOn 221 = .ok (.if_icmp .ne 116, 3) := by decide +kernel
theorem dX10_goOn_224 : decode cX10_goOn 224 = .ok (.iconst 0, 1) := by decide +kernel
theorem dX10_goOn_225 : decode cX10_goOn 225 = .ok (.istore 9, 2) := by decide +kernel
theorem dX10_goOn_227 : decode cX10_goOn 227 = .ok (.iload 9, 2) := by decide +kernel
theorem dX10_goOn_229 : decode cX10_goOn 229 = .ok (.iload 6, 2) := by decide +kernel
theorem dX10_goOn_231 : decode cX10_goOn 231 = .ok (.if_icmp .ge 50, 3) := by decide +kernel
theorem dX10_goOn_234 : decode cX10_goOn 234 = .ok (.aload_n 0, 1) := by decide +kernel
theorem dX10_goOn_235 : decode cX10_goOn 235 = .ok (.getfield 110, 3) := by decide +kernel
theorem dX10_goOn_238 : decode cX10_goOn 238 = .ok (.iload_n 1, 1) := by decide +kernel
theorem dX10_goOn_239 : decode cX10_goOn 239 = .ok (.iaload, 1) := by decide +kernel
theorem dX10_goOn_240 : decode cX10_goOn 240 = .ok (.bipush 16, 2) := by decide +kernel
theorem dX10_goOn_242 : decode cX10_goOn 242 = .ok (.if_icmp .ge 39, 3) := by decide +kernel
theorem dX10_goOn_245 : decode cX10_goOn 245 = .ok (.aload_n 0, 1) := by decide +kernel
theorem dX10_goOn_246 : decode cX10_goOn 246 = .ok (.getfield 107, 3) := by decide +kernel
theorem dX10_goOn_249 : decode cX10_goOn 249 = .ok (.bipush 16, 2) := by decide +kernel
theorem dX10_goOn_251 : decode cX10_goOn 251 = .ok (.iload_n 1, 1) := by decide +kernel
theorem dX10_goOn_252 : decode cX10_goOn 252 = .ok (.imul, 1) := by decide +kernel
theorem dX10_goOn_253 : decode cX10_goOn 253 = .ok (.aload_n 0, 1) := by decide +kernel
theorem dX10_goOn_254 : decode cX10_goOn 254 = .ok (.getfield 110, 3) := by decide +kernel
theorem dX10_goOn_257 : decode cX10_goOn 257 = .ok (.iload_n 1, 1) := by decide +kernel
theorem dX10_goOn_258 : decode cX10_goOn 258 = .ok (.dup2, 1) := by decide +kernel
theorem dX10_goOn_259 : decode cX10_goOn 259 = .ok (.iaload, 1) := by decide +kernel
theorem dX10_goOn_260 : decode cX10_goOn 260 = .ok (.dup_x2, 1) := by decide +kernel
theorem dX10_goOn_261 : decode cX10_goOn 261 = .ok (.iconst 1, 1) := by decide +kernel
theorem dX10_goOn_262 : decode cX10_goOn 262 = .ok (.iadd, 1) := by decide +kernel
theorem dX10_goOn_263 : decode cX10_goOn 263 = .ok (.iastore, 1) := by decide +kernel
theorem dX10_goOn_264 : decode cX10_goOn 264 = .ok (.iadd, 1) := by decide +kernel
theorem dX10_goOn_265 : decode cX10_goOn 265 = .ok (.aload_n 0, 1) := by decide +kernel
theorem dX10_goOn_266 : decode cX10_goOn 266 = .ok (.getfield 65, 3) := by decide +kernel
theorem dX10_goOn_269 : decode cX10_goOn 269 = .ok (.iconst 5, 1) := by decide +kernel
theorem dX10_goOn_270 : decode cX10_goOn 270 = .ok (.iload 9, 2) := by decide +kernel
theorem dX10_goOn_272 : decode cX10_goOn 272 = .ok (.iinc 9 1, 3) := by decide +kernel
theorem dX10_goOn_275 : decode cX10_goOn 275 = .ok (.iadd, 1) := by decide +kernel
theorem dX10_goOn_276 : decode cX10_goOn 276 = .ok (.iaload, 1) := by decide +kernel
theorem dX10_goOn_277 : decode cX10_goOn 277 = .ok (.iastore, 1) := by decide +kernel
theorem dX10_goOn_278 : decode cX10_goOn 278 = .ok (.goto (-51), 3) := by decide +kernel
theorem dX10_goOn_281 : decode cX10_goOn 281 = .ok (.aload_n 0, 1) := by decide +kernel
theorem dX10_goOn_282 : decode cX10_goOn 282 = .ok (.getfield 80, 3) := by decide +kernel
theorem dX10_goOn_285 : decode cX10_goOn 285 = .ok (.iload_n 1, 1) := by decide +kernel
theorem dX10_goOn_286 : decode cX10_goOn 286 = .ok (.aload_n 0, 1) := by decide +kernel
theorem dX10_goOn_287 : decode cX10_goOn 287 = .ok (.getfield 80, 3) := by decide +kernel
theorem dX10_goOn_290 : decode cX10_goOn 290 = .ok (.iload_n 1, 1) := by decide +kernel
theorem dX10_goOn_291 : decode cX10_goOn 291 = .ok (.iaload, 1) := by decide +kernel
theorem dX10_goOn_292 : decode cX10_goOn 292 = .ok (.iload 9, 2) := by decide +kernel
theorem dX10_goOn_294 : decode cX10_goOn 294 = .ok (.iadd, 1) := by decide +kernel
theorem dX10_goOn_295 : decode cX10_goOn 295 = .ok (.sipush 255, 3) := by decide +kernel
theorem dX10_goOn_298 : decode cX10_goOn 298 = .ok (.iand, 1) := by decide +kernel
theorem dX10_goOn_299 : decode cX10_goOn 299 = .ok (.iastore, 1) := by decide +kernel
theorem dX10_goOn_300 : decode cX10_goOn 300 = .ok (.iload 9, 2) := by decide +kernel
theorem dX10_goOn_302 : decode cX10_goOn 302 = .ok (.iload 6, 2) := by decide +kernel
theorem dX10_goOn_304 : decode cX10_goOn 304 = .ok (.if_icmp .ne 33, 3) := by decide +kernel
theorem dX10_goOn_307 : decode cX10_goOn 307 = .ok (.iload 4, 2) := by decide +kernel
theorem dX10_goOn_309 : decode cX10_goOn 309 = .ok (.ifCond .eq 28, 3) := by decide +kernel
theorem dX10_goOn_312 : decode cX10_goOn 312 = .ok (.aload_n 0, 1) := by decide +kernel
theorem dX10_goOn_313 : decode cX10_goOn 313 = .ok (.getfield 80, 3) := by decide +kernel
theorem dX10_goOn_316 : decode cX10_goOn 316 = .ok (.iload_n 1, 1) := by decide +kernel
theorem dX10_goOn_317 : decode cX10_goOn 317 = .ok (.aload_n 0, 1) := by decide +kernel
theorem dX10_goOn_318 : decode cX10_goOn 318 = .ok (.getfield 80, 3) := by decide +kernel
theorem dX10_goOn_321 : decode cX10_goOn 321 = .ok (.iload_n 1, 1) := by decide +kernel
theorem dX10_goOn_322 : decode cX10_goOn 322 = .ok (.iaload, 1) := by decide +kernel
theorem dX10_goOn_323 : decode cX10_goOn 323 = .ok (.iconst 1, 1) := by decide +kernel
theorem dX10_goOn_324 : decode cX10_goOn 324 = .ok (.iadd, 1) := by decide +kernel
theorem dX10_goOn_325 : decode cX10_goOn 325 = .ok (.sipush 255, 3) := by decide +kernel
theorem dX10_goOn_328 : decode cX10_goOn 328 = .ok (.iand, 1) := by decide +kernel
theorem dX10_goOn_329 : decode cX10_goOn 329 = .ok (.iastore, 1) := by decide +kernel
theorem dX10_goOn_330 : decode cX10_goOn 330 = .ok (.aload_n 0, 1) := by decide +kernel
theorem dX10_goOn_331 : decode cX10_goOn 331 = .ok (.getfield 71, 3) := by decide +kernel
theorem dX10_goOn_334 : decode cX10_goOn 334 = .ok (.iload_n 1, 1) := by decide +kernel
theorem dX10_goOn_335 : decode cX10_goOn 335 = .ok (.iconst 3, 1) := by decide +kernel
theorem dX10_goOn_336 : decode cX10_goOn 336 = .ok (.iastore, 1) := by decide +kernel
theorem dX10_goOn_337 : decode cX10_goOn 337 = .ok (.aload_n 0, 1) := by decide +kernel
theorem dX10_goOn_338 : decode cX10_goOn 338 = .ok (.getfield 120, 3) := by decide +kernel
theorem dX10_goOn_341 : decode cX10_goOn 341 = .ok (.istore 9, 2) := by decide +kernel
theorem dX10_goOn_343 : decode cX10_goOn 343 = .ok (.aload_n 0, 1) := by decide +kernel
theorem dX10_goOn_344 : decode cX10_goOn 344 = .ok (.getfield 71, 3) := by decide +kernel
theorem dX10_goOn_347 : decode cX10_goOn 347 = .ok (.iload_n 1, 1) := by decide +kernel
theorem dX10_goOn_348 : decode cX10_goOn 348 = .ok (.iaload, 1) := by decide +kernel
theorem dX10_goOn_349 : decode cX10_goOn 349 = .ok (.iconst 4, 1) := by decide +kernel
theorem dX10_goOn_350 : decode cX10_goOn 350 = .ok (.if_icmp .eq 13, 3) := by decide +kernel
theorem dX10_goOn_353 : decode cX10_goOn 353 = .ok (.aload_n 0, 1) := by decide +kernel
theorem dX10_goOn_354 : decode cX10_goOn 354 = .ok (.iload_n 1, 1) := by decide +kernel
theorem dX10_goOn_355 : decode cX10_goOn 355 = .ok (.invokevirtual 205, 3) := by decide +kernel
theorem dX10_goOn_358 : decode cX10_goOn 358 = .ok (.aload_n 0, 1) := by decide +kernel
theorem dX10_goOn_359 : decode cX10_goOn 359 = .ok (.iload_n 1, 1) := by decide +kernel
theorem dX10_goOn_360 : decode cX10_goOn 360 = .ok (.invokevirtual 208, 3) := by decide +kernel
theorem dX10_goOn_363 : decode cX10_goOn 363 = .ok (.iload 6, 2) := by decide +kernel
theorem dX10_goOn_365 : decode cX10_goOn 365 = .ok (.ifCond .gt 8, 3) := by decide +kernel
theorem dX10_goOn_368 : decode cX10_goOn 368 = .ok (.iload 4, 2) := by decide +kernel
theorem dX10_goOn_370 : decode cX10_goOn 370 = .ok (.ifCond .eq 19, 3) := by decide +kernel
theorem dX10_goOn_373 : decode cX10_goOn 373 = .ok (.aload_n 0, 1) := by decide +kernel
theorem dX10_goOn_374 : decode cX10_goOn 374 = .ok (.getfield 120, 3) := by decide +kernel
theorem dX10_goOn_377 : decode cX10_goOn 377 = .ok (.iload 9, 2) := by decide +kernel
theorem dX10_goOn_379 : decode cX10_goOn 379 = .ok (.if_icmp .ne 10, 3) := by decide +kernel
theorem dX10_goOn_382 : decode cX10_goOn 382 = .ok (.aload_n 0, 1) := by decide +kernel
theorem dX10_goOn_383 : decode cX10_goOn 383 = .ok (.iload_n 1, 1) := by decide +kernel
theorem dX10_goOn_384 : decode cX10_goOn 384 = .ok (.bipush 16, 2) := by decide +kernel
theorem dX10_goOn_386 : decode cX10_goOn 386 = .ok (.invokevirtual 192, 3) := by decide +kernel
theorem dX10_goOn_389 : decode cX10_goOn 389 = .ok (.return_, 1) := by decide +kernel
theorem dX10_line_0 : decode cX10_line 0 = .ok (.iconst 0, 1) := by decide +kernel
theorem dX10_line_1 : decode cX10_line 1 = .ok (.istore_n 2, 1) := by decide +kernel
theorem dX10_line_2 : decode cX10_line 2 = .ok (.iload_n 2, 1) := by decide +kernel
theorem dX10_line_3 : decode cX10_line 3 = .ok (.aload_n 0, 1) := by decide +kernel
theorem dX10_line_4 : decode cX10_line 4 = .ok (.getfield 110, 3) := by decide +kernel
theorem dX10_line_7 : decode cX10_line 7 = .ok (.iload_n 1, 1) := by decide +kernel
theorem dX10_line_8 : decode cX10_line 8 = .ok (.iaload, 1) := by decide +kernel
theorem dX10_line_9 : decode cX10_line 9 = .ok (.if_icmp .ge 35, 3) := by decide +kernel
theorem dX10_line_12 : decode cX10_line 12 = .ok (.iload_n 2, 1) := by decide +kernel
theorem dX10_line_13 : decode cX10_line 13 = .ok (.bipush 7, 2) := by decide +kernel
theorem dX10_line_15 : decode cX10_line 15 = .ok (.if_icmp .ge 29, 3) := by decide +kernel
theorem dX10_line_18 : decode cX10_line 18 = .ok (.aload_n 0, 1) := by decide +kernel
theorem dX10_line_19 : decode cX10_line 19 = .ok (.getfield 107, 3) := by decide +kernel
theorem dX10_line_22 : decode cX10_line 22 = .ok (.bipush 16, 2) := by decide +kernel
theorem dX10_line_24 : decode cX10_line 24 = .ok (.iload_n 1, 1) := by decide +kernel
theorem dX10_line_25 : decode cX10_line 25 = .ok (.imul, 1) := by decide +kernel
theorem dX10_line_26 : decode cX10_line 26 = .ok (.iload_n 2, 1) := by decide +kernel
theorem dX10_line_27 : decode cX10_line 27 = .ok (.iadd, 1) := by decide +kernel
theorem dX10_line_28 : decode cX10_line 28 = .ok (.iaload, 1) := by decide +kernel
theorem dX10_line_29 : decode cX10_line 29 = .ok (.bipush 10, 2) := by decide +kernel
theorem dX10_line_31 : decode cX10_line 31 = .ok (.if_icmp .ne 7, 3) := by decide +kernel
theorem dX10_line_34 : decode cX10_line 34 = .ok (.iload_n 2, 1) := by decide +kernel
theorem dX10_line_35 : decode cX10_line 35 = .ok (.iconst 1, 1) := by decide +kernel
theorem dX10_line_36 : decode cX10_line 36 = .ok (.iadd, 1) := by decide +kernel
theorem dX10_line_37 : decode cX10_line 37 = .ok (.ireturn, 1) := by decide +kernel
theorem dX10_line_38 : decode cX10_line 38 = .ok (.iinc 2 1, 3) := by decide +kernel
theorem dX10_line_41 : decode cX10_line 41 = .ok (.goto (-39), 3) := by decide +kernel
theorem dX10_line_44 : decode cX10_line 44 = .ok (.aload_n 0, 1) := by decide +kernel
theorem dX10_line_45 : decode cX10_line 45 = .ok (.getfield 110, 3) := by decide +kernel
theorem dX10_line_48 : decode cX10_line 48 = .ok (.iload_n 1, 1) := by decide +kernel
theorem dX10_line_49 : decode cX10_line 49 = .ok (.iaload, 1) := by decide +kernel
theorem dX10_line_50 : decode cX10_line 50 = .ok (.bipush 6, 2) := by decide +kernel
theorem dX10_line_52 : decode cX10_line 52 = .ok (.if_icmp .le 8, 3) := by decide +kernel
theorem dX10_line_55 : decode cX10_line 55 = .ok (.bipush 7, 2) := by decide +kernel
theorem dX10_line_57 : decode cX10_line 57 = .ok (.goto 4, 3) := by decide +kernel
theorem dX10_line_60 : decode cX10_line 60 = .ok (.iconst 0, 1) := by decide +kernel
theorem dX10_line_61 : decode cX10_line 61 = .ok (.ireturn, 1) := by decide +kernel
theorem dX10_read_0 : decode cX10_read 0 = .ok (.aload_n 0, 1) := by decide +kernel
theorem dX10_read_1 : decode cX10_read 1 = .ok (.iload_n 1, 1) := by decide +kernel
theorem dX10_read_2 : decode cX10_read 2 = .ok (.invokevirtual 211, 3) := by decide +kernel
theorem dX10_read_5 : decode cX10_read 5 = .ok (.istore_n 2, 1) := by decide +kernel
theorem dX10_read_6 : decode cX10_read 6 = .ok (.iload_n 2, 1) := by decide +kernel
theorem dX10_read_7 : decode cX10_read 7 = .ok (.ifCond .le 140, 3) := by decide +kernel
theorem dX10_read_10 : decode cX10_read 10 = .ok (.aload_n 0, 1) := by decide +kernel
theorem dX10_read_11 : decode cX10_read 11 = .ok (.iload_n 1, 1) := by decide +kernel
theorem dX10_read_12 : decode cX10_read 12 = .ok (.iload_n 2, 1) := by decide +kernel
theorem dX10_read_13 : decode cX10_read 13 = .ok (.invokevirtual 214, 3) := by decide +kernel
theorem dX10_read_16 : decode cX10_read 16 = .ok (.aload_n 0, 1) := by decide +kernel
theorem dX10_read_17 : decode cX10_read 17 = .ok (.getfield 104, 3) := by decide +kernel
theorem dX10_read_20 : decode cX10_read 20 = .ok (.iload_n 1, 1) := by decide +kernel
theorem dX10_read_21 : decode cX10_read 21 = .ok (.iaload, 1) := by decide +kernel
theorem dX10_read_22 : decode cX10_read 22 = .ok (.aload_n 0, 1) := by decide +kernel
theorem dX10_read_23 : decode cX10_read 23 = .ok (.getfield 217, 3) := by decide +kernel
theorem dX10_read_26 : decode cX10_read 26 = .ok (.iadd, 1) := by decide +kernel
theorem dX10_read_27 : decode cX10_read 27 = .ok (.bipush 64, 2) := by decide +kernel
theorem dX10_read_29 : decode cX10_read 29 = .ok (.if_icmp .le 4, 3) := by decide +kernel
theorem dX10_read_32 : decode cX10_read 32 = .ok (.return_, 1) := by decide +kernel
theorem dX10_read_33 : decode cX10_read 33 = .ok (.aload_n 0, 1) := by decide +kernel
theorem dX10_read_34 : decode cX10_read 34 = .ok (.getfield 110, 3) := by decide +kernel
theorem dX10_read_37 : decode cX10_read 37 = .ok (.iload_n 1, 1) := by decide +kernel
theorem dX10_read_38 : decode cX10_read 38 = .ok (.dup2, 1) := by decide +kernel
theorem dX10_read_39 : decode cX10_read 39 = .ok (.iaload, 1) := by decide +kernel
theorem dX10_read_40 : decode cX10_read 40 = .ok (.iload_n 2, 1) := by decide +kernel
theorem dX10_read_41 : decode cX10_read 41 = .ok (.isub, 1) := by decide +kernel
theorem dX10_read_42 : decode cX10_read 42 = .ok (.iastore, 1) := by decide +kernel
theorem dX10_read_43 : decode cX10_read 43 = .ok (.iconst 0, 1) := by decide +kernel
theorem dX10_read_44 : decode cX10_read 44 = .ok (.istore_n 3, 1) := by decide +kernel
theorem dX10_read_45 : decode cX10_read 45 = .ok (.iload_n 3, 1) := by decide +kernel
theorem dX10_read_46 : decode cX10_read 46 = .ok (.aload_n 0, 1) := by decide +kernel
theorem dX10_read_47 : decode cX10_read 47 = .ok (.getfield 110, 3) := by decide +kernel
theorem dX10_read_50 : decode cX10_read 50 = .ok (.iload_n 1, 1) := by decide +kernel
theorem dX10_read_51 : decode cX10_read 51 = .ok (.iaload, 1) := by decide +kernel
theorem dX10_read_52 : decode cX10_read 52 = .ok (.if_icmp .ge 33, 3) := by decide +kernel
theorem dX10_read_55 : decode cX10_read 55 = .ok (.aload_n 0, 1) := by decide +kernel
theorem dX10_read_56 : decode cX10_read 56 = .ok (.getfield 107, 3) := by decide +kernel
theorem dX10_read_59 : decode cX10_read 59 = .ok (.bipush 16, 2) := by decide +kernel
theorem dX10_read_61 : decode cX10_read 61 = .ok (.iload_n 1, 1) := by decide +kernel
theorem dX10_read_62 : decode cX10_read 62 = .ok (.imul, 1) := by decide +kernel
theorem dX10_read_63 : decode cX10_read 63 = .ok (.iload_n 3, 1) := by decide +kernel
theorem dX10_read_64 : decode cX10_read 64 = .ok (.iadd, 1) := by decide +kernel
theorem dX10_read_65 : decode cX10_read 65 = .ok (.aload_n 0, 1) := by decide +kernel
theorem dX10_read_66 : decode cX10_read 66 = .ok (.getfield 107, 3) := by decide +kernel
theorem dX10_read_69 : decode cX10_read 69 = .ok (.bipush 16, 2) := by decide +kernel
theorem dX10_read_71 : decode cX10_read 71 = .ok (.iload_n 1, 1) := by decide +kernel
theorem dX10_read_72 : decode cX10_read 72 = .ok (.imul, 1) := by decide +kernel
theorem dX10_read_73 : decode cX10_read 73 = .ok (.iload_n 3, 1) := by decide +kernel
theorem dX10_read_74 : decode cX10_read 74 = .ok (.iadd, 1) := by decide +kernel
theorem dX10_read_75 : decode cX10_read 75 = .ok (.iload_n 2, 1) := by decide +kernel
theorem dX10_read_76 : decode cX10_read 76 = .ok (.iadd, 1) := by decide +kernel
theorem dX10_read_77 : decode cX10_read 77 = .ok (.iaload, 1) := by decide +kernel
theorem dX10_read_78 : decode cX10_read 78 = .ok (.iastore, 1) := by decide +kernel
theorem dX10_read_79 : decode cX10_read 79 = .ok (.iinc 3 1, 3) := by decide +kernel
theorem dX10_read_82 : decode cX10_read 82 = .ok (.goto (-37), 3) := by decide +kernel
theorem dX10_read_85 : decode cX10_read 85 = .ok (.iconst 0, 1) := by decide +kernel
theorem dX10_read_86 : decode cX10_read 86 = .ok (.istore_n 3, 1) := by decide +kernel
theorem dX10_read_87 : decode cX10_read 87 = .ok (.iload_n 3, 1) := by decide +kernel
theorem dX10_read_88 : decode cX10_read 88 = .ok (.aload_n 0, 1) := by decide +kernel
theorem dX10_read_89 : decode cX10_read 89 = .ok (.getfield 217, 3) := by decide +kernel
theorem dX10_read_92 : decode cX10_read 92 = .ok (.if_icmp .ge 36, 3) := by decide +kernel
theorem dX10_read_95 : decode cX10_read 95 = .ok (.aload_n 0, 1) := by decide +kernel
theorem dX10_read_96 : decode cX10_read 96 = .ok (.getfield 101, 3) := by decide +kernel
theorem dX10_read_99 : decode cX10_read 99 = .ok (.bipush 64, 2) := by decide +kernel
theorem dX10_read_101 : decode cX10_read 101 = .ok (.iload_n 1, 1) := by decide +kernel
theorem dX10_read_102 : decode cX10_read 102 = .ok (.imul, 1) := by decide +kernel
theorem dX10_read_103 : decode cX10_read 103 = .ok (.aload_n 0, 1) := by decide +kernel
theorem dX10_read_104 : decode cX10_read 104 = .ok (.getfield 104, 3) := by decide +kernel
theorem dX10_read_107 : decode cX10_read 107 = .ok (.iload_n 1, 1) := by decide +kernel
theorem dX10_read_108 : decode cX10_read 108 = .ok (.dup2, 1) := by decide +kernel
theorem dX10_read_109 : decode cX10_read 109 = .ok (.iaload, 1) := by decide +kernel
theorem dX10_read_110 : decode cX10_read 110 = .ok (.dup_x2, 1) := by decide +kernel
theorem dX10_read_111 : decode cX10_read 111 = .ok (.iconst 1, 1) := by decide +kernel
theorem dX10_read_112 : decode cX10_read 112 = .ok (.iadd, 1) := by decide +kernel
theorem dX10_read_113 : decode cX10_read 113 = .ok (.iastore, 1) := by decide +kernel
theorem dX10_read_114 : decode cX10_read 114 = .ok (.iadd, 1) := by decide +kernel
theorem dX10_read_115 : decode cX10_read 115 = .ok (.aload_n 0, 1) := by decide +kernel
theorem dX10_read_116 : decode cX10_read 116 = .ok (.getfield 113, 3) := by decide +kernel
theorem dX10_read_119 : decode cX10_read 119 = .ok (.iload_n 3, 1) := by decide +kernel
theorem dX10_read_120 : decode cX10_read 120 = .ok (.iaload, 1) := by decide +kernel
theorem dX10_read_121 : decode cX10_read 121 = .ok (.iastore, 1) := by decide +kernel
theorem dX10_read_122 : decode cX10_read 122 = .ok (.iinc 3 1, 3) := by decide +kernel
theorem dX10_read_125 : decode cX10_read 125 = .ok (.goto (-38), 3) := by decide +kernel
theorem dX10_read_128 : decode cX10_read 128 = .ok (.aload_n 0, 1) := by decide +kernel
theorem dX10_read_129 : decode cX10_read 129 = .ok (.dup, 1) := by decide +kernel
theorem dX10_read_130 : decode cX10_read 130 = .ok (.getfield 220, 3) := by decide +kernel
theorem dX10_read_133 : decode cX10_read 133 = .ok (.iconst 1, 1) := by decide +kernel
theorem dX10_read_134 : decode cX10_read 134 = .ok (.iadd, 1) := by decide +kernel
theorem dX10_read_135 : decode cX10_read 135 = .ok (.putfield 220, 3) := by decide +kernel
theorem dX10_read_138 : decode cX10_read 138 = .ok (.aload_n 0, 1) := by decide +kernel
theorem dX10_read_139 : decode cX10_read 139 = .ok (.iload_n 1, 1) := by decide +kernel
theorem dX10_read_140 : decode cX10_read 140 = .ok (.invokevirtual 211, 3) := by decide +kernel
theorem dX10_read_143 : decode cX10_read 143 = .ok (.istore_n 2, 1) := by decide +kernel
theorem dX10_read_144 : decode cX10_read 144 = .ok (.goto (-138), 3) := by decide +kernel
theorem dX10_read_147 : decode cX10_read 147 = .ok (.return_, 1) := by decide +kernel
theorem dX10_isNamed_0 : decode cX10_isNamed 0 = .ok (.aload_n 0, 1) := by decide +kernel
theorem dX10_isNamed_1 : decode cX10_isNamed 1 = .ok (.getfield 25, 3) := by decide +kernel
theorem dX10_isNamed_4 : decode cX10_isNamed 4 = .ok (.iload_n 1, 1) := by decide +kernel
theorem dX10_isNamed_5 : decode cX10_isNamed 5 = .ok (.iaload, 1) := by decide +kernel
theorem dX10_isNamed_6 : decode cX10_isNamed 6 = .ok (.iload_n 3, 1) := by decide +kernel
theorem dX10_isNamed_7 : decode cX10_isNamed 7 = .ok (.iconst 2, 1) := by decide +kernel
theorem dX10_isNamed_8 : decode cX10_isNamed 8 = .ok (.isub, 1) := by decide +kernel
theorem dX10_isNamed_9 : decode cX10_isNamed 9 = .ok (.if_icmp .ne 7, 3) := by decide +kernel
theorem dX10_isNamed_12 : decode cX10_isNamed 12 = .ok (.iconst 1, 1) := by decide +kernel
theorem dX10_isNamed_13 : decode cX10_isNamed 13 = .ok (.goto 4, 3) := by decide +kernel
theorem dX10_isNamed_16 : decode cX10_isNamed 16 = .ok (.iconst 0, 1) := by decide +kernel
theorem dX10_isNamed_17 : decode cX10_isNamed 17 = .ok (.istore 4, 2) := by decide +kernel
theorem dX10_isNamed_19 : decode cX10_isNamed 19 = .ok (.iconst 0, 1) := by decide +kernel
theorem dX10_isNamed_20 : decode cX10_isNamed 20 = .ok (.istore 5, 2) := by decide +kernel
theorem dX10_isNamed_22 : decode cX10_isNamed 22 = .ok (.iload 5, 2) := by decide +kernel
theorem dX10_isNamed_24 : decode cX10_isNamed 24 = .ok (.aload_n 0, 1) := by decide +kernel
theorem dX10_isNamed_25 : decode cX10_isNamed 25 = .ok (.getfield 25, 3) := by decide +kernel
theorem dX10_isNamed_28 : decode cX10_isNamed 28 = .ok (.iload_n 1, 1) := by decide +kernel
theorem dX10_isNamed_29 : decode cX10_isNamed 29 = .ok (.iaload, 1) := by decide +kernel
theorem dX10_isNamed_30 : decode cX10_isNamed 30 = .ok (.if_icmp .ge 49, 3) := by decide +kernel
theorem dX10_isNamed_33 : decode cX10_isNamed 33 = .ok (.iload 4, 2) := by decide +kernel
theorem dX10_isNamed_35 : decode cX10_isNamed 35 = .ok (.ifCond .eq 44, 3) := by decide +kernel
theorem dX10_isNamed_38 : decode cX10_isNamed 38 = .ok (.aload_n 0, 1) := by decide +kernel
theorem dX10_isNamed_39 : decode cX10_isNamed 39 = .ok (.getfield 22, 3) := by decide +kernel
theorem dX10_isNamed_42 : decode cX10_isNamed 42 = .ok (.iconst 4, 1) := by decide +kernel
theorem dX10_isNamed_43 : decode cX10_isNamed 43 = .ok (.iload_n 1, 1) := by decide +kernel
theorem dX10_isNamed_44 : decode cX10_isNamed 44 = .ok (.imul, 1) := by decide +kernel
theorem dX10_isNamed_45 : decode cX10_isNamed 45 = .ok (.iload 5, 2) := by decide +kernel
theorem dX10_isNamed_47 : decode cX10_isNamed 47 = .ok (.iadd, 1) := by decide +kernel
theorem dX10_isNamed_48 : decode cX10_isNamed 48 = .ok (.iaload, 1) := by decide +kernel
theorem dX10_isNamed_49 : decode cX10_isNamed 49 = .ok (.aload_n 0, 1) := by decide +kernel
theorem dX10_isNamed_50 : decode cX10_isNamed 50 = .ok (.getfield 107, 3) := by decide +kernel
theorem dX10_isNamed_53 : decode cX10_isNamed 53 = .ok (.bipush 16, 2) := by decide +kernel
theorem dX10_isNamed_55 : decode cX10_isNamed 55 = .ok (.iload_n 2, 1) := by decide +kernel
theorem dX10_isNamed_56 : decode cX10_isNamed 56 = .ok (.imul, 1) := by decide +kernel
theorem dX10_isNamed_57 : decode cX10_isNamed 57 = .ok (.iload 5, 2) := by decide +kernel
theorem dX10_isNamed_59 : decode cX10_isNamed 59 = .ok (.iadd, 1) := by decide +kernel
theorem dX10_isNamed_60 : decode cX10_isNamed 60 = .ok (.iconst 1, 1) := by decide +kernel
theorem dX10_isNamed_61 : decode cX10_isNamed 61 = .ok (.iadd, 1) := by decide +kernel
theorem dX10_isNamed_62 : decode cX10_isNamed 62 = .ok (.iaload, 1) := by decide +kernel
theorem dX10_isNamed_63 : decode cX10_isNamed 63 = .ok (.if_icmp .ne 7, 3) := by decide +kernel
theorem dX10_isNamed_66 : decode cX10_isNamed 66 = .ok (.iconst 1, 1) := by decide +kernel
theorem dX10_isNamed_67 : decode cX10_isNamed 67 = .ok (.goto 4, 3) := by decide +kernel
theorem dX10_isNamed_70 : decode cX10_isNamed 70 = .ok (.iconst 0, 1) := by decide +kernel
theorem dX10_isNamed_71 : decode cX10_isNamed 71 = .ok (.istore 4, 2) := by decide +kernel
theorem dX10_isNamed_73 : decode cX10_isNamed 73 = .ok (.iinc 5 1, 3) := by decide +kernel
theorem dX10_isNamed_76 : decode cX10_isNamed 76 = .ok (.goto (-54), 3) := by decide +kernel
theorem dX10_isNamed_79 : decode cX10_isNamed 79 = .ok (.iload 4, 2) := by decide +kernel
theorem dX10_isNamed_81 : decode cX10_isNamed 81 = .ok (.ireturn, 1) := by decide +kernel
theorem dX10_reply_0 : decode cX10_reply 0 = .ok (.iload_n 2, 1) := by decide +kernel
theorem dX10_reply_1 : decode cX10_reply 1 = .ok (.iconst 3, 1) := by decide +kernel
theorem dX10_reply_2 : decode cX10_reply 2 = .ok (.bipush 6, 2) := by decide +kernel
theorem dX10_reply_4 : decode cX10_reply 4 = .ok (.invokestatic 138, 3) := by decide +kernel
theorem dX10_reply_7 : decode cX10_reply 7 = .ok (.ifCond .eq 39, 3) := by decide +kernel
theorem dX10_reply_10 : decode cX10_reply 10 = .ok (.aload_n 0, 1) := by decide +kernel
theorem dX10_reply_11 : decode cX10_reply 11 = .ok (.getfield 107, 3) := by decide +kernel
theorem dX10_reply_14 : decode cX10_reply 14 = .ok (.bipush 16, 2) := by decide +kernel
theorem dX10_reply_16 : decode cX10_reply 16 = .ok (.iload_n 1, 1) := by decide +kernel
theorem dX10_reply_17 : decode cX10_reply 17 = .ok (.imul, 1) := by decide +kernel
theorem dX10_reply_18 : decode cX10_reply 18 = .ok (.iaload, 1) := by decide +kernel
theorem dX10_reply_19 : decode cX10_reply 19 = .ok (.bipush 71, 2) := by decide +kernel
theorem dX10_reply_21 : decode cX10_reply 21 = .ok (.if_icmp .ne 25, 3) := by decide +kernel
theorem dX10_reply_24 : decode cX10_reply 24 = .ok (.aload_n 0, 1) := by decide +kernel
theorem dX10_reply_25 : decode cX10_reply 25 = .ok (.getfield 107, 3) := by decide +kernel
theorem dX10_reply_28 : decode cX10_reply 28 = .ok (.bipush 16, 2) := by decide +kernel
theorem dX10_reply_30 : decode cX10_reply 30 = .ok (.iload_n 1, 1) := by decide +kernel
theorem dX10_reply_31 : decode cX10_reply 31 = .ok (.imul, 1) := by decide +kernel
theorem dX10_reply_32 : decode cX10_reply 32 = .ok (.iload_n 2, 1) := by decide +kernel
theorem dX10_reply_33 : decode cX10_reply 33 = .ok (.iadd, 1) := by decide +kernel
theorem dX10_reply_34 : decode cX10_reply 34 = .ok (.iconst 1, 1) := by decide +kernel
theorem dX10_reply_35 : decode cX10_reply 35 = .ok (.isub, 1) := by decide +kernel
theorem dX10_reply_36 : decode cX10_reply 36 = .ok (.iaload, 1) := by decide +kernel
theorem dX10_reply_37 : decode cX10_reply 37 = .ok (.bipush 10, 2) := by decide +kernel
theorem dX10_reply_39 : decode cX10_reply 39 = .ok (.if_icmp .ne 7, 3) := by decide +kernel
theorem dX10_reply_42 : decode cX10_reply 42 = .ok (.iconst 1, 1) := by decide +kernel
theorem dX10_reply_43 : decode cX10_reply 43 = .ok (.goto 4, 3) := by decide +kernel
theorem dX10_reply_46 : decode cX10_reply 46 = .ok (.iconst 0, 1) := by decide +kernel
theorem dX10_reply_47 : decode cX10_reply 47 = .ok (.istore_n 3, 1) := by decide +kernel
theorem dX10_reply_48 : decode cX10_reply 48 = .ok (.iconst 1, 1) := by decide +kernel
theorem dX10_reply_49 : decode cX10_reply 49 = .ok (.istore 4, 2) := by decide +kernel
theorem dX10_reply_51 : decode cX10_reply 51 = .ok (.iload 4, 2) := by decide +kernel
theorem dX10_reply_53 : decode cX10_reply 53 = .ok (.iload_n 2, 1) := by decide +kernel
theorem dX10_reply_54 : decode cX10_reply 54 = .ok (.iconst 1, 1) := by decide +kernel
theorem dX10_reply_55 : decode cX10_reply 55 = .ok (.isub, 1) := by decide +kernel
theorem dX10_reply_56 : decode cX10_reply 56 = .ok (.if_icmp .ge 33, 3) := by decide +kernel
theorem dX10_reply_59 : decode cX10_reply 59 = .ok (.iload_n 3, 1) := by decide +kernel
theorem dX10_reply_60 : decode cX10_reply 60 = .ok (.ifCond .eq 29, 3) := by decide +kernel
theorem dX10_reply_63 : decode cX10_reply 63 = .ok (.aload_n 0, 1) := by decide +kernel
theorem dX10_reply_64 : decode cX10_reply 64 = .ok (.getfield 107, 3) := by decide +kernel
theorem dX10_reply_67 : decode cX10_reply 67 = .ok (.bipush 16, 2) := by decide +kernel
theorem dX10_reply_69 : decode cX10_reply 69 = .ok (.iload_n 1, 1) := by decide +kernel
theorem dX10_reply_70 : decode cX10_reply 70 = .ok (.imul, 1) := by decide +kernel
theorem dX10_reply_71 : decode cX10_reply 71 = .ok (.iload 4, 2) := by decide +kernel
theorem dX10_reply_73 : decode cX10_reply 73 = .ok (.iadd, 1) := by decide +kernel
theorem dX10_reply_74 : decode cX10_reply 74 = .ok (.iaload, 1) := by decide +kernel
theorem dX10_reply_75 : decode cX10_reply 75 = .ok (.bipush 97, 2) := by decide +kernel
theorem dX10_reply_77 : decode cX10_reply 77 = .ok (.bipush 122, 2) := by decide +kernel
theorem dX10_reply_79 : decode cX10_reply 79 = .ok (.invokestatic 138, 3) := by decide +kernel
theorem dX10_reply_82 : decode cX10_reply 82 = .ok (.istore_n 3, 1) := by decide +kernel
theorem dX10_reply_83 : decode cX10_reply 83 = .ok (.iinc 4 1, 3) := by decide +kernel
theorem dX10_reply_86 : decode cX10_reply 86 = .ok (.goto (-35), 3) := by decide +kernel
theorem dX10_reply_89 : decode cX10_reply 89 = .ok (.aload_n 0, 1) := by decide +kernel
theorem dX10_reply_90 : decode cX10_reply 90 = .ok (.getfield 113, 3) := by decide +kernel
theorem dX10_reply_93 : decode cX10_reply 93 = .ok (.iconst 0, 1) := by decide +kernel
theorem dX10_reply_94 : decode cX10_reply 94 = .ok (.bipush 48, 2) := by decide +kernel
theorem dX10_reply_96 : decode cX10_reply 96 = .ok (.iastore, 1) := by decide +kernel
theorem dX10_reply_97 : decode cX10_reply 97 = .ok (.aload_n 0, 1) := by decide +kernel
theorem dX10_reply_98 : decode cX10_reply 98 = .ok (.getfield 113, 3) := by decide +kernel
theorem dX10_reply_101 : decode cX10_reply 101 = .ok (.iconst 1, 1) := by decide +kernel
theorem dX10_reply_102 : decode cX10_reply 102 = .ok (.bipush 10, 2) := by decide +kernel
theorem dX10_reply_104 : decode cX10_reply 104 = .ok (.iastore, 1) := by decide +kernel
theorem dX10_reply_105 : decode cX10_reply 105 = .ok (.aload_n 0, 1) := by decide +kernel
theorem dX10_reply_106 : decode cX10_reply 106 = .ok (.iconst 2, 1) := by decide +kernel
theorem dX10_reply_107 : decode cX10_reply 107 = .ok (.putfield 217, 3) := by decide +kernel
theorem dX10_reply_110 : decode cX10_reply 110 = .ok (.iload_n 3, 1) := by decide +kernel
theorem dX10_reply_111 : decode cX10_reply 111 = .ok (.ifCond .ne 4, 3) := by decide +kernel
theorem dX10_reply_114 : decode cX10_reply 114 = .ok (.return_, 1) := by decide +kernel
theorem dX10_reply_115 : decode cX10_reply 115 = .ok (.iconst 0, 1) := by decide +kernel
theorem dX10_reply_116 : decode cX10_reply 116 = .ok (.istore 4, 2) := by decide +kernel
theorem dX10_reply_118 : decode cX10_reply 118 = .ok (.iconst 0, 1) := by decide +kernel
theorem dX10_reply_119 : decode cX10_reply 119 = .ok (.istore 5, 2) := by decide +kernel
theorem dX10_reply_121 : decode cX10_reply 121 = .ok (.iload 4, 2) := by decide +kernel
theorem dX10_reply_123 : decode cX10_reply 123 = .ok (.bipush 6, 2) := by decide +kernel
theorem dX10_reply_125 : decode cX10_reply 125 = .ok (.if_icmp .ge 20, 3) := by decide +kernel
theorem dX10_reply_128 : decode cX10_reply 128 = .ok (.aload_n 0, 1) := by decide +kernel
theorem dX10_reply_129 : decode cX10_reply 129 = .ok (.iload 4, 2) := by decide +kernel
theorem dX10_reply_131 : decode cX10_reply 131 = .ok (.iload_n 1, 1) := by decide +kernel
theorem dX10_reply_132 : decode cX10_reply 132 = .ok (.iload_n 2, 1) := by decide +kernel
theorem dX10_reply_133 : decode cX10_reply 133 = .ok (.invokevirtual 223, 3) := by decide +kernel
theorem dX10_reply_136 : decode cX10_reply 136 = .ok (.ifCond .ne 9, 3) := by decide +kernel
theorem dX10_reply_139 : decode cX10_reply 139 = .ok (.iinc 4 1, 3) := by decide +kernel
theorem dX10_reply_142 : decode cX10_reply 142 = .ok (.goto (-21), 3) := by decide +kernel
theorem dX10_reply_145 : decode cX10_reply 145 = .ok (.aload_n 0, 1) := by decide +kernel
theorem dX10_reply_146 : decode cX10_reply 146 = .ok (.getfield 113, 3) := by decide +kernel
theorem dX10_reply_149 : decode cX10_reply 149 = .ok (.iconst 0, 1) := by decide +kernel
theorem dX10_reply_150 : decode cX10_reply 150 = .ok (.bipush 52, 2) := by decide +kernel
theorem dX10_reply_152 : decode cX10_reply 152 = .ok (.iastore, 1) := by decide +kernel
theorem dX10_reply_153 : decode cX10_reply 153 = .ok (.iload 4, 2) := by decide +kernel
theorem dX10_reply_155 : decode cX10_reply 155 = .ok (.bipush 6, 2) := by decide +kernel
theorem dX10_reply_157 : decode cX10_reply 157 = .ok (.if_icmp .ne 4, 3) := by decide +kernel
theorem dX10_reply_160 : decode cX10_reply 160 = .ok (.return_, 1) := by decide +kernel
theorem dX10_reply_161 : decode cX10_reply 161 = .ok (.iconst 0, 1) := by decide +kernel
theorem dX10_reply_162 : decode cX10_reply 162 = .ok (.istore 6, 2) := by decide +kernel
theorem dX10_reply_164 : decode cX10_reply 164 = .ok (.iload 6, 2) := by decide +kernel
theorem dX10_reply_166 : decode cX10_reply 166 = .ok (.aload_n 0, 1) := by decide +kernel
theorem dX10_reply_167 : decode cX10_reply 167 = .ok (.getfield 31, 3) := by decide +kernel
theorem dX10_reply_170 : decode cX10_reply 170 = .ok (.iload 4, 2) := by decide +kernel
theorem dX10_reply_172 : decode cX10_reply 172 = .ok (.iaload, 1) := by decide +kernel
theorem dX10_reply_173 : decode cX10_reply 173 = .ok (.if_icmp .ge 27, 3) := by decide +kernel
theorem dX10_reply_176 : decode cX10_reply 176 = .ok (.iload 5, 2) := by decide +kernel
theorem dX10_reply_178 : decode cX10_reply 178 = .ok (.aload_n 0, 1) := by decide +kernel
theorem dX10_reply_179 : decode cX10_reply 179 = .ok (.getfield 28, 3) := by decide +kernel
theorem dX10_reply_182 : decode cX10_reply 182 = .ok (.bipush 16, 2) := by decide +kernel
theorem dX10_reply_184 : decode cX10_reply 184 = .ok (.iload 4, 2) := by decide +kernel
theorem dX10_reply_186 : decode cX10_reply 186 = .ok (.imul, 1) := by decide +kernel
theorem dX10_reply_187 : decode cX10_reply 187 = .ok (.iload 6, 2) := by decide +kernel
theorem dX10_reply_189 : decode cX10_reply 189 = .ok (.iadd, 1) := by decide +kernel
theorem dX10_reply_190 : decode cX10_reply 190 = .ok (.iaload, 1) := by decide +kernel
theorem dX10_reply_191 : decode cX10_reply 191 = .ok (.iadd, 1) := by decide +kernel
theorem dX10_reply_192 : decode cX10_reply 192 = .ok (.istore 5, 2) := by decide +kernel
theorem dX10_reply_194 : decode cX10_reply 194 = .ok (.iinc 6 1, 3) := by decide +kernel
theorem dX10_reply_197 : decode cX10_reply 197 = .ok (.goto (-33), 3) := by decide +kernel
theorem dX10_reply_200 : decode cX10_reply 200 = .ok (.aload_n 0, 1) := by decide +kernel
theorem dX10_reply_201 : decode cX10_reply 201 = .ok (.getfield 113, 3) := by decide +kernel
theorem dX10_reply_204 : decode cX10_reply 204 = .ok (.iconst 0, 1) := by decide +kernel
theorem dX10_reply_205 : decode cX10_reply 205 = .ok (.bipush 53, 2) := by decide +kernel
theorem dX10_reply_207 : decode cX10_reply 207 = .ok (.iastore, 1) := by decide +kernel
theorem dX10_reply_208 : decode cX10_reply 208 = .ok (.iload 5, 2) := by decide +kernel
theorem dX10_reply_210 : decode cX10_reply 210 = .ok (.sipush 255, 3) := by decide +kernel
theorem dX10_reply_213 : decode cX10_reply 213 = .ok (.iand, 1) := by decide +kernel
theorem dX10_reply_214 : decode cX10_reply 214 = .ok (.aload_n 0, 1) := by decide +kernel
theorem dX10_reply_215 : decode cX10_reply 215 = .ok (.getfield 34, 3) := by decide +kernel
theorem dX10_reply_218 : decode cX10_reply 218 = .ok (.iload 4, 2) := by decide +kernel
theorem dX10_reply_220 : decode cX10_reply 220 = .ok (.iaload, 1) := by decide +kernel
theorem dX10_reply_221 : decode cX10_reply 221 = .ok (.if_icmp .eq 4, 3) := by decide +kernel
theorem dX10_reply_224 : decode cX10_reply 224 = .ok (.return_, 1) := by decide +kernel
theorem dX10_reply_225 : decode cX10_reply 225 = .ok (.aload_n 0, 1) := by decide +kernel
theorem dX10_reply_226 : decode cX10_reply 226 = .ok (.getfield 113, 3) := by decide +kernel
theorem dX10_reply_229 : decode cX10_reply 229 = .ok (.iconst 0, 1) := by decide +kernel
theorem dX10_reply_230 : decode cX10_reply 230 = .ok (.bipush 50, 2) := by decide +kernel
theorem dX10_reply_232 : decode cX10_reply 232 = .ok (.iastore, 1) := by decide +kernel
theorem dX10_reply_233 : decode cX10_reply 233 = .ok (.iconst 0, 1) := by decide +kernel
theorem dX10_reply_234 : decode cX10_reply 234 = .ok (.istore 6, 2) := by decide +kernel
theorem dX10_reply_236 : decode cX10_reply 236 = .ok (.iload 6, 2) := by decide +kernel
theorem dX10_reply_238 : decode cX10_reply 238 = .ok (.aload_n 0, 1) := by decide +kernel
theorem dX10_reply_239 : decode cX10_reply 239 = .ok (.getfield 31, 3) := by decide +kernel
theorem dX10_reply_242 : decode cX10_reply 242 = .ok (.iload 4, 2) := by decide +kernel
theorem dX10_reply_244 : decode cX10_reply 244 = .ok (.iaload, 1) := by decide +kernel
theorem dX10_reply_245 : decode cX10_reply 245 = .ok (.if_icmp .ge 31, 3) := by decide +kernel
theorem dX10_reply_248 : decode cX10_reply 248 = .ok (.aload_n 0, 1) := by decide +kernel
theorem dX10_reply_249 : decode cX10_reply 249 = .ok (.getfield 113, 3) := by decide +kernel
theorem dX10_reply_252 : decode cX10_reply 252 = .ok (.iload 6, 2) := by decide +kernel
theorem dX10_reply_254 : decode cX10_reply 254 = .ok (.iconst 1, 1) := by decide +kernel
theorem dX10_reply_255 : decode cX10_reply 255 = .ok (.iadd, 1) := by decide +kernel
theorem dX10_reply_256 : decode cX10_reply 256 = .ok (.aload_n 0, 1) := by decide +kernel
theorem dX10_reply_257 : decode cX10_reply 257 = .ok (.getfield 28, 3) := by decide +kernel
theorem dX10_reply_260 : decode cX10_reply 260 = .ok (.bipush 16, 2) := by decide +kernel
theorem dX10_reply_262 : decode cX10_reply 262 = .ok (.iload 4, 2) := by decide +kernel
theorem dX10_reply_264 : decode cX10_reply 264 = .ok (.imul, 1) := by decide +kernel
theorem dX10_reply_265 : decode cX10_reply 265 = .ok (.iload 6, 2) := by decide +kernel
theorem dX10_reply_267 : decode cX10_reply 267 = .ok (.iadd, 1) := by decide +kernel
theorem dX10_reply_268 : decode cX10_reply 268 = .ok (.iaload, 1) := by decide +kernel
theorem dX10_reply_269 : decode cX10_reply 269 = .ok (.iastore, 1) := by decide +kernel
theorem dX10_reply_270 : decode cX10_reply 270 = .ok (.iinc 6 1, 3) := by decide +kernel
theorem dX10_reply_273 : decode cX10_reply 273 = .ok (.goto (-37), 3) := by decide +kernel
theorem dX10_reply_276 : decode cX10_reply 276 = .ok (.aload_n 0, 1) := by decide +kernel
theorem dX10_reply_277 : decode cX10_reply 277 = .ok (.getfield 113, 3) := by decide +kernel
theorem dX10_reply_280 : decode cX10_reply 280 = .ok (.aload_n 0, 1) := by decide +kernel
theorem dX10_reply_281 : decode cX10_reply 281 = .ok (.getfield 31, 3) := by decide +kernel
theorem dX10_reply_284 : decode cX10_reply 284 = .ok (.iload 4, 2) := by decide +kernel
theorem dX10_reply_286 : decode cX10_reply 286 = .ok (.iaload, 1) := by decide +kernel
theorem dX10_reply_287 : decode cX10_reply 287 = .ok (.iconst 1, 1) := by decide +kernel
theorem dX10_reply_288 : decode cX10_reply 288 = .ok (.iadd, 1) := by decide +kernel
theorem dX10_reply_289 : decode cX10_reply 289 = .ok (.bipush 10, 2) := by decide +kernel
theorem dX10_reply_291 : decode cX10_reply 291 = .ok (.iastore, 1) := by decide +kernel
theorem dX10_reply_292 : decode cX10_reply 292 = .ok (.aload_n 0, 1) := by decide +kernel
theorem dX10_reply_293 : decode cX10_reply 293 = .ok (.aload_n 0, 1) := by decide +kernel
theorem dX10_reply_294 : decode cX10_reply 294 = .ok (.getfield 31, 3) := by decide +kernel
theorem dX10_reply_297 : decode cX10_reply 297 = .ok (.iload 4, 2) := by decide +kernel
theorem dX10_reply_299 : decode cX10_reply 299 = .ok (.iaload, 1) := by decide +kernel
theorem dX10_reply_300 : decode cX10_reply 300 = .ok (.iconst 2, 1) := by decide +kernel
theorem dX10_reply_301 : decode cX10_reply 301 = .ok (.iadd, 1) := by decide +kernel
theorem dX10_reply_302 : decode cX10_reply 302 = .ok (.putfield 217, 3) := by decide +kernel
theorem dX10_reply_305 : decode cX10_reply 305 = .ok (.return_, 1) := by decide +kernel
theorem dX10_push_0 : decode cX10_push 0 = .ok (.aload_n 0, 1) := by decide +kernel
theorem dX10_push_1 : decode cX10_push 1 = .ok (.getfield 71, 3) := by decide +kernel
theorem dX10_push_4 : decode cX10_push 4 = .ok (.iload_n 1, 1) := by decide +kernel
theorem dX10_push_5 : decode cX10_push 5 = .ok (.iaload, 1) := by decide +kernel
theorem dX10_push_6 : decode cX10_push 6 = .ok (.iconst 2, 1) := by decide +kernel
theorem dX10_push_7 : decode cX10_push 7 = .ok (.if_icmp .eq 14, 3) := by decide +kernel
theorem dX10_push_10 : decode cX10_push 10 = .ok (.aload_n 0, 1) := by decide +kernel
theorem dX10_push_11 : decode cX10_push 11 = .ok (.getfield 71, 3) := by decide +kernel
theorem dX10_push_14 : decode cX10_push 14 = .ok (.iload_n 1, 1) := by decide +kernel
theorem dX10_push_15 : decode cX10_push 15 = .ok (.iaload, 1) := by decide +kernel
theorem dX10_push_16 : decode cX10_push 16 = .ok (.iconst 3, 1) := by decide +kernel
theorem dX10_push_17 : decode cX10_push 17 = .ok (.if_icmp .eq 4, 3) := by decide +kernel
theorem dX10_push_20 : decode cX10_push 20 = .ok (.return_, 1) := by decide +kernel
theorem dX10_push_21 : decode cX10_push 21 = .ok (.aload_n 0, 1) := by decide +kernel
theorem dX10_push_22 : decode cX10_push 22 = .ok (.getfield 89, 3) := by decide +kernel
theorem dX10_push_25 : decode cX10_push 25 = .ok (.iload_n 1, 1) := by decide +kernel
theorem dX10_push_26 : decode cX10_push 26 = .ok (.iaload, 1) := by decide +kernel
theorem dX10_push_27 : decode cX10_push 27 = .ok (.bipush 8, 2) := by decide +kernel
theorem dX10_push_29 : decode cX10_push 29 = .ok (.aload_n 0, 1) := by decide +kernel
theorem dX10_push_30 : decode cX10_push 30 = .ok (.getfield 92, 3) := by decide +kernel
theorem dX10_push_33 : decode cX10_push 33 = .ok (.iload_n 1, 1) := by decide +kernel
theorem dX10_push_34 : decode cX10_push 34 = .ok (.iaload, 1) := by decide +kernel
theorem dX10_push_35 : decode cX10_push 35 = .ok (.imul, 1) := by decide +kernel
theorem dX10_push_36 : decode cX10_push 36 = .ok (.if_icmp .ge 12, 3) := by decide +kernel
theorem dX10_push_39 : decode cX10_push 39 = .ok (.aload_n 0, 1) := by decide +kernel
theorem dX10_push_40 : decode cX10_push 40 = .ok (.getfield 89, 3) := by decide +kernel
theorem dX10_push_43 : decode cX10_push 43 = .ok (.iload_n 1, 1) := by decide +kernel
theorem dX10_push_44 : decode cX10_push 44 = .ok (.iaload, 1) := by decide +kernel
theorem dX10_push_45 : decode cX10_push 45 = .ok (.goto 12, 3) := by decide +kernel
theorem dX10_push_48 : decode cX10_push 48 = .ok (.bipush 8, 2) := by decide +kernel
theorem dX10_push_50 : decode cX10_push 50 = .ok (.aload_n 0, 1) := by decide +kernel
theorem dX10_push_51 : decode cX10_push 51 = .ok (.getfield 92, 3) := by decide +kernel
theorem dX10_push_54 : decode cX10_push 54 = .ok (.iload_n 1, 1) := by decide +kernel
theorem dX10_push_55 : decode cX10_push 55 = .ok (.iaload, 1) := by decide +kernel
theorem dX10_push_56 : decode cX10_push 56 = .ok (.imul, 1) := by decide +kernel
theorem dX10_push_57 : decode cX10_push 57 = .ok (.istore_n 2, 1) := by decide +kernel
theorem dX10_push_58 : decode cX10_push 58 = .ok (.aload_n 0, 1) := by decide +kernel
theorem dX10_push_59 : decode cX10_push 59 = .ok (.iload_n 1, 1) := by decide +kernel
theorem dX10_push_60 : decode cX10_push 60 = .ok (.invokevirtual 182, 3) := by decide +kernel
theorem dX10_push_63 : decode cX10_push 63 = .ok (.istore_n 3, 1) := by decide +kernel
theorem dX10_push_64 : decode cX10_push 64 = .ok (.iload_n 3, 1) := by decide +kernel
theorem dX10_push_65 : decode cX10_push 65 = .ok (.aload_n 0, 1) := by decide +kernel
theorem dX10_push_66 : decode cX10_push 66 = .ok (.getfield 104, 3) := by decide +kernel
theorem dX10_push_69 : decode cX10_push 69 = .ok (.iload_n 1, 1) := by decide +kernel
theorem dX10_push_70 : decode cX10_push 70 = .ok (.iaload, 1) := by decide +kernel
theorem dX10_push_71 : decode cX10_push 71 = .ok (.if_icmp .ge 155, 3) := by decide +kernel
theorem dX10_push_74 : decode cX10_push 74 = .ok (.iload_n 3, 1) := by decide +kernel
theorem dX10_push_75 : decode cX10_push 75 = .ok (.iload_n 2, 1) := by decide +kernel
theorem dX10_push_76 : decode cX10_push 76 = .ok (.if_icmp .ge 150, 3) := by decide +kernel
theorem dX10_push_79 : decode cX10_push 79 = .ok (.aload_n 0, 1) := by decide +kernel
theorem dX10_push_80 : decode cX10_push 80 = .ok (.getfield 104, 3) := by decide +kernel
theorem dX10_push_83 : decode cX10_push 83 = .ok (.iload_n 1, 1) := by decide +kernel
theorem dX10_push_84 : decode cX10_push 84 = .ok (.iaload, 1) := by decide +kernel
theorem dX10_push_85 : decode cX10_push 85 = .ok (.iload_n 3, 1) := by decide +kernel
theorem dX10_push_86 : decode cX10_push 86 = .ok (.isub, 1) := by decide +kernel
theorem dX10_push_87 : decode cX10_push 87 = .ok (.iload_n 2, 1) := by decide +kernel
theorem dX10_push_88 : decode cX10_push 88 = .ok (.iload_n 3, 1) := by decide +kernel
theorem dX10_push_89 : decode cX10_push 89 = .ok (.isub, 1) := by decide +kernel
theorem dX10_push_90 : decode cX10_push 90 = .ok (.if_icmp .ge 14, 3) := by decide +kernel
theorem dX10_push_93 : decode cX10_push 93 = .ok (.aload_n 0, 1) := by decide +kernel
theorem dX10_push_94 : decode cX10_push 94 = .ok (.getfield 104, 3) := by decide +kernel
theorem dX10_push_97 : decode cX10_push 97 = .ok (.iload_n 1, 1) := by decide +kernel
theorem dX10_push_98 : decode cX10_push 98 = .ok (.iaload, 1) := by decide +kernel
theorem dX10_push_99 : decode cX10_push 99 = .ok (.iload_n 3, 1) := by decide +kernel
theorem dX10_push_100 : decode cX10_push 100 = .ok (.isub, 1) := by decide +kernel
theorem dX10_push_101 : decode cX10_push 101 = .ok (.goto 6, 3) := by decide +kernel
theorem dX10_push_104 : decode cX10_push 104 = .ok (.iload_n 2, 1) := by decide +kernel
theorem dX10_push_105 : decode cX10_push 105 = .ok (.iload_n 3, 1) := by decide +kernel
theorem dX10_push_106 : decode cX10_push 106 = .ok (.isub, 1) := by decide +kernel
theorem dX10_push_107 : decode cX10_push 107 = .ok (.istore 4, 2) := by decide +kernel
theorem dX10_push_109 : decode cX10_push 109 = .ok (.iload 4, 2) := by decide +kernel
theorem dX10_push_111 : decode cX10_push 111 = .ok (.bipush 8, 2) := by decide +kernel
theorem dX10_push_113 : decode cX10_push 113 = .ok (.if_icmp .le 7, 3) := by decide +kernel
theorem dX10_push_116 : decode cX10_push 116 = .ok (.bipush 8, 2) := by decide +kernel
theorem dX10_push_118 : decode cX10_push 118 = .ok (.istore 4, 2) := by decide +kernel
theorem dX10_push_120 : decode cX10_push 120 = .ok (.aload_n 0, 1) := by decide +kernel
theorem dX10_push_121 : decode cX10_push 121 = .ok (.aload_n 0, 1) := by decide +kernel
theorem dX10_push_122 : decode cX10_push 122 = .ok (.getfield 77, 3) := by decide +kernel
theorem dX10_push_125 : decode cX10_push 125 = .ok (.iload_n 1, 1) := by decide +kernel
theorem dX10_push_126 : decode cX10_push 126 = .ok (.iaload, 1) := by decide +kernel
theorem dX10_push_127 : decode cX10_push 127 = .ok (.aload_n 0, 1) := by decide +kernel
theorem dX10_push_128 : decode cX10_push 128 = .ok (.getfield 86, 3) := by decide +kernel
theorem dX10_push_131 : decode cX10_push 131 = .ok (.iload_n 1, 1) := by decide +kernel
theorem dX10_push_132 : decode cX10_push 132 = .ok (.iaload, 1) := by decide +kernel
theorem dX10_push_133 : decode cX10_push 133 = .ok (.aload_n 0, 1) := by decide +kernel
theorem dX10_push_134 : decode cX10_push 134 = .ok (.getfield 80, 3) := by decide +kernel
theorem dX10_push_137 : decode cX10_push 137 = .ok (.iload_n 1, 1) := by decide +kernel
theorem dX10_push_138 : decode cX10_push 138 = .ok (.iaload, 1) := by decide +kernel
theorem dX10_push_139 : decode cX10_push 139 = .ok (.bipush 16, 2) := by decide +kernel
theorem dX10_push_141 : decode cX10_push 141 = .ok (.bipush 16, 2) := by decide +kernel
theorem dX10_push_143 : decode cX10_push 143 = .ok (.aload_n 0, 1) := by decide +kernel
theorem dX10_push_144 : decode cX10_push 144 = .ok (.getfield 110, 3) := by decide +kernel
theorem dX10_push_147 : decode cX10_push 147 = .ok (.iload_n 1, 1) := by decide +kernel
theorem dX10_push_148 : decode cX10_push 148 = .ok (.iaload, 1) := by decide +kernel
theorem dX10_push_149 : decode cX10_push 149 = .ok (.isub, 1) := by decide +kernel
theorem dX10_push_150 : decode cX10_push 150 = .ok (.invokevirtual 179, 3) := by decide +kernel
theorem dX10_push_153 : decode cX10_push 153 = .ok (.iconst 0, 1) := by decide +kernel
theorem dX10_push_154 : decode cX10_push 154 = .ok (.istore 5, 2) := by decide +kernel
theorem dX10_push_156 : decode cX10_push 156 = .ok (.iload 5, 2) := by decide +kernel
theorem dX10_push_158 : decode cX10_push 158 = .ok (.iload 4, 2) := by decide +kernel
theorem dX10_push_160 : decode cX10_push 160 = .ok (.if_icmp .ge 39, 3) := by decide +kernel
theorem dX10_push_163 : decode cX10_push 163 = .ok (.aload_n 0, 1) := by decide +kernel
theorem dX10_push_164 : decode cX10_push 164 = .ok (.getfield 68, 3) := by decide +kernel
theorem dX10_push_167 : decode cX10_push 167 = .ok (.aload_n 0, 1) := by decide +kernel
theorem dX10_push_168 : decode cX10_push 168 = .ok (.dup, 1) := by decide +kernel
theorem dX10_push_169 : decode cX10_push 169 = .ok (.getfield 131, 3) := by decide +kernel
theorem dX10_push_172 : decode cX10_push 172 = .ok (.dup_x1, 1) := by decide +kernel
theorem dX10_push_173 : decode cX10_push 173 = .ok (.iconst 1, 1) := by decide +kernel
theorem dX10_push_174 : decode cX10_push 174 = .ok (.iadd, 1) := by decide +kernel
theorem dX10_push_175 : decode cX10_push 175 = .ok (.putfield 131, 3) := by decide +kernel
theorem dX10_push_178 : decode cX10_push 178 = .ok (.aload_n 0, 1) := by decide +kernel
theorem dX10_push_179 : decode cX10_push 179 = .ok (.getfield 101, 3) := by decide +kernel
theorem dX10_push_182 : decode cX10_push 182 = .ok (.bipush 64, 2) := by decide +kernel
theorem dX10_push_184 : decode cX10_push 184 = .ok (.iload_n 1, 1) := by decide +kernel
theorem dX10_push_185 : decode cX10_push 185 = .ok (.imul, 1) := by decide +kernel
theorem dX10_push_186 : decode cX10_push 186 = .ok (.iload_n 3, 1) := by decide +kernel
theorem dX10_push_187 : decode cX10_push 187 = .ok (.iadd, 1) := by decide +kernel
theorem dX10_push_188 : decode cX10_push 188 = .ok (.iload 5, 2) := by decide +kernel
theorem dX10_push_190 : decode cX10_push 190 = .ok (.iadd, 1) := by decide +kernel
theorem dX10_push_191 : decode cX10_push 191 = .ok (.iaload, 1) := by decide +kernel
theorem dX10_push_192 : decode cX10_push 192 = .ok (.iastore, 1) := by decide +kernel
theorem dX10_push_193 : decode cX10_push 193 = .ok (.iinc 5 1, 3) := by decide +kernel
theorem dX10_push_196 : decode cX10_push 196 = .ok (.goto (-40), 3) := by decide +kernel
theorem dX10_push_199 : decode cX10_push 199 = .ok (.aload_n 0, 1) := by decide +kernel
theorem dX10_push_200 : decode cX10_push 200 = .ok (.aload_n 0, 1) := by decide +kernel
theorem dX10_push_201 : decode cX10_push 201 = .ok (.getfield 74, 3) := by decide +kernel
theorem dX10_push_204 : decode cX10_push 204 = .ok (.iload_n 1, 1) := by decide +kernel
theorem dX10_push_205 : decode cX10_push 205 = .ok (.iaload, 1) := by decide +kernel
theorem dX10_push_206 : decode cX10_push 206 = .ok (.bipush 6, 2) := by decide +kernel
theorem dX10_push_208 : decode cX10_push 208 = .ok (.invokevirtual 173, 3) := by decide +kernel
theorem dX10_push_211 : decode cX10_push 211 = .ok (.aload_n 0, 1) := by decide +kernel
theorem dX10_push_212 : decode cX10_push 212 = .ok (.iload_n 1, 1) := by decide +kernel
theorem dX10_push_213 : decode cX10_push 213 = .ok (.iload 4, 2) := by decide +kernel
theorem dX10_push_215 : decode cX10_push 215 = .ok (.invokevirtual 202, 3) := by decide +kernel
theorem dX10_push_218 : decode cX10_push 218 = .ok (.iload_n 3, 1) := by decide +kernel
theorem dX10_push_219 : decode cX10_push 219 = .ok (.iload 4, 2) := by decide +kernel
theorem dX10_push_221 : decode cX10_push 221 = .ok (.iadd, 1) := by decide +kernel
theorem dX10_push_222 : decode cX10_push 222 = .ok (.istore_n 3, 1) := by decide +kernel
theorem dX10_push_223 : decode cX10_push 223 = .ok (.goto (-159), 3) := by decide +kernel
theorem dX10_push_226 : decode cX10_push 226 = .ok (.aload_n 0, 1) := by decide +kernel
theorem dX10_push_227 : decode cX10_push 227 = .ok (.getfield 71, 3) := by decide +kernel
theorem dX10_push_230 : decode cX10_push 230 = .ok (.iload_n 1, 1) := by decide +kernel
theorem dX10_push_231 : decode cX10_push 231 = .ok (.iaload, 1) := by decide +kernel
theorem dX10_push_232 : decode cX10_push 232 = .ok (.iconst 3, 1) := by decide +kernel
theorem dX10_push_233 : decode cX10_push 233 = .ok (.if_icmp .ne 21, 3) := by decide +kernel
theorem dX10_push_236 : decode cX10_push 236 = .ok (.iload_n 3, 1) := by decide +kernel
theorem dX10_push_237 : decode cX10_push 237 = .ok (.aload_n 0, 1) := by decide +kernel
theorem dX10_push_238 : decode cX10_push 238 = .ok (.getfield 104, 3) := by decide +kernel
theorem dX10_push_241 : decode cX10_push 241 = .ok (.iload_n 1, 1) := by decide +kernel
theorem dX10_push_242 : decode cX10_push 242 = .ok (.iaload, 1) := by decide +kernel
theorem dX10_push_243 : decode cX10_push 243 = .ok (.if_icmp .lt 11, 3) := by decide +kernel
theorem dX10_push_246 : decode cX10_push 246 = .ok (.aload_n 0, 1) := by decide +kernel
theorem dX10_push_247 : decode cX10_push 247 = .ok (.iload_n 1, 1) := by decide +kernel
theorem dX10_push_248 : decode cX10_push 248 = .ok (.invokevirtual 211, 3) := by decide +kernel
theorem dX10_push_251 : decode cX10_push 251 = .ok (.ifCond .le 4, 3) := by decide +kernel
theorem dX10_push_254 : decode cX10_push 254 = .ok (.return_, 1) := by decide +kernel
theorem dX10_push_255 : decode cX10_push 255 = .ok (.aload_n 0, 1) := by decide +kernel
theorem dX10_push_256 : decode cX10_push 256 = .ok (.getfield 110, 3) := by decide +kernel
theorem dX10_push_259 : decode cX10_push 259 = .ok (.iload_n 1, 1) := by decide +kernel
theorem dX10_push_260 : decode cX10_push 260 = .ok (.iconst 0, 1) := by decide +kernel
theorem dX10_push_261 : decode cX10_push 261 = .ok (.iastore, 1) := by decide +kernel
theorem dX10_push_262 : decode cX10_push 262 = .ok (.aload_n 0, 1) := by decide +kernel
theorem dX10_push_263 : decode cX10_push 263 = .ok (.iload_n 1, 1) := by decide +kernel
theorem dX10_push_264 : decode cX10_push 264 = .ok (.bipush 17, 2) := by decide +kernel
theorem dX10_push_266 : decode cX10_push 266 = .ok (.invokevirtual 192, 3) := by decide +kernel
theorem dX10_push_269 : decode cX10_push 269 = .ok (.aload_n 0, 1) := by decide +kernel
theorem dX10_push_270 : decode cX10_push 270 = .ok (.iload_n 1, 1) := by decide +kernel
theorem dX10_push_271 : decode cX10_push 271 = .ok (.iconst 1, 1) := by decide +kernel
theorem dX10_push_272 : decode cX10_push 272 = .ok (.invokevirtual 202, 3) := by decide +kernel
theorem dX10_push_275 : decode cX10_push 275 = .ok (.aload_n 0, 1) := by decide +kernel
theorem dX10_push_276 : decode cX10_push 276 = .ok (.getfield 71, 3) := by decide +kernel
theorem dX10_push_279 : decode cX10_push 279 = .ok (.iload_n 1, 1) := by decide +kernel
theorem dX10_push_280 : decode cX10_push 280 = .ok (.iconst 4, 1) := by decide +kernel
theorem dX10_push_281 : decode cX10_push 281 = .ok (.iastore, 1) := by decide +kernel
theorem dX10_push_282 : decode cX10_push 282 = .ok (.return_, 1) := by decide +kernel
theorem dX10_tick_0 : decode cX10_tick 0 = .ok (.iload_n 1, 1) := by decide +kernel
theorem dX10_tick_1 : decode cX10_tick 1 = .ok (.iconst 1, 1) := by decide +kernel
theorem dX10_tick_2 : decode cX10_tick 2 = .ok (.bipush 40, 2) := by decide +kernel
theorem dX10_tick_4 : decode cX10_tick 4 = .ok (.invokestatic 138, 3) := by decide +kernel
theorem dX10_tick_7 : decode cX10_tick 7 = .ok (.ifCond .ne 5, 3) := by decide +kernel
theorem dX10_tick_10 : decode cX10_tick 10 = .ok (.iconst (-1), 1) := by decide +kernel
theorem dX10_tick_11 : decode cX10_tick 11 = .ok (.ireturn, 1) := by decide +kernel
theorem dX10_tick_12 : decode cX10_tick 12 = .ok (.aload_n 0, 1) := by decide +kernel
theorem dX10_tick_13 : decode cX10_tick 13 = .ok (.getfield 120, 3) := by decide +kernel
theorem dX10_tick_16 : decode cX10_tick 16 = .ok (.istore_n 2, 1) := by decide +kernel
theorem dX10_tick_17 : decode cX10_tick 17 = .ok (.iconst 0, 1) := by decide +kernel
theorem dX10_tick_18 : decode cX10_tick 18 = .ok (.istore_n 3, 1) := by decide +kernel
theorem dX10_tick_19 : decode cX10_tick 19 = .ok (.iload_n 3, 1) := by decide +kernel
theorem dX10_tick_20 : decode cX10_tick 20 = .ok (.iload_n 1, 1) := by decide +kernel
theorem dX10_tick_21 : decode cX10_tick 21 = .ok (.if_icmp .ge 109, 3) := by decide +kernel
theorem dX10_tick_24 : decode cX10_tick 24 = .ok (.aload_n 0, 1) := by decide +kernel
theorem dX10_tick_25 : decode cX10_tick 25 = .ok (.dup, 1) := by decide +kernel
theorem dX10_tick_26 : decode cX10_tick 26 = .ok (.getfield 163, 3) := by decide +kernel
theorem dX10_tick_29 : decode cX10_tick 29 = .ok (.iconst 1, 1) := by decide +kernel
theorem dX10_tick_30 : decode cX10_tick 30 = .ok (.iadd, 1) := by decide +kernel
theorem dX10_tick_31 : decode cX10_tick 31 = .ok (.putfield 163, 3) := by decide +kernel
theorem dX10_tick_34 : decode cX10_tick 34 = .ok (.iconst 0, 1) := by decide +kernel
theorem dX10_tick_35 : decode cX10_tick 35 = .ok (.istore 4, 2) := by decide +kernel
theorem dX10_tick_37 : decode cX10_tick 37 = .ok (.iload 4, 2) := by decide +kernel
theorem dX10_tick_39 : decode cX10_tick 39 = .ok (.iconst 2, 1) := by decide +kernel
theorem dX10_tick_40 : decode cX10_tick 40 = .ok (.if_icmp .ge 44, 3) := by decide +kernel
theorem dX10_tick_43 : decode cX10_tick 43 = .ok (.aload_n 0, 1) := by decide +kernel
theorem dX10_tick_44 : decode cX10_tick 44 = .ok (.getfield 37, 3) := by decide +kernel
theorem dX10_tick_47 : decode cX10_tick 47 = .ok (.iload 4, 2) := by decide +kernel
theorem dX10_tick_49 : decode cX10_tick 49 = .ok (.baload, 1) := by decide +kernel
theorem dX10_tick_50 : decode cX10_tick 50 = .ok (.ifCond .eq 28, 3) := by decide +kernel
theorem dX10_tick_53 : decode cX10_tick 53 = .ok (.aload_n 0, 1) := by decide +kernel
theorem dX10_tick_54 : decode cX10_tick 54 = .ok (.getfield 163, 3) := by decide +kernel
theorem dX10_tick_57 : decode cX10_tick 57 = .ok (.aload_n 0, 1) := by decide +kernel
theorem dX10_tick_58 : decode cX10_tick 58 = .ok (.getfield 53, 3) := by decide +kernel
theorem dX10_tick_61 : decode cX10_tick 61 = .ok (.iload 4, 2) := by decide +kernel
theorem dX10_tick_63 : decode cX10_tick 63 = .ok (.iaload, 1) := by decide +kernel
theorem dX10_tick_64 : decode cX10_tick 64 = .ok (.isub, 1) := by decide +kernel
theorem dX10_tick_65 : decode cX10_tick 65 = .ok (.bipush 15, 2) := by decide +kernel
theorem dX10_tick_67 : decode cX10_tick 67 = .ok (.if_icmp .ne 11, 3) := by decide +kernel
theorem dX10_tick_70 : decode cX10_tick 70 = .ok (.aload_n 0, 1) := by decide +kernel
theorem dX10_tick_71 : decode cX10_tick 71 = .ok (.getfield 37, 3) := by decide +kernel
theorem dX10_tick_74 : decode cX10_tick 74 = .ok (.iload 4, 2) := by decide +kernel
theorem dX10_tick_76 : decode cX10_tick 76 = .ok (.iconst 0, 1) := by decide +kernel
theorem dX10_tick_77 : decode cX10_tick 77 = .ok (.bastore, 1) := by decide +kernel
theorem dX10_tick_78 : decode cX10_tick 78 = .ok (.iinc 4 1, 3) := by decide +kernel
theorem dX10_tick_81 : decode cX10_tick 81 = .ok (.goto (-44), 3) := by decide +kernel
theorem dX10_tick_84 : decode cX10_tick 84 = .ok (.iconst 0, 1) := by decide +kernel
theorem dX10_tick_85 : decode cX10_tick 85 = .ok (.istore 4, 2) := by decide +kernel
theorem dX10_tick_87 : decode cX10_tick 87 = .ok (.iload 4, 2) := by decide +kernel
theorem dX10_tick_89 : decode cX10_tick 89 = .ok (.iconst 3, 1) := by decide +kernel
theorem dX10_tick_90 : decode cX10_tick 90 = .ok (.if_icmp .ge 34, 3) := by decide +kernel
theorem dX10_tick_93 : decode cX10_tick 93 = .ok (.aload_n 0, 1) := by decide +kernel
theorem dX10_tick_94 : decode cX10_tick 94 = .ok (.getfield 71, 3) := by decide +kernel
theorem dX10_tick_97 : decode cX10_tick 97 = .ok (.iload 4, 2) := by decide +kernel
theorem dX10_tick_99 : decode cX10_tick 99 = .ok (.iaload, 1) := by decide +kernel
theorem dX10_tick_100 : decode cX10_tick 100 = .ok (.ifCond .eq 18, 3) := by decide +kernel
theorem dX10_tick_103 : decode cX10_tick 103 = .ok (.aload_n 0, 1) := by decide +kernel
theorem dX10_tick_104 : decode cX10_tick 104 = .ok (.iload 4, 2) := by decide +kernel
theorem dX10_tick_106 : decode cX10_tick 106 = .ok (.invokevirtual 182, 3) := by decide +kernel
theorem dX10_tick_109 : decode cX10_tick 109 = .ok (.ifCond .le 9, 3) := by decide +kernel
theorem dX10_tick_112 : decode cX10_tick 112 = .ok (.aload_n 0, 1) := by decide +kernel
theorem dX10_tick_113 : decode cX10_tick 113 = .ok (.iload 4, 2) := by decide +kernel
theorem dX10_tick_115 : decode cX10_tick 115 = .ok (.invokevirtual 226, 3) := by decide +kernel
theorem dX10_tick_118 : decode cX10_tick 118 = .ok (.iinc 4 1, 3) := by decide +kernel
theorem dX10_tick_121 : decode cX10_tick 121 = .ok (.goto (-34), 3) := by decide +kernel
theorem dX10_tick_124 : decode cX10_tick 124 = .ok (.iinc 3 1, 3) := by decide +kernel
theorem dX10_tick_127 : decode cX10_tick 127 = .ok (.goto (-108), 3) := by decide +kernel
theorem dX10_tick_130 : decode cX10_tick 130 = .ok (.aload_n 0, 1) := by decide +kernel
theorem dX10_tick_131 : decode cX10_tick 131 = .ok (.getfield 120, 3) := by decide +kernel
theorem dX10_tick_134 : decode cX10_tick 134 = .ok (.iload_n 2, 1) := by decide +kernel
theorem dX10_tick_135 : decode cX10_tick 135 = .ok (.isub, 1) := by decide +kernel
theorem dX10_tick_136 : decode cX10_tick 136 = .ok (.ireturn, 1) := by decide +kernel
theorem dX10_beat_0 : decode cX10_beat 0 = .ok (.aload_n 0, 1) := by decide +kernel
theorem dX10_beat_1 : decode cX10_beat 1 = .ok (.getfield 98, 3) := by decide +kernel
theorem dX10_beat_4 : decode cX10_beat 4 = .ok (.iload_n 1, 1) := by decide +kernel
theorem dX10_beat_5 : decode cX10_beat 5 = .ok (.dup2, 1) := by decide +kernel
theorem dX10_beat_6 : decode cX10_beat 6 = .ok (.iaload, 1) := by decide +kernel
theorem dX10_beat_7 : decode cX10_beat 7 = .ok (.iconst 1, 1) := by decide +kernel
theorem dX10_beat_8 : decode cX10_beat 8 = .ok (.iadd, 1) := by decide +kernel
theorem dX10_beat_9 : decode cX10_beat 9 = .ok (.iastore, 1) := by decide +kernel
theorem dX10_beat_10 : decode cX10_beat 10 = .ok (.aload_n 0, 1) := by decide +kernel
theorem dX10_beat_11 : decode cX10_beat 11 = .ok (.getfield 98, 3) := by decide +kernel
theorem dX10_beat_14 : decode cX10_beat 14 = .ok (.iload_n 1, 1) := by decide +kernel
theorem dX10_beat_15 : decode cX10_beat 15 = .ok (.iaload, 1) := by decide +kernel
theorem dX10_beat_16 : decode cX10_beat 16 = .ok (.iconst 4, 1) := by decide +kernel
theorem dX10_beat_17 : decode cX10_beat 17 = .ok (.aload_n 0, 1) := by decide +kernel
theorem dX10_beat_18 : decode cX10_beat 18 = .ok (.getfield 95, 3) := by decide +kernel
theorem dX10_beat_21 : decode cX10_beat 21 = .ok (.iload_n 1, 1) := by decide +kernel
theorem dX10_beat_22 : decode cX10_beat 22 = .ok (.iaload, 1) := by decide +kernel
theorem dX10_beat_23 : decode cX10_beat 23 = .ok (.ishl, 1) := by decide +kernel
theorem dX10_beat_24 : decode cX10_beat 24 = .ok (.if_icmp .ge 4, 3) := by decide +kernel
theorem dX10_beat_27 : decode cX10_beat 27 = .ok (.return_, 1) := by decide +kernel
theorem dX10_beat_28 : decode cX10_beat 28 = .ok (.aload_n 0, 1) := by decide +kernel
theorem dX10_beat_29 : decode cX10_beat 29 = .ok (.getfield 95, 3) := by decide +kernel
theorem dX10_beat_32 : decode cX10_beat 32 = .ok (.iload_n 1, 1) := by decide +kernel
theorem dX10_beat_33 : decode cX10_beat 33 = .ok (.iaload, 1) := by decide +kernel
theorem dX10_beat_34 : decode cX10_beat 34 = .ok (.iconst 3, 1) := by decide +kernel
theorem dX10_beat_35 : decode cX10_beat 35 = .ok (.if_icmp .ne 33, 3) := by decide +kernel
theorem dX10_beat_38 : decode cX10_beat 38 = .ok (.aload_n 0, 1) := by decide +kernel
theorem dX10_beat_39 : decode cX10_beat 39 = .ok (.aload_n 0, 1) := by decide +kernel
theorem dX10_beat_40 : decode cX10_beat 40 = .ok (.getfield 74, 3) := by decide +kernel
theorem dX10_beat_43 : decode cX10_beat 43 = .ok (.iload_n 1, 1) := by decide +kernel
theorem dX10_beat_44 : decode cX10_beat 44 = .ok (.iaload, 1) := by decide +kernel
theorem dX10_beat_45 : decode cX10_beat 45 = .ok (.aload_n 0, 1) := by decide +kernel
theorem dX10_beat_46 : decode cX10_beat 46 = .ok (.getfield 77, 3) := by decide +kernel
theorem dX10_beat_49 : decode cX10_beat 49 = .ok (.iload_n 1, 1) := by decide +kernel
theorem dX10_beat_50 : decode cX10_beat 50 = .ok (.iaload, 1) := by decide +kernel
theorem dX10_beat_51 : decode cX10_beat 51 = .ok (.aload_n 0, 1) := by decide +kernel
theorem dX10_beat_52 : decode cX10_beat 52 = .ok (.getfield 86, 3) := by decide +kernel
theorem dX10_beat_55 : decode cX10_beat 55 = .ok (.iload_n 1, 1) := by decide +kernel
theorem dX10_beat_56 : decode cX10_beat 56 = .ok (.iaload, 1) := by decide +kernel
theorem dX10_beat_57 : decode cX10_beat 57 = .ok (.invokevirtual 189, 3) := by decide +kernel
theorem dX10_beat_60 : decode cX10_beat 60 = .ok (.aload_n 0, 1) := by decide +kernel
theorem dX10_beat_61 : decode cX10_beat 61 = .ok (.getfield 71, 3) := by decide +kernel
theorem dX10_beat_64 : decode cX10_beat 64 = .ok (.iload_n 1, 1) := by decide +kernel
theorem dX10_beat_65 : decode cX10_beat 65 = .ok (.iconst 0, 1) := by decide +kernel
theorem dX10_beat_66 : decode cX10_beat 66 = .ok (.iastore, 1) := by decide +kernel
theorem dX10_beat_67 : decode cX10_beat 67 = .ok (.return_, 1) := by decide +kernel
theorem dX10_beat_68 : decode cX10_beat 68 = .ok (.aload_n 0, 1) := by decide +kernel
theorem dX10_beat_69 : decode cX10_beat 69 = .ok (.getfield 95, 3) := by decide +kernel
theorem dX10_beat_72 : decode cX10_beat 72 = .ok (.iload_n 1, 1) := by decide +kernel
theorem dX10_beat_73 : decode cX10_beat 73 = .ok (.dup2, 1) := by decide +kernel
theorem dX10_beat_74 : decode cX10_beat 74 = .ok (.iaload, 1) := by decide +kernel
theorem dX10_beat_75 : decode cX10_beat 75 = .ok (.iconst 1, 1) := by decide +kernel
theorem dX10_beat_76 : decode cX10_beat 76 = .ok (.iadd, 1) := by decide +kernel
theorem dX10_beat_77 : decode cX10_beat 77 = .ok (.iastore, 1) := by decide +kernel
theorem dX10_beat_78 : decode cX10_beat 78 = .ok (.aload_n 0, 1) := by decide +kernel
theorem dX10_beat_79 : decode cX10_beat 79 = .ok (.getfield 92, 3) := by decide +kernel
theorem dX10_beat_82 : decode cX10_beat 82 = .ok (.iload_n 1, 1) := by decide +kernel
theorem dX10_beat_83 : decode cX10_beat 83 = .ok (.iconst 1, 1) := by decide +kernel
theorem dX10_beat_84 : decode cX10_beat 84 = .ok (.iastore, 1) := by decide +kernel
theorem dX10_beat_85 : decode cX10_beat 85 = .ok (.aload_n 0, 1) := by decide +kernel
theorem dX10_beat_86 : decode cX10_beat 86 = .ok (.getfield 98, 3) := by decide +kernel
theorem dX10_beat_89 : decode cX10_beat 89 = .ok (.iload_n 1, 1) := by decide +kernel
theorem dX10_beat_90 : decode cX10_beat 90 = .ok (.iconst 0, 1) := by decide +kernel
theorem dX10_beat_91 : decode cX10_beat 91 = .ok (.iastore, 1) := by decide +kernel
theorem dX10_beat_92 : decode cX10_beat 92 = .ok (.aload_n 0, 1) := by decide +kernel
theorem dX10_beat_93 : decode cX10_beat 93 = .ok (.getfield 86, 3) := by decide +kernel
theorem dX10_beat_96 : decode cX10_beat 96 = .ok (.iload_n 1, 1) := by decide +kernel
theorem dX10_beat_97 : decode cX10_beat 97 = .ok (.aload_n 0, 1) := by decide +kernel
theorem dX10_beat_98 : decode cX10_beat 98 = .ok (.getfield 83, 3) := by decide +kernel
theorem dX10_beat_101 : decode cX10_beat 101 = .ok (.iload_n 1, 1) := by decide +kernel
theorem dX10_beat_102 : decode cX10_beat 102 = .ok (.iaload, 1) := by decide +kernel
theorem dX10_beat_103 : decode cX10_beat 103 = .ok (.iastore, 1) := by decide +kernel
theorem dX10_beat_104 : decode cX10_beat 104 = .ok (.aload_n 0, 1) := by decide +kernel
theorem dX10_beat_105 : decode cX10_beat 105 = .ok (.dup, 1) := by decide +kernel
theorem dX10_beat_106 : decode cX10_beat 106 = .ok (.getfield 229, 3) := by decide +kernel
theorem dX10_beat_109 : decode cX10_beat 109 = .ok (.iconst 1, 1) := by decide +kernel
theorem dX10_beat_110 : decode cX10_beat 110 = .ok (.iadd, 1) := by decide +kernel
theorem dX10_beat_111 : decode cX10_beat 111 = .ok (.putfield 229, 3) := by decide +kernel
theorem dX10_beat_114 : decode cX10_beat 114 = .ok (.aload_n 0, 1) := by decide +kernel
theorem dX10_beat_115 : decode cX10_beat 115 = .ok (.getfield 71, 3) := by decide +kernel
theorem dX10_beat_118 : decode cX10_beat 118 = .ok (.iload_n 1, 1) := by decide +kernel
theorem dX10_beat_119 : decode cX10_beat 119 = .ok (.iaload, 1) := by decide +kernel
theorem dX10_beat_120 : decode cX10_beat 120 = .ok (.iconst 1, 1) := by decide +kernel
theorem dX10_beat_121 : decode cX10_beat 121 = .ok (.if_icmp .ne 17, 3) := by decide +kernel
theorem dX10_beat_124 : decode cX10_beat 124 = .ok (.aload_n 0, 1) := by decide +kernel
theorem dX10_beat_125 : decode cX10_beat 125 = .ok (.iload_n 1, 1) := by decide +kernel
theorem dX10_beat_126 : decode cX10_beat 126 = .ok (.bipush 18, 2) := by decide +kernel
theorem dX10_beat_128 : decode cX10_beat 128 = .ok (.invokevirtual 192, 3) := by decide +kernel
theorem dX10_beat_131 : decode cX10_beat 131 = .ok (.aload_n 0, 1) := by decide +kernel
theorem dX10_beat_132 : decode cX10_beat 132 = .ok (.iload_n 1, 1) := by decide +kernel
theorem dX10_beat_133 : decode cX10_beat 133 = .ok (.iconst 1, 1) := by decide +kernel
theorem dX10_beat_134 : decode cX10_beat 134 = .ok (.invokevirtual 202, 3) := by decide +kernel
theorem dX10_beat_137 : decode cX10_beat 137 = .ok (.return_, 1) := by decide +kernel
theorem dX10_beat_138 : decode cX10_beat 138 = .ok (.aload_n 0, 1) := by decide +kernel
theorem dX10_beat_139 : decode cX10_beat 139 = .ok (.getfield 71, 3) := by decide +kernel
theorem dX10_beat_142 : decode cX10_beat 142 = .ok (.iload_n 1, 1) := by decide +kernel
theorem dX10_beat_143 : decode cX10_beat 143 = .ok (.iaload, 1) := by decide +kernel
theorem dX10_beat_144 : decode cX10_beat 144 = .ok (.iconst 4, 1) := by decide +kernel
theorem dX10_beat_145 : decode cX10_beat 145 = .ok (.if_icmp .ne 10, 3) := by decide +kernel
theorem dX10_beat_148 : decode cX10_beat 148 = .ok (.aload_n 0, 1) := by decide +kernel
theorem dX10_beat_149 : decode cX10_beat 149 = .ok (.getfield 71, 3) := by decide +kernel
theorem dX10_beat_152 : decode cX10_beat 152 = .ok (.iload_n 1, 1) := by decide +kernel
theorem dX10_beat_153 : decode cX10_beat 153 = .ok (.iconst 3, 1) := by decide +kernel
theorem dX10_beat_154 : decode cX10_beat 154 = .ok (.iastore, 1) := by decide +kernel
theorem dX10_beat_155 : decode cX10_beat 155 = .ok (.aload_n 0, 1) := by decide +kernel
theorem dX10_beat_156 : decode cX10_beat 156 = .ok (.iload_n 1, 1) := by decide +kernel
theorem dX10_beat_157 : decode cX10_beat 157 = .ok (.invokevirtual 208, 3) := by decide +kernel
theorem dX10_beat_160 : decode cX10_beat 160 = .ok (.return_, 1) := by decide +kernel
theorem dX10_name_0 : decode cX10_name 0 = .ok (.iload_n 1, 1) := by decide +kernel
theorem dX10_name_1 : decode cX10_name 1 = .ok (.iconst 0, 1) := by decide +kernel
theorem dX10_name_2 : decode cX10_name 2 = .ok (.iconst 5, 1) := by decide +kernel
theorem dX10_name_3 : decode cX10_name 3 = .ok (.invokestatic 138, 3) := by decide +kernel
theorem dX10_name_6 : decode cX10_name 6 = .ok (.ifCond .eq 14, 3) := by decide +kernel
theorem dX10_name_9 : decode cX10_name 9 = .ok (.iload_n 2, 1) := by decide +kernel
theorem dX10_name_10 : decode cX10_name 10 = .ok (.bipush 97, 2) := by decide +kernel
theorem dX10_name_12 : decode cX10_name 12 = .ok (.bipush 122, 2) := by decide +kernel
theorem dX10_name_14 : decode cX10_name 14 = .ok (.invokestatic 138, 3) := by decide +kernel
theorem dX10_name_17 : decode cX10_name 17 = .ok (.ifCond .ne 5, 3) := by decide +kernel
theorem dX10_name_20 : decode cX10_name 20 = .ok (.iconst (-1), 1) := by decide +kernel
theorem dX10_name_21 : decode cX10_name 21 = .ok (.ireturn, 1) := by decide +kernel
theorem dX10_name_22 : decode cX10_name 22 = .ok (.aload_n 0, 1) := by decide +kernel
theorem dX10_name_23 : decode cX10_name 23 = .ok (.getfield 25, 3) := by decide +kernel
theorem dX10_name_26 : decode cX10_name 26 = .ok (.iload_n 1, 1) := by decide +kernel
theorem dX10_name_27 : decode cX10_name 27 = .ok (.iaload, 1) := by decide +kernel
theorem dX10_name_28 : decode cX10_name 28 = .ok (.iconst 4, 1) := by decide +kernel
theorem dX10_name_29 : decode cX10_name 29 = .ok (.if_icmp .ne 6, 3) := by decide +kernel
theorem dX10_name_32 : decode cX10_name 32 = .ok (.bipush (-2), 2) := by decide +kernel
theorem dX10_name_34 : decode cX10_name 34 = .ok (.ireturn, 1) := by decide +kernel
theorem dX10_name_35 : decode cX10_name 35 = .ok (.aload_n 0, 1) := by decide +kernel
theorem dX10_name_36 : decode cX10_name 36 = .ok (.getfield 22, 3) := by decide +kernel
theorem dX10_name_39 : decode cX10_name 39 = .ok (.iconst 4, 1) := by decide +kernel
theorem dX10_name_40 : decode cX10_name 40 = .ok (.iload_n 1, 1) := by decide +kernel
theorem dX10_name_41 : decode cX10_name 41 = .ok (.imul, 1) := by decide +kernel
theorem dX10_name_42 : decode cX10_name 42 = .ok (.aload_n 0, 1) := by decide +kernel
theorem dX10_name_43 : decode cX10_name 43 = .ok (.getfield 25, 3) := by decide +kernel
theorem dX10_name_46 : decode cX10_name 46 = .ok (.iload_n 1, 1) := by decide +kernel
theorem dX10_name_47 : decode cX10_name 47 = .ok (.iaload, 1) := by decide +kernel
theorem dX10_name_48 : decode cX10_name 48 = .ok (.iadd, 1) := by decide +kernel
theorem dX10_name_49 : decode cX10_name 49 = .ok (.iload_n 2, 1) := by decide +kernel
theorem dX10_name_50 : decode cX10_name 50 = .ok (.iastore, 1) := by decide +kernel
theorem dX10_name_51 : decode cX10_name 51 = .ok (.aload_n 0, 1) := by decide +kernel
theorem dX10_name_52 : decode cX10_name 52 = .ok (.getfield 25, 3) := by decide +kernel
theorem dX10_name_55 : decode cX10_name 55 = .ok (.iload_n 1, 1) := by decide +kernel
theorem dX10_name_56 : decode cX10_name 56 = .ok (.dup2, 1) := by decide +kernel
theorem dX10_name_57 : decode cX10_name 57 = .ok (.iaload, 1) := by decide +kernel
theorem dX10_name_58 : decode cX10_name 58 = .ok (.iconst 1, 1) := by decide +kernel
theorem dX10_name_59 : decode cX10_name 59 = .ok (.iadd, 1) := by decide +kernel
theorem dX10_name_60 : decode cX10_name 60 = .ok (.dup_x2, 1) := by decide +kernel
theorem dX10_name_61 : decode cX10_name 61 = .ok (.iastore, 1) := by decide +kernel
theorem dX10_name_62 : decode cX10_name 62 = .ok (.ireturn, 1) := by decide +kernel
theorem dX10_body_0 : decode cX10_body 0 = .ok (.iload_n 1, 1) := by decide +kernel
theorem dX10_body_1 : decode cX10_body 1 = .ok (.iconst 0, 1) := by decide +kernel
theorem dX10_body_2 : decode cX10_body 2 = .ok (.iconst 5, 1) := by decide +kernel
theorem dX10_body_3 : decode cX10_body 3 = .ok (.invokestatic 138, 3) := by decide +kernel
theorem dX10_body_6 : decode cX10_body 6 = .ok (.ifCond .eq 14, 3) := by decide +kernel
theorem dX10_body_9 : decode cX10_body 9 = .ok (.iload_n 2, 1) := by decide +kernel
theorem dX10_body_10 : decode cX10_body 10 = .ok (.iconst 0, 1) := by decide +kernel
theorem dX10_body_11 : decode cX10_body 11 = .ok (.sipush 255, 3) := by decide +kernel
theorem dX10_body_14 : decode cX10_body 14 = .ok (.invokestatic 138, 3) := by decide +kernel
theorem dX10_body_17 : decode cX10_body 17 = .ok (.ifCond .ne 5, 3) := by decide +kernel
theorem dX10_body_20 : decode cX10_body 20 = .ok (.iconst (-1), 1) := by decide +kernel
theorem dX10_body_21 : decode cX10_body 21 = .ok (.ireturn, 1) := by decide +kernel
theorem dX10_body_22 : decode cX10_body 22 = .ok (.aload_n 0, 1) := by decide +kernel
theorem dX10_body_23 : decode cX10_body 23 = .ok (.getfield 31, 3) := by decide +kernel
theorem dX10_body_26 : decode cX10_body 26 = .ok (.iload_n 1, 1) := by decide +kernel
theorem dX10_body_27 : decode cX10_body 27 = .ok (.iaload, 1) := by decide +kernel
theorem dX10_body_28 : decode cX10_body 28 = .ok (.bipush 16, 2) := by decide +kernel
theorem dX10_body_30 : decode cX10_body 30 = .ok (.if_icmp .ne 6, 3) := by decide +kernel
theorem dX10_body_33 : decode cX10_body 33 = .ok (.bipush (-2), 2) := by decide +kernel
theorem dX10_body_35 : decode cX10_body 35 = .ok (.ireturn, 1) := by decide +kernel
theorem dX10_body_36 : decode cX10_body 36 = .ok (.aload_n 0, 1) := by decide +kernel
theorem dX10_body_37 : decode cX10_body 37 = .ok (.getfield 28, 3) := by decide +kernel
theorem dX10_body_40 : decode cX10_body 40 = .ok (.bipush 16, 2) := by decide +kernel
theorem dX10_body_42 : decode cX10_body 42 = .ok (.iload_n 1, 1) := by decide +kernel
theorem dX10_body_43 : decode cX10_body 43 = .ok (.imul, 1) := by decide +kernel
theorem dX10_body_44 : decode cX10_body 44 = .ok (.aload_n 0, 1) := by decide +kernel
theorem dX10_body_45 : decode cX10_body 45 = .ok (.getfield 31, 3) := by decide +kernel
theorem dX10_body_48 : decode cX10_body 48 = .ok (.iload_n 1, 1) := by decide +kernel
theorem dX10_body_49 : decode cX10_body 49 = .ok (.iaload, 1) := by decide +kernel
theorem dX10_body_50 : decode cX10_body 50 = .ok (.iadd, 1) := by decide +kernel
theorem dX10_body_51 : decode cX10_body 51 = .ok (.iload_n 2, 1) := by decide +kernel
theorem dX10_body_52 : decode cX10_body 52 = .ok (.iastore, 1) := by decide +kernel
theorem dX10_body_53 : decode cX10_body 53 = .ok (.aload_n 0, 1) := by decide +kernel
theorem dX10_body_54 : decode cX10_body 54 = .ok (.getfield 34, 3) := by decide +kernel
theorem dX10_body_57 : decode cX10_body 57 = .ok (.iload_n 1, 1) := by decide +kernel
theorem dX10_body_58 : decode cX10_body 58 = .ok (.aload_n 0, 1) := by decide +kernel
theorem dX10_body_59 : decode cX10_body 59 = .ok (.getfield 34, 3) := by decide +kernel
theorem dX10_body_62 : decode cX10_body 62 = .ok (.iload_n 1, 1) := by decide +kernel
theorem dX10_body_63 : decode cX10_body 63 = .ok (.iaload, 1) := by decide +kernel
theorem dX10_body_64 : decode cX10_body 64 = .ok (.iload_n 2, 1) := by decide +kernel
theorem dX10_body_65 : decode cX10_body 65 = .ok (.iadd, 1) := by decide +kernel
theorem dX10_body_66 : decode cX10_body 66 = .ok (.sipush 255, 3) := by decide +kernel
theorem dX10_body_69 : decode cX10_body 69 = .ok (.iand, 1) := by decide +kernel
theorem dX10_body_70 : decode cX10_body 70 = .ok (.iastore, 1) := by decide +kernel
theorem dX10_body_71 : decode cX10_body 71 = .ok (.aload_n 0, 1) := by decide +kernel
theorem dX10_body_72 : decode cX10_body 72 = .ok (.getfield 31, 3) := by decide +kernel
theorem dX10_body_75 : decode cX10_body 75 = .ok (.iload_n 1, 1) := by decide +kernel
theorem dX10_body_76 : decode cX10_body 76 = .ok (.dup2, 1) := by decide +kernel
theorem dX10_body_77 : decode cX10_body 77 = .ok (.iaload, 1) := by decide +kernel
theorem dX10_body_78 : decode cX10_body 78 = .ok (.iconst 1, 1) := by decide +kernel
theorem dX10_body_79 : decode cX10_body 79 = .ok (.iadd, 1) := by decide +kernel
theorem dX10_body_80 : decode cX10_body 80 = .ok (.dup_x2, 1) := by decide +kernel
theorem dX10_body_81 : decode cX10_body 81 = .ok (.iastore, 1) := by decide +kernel
theorem dX10_body_82 : decode cX10_body 82 = .ok (.ireturn, 1) := by decide +kernel
theorem dX10_spoil_0 : decode cX10_spoil 0 = .ok (.iload_n 1, 1) := by decide +kernel
theorem dX10_spoil_1 : decode cX10_spoil 1 = .ok (.iconst 0, 1) := by decide +kernel
theorem dX10_spoil_2 : decode cX10_spoil 2 = .ok (.iconst 5, 1) := by decide +kernel
theorem dX10_spoil_3 : decode cX10_spoil 3 = .ok (.invokestatic 138, 3) := by decide +kernel
theorem dX10_spoil_6 : decode cX10_spoil 6 = .ok (.ifCond .eq 30, 3) := by decide +kernel
theorem dX10_spoil_9 : decode cX10_spoil 9 = .ok (.iload_n 2, 1) := by decide +kernel
theorem dX10_spoil_10 : decode cX10_spoil 10 = .ok (.iconst 0, 1) := by decide +kernel
theorem dX10_spoil_11 : decode cX10_spoil 11 = .ok (.aload_n 0, 1) := by decide +kernel
theorem dX10_spoil_12 : decode cX10_spoil 12 = .ok (.getfield 31, 3) := by decide +kernel
theorem dX10_spoil_15 : decode cX10_spoil 15 = .ok (.iload_n 1, 1) := by decide +kernel
theorem dX10_spoil_16 : decode cX10_spoil 16 = .ok (.iaload, 1) := by decide +kernel
theorem dX10_spoil_17 : decode cX10_spoil 17 = .ok (.iconst 1, 1) := by decide +kernel
theorem dX10_spoil_18 : decode cX10_spoil 18 = .ok (.isub, 1) := by decide +kernel
theorem dX10_spoil_19 : decode cX10_spoil 19 = .ok (.invokestatic 138, 3) := by decide +kernel
theorem dX10_spoil_22 : decode cX10_spoil 22 = .ok (.ifCond .eq 14, 3) := by decide +kernel
theorem dX10_spoil_25 : decode cX10_spoil 25 = .ok (.iload_n 3, 1) := by decide +kernel
theorem dX10_spoil_26 : decode cX10_spoil 26 = .ok (.iconst 0, 1) := by decide +kernel
theorem dX10_spoil_27 : decode cX10_spoil 27 = .ok (.sipush 255, 3) := by decide +kernel
theorem dX10_spoil_30 : decode cX10_spoil 30 = .ok (.invokestatic 138, 3) := by decide +kernel
theorem dX10_spoil_33 : decode cX10_spoil 33 = .ok (.ifCond .ne 5, 3) := by decide +kernel
theorem dX10_spoil_36 : decode cX10_spoil 36 = .ok (.iconst (-1), 1) := by decide +kernel
theorem dX10_spoil_37 : decode cX10_spoil 37 = .ok (.ireturn, 1) := by decide +kernel
theorem dX10_spoil_38 : decode cX10_spoil 38 = .ok (.aload_n 0, 1) := by decide +kernel
theorem dX10_spoil_39 : decode cX10_spoil 39 = .ok (.getfield 28, 3) := by decide +kernel
theorem dX10_spoil_42 : decode cX10_spoil 42 = .ok (.bipush 16, 2) := by decide +kernel
theorem dX10_spoil_44 : decode cX10_spoil 44 = .ok (.iload_n 1, 1) := by decide +kernel
theorem dX10_spoil_45 : decode cX10_spoil 45 = .ok (.imul, 1) := by decide +kernel
theorem dX10_spoil_46 : decode cX10_spoil 46 = .ok (.iload_n 2, 1) := by decide +kernel
theorem dX10_spoil_47 : decode cX10_spoil 47 = .ok (.iadd, 1) := by decide +kernel
theorem dX10_spoil_48 : decode cX10_spoil 48 = .ok (.iaload, 1) := by decide +kernel
theorem dX10_spoil_49 : decode cX10_spoil 49 = .ok (.istore 4, 2) := by decide +kernel
theorem dX10_spoil_51 : decode cX10_spoil 51 = .ok (.aload_n 0, 1) := by decide +kernel
theorem dX10_spoil_52 : decode cX10_spoil 52 = .ok (.getfield 28, 3) := by decide +kernel
theorem dX10_spoil_55 : decode cX10_spoil 55 = .ok (.bipush 16, 2) := by decide +kernel
theorem dX10_spoil_57 : decode cX10_spoil 57 = .ok (.iload_n 1, 1) := by decide +kernel
theorem dX10_spoil_58 : decode cX10_spoil 58 = .ok (.imul, 1) := by decide +kernel
theorem dX10_spoil_59 : decode cX10_spoil 59 = .ok (.iload_n 2, 1) := by decide +kernel
theorem dX10_spoil_60 : decode cX10_spoil 60 = .ok (.iadd, 1) := by decide +kernel
theorem dX10_spoil_61 : decode cX10_spoil 61 = .ok (.iload_n 3, 1) := by decide +kernel
theorem dX10_spoil_62 : decode cX10_spoil 62 = .ok (.iastore, 1) := by decide +kernel
theorem dX10_spoil_63 : decode cX10_spoil 63 = .ok (.iload 4, 2) := by decide +kernel
theorem dX10_spoil_65 : decode cX10_spoil 65 = .ok (.ireturn, 1) := by decide +kernel
theorem dX10_erase_0 : decode cX10_erase 0 = .ok (.iload_n 1, 1) := by decide +kernel
theorem dX10_erase_1 : decode cX10_erase 1 = .ok (.iconst 0, 1) := by decide +kernel
theorem dX10_erase_2 : decode cX10_erase 2 = .ok (.iconst 5, 1) := by decide +kernel
theorem dX10_erase_3 : decode cX10_erase 3 = .ok (.invokestatic 138, 3) := by decide +kernel
theorem dX10_erase_6 : decode cX10_erase 6 = .ok (.ifCond .ne 5, 3) := by decide +kernel
theorem dX10_erase_9 : decode cX10_erase 9 = .ok (.iconst (-1), 1) := by decide +kernel
theorem dX10_erase_10 : decode cX10_erase 10 = .ok (.ireturn, 1) := by decide +kernel
theorem dX10_erase_11 : decode cX10_erase 11 = .ok (.aload_n 0, 1) := by decide +kernel
theorem dX10_erase_12 : decode cX10_erase 12 = .ok (.getfield 31, 3) := by decide +kernel
theorem dX10_erase_15 : decode cX10_erase 15 = .ok (.iload_n 1, 1) := by decide +kernel
theorem dX10_erase_16 : decode cX10_erase 16 = .ok (.iaload, 1) := by decide +kernel
theorem dX10_erase_17 : decode cX10_erase 17 = .ok (.istore_n 2, 1) := by decide +kernel
theorem dX10_erase_18 : decode cX10_erase 18 = .ok (.aload_n 0, 1) := by decide +kernel
theorem dX10_erase_19 : decode cX10_erase 19 = .ok (.getfield 25, 3) := by decide +kernel
theorem dX10_erase_22 : decode cX10_erase 22 = .ok (.iload_n 1, 1) := by decide +kernel
theorem dX10_erase_23 : decode cX10_erase 23 = .ok (.iconst 0, 1) := by decide +kernel
theorem dX10_erase_24 : decode cX10_erase 24 = .ok (.iastore, 1) := by decide +kernel
theorem dX10_erase_25 : decode cX10_erase 25 = .ok (.aload_n 0, 1) := by decide +kernel
theorem dX10_erase_26 : decode cX10_erase 26 = .ok (.getfield 31, 3) := by decide +kernel
theorem dX10_erase_29 : decode cX10_erase 29 = .ok (.iload_n 1, 1) := by decide +kernel
theorem dX10_erase_30 : decode cX10_erase 30 = .ok (.iconst 0, 1) := by decide +kernel
theorem dX10_erase_31 : decode cX10_erase 31 = .ok (.iastore, 1) := by decide +kernel
theorem dX10_erase_32 : decode cX10_erase 32 = .ok (.aload_n 0, 1) := by decide +kernel
theorem dX10_erase_33 : decode cX10_erase 33 = .ok (.getfield 34, 3) := by decide +kernel
theorem dX10_erase_36 : decode cX10_erase 36 = .ok (.iload_n 1, 1) := by decide +kernel
theorem dX10_erase_37 : decode cX10_erase 37 = .ok (.iconst 0, 1) := by decide +kernel
theorem dX10_erase_38 : decode cX10_erase 38 = .ok (.iastore, 1) := by decide +kernel
theorem dX10_erase_39 : decode cX10_erase 39 = .ok (.iload_n 2, 1) := by decide +kernel
theorem dX10_erase_40 : decode cX10_erase 40 = .ok (.ireturn, 1) := by decide +kernel
theorem dX10_sent_0 : decode cX10_sent 0 = .ok (.iload_n 1, 1) := by decide +kernel
theorem dX10_sent_1 : decode cX10_sent 1 = .ok (.iconst 0, 1) := by decide +kernel
theorem dX10_sent_2 : decode cX10_sent 2 = .ok (.bipush 11, 2) := by decide +kernel
theorem dX10_sent_4 : decode cX10_sent 4 = .ok (.invokestatic 138, 3) := by decide +kernel
theorem dX10_sent_7 : decode cX10_sent 7 = .ok (.ifCond .eq 33, 3) := by decide +kernel
theorem dX10_sent_10 : decode cX10_sent 10 = .ok (.iload_n 2, 1) := by decide +kernel
theorem dX10_sent_11 : decode cX10_sent 11 = .ok (.iconst 0, 1) := by decide +kernel
theorem dX10_sent_12 : decode cX10_sent 12 = .ok (.aload_n 0, 1) := by decide +kernel
theorem dX10_sent_13 : decode cX10_sent 13 = .ok (.getfield 19, 3) := by decide +kernel
theorem dX10_sent_16 : decode cX10_sent 16 = .ok (.iload_n 1, 1) := by decide +kernel
theorem dX10_sent_17 : decode cX10_sent 17 = .ok (.iaload, 1) := by decide +kernel
theorem dX10_sent_18 : decode cX10_sent 18 = .ok (.iconst 1, 1) := by decide +kernel
theorem dX10_sent_19 : decode cX10_sent 19 = .ok (.isub, 1) := by decide +kernel
theorem dX10_sent_20 : decode cX10_sent 20 = .ok (.invokestatic 138, 3) := by decide +kernel
theorem dX10_sent_23 : decode cX10_sent 23 = .ok (.ifCond .eq 17, 3) := by decide +kernel
theorem dX10_sent_26 : decode cX10_sent 26 = .ok (.aload_n 0, 1) := by decide +kernel
theorem dX10_sent_27 : decode cX10_sent 27 = .ok (.getfield 16, 3) := by decide +kernel
theorem dX10_sent_30 : decode cX10_sent 30 = .ok (.bipush 32, 2) := by decide +kernel
theorem dX10_sent_32 : decode cX10_sent 32 = .ok (.iload_n 1, 1) := by decide +kernel
theorem dX10_sent_33 : decode cX10_sent 33 = .ok (.imul, 1) := by decide +kernel
theorem dX10_sent_34 : decode cX10_sent 34 = .ok (.iload_n 2, 1) := by decide +kernel
theorem dX10_sent_35 : decode cX10_sent 35 = .ok (.iadd, 1) := by decide +kernel
theorem dX10_sent_36 : decode cX10_sent 36 = .ok (.iaload, 1) := by decide +kernel
theorem dX10_sent_37 : decode cX10_sent 37 = .ok (.goto 4, 3) := by decide +kernel
theorem dX10_sent_40 : decode cX10_sent 40 = .ok (.iconst (-1), 1) := by decide +kernel
theorem dX10_sent_41 : decode cX10_sent 41 = .ok (.ireturn, 1) := by decide +kernel
theorem dX10_known_0 : decode cX10_known 0 = .ok (.iload_n 1, 1) := by decide +kernel
theorem dX10_known_1 : decode cX10_known 1 = .ok (.iconst 0, 1) := by decide +kernel
theorem dX10_known_2 : decode cX10_known 2 = .ok (.bipush 15, 2) := by decide +kernel
theorem dX10_known_4 : decode cX10_known 4 = .ok (.invokestatic 138, 3) := by decide +kernel
theorem dX10_known_7 : decode cX10_known 7 = .ok (.ifCond .eq 21, 3) := by decide +kernel
theorem dX10_known_10 : decode cX10_known 10 = .ok (.aload_n 0, 1) := by decide +kernel
theorem dX10_known_11 : decode cX10_known 11 = .ok (.getfield 13, 3) := by decide +kernel
theorem dX10_known_14 : decode cX10_known 14 = .ok (.iload_n 1, 1) := by decide +kernel
theorem dX10_known_15 : decode cX10_known 15 = .ok (.iaload, 1) := by decide +kernel
theorem dX10_known_16 : decode cX10_known 16 = .ok (.ifCond .lt 12, 3) := by decide +kernel
theorem dX10_known_19 : decode cX10_known 19 = .ok (.aload_n 0, 1) := by decide +kernel
theorem dX10_known_20 : decode cX10_known 20 = .ok (.getfield 13, 3) := by decide +kernel
theorem dX10_known_23 : decode cX10_known 23 = .ok (.iload_n 1, 1) := by decide +kernel
theorem dX10_known_24 : decode cX10_known 24 = .ok (.iaload, 1) := by decide +kernel
theorem dX10_known_25 : decode cX10_known 25 = .ok (.goto 4, 3) := by decide +kernel
theorem dX10_known_28 : decode cX10_known 28 = .ok (.iconst (-1), 1) := by decide +kernel
theorem dX10_known_29 : decode cX10_known 29 = .ok (.ireturn, 1) := by decide +kernel
theorem dX10_stream_0 : decode cX10_stream 0 = .ok (.iload_n 1, 1) := by decide +kernel
theorem dX10_stream_1 : decode cX10_stream 1 = .ok (.iconst 0, 1) := by decide +kernel
theorem dX10_stream_2 : decode cX10_stream 2 = .ok (.iconst 2, 1) := by decide +kernel
theorem dX10_stream_3 : decode cX10_stream 3 = .ok (.invokestatic 138, 3) := by decide +kernel
theorem dX10_stream_6 : decode cX10_stream 6 = .ok (.ifCond .eq 13, 3) := by decide +kernel
theorem dX10_stream_9 : decode cX10_stream 9 = .ok (.iload_n 2, 1) := by decide +kernel
theorem dX10_stream_10 : decode cX10_stream 10 = .ok (.iconst 0, 1) := by decide +kernel
theorem dX10_stream_11 : decode cX10_stream 11 = .ok (.bipush 11, 2) := by decide +kernel
theorem dX10_stream_13 : decode cX10_stream 13 = .ok (.invokestatic 138, 3) := by decide +kernel
theorem dX10_stream_16 : decode cX10_stream 16 = .ok (.ifCond .ne 5, 3) := by decide +kernel
theorem dX10_stream_19 : decode cX10_stream 19 = .ok (.iconst (-1), 1) := by decide +kernel
theorem dX10_stream_20 : decode cX10_stream 20 = .ok (.ireturn, 1) := by decide +kernel
theorem dX10_stream_21 : decode cX10_stream 21 = .ok (.aload_n 0, 1) := by decide +kernel
theorem dX10_stream_22 : decode cX10_stream 22 = .ok (.getfield 71, 3) := by decide +kernel
theorem dX10_stream_25 : decode cX10_stream 25 = .ok (.iload_n 1, 1) := by decide +kernel
theorem dX10_stream_26 : decode cX10_stream 26 = .ok (.iaload, 1) := by decide +kernel
theorem dX10_stream_27 : decode cX10_stream 27 = .ok (.ifCond .ne 5, 3) := by decide +kernel
theorem dX10_stream_30 : decode cX10_stream 30 = .ok (.iconst 0, 1) := by decide +kernel
theorem dX10_stream_31 : decode cX10_stream 31 = .ok (.ireturn, 1) := by decide +kernel
theorem dX10_stream_32 : decode cX10_stream 32 = .ok (.iload_n 2, 1) := by decide +kernel
theorem dX10_stream_33 : decode cX10_stream 33 = .ok (.tableswitch 136 0 10 #[59, 66, 73, 80, 87, 94, 101, 108, 115, 122, 129], 59) := by decide +kernel
theorem dX10_stream_92 : decode cX10_stream 92 = .ok (.aload_n 0, 1) := by decide +kernel
theorem dX10_stream_93 : decode cX10_stream 93 = .ok (.getfield 71, 3) := by decide +kernel
theorem dX10_stream_96 : decode cX10_stream 96 = .ok (.iload_n 1, 1) := by decide +kernel
theorem dX10_stream_97 : decode cX10_stream 97 = .ok (.iaload, 1) := by decide +kernel
theorem dX10_stream_98 : decode cX10_stream 98 = .ok (.ireturn, 1) := by decide +kernel
theorem dX10_stream_99 : decode cX10_stream 99 = .ok (.aload_n 0, 1) := by decide +kernel
theorem dX10_stream_100 : decode cX10_stream 100 = .ok (.getfield 74, 3) := by decide +kernel
theorem dX10_stream_103 : decode cX10_stream 103 = .ok (.iload_n 1, 1) := by decide +kernel
theorem dX10_stream_104 : decode cX10_stream 104 = .ok (.iaload, 1) := by decide +kernel
theorem dX10_stream_105 : decode cX10_stream 105 = .ok (.ireturn, 1) := by decide +kernel
theorem dX10_stream_106 : decode cX10_stream 106 = .ok (.aload_n 0, 1) := by decide +kernel
theorem dX10_stream_107 : decode cX10_stream 107 = .ok (.getfield 77, 3) := by decide +kernel
theorem dX10_stream_110 : decode cX10_stream 110 = .ok (.iload_n 1, 1) := by decide +kernel
theorem dX10_stream_111 : decode cX10_stream 111 = .ok (.iaload, 1) := by decide +kernel
theorem dX10_stream_112 : decode cX10_stream 112 = .ok (.ireturn, 1) := by decide +kernel
theorem dX10_stream_113 : decode cX10_stream 113 = .ok (.aload_n 0, 1) := by decide +kernel
theorem dX10_stream_114 : decode cX10_stream 114 = .ok (.getfield 80, 3) := by decide +kernel
theorem dX10_stream_117 : decode cX10_stream 117 = .ok (.iload_n 1, 1) := by decide +kernel
theorem dX10_stream_118 : decode cX10_stream 118 = .ok (.iaload, 1) := by decide +kernel
theorem dX10_stream_119 : decode cX10_stream 119 = .ok (.ireturn, 1) := by decide +kernel
theorem dX10_stream_120 : decode cX10_stream 120 = .ok (.aload_n 0, 1) := by decide +kernel
theorem dX10_stream_121 : decode cX10_stream 121 = .ok (.getfield 83, 3) := by decide +kernel
theorem dX10_stream_124 : decode cX10_stream 124 = .ok (.iload_n 1, 1) := by decide +kernel
theorem dX10_stream_125 : decode cX10_stream 125 = .ok (.iaload, 1) := by decide +kernel
theorem dX10_stream_126 : decode cX10_stream 126 = .ok (.ireturn, 1) := by decide +kernel
theorem dX10_stream_127 : decode cX10_stream 127 = .ok (.aload_n 0, 1) := by decide +kernel
theorem dX10_stream_128 : decode cX10_stream 128 = .ok (.getfield 86, 3) := by decide +kernel
theorem dX10_stream_131 : decode cX10_stream 131 = .ok (.iload_n 1, 1) := by decide +kernel
theorem dX10_stream_132 : decode cX10_stream 132 = .ok (.iaload, 1) := by decide +kernel
theorem dX10_stream_133 : decode cX10_stream 133 = .ok (.ireturn, 1) := by decide +kernel
theorem dX10_stream_134 : decode cX10_stream 134 = .ok (.aload_n 0, 1) := by decide +kernel
theorem dX10_stream_135 : decode cX10_stream 135 = .ok (.getfield 104, 3) := by decide +kernel
theorem dX10_stream_138 : decode cX10_stream 138 = .ok (.iload_n 1, 1) := by decide +kernel
theorem dX10_stream_139 : decode cX10_stream 139 = .ok (.iaload, 1) := by decide +kernel
theorem dX10_stream_140 : decode cX10_stream 140 = .ok (.ireturn, 1) := by decide +kernel
theorem dX10_stream_141 : decode cX10_stream 141 = .ok (.aload_n 0, 1) := by decide +kernel
theorem dX10_stream_142 : decode cX10_stream 142 = .ok (.getfield 110, 3) := by decide +kernel
theorem dX10_stream_145 : decode cX10_stream 145 = .ok (.iload_n 1, 1) := by decide +kernel
theorem dX10_stream_146 : decode cX10_stream 146 = .ok (.iaload, 1) := by decide +kernel
theorem dX10_stream_147 : decode cX10_stream 147 = .ok (.ireturn, 1) := by decide +kernel
theorem dX10_stream_148 : decode cX10_stream 148 = .ok (.aload_n 0, 1) := by decide +kernel
theorem dX10_stream_149 : decode cX10_stream 149 = .ok (.getfield 89, 3) := by decide +kernel
theorem dX10_stream_152 : decode cX10_stream 152 = .ok (.iload_n 1, 1) := by decide +kernel
theorem dX10_stream_153 : decode cX10_stream 153 = .ok (.iaload, 1) := by decide +kernel
theorem dX10_stream_154 : decode cX10_stream 154 = .ok (.ireturn, 1) := by decide +kernel
theorem dX10_stream_155 : decode cX10_stream 155 = .ok (.aload_n 0, 1) := by decide +kernel
theorem dX10_stream_156 : decode cX10_stream 156 = .ok (.getfield 92, 3) := by decide +kernel
theorem dX10_stream_159 : decode cX10_stream 159 = .ok (.iload_n 1, 1) := by decide +kernel
theorem dX10_stream_160 : decode cX10_stream 160 = .ok (.iaload, 1) := by decide +kernel
theorem dX10_stream_161 : decode cX10_stream 161 = .ok (.ireturn, 1) := by decide +kernel
theorem dX10_stream_162 : decode cX10_stream 162 = .ok (.aload_n 0, 1) := by decide +kernel
theorem dX10_stream_163 : decode cX10_stream 163 = .ok (.getfield 95, 3) := by decide +kernel
theorem dX10_stream_166 : decode cX10_stream 166 = .ok (.iload_n 1, 1) := by decide +kernel
theorem dX10_stream_167 : decode cX10_stream 167 = .ok (.iaload, 1) := by decide +kernel
theorem dX10_stream_168 : decode cX10_stream 168 = .ok (.ireturn, 1) := by decide +kernel
theorem dX10_stream_169 : decode cX10_stream 169 = .ok (.aload_n 0, 1) := by decide +kernel
theorem dX10_stream_170 : decode cX10_stream 170 = .ok (.iload_n 1, 1) := by decide +kernel
theorem dX10_stream_171 : decode cX10_stream 171 = .ok (.invokevirtual 182, 3) := by decide +kernel
theorem dX10_stream_174 : decode cX10_stream 174 = .ok (.ifCond .ne 7, 3) := by decide +kernel
theorem dX10_stream_177 : decode cX10_stream 177 = .ok (.iconst 0, 1) := by decide +kernel
theorem dX10_stream_178 : decode cX10_stream 178 = .ok (.goto 9, 3) := by decide +kernel
theorem dX10_stream_181 : decode cX10_stream 181 = .ok (.aload_n 0, 1) := by decide +kernel
theorem dX10_stream_182 : decode cX10_stream 182 = .ok (.getfield 98, 3) := by decide +kernel
theorem dX10_stream_185 : decode cX10_stream 185 = .ok (.iload_n 1, 1) := by decide +kernel
theorem dX10_stream_186 : decode cX10_stream 186 = .ok (.iaload, 1) := by decide +kernel
theorem dX10_stream_187 : decode cX10_stream 187 = .ok (.ireturn, 1) := by decide +kernel
theorem dX10_assembly_0 : decode cX10_assembly 0 = .ok (.iload_n 1, 1) := by decide +kernel
theorem dX10_assembly_1 : decode cX10_assembly 1 = .ok (.iconst 0, 1) := by decide +kernel
theorem dX10_assembly_2 : decode cX10_assembly 2 = .ok (.iconst 1, 1) := by decide +kernel
theorem dX10_assembly_3 : decode cX10_assembly 3 = .ok (.invokestatic 138, 3) := by decide +kernel
theorem dX10_assembly_6 : decode cX10_assembly 6 = .ok (.ifCond .eq 12, 3) := by decide +kernel
theorem dX10_assembly_9 : decode cX10_assembly 9 = .ok (.iload_n 2, 1) := by decide +kernel
theorem dX10_assembly_10 : decode cX10_assembly 10 = .ok (.iconst 0, 1) := by decide +kernel
theorem dX10_assembly_11 : decode cX10_assembly 11 = .ok (.iconst 5, 1) := by decide +kernel
theorem dX10_assembly_12 : decode cX10_assembly 12 = .ok (.invokestatic 138, 3) := by decide +kernel
theorem dX10_assembly_15 : decode cX10_assembly 15 = .ok (.ifCond .ne 5, 3) := by decide +kernel
theorem dX10_assembly_18 : decode cX10_assembly 18 = .ok (.iconst (-1), 1) := by decide +kernel
theorem dX10_assembly_19 : decode cX10_assembly 19 = .ok (.ireturn, 1) := by decide +kernel
theorem dX10_assembly_20 : decode cX10_assembly 20 = .ok (.aload_n 0, 1) := by decide +kernel
theorem dX10_assembly_21 : decode cX10_assembly 21 = .ok (.getfield 37, 3) := by decide +kernel
theorem dX10_assembly_24 : decode cX10_assembly 24 = .ok (.iload_n 1, 1) := by decide +kernel
theorem dX10_assembly_25 : decode cX10_assembly 25 = .ok (.baload, 1) := by decide +kernel
theorem dX10_assembly_26 : decode cX10_assembly 26 = .ok (.ifCond .ne 5, 3) := by decide +kernel
theorem dX10_assembly_29 : decode cX10_assembly 29 = .ok (.iconst 0, 1) := by decide +kernel
theorem dX10_assembly_30 : decode cX10_assembly 30 = .ok (.ireturn, 1) := by decide +kernel
theorem dX10_assembly_31 : decode cX10_assembly 31 = .ok (.iload_n 2, 1) := by decide +kernel
theorem dX10_assembly_32 : decode cX10_assembly 32 = .ok (.tableswitch 66 0 4 #[36, 38, 45, 52, 59], 36) := by decide +kernel
theorem dX10_assembly_68 : decode cX10_assembly 68 = .ok (.iconst 1, 1) := by decide +kernel
theorem dX10_assembly_69 : decode cX10_assembly 69 = .ok (.ireturn, 1) := by decide +kernel
theorem dX10_assembly_70 : decode cX10_assembly 70 = .ok (.aload_n 0, 1) := by decide +kernel
theorem dX10_assembly_71 : decode cX10_assembly 71 = .ok (.getfield 41, 3) := by decide +kernel
theorem dX10_assembly_74 : decode cX10_assembly 74 = .ok (.iload_n 1, 1) := by decide +kernel
theorem dX10_assembly_75 : decode cX10_assembly 75 = .ok (.iaload, 1) := by decide +kernel
theorem dX10_assembly_76 : decode cX10_assembly 76 = .ok (.ireturn, 1) := by decide +kernel
theorem dX10_assembly_77 : decode cX10_assembly 77 = .ok (.aload_n 0, 1) := by decide +kernel
theorem dX10_assembly_78 : decode cX10_assembly 78 = .ok (.getfield 44, 3) := by decide +kernel
theorem dX10_assembly_81 : decode cX10_assembly 81 = .ok (.iload_n 1, 1) := by decide +kernel
theorem dX10_assembly_82 : decode cX10_assembly 82 = .ok (.iaload, 1) := by decide +kernel
theorem dX10_assembly_83 : decode cX10_assembly 83 = .ok (.ireturn, 1) := by decide +kernel
theorem dX10_assembly_84 : decode cX10_assembly 84 = .ok (.aload_n 0, 1) := by decide +kernel
theorem dX10_assembly_85 : decode cX10_assembly 85 = .ok (.getfield 47, 3) := by decide +kernel
theorem dX10_assembly_88 : decode cX10_assembly 88 = .ok (.iload_n 1, 1) := by decide +kernel
theorem dX10_assembly_89 : decode cX10_assembly 89 = .ok (.iaload, 1) := by decide +kernel
theorem dX10_assembly_90 : decode cX10_assembly 90 = .ok (.ireturn, 1) := by decide +kernel
theorem dX10_assembly_91 : decode cX10_assembly 91 = .ok (.aload_n 0, 1) := by decide +kernel
theorem dX10_assembly_92 : decode cX10_assembly 92 = .ok (.getfield 50, 3) := by decide +kernel
theorem dX10_assembly_95 : decode cX10_assembly 95 = .ok (.iload_n 1, 1) := by decide +kernel
theorem dX10_assembly_96 : decode cX10_assembly 96 = .ok (.iaload, 1) := by decide +kernel
theorem dX10_assembly_97 : decode cX10_assembly 97 = .ok (.ireturn, 1) := by decide +kernel
theorem dX10_assembly_98 : decode cX10_assembly 98 = .ok (.aload_n 0, 1) := by decide +kernel
theorem dX10_assembly_99 : decode cX10_assembly 99 = .ok (.getfield 163, 3) := by decide +kernel
theorem dX10_assembly_102 : decode cX10_assembly 102 = .ok (.aload_n 0, 1) := by decide +kernel
theorem dX10_assembly_103 : decode cX10_assembly 103 = .ok (.getfield 53, 3) := by decide +kernel
theorem dX10_assembly_106 : decode cX10_assembly 106 = .ok (.iload_n 1, 1) := by decide +kernel
theorem dX10_assembly_107 : decode cX10_assembly 107 = .ok (.iaload, 1) := by decide +kernel
theorem dX10_assembly_108 : decode cX10_assembly 108 = .ok (.isub, 1) := by decide +kernel
theorem dX10_assembly_109 : decode cX10_assembly 109 = .ok (.ireturn, 1) := by decide +kernel
theorem dX10_count_0 : decode cX10_count 0 = .ok (.iload_n 1, 1) := by decide +kernel
theorem dX10_count_1 : decode cX10_count 1 = .ok (.tableswitch 96 0 8 #[51, 56, 61, 66, 71, 76, 81, 86, 91], 51) := by decide +kernel
theorem dX10_count_52 : decode cX10_count 52 = .ok (.aload_n 0, 1) := by decide +kernel
theorem dX10_count_53 : decode cX10_count 53 = .ok (.getfield 163, 3) := by decide +kernel
theorem dX10_count_56 : decode cX10_count 56 = .ok (.ireturn, 1) := by decide +kernel
theorem dX10_count_57 : decode cX10_count 57 = .ok (.aload_n 0, 1) := by decide +kernel
theorem dX10_count_58 : decode cX10_count 58 = .ok (.getfield 145, 3) := by decide +kernel
theorem dX10_count_61 : decode cX10_count 61 = .ok (.ireturn, 1) := by decide +kernel
theorem dX10_count_62 : decode cX10_count 62 = .ok (.aload_n 0, 1) := by decide +kernel
theorem dX10_count_63 : decode cX10_count 63 = .ok (.getfield 152, 3) := by decide +kernel
theorem dX10_count_66 : decode cX10_count 66 = .ok (.ireturn, 1) := by decide +kernel
theorem dX10_count_67 : decode cX10_count 67 = .ok (.aload_n 0, 1) := by decide +kernel
theorem dX10_count_68 : decode cX10_count 68 = .ok (.getfield 120, 3) := by decide +kernel
theorem dX10_count_71 : decode cX10_count 71 = .ok (.ireturn, 1) := by decide +kernel
theorem dX10_count_72 : decode cX10_count 72 = .ok (.aload_n 0, 1) := by decide +kernel
theorem dX10_count_73 : decode cX10_count 73 = .ok (.getfield 128, 3) := by decide +kernel
theorem dX10_count_76 : decode cX10_count 76 = .ok (.ireturn, 1) := by decide +kernel
theorem dX10_count_77 : decode cX10_count 77 = .ok (.aload_n 0, 1) := by decide +kernel
theorem dX10_count_78 : decode cX10_count 78 = .ok (.getfield 199, 3) := by decide +kernel
theorem dX10_count_81 : decode cX10_count 81 = .ok (.ireturn, 1) := by decide +kernel
theorem dX10_count_82 : decode cX10_count 82 = .ok (.aload_n 0, 1) := by decide +kernel
theorem dX10_count_83 : decode cX10_count 83 = .ok (.getfield 220, 3) := by decide +kernel
theorem dX10_count_86 : decode cX10_count 86 = .ok (.ireturn, 1) := by decide +kernel
theorem dX10_count_87 : decode cX10_count 87 = .ok (.aload_n 0, 1) := by decide +kernel
theorem dX10_count_88 : decode cX10_count 88 = .ok (.getfield 142, 3) := by decide +kernel
theorem dX10_count_91 : decode cX10_count 91 = .ok (.ireturn, 1) := by decide +kernel
theorem dX10_count_92 : decode cX10_count 92 = .ok (.aload_n 0, 1) := by decide +kernel
theorem dX10_count_93 : decode cX10_count 93 = .ok (.getfield 229, 3) := by decide +kernel
theorem dX10_count_96 : decode cX10_count 96 = .ok (.ireturn, 1) := by decide +kernel
theorem dX10_count_97 : decode cX10_count 97 = .ok (.iconst (-1), 1) := by decide +kernel
theorem dX10_count_98 : decode cX10_count 98 = .ok (.ireturn, 1) := by decide +kernel
