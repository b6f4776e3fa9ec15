theorem dX12_init_0 : decode cX12_init 0 = .ok (.aload_n 0, 1) := by decide +kernel
theorem dX12_init_1 : decode cX12_init 1 = .ok (.invokespecial 1, 3) := by decide +kernel
theorem dX12_init_4 : decode cX12_init 4 = .ok (.aload_n 0, 1) := by decide +kernel
theorem dX12_init_5 : decode cX12_init 5 = .ok (.bipush 6, 2) := by decide +kernel
theorem dX12_init_7 : decode cX12_init 7 = .ok (.newarray .boolean, 2) := by decide +kernel
theorem dX12_init_9 : decode cX12_init 9 = .ok (.putfield 9, 3) := by decide +kernel
theorem dX12_init_12 : decode cX12_init 12 = .ok (.aload_n 0, 1) := by decide +kernel
theorem dX12_init_13 : decode cX12_init 13 = .ok (.bipush 12, 2) := by decide +kernel
theorem dX12_init_15 : decode cX12_init 15 = .ok (.newarray .int, 2) := by decide +kernel
theorem dX12_init_17 : decode cX12_init 17 = .ok (.putfield 13, 3) := by decide +kernel
theorem dX12_init_20 : decode cX12_init 20 = .ok (.aload_n 0, 1) := by decide +kernel
theorem dX12_init_21 : decode cX12_init 21 = .ok (.sipush 288, 3) := by decide +kernel
theorem dX12_init_24 : decode cX12_init 24 = .ok (.newarray .int, 2) := by decide +kernel
theorem dX12_init_26 : decode cX12_init 26 = .ok (.putfield 17, 3) := by decide +kernel
theorem dX12_init_29 : decode cX12_init 29 = .ok (.aload_n 0, 1) := by decide +kernel
theorem dX12_init_30 : decode cX12_init 30 = .ok (.iconst 2, 1) := by decide +kernel
theorem dX12_init_31 : decode cX12_init 31 = .ok (.newarray .int, 2) := by decide +kernel
theorem dX12_init_33 : decode cX12_init 33 = .ok (.putfield 20, 3) := by decide +kernel
theorem dX12_init_36 : decode cX12_init 36 = .ok (.aload_n 0, 1) := by decide +kernel
theorem dX12_init_37 : decode cX12_init 37 = .ok (.bipush 48, 2) := by decide +kernel
theorem dX12_init_39 : decode cX12_init 39 = .ok (.newarray .int, 2) := by decide +kernel
theorem dX12_init_41 : decode cX12_init 41 = .ok (.putfield 23, 3) := by decide +kernel
theorem dX12_init_44 : decode cX12_init 44 = .ok (.aload_n 0, 1) := by decide +kernel
theorem dX12_init_45 : decode cX12_init 45 = .ok (.sipush 1728, 3) := by decide +kernel
theorem dX12_init_48 : decode cX12_init 48 = .ok (.newarray .int, 2) := by decide +kernel
theorem dX12_init_50 : decode cX12_init 50 = .ok (.putfield 26, 3) := by decide +kernel
theorem dX12_init_53 : decode cX12_init 53 = .ok (.aload_n 0, 1) := by decide +kernel
theorem dX12_init_54 : decode cX12_init 54 = .ok (.bipush 9, 2) := by decide +kernel
theorem dX12_init_56 : decode cX12_init 56 = .ok (.newarray .int, 2) := by decide +kernel
theorem dX12_init_58 : decode cX12_init 58 = .ok (.putfield 29, 3) := by decide +kernel
theorem dX12_init_61 : decode cX12_init 61 = .ok (.aload_n 0, 1) := by decide +kernel
theorem dX12_init_62 : decode cX12_init 62 = .ok (.sipush 520, 3) := by decide +kernel
theorem dX12_init_65 : decode cX12_init 65 = .ok (.newarray .int, 2) := by decide +kernel
theorem dX12_init_67 : decode cX12_init 67 = .ok (.putfield 32, 3) := by decide +kernel
theorem dX12_init_70 : decode cX12_init 70 = .ok (.aload_n 0, 1) := by decide +kernel
theorem dX12_init_71 : decode cX12_init 71 = .ok (.sipush 6240, 3) := by decide +kernel
theorem dX12_init_74 : decode cX12_init 74 = .ok (.newarray .boolean, 2) := by decide +kernel
theorem dX12_init_76 : decode cX12_init 76 = .ok (.putfield 35, 3) := by decide +kernel
theorem dX12_init_79 : decode cX12_init 79 = .ok (.aload_n 0, 1) := by decide +kernel
theorem dX12_init_80 : decode cX12_init 80 = .ok (.sipush 24960, 3) := by decide +kernel
theorem dX12_init_83 : decode cX12_init 83 = .ok (.newarray .boolean, 2) := by decide +kernel
theorem dX12_init_85 : decode cX12_init 85 = .ok (.putfield 38, 3) := by decide +kernel
theorem dX12_init_88 : decode cX12_init 88 = .ok (.aload_n 0, 1) := by decide +kernel
theorem dX12_init_89 : decode cX12_init 89 = .ok (.sipush 13000, 3) := by decide +kernel
theorem dX12_init_92 : decode cX12_init 92 = .ok (.newarray .boolean, 2) := by decide +kernel
theorem dX12_init_94 : decode cX12_init 94 = .ok (.putfield 41, 3) := by decide +kernel
theorem dX12_init_97 : decode cX12_init 97 = .ok (.aload_n 0, 1) := by decide +kernel
theorem dX12_init_98 : decode cX12_init 98 = .ok (.sipush 520, 3) := by decide +kernel
theorem dX12_init_101 : decode cX12_init 101 = .ok (.newarray .int, 2) := by decide +kernel
theorem dX12_init_103 : decode cX12_init 103 = .ok (.putfield 44, 3) := by decide +kernel
theorem dX12_init_106 : decode cX12_init 106 = .ok (.aload_n 0, 1) := by decide +kernel
theorem dX12_init_107 : decode cX12_init 107 = .ok (.sipush 520, 3) := by decide +kernel
theorem dX12_init_110 : decode cX12_init 110 = .ok (.newarray .int, 2) := by decide +kernel
theorem dX12_init_112 : decode cX12_init 112 = .ok (.putfield 47, 3) := by decide +kernel
theorem dX12_init_115 : decode cX12_init 115 = .ok (.aload_n 0, 1) := by decide +kernel
theorem dX12_init_116 : decode cX12_init 116 = .ok (.sipush 4160, 3) := by decide +kernel
theorem dX12_init_119 : decode cX12_init 119 = .ok (.newarray .int, 2) := by decide +kernel
theorem dX12_init_121 : decode cX12_init 121 = .ok (.putfield 50, 3) := by decide +kernel
theorem dX12_init_124 : decode cX12_init 124 = .ok (.aload_n 0, 1) := by decide +kernel
theorem dX12_init_125 : decode cX12_init 125 = .ok (.bipush 16, 2) := by decide +kernel
theorem dX12_init_127 : decode cX12_init 127 = .ok (.newarray .int, 2) := by decide +kernel
theorem dX12_init_129 : decode cX12_init 129 = .ok (.putfield 53, 3) := by decide +kernel
theorem dX12_init_132 : decode cX12_init 132 = .ok (.aload_n 0, 1) := by decide +kernel
theorem dX12_init_133 : decode cX12_init 133 = .ok (.bipush 16, 2) := by decide +kernel
theorem dX12_init_135 : decode cX12_init 135 = .ok (.newarray .int, 2) := by decide +kernel
theorem dX12_init_137 : decode cX12_init 137 = .ok (.putfield 56, 3) := by decide +kernel
theorem dX12_init_140 : decode cX12_init 140 = .ok (.aload_n 0, 1) := by decide +kernel
theorem dX12_init_141 : decode cX12_init 141 = .ok (.iconst 4, 1) := by decide +kernel
theorem dX12_init_142 : decode cX12_init 142 = .ok (.putfield 59, 3) := by decide +kernel
theorem dX12_init_145 : decode cX12_init 145 = .ok (.aload_n 0, 1) := by decide +kernel
theorem dX12_init_146 : decode cX12_init 146 = .ok (.sipush 4095, 3) := by decide +kernel
theorem dX12_init_149 : decode cX12_init 149 = .ok (.putfield 63, 3) := by decide +kernel
theorem dX12_init_152 : decode cX12_init 152 = .ok (.aload_n 0, 1) := by decide +kernel
theorem dX12_init_153 : decode cX12_init 153 = .ok (.iconst 3, 1) := by decide +kernel
theorem dX12_init_154 : decode cX12_init 154 = .ok (.newarray .int, 2) := by decide +kernel
theorem dX12_init_156 : decode cX12_init 156 = .ok (.dup, 1) := by decide +kernel
theorem dX12_init_157 : decode cX12_init 157 = .ok (.iconst 0, 1) := by decide +kernel
theorem dX12_init_158 : decode cX12_init 158 = .ok (.iconst 1, 1) := by decide +kernel
theorem dX12_init_159 : decode cX12_init 159 = .ok (.iastore, 1) := by decide +kernel
theorem dX12_init_160 : decode cX12_init 160 = .ok (.dup, 1) := by decide +kernel
theorem dX12_init_161 : decode cX12_init 161 = .ok (.iconst 1, 1) := by decide +kernel
theorem dX12_init_162 : decode cX12_init 162 = .ok (.iconst 1, 1) := by decide +kernel
theorem dX12_init_163 : decode cX12_init 163 = .ok (.iastore, 1) := by decide +kernel
theorem dX12_init_164 : decode cX12_init 164 = .ok (.dup, 1) := by decide +kernel
theorem dX12_init_165 : decode cX12_init 165 = .ok (.iconst 2, 1) := by decide +kernel
theorem dX12_init_166 : decode cX12_init 166 = .ok (.iconst 1, 1) := by decide +kernel
theorem dX12_init_167 : decode cX12_init 167 = .ok (.iastore, 1) := by decide +kernel
theorem dX12_init_168 : decode cX12_init 168 = .ok (.putfield 66, 3) := by decide +kernel
theorem dX12_init_171 : decode cX12_init 171 = .ok (.aload_n 0, 1) := by decide +kernel
theorem dX12_init_172 : decode cX12_init 172 = .ok (.bipush 60, 2) := by decide +kernel
theorem dX12_init_174 : decode cX12_init 174 = .ok (.newarray .int, 2) := by decide +kernel
theorem dX12_init_176 : decode cX12_init 176 = .ok (.putfield 69, 3) := by decide +kernel
theorem dX12_init_179 : decode cX12_init 179 = .ok (.aload_n 0, 1) := by decide +kernel
theorem dX12_init_180 : decode cX12_init 180 = .ok (.sipush 200, 3) := by decide +kernel
theorem dX12_init_183 : decode cX12_init 183 = .ok (.newarray .int, 2) := by decide +kernel
theorem dX12_init_185 : decode cX12_init 185 = .ok (.putfield 72, 3) := by decide +kernel
theorem dX12_init_188 : decode cX12_init 188 = .ok (.aload_n 0, 1) := by decide +kernel
theorem dX12_init_189 : decode cX12_init 189 = .ok (.sipush 200, 3) := by decide +kernel
theorem dX12_init_192 : decode cX12_init 192 = .ok (.newarray .int, 2) := by decide +kernel
theorem dX12_init_194 : decode cX12_init 194 = .ok (.putfield 75, 3) := by decide +kernel
theorem dX12_init_197 : decode cX12_init 197 = .ok (.aload_n 0, 1) := by decide +kernel
theorem dX12_init_198 : decode cX12_init 198 = .ok (.sipush 200, 3) := by decide +kernel
theorem dX12_init_201 : decode cX12_init 201 = .ok (.newarray .int, 2) := by decide +kernel
theorem dX12_init_203 : decode cX12_init 203 = .ok (.putfield 78, 3) := by decide +kernel
theorem dX12_init_206 : decode cX12_init 206 = .ok (.aload_n 0, 1) := by decide +kernel
theorem dX12_init_207 : decode cX12_init 207 = .ok (.sipush 200, 3) := by decide +kernel
theorem dX12_init_210 : decode cX12_init 210 = .ok (.newarray .int, 2) := by decide +kernel
theorem dX12_init_212 : decode cX12_init 212 = .ok (.putfield 81, 3) := by decide +kernel
theorem dX12_init_215 : decode cX12_init 215 = .ok (.aload_n 0, 1) := by decide +kernel
theorem dX12_init_216 : decode cX12_init 216 = .ok (.sipush 200, 3) := by decide +kernel
theorem dX12_init_219 : decode cX12_init 219 = .ok (.newarray .int, 2) := by decide +kernel
theorem dX12_init_221 : decode cX12_init 221 = .ok (.putfield 84, 3) := by decide +kernel
theorem dX12_init_224 : decode cX12_init 224 = .ok (.aload_n 0, 1) := by decide +kernel
theorem dX12_init_225 : decode cX12_init 225 = .ok (.sipush 160, 3) := by decide +kernel
theorem dX12_init_228 : decode cX12_init 228 = .ok (.newarray .int, 2) := by decide +kernel
theorem dX12_init_230 : decode cX12_init 230 = .ok (.putfield 87, 3) := by decide +kernel
theorem dX12_init_233 : decode cX12_init 233 = .ok (.aload_n 0, 1) := by decide +kernel
theorem dX12_init_234 : decode cX12_init 234 = .ok (.bipush 24, 2) := by decide +kernel
theorem dX12_init_236 : decode cX12_init 236 = .ok (.newarray .int, 2) := by decide +kernel
theorem dX12_init_238 : decode cX12_init 238 = .ok (.putfield 90, 3) := by decide +kernel
theorem dX12_init_241 : decode cX12_init 241 = .ok (.aload_n 0, 1) := by decide +kernel
theorem dX12_init_242 : decode cX12_init 242 = .ok (.bipush 36, 2) := by decide +kernel
theorem dX12_init_244 : decode cX12_init 244 = .ok (.newarray .int, 2) := by decide +kernel
theorem dX12_init_246 : decode cX12_init 246 = .ok (.putfield 93, 3) := by decide +kernel
theorem dX12_init_249 : decode cX12_init 249 = .ok (.aload_n 0, 1) := by decide +kernel
theorem dX12_init_250 : decode cX12_init 250 = .ok (.bipush 24, 2) := by decide +kernel
theorem dX12_init_252 : decode cX12_init 252 = .ok (.newarray .int, 2) := by decide +kernel
theorem dX12_init_254 : decode cX12_init 254 = .ok (.putfield 96, 3) := by decide +kernel
theorem dX12_init_257 : decode cX12_init 257 = .ok (.aload_n 0, 1) := by decide +kernel
theorem dX12_init_258 : decode cX12_init 258 = .ok (.bipush 24, 2) := by decide +kernel
theorem dX12_init_260 : decode cX12_init 260 = .ok (.newarray .int, 2) := by decide +kernel
theorem dX12_init_262 : decode cX12_init 262 = .ok (.putfield 99, 3) := by decide +kernel
theorem dX12_init_265 : decode cX12_init 265 = .ok (.aload_n 0, 1) := by decide +kernel
theorem dX12_init_266 : decode cX12_init 266 = .ok (.bipush 24, 2) := by decide +kernel
theorem dX12_init_268 : decode cX12_init 268 = .ok (.newarray .int, 2) := by decide +kernel
theorem dX12_init_270 : decode cX12_init 270 = .ok (.putfield 102, 3) := by decide +kernel
theorem dX12_init_273 : decode cX12_init 273 = .ok (.aload_n 0, 1) := by decide +kernel
theorem dX12_init_274 : decode cX12_init 274 = .ok (.sipush 1152, 3) := by decide +kernel
theorem dX12_init_277 : decode cX12_init 277 = .ok (.newarray .int, 2) := by decide +kernel
theorem dX12_init_279 : decode cX12_init 279 = .ok (.putfield 105, 3) := by decide +kernel
theorem dX12_init_282 : decode cX12_init 282 = .ok (.aload_n 0, 1) := by decide +kernel
theorem dX12_init_283 : decode cX12_init 283 = .ok (.sipush 1152, 3) := by decide +kernel
theorem dX12_init_286 : decode cX12_init 286 = .ok (.newarray .int, 2) := by decide +kernel
theorem dX12_init_288 : decode cX12_init 288 = .ok (.putfield 108, 3) := by decide +kernel
theorem dX12_init_291 : decode cX12_init 291 = .ok (.aload_n 0, 1) := by decide +kernel
theorem dX12_init_292 : decode cX12_init 292 = .ok (.sipush 1152, 3) := by decide +kernel
theorem dX12_init_295 : decode cX12_init 295 = .ok (.newarray .int, 2) := by decide +kernel
theorem dX12_init_297 : decode cX12_init 297 = .ok (.putfield 111, 3) := by decide +kernel
theorem dX12_init_300 : decode cX12_init 300 = .ok (.aload_n 0, 1) := by decide +kernel
theorem dX12_init_301 : decode cX12_init 301 = .ok (.sipush 256, 3) := by decide +kernel
theorem dX12_init_304 : decode cX12_init 304 = .ok (.newarray .boolean, 2) := by decide +kernel
theorem dX12_init_306 : decode cX12_init 306 = .ok (.putfield 114, 3) := by decide +kernel
theorem dX12_init_309 : decode cX12_init 309 = .ok (.aload_n 0, 1) := by decide +kernel
theorem dX12_init_310 : decode cX12_init 310 = .ok (.bipush 24, 2) := by decide +kernel
theorem dX12_init_312 : decode cX12_init 312 = .ok (.newarray .int, 2) := by decide +kernel
theorem dX12_init_314 : decode cX12_init 314 = .ok (.putfield 117, 3) := by decide +kernel
theorem dX12_init_317 : decode cX12_init 317 = .ok (.aload_n 0, 1) := by decide +kernel
theorem dX12_init_318 : decode cX12_init 318 = .ok (.bipush 24, 2) := by decide +kernel
theorem dX12_init_320 : decode cX12_init 320 = .ok (.newarray .int, 2) := by decide +kernel
theorem dX12_init_322 : decode cX12_init 322 = .ok (.putfield 120, 3) := by decide +kernel
theorem dX12_init_325 : decode cX12_init 325 = .ok (.aload_n 0, 1) := by decide +kernel
theorem dX12_init_326 : decode cX12_init 326 = .ok (.bipush 24, 2) := by decide +kernel
theorem dX12_init_328 : decode cX12_init 328 = .ok (.newarray .int, 2) := by decide +kernel
theorem dX12_init_330 : decode cX12_init 330 = .ok (.putfield 123, 3) := by decide +kernel
theorem dX12_init_333 : decode cX12_init 333 = .ok (.aload_n 0, 1) := by decide +kernel
theorem dX12_init_334 : decode cX12_init 334 = .ok (.iconst 0, 1) := by decide +kernel
theorem dX12_init_335 : decode cX12_init 335 = .ok (.putfield 126, 3) := by decide +kernel
theorem dX12_init_338 : decode cX12_init 338 = .ok (.return_, 1) := by decide +kernel
theorem dX12_in_0 : decode cX12_in 0 = .ok (.iload_n 0, 1) := by decide +kernel
theorem dX12_in_1 : decode cX12_in 1 = .ok (.iload_n 1, 1) := by decide +kernel
theorem dX12_in_2 : decode cX12_in 2 = .ok (.if_icmp .lt 12, 3) := by decide +kernel
theorem dX12_in_5 : decode cX12_in 5 = .ok (.iload_n 0, 1) := by decide +kernel
theorem dX12_in_6 : decode cX12_in 6 = .ok (.iload_n 2, 1) := by decide +kernel
theorem dX12_in_7 : decode cX12_in 7 = .ok (.if_icmp .gt 7, 3) := by decide +kernel
theorem dX12_in_10 : decode cX12_in 10 = .ok (.iconst 1, 1) := by decide +kernel
theorem dX12_in_11 : decode cX12_in 11 = .ok (.goto 4, 3) := by decide +kernel
theorem dX12_in_14 : decode cX12_in 14 = .ok (.iconst 0, 1) := by decide +kernel
theorem dX12_in_15 : decode cX12_in 15 = .ok (.ireturn, 1) := by decide +kernel
theorem dX12_isVoice_0 : decode cX12_isVoice 0 = .ok (.iload_n 0, 1) := by decide +kernel
theorem dX12_isVoice_1 : decode cX12_isVoice 1 = .ok (.iconst 0, 1) := by decide +kernel
theorem dX12_isVoice_2 : decode cX12_isVoice 2 = .ok (.iconst 5, 1) := by decide +kernel
theorem dX12_isVoice_3 : decode cX12_isVoice 3 = .ok (.invokestatic 129, 3) := by decide +kernel
theorem dX12_isVoice_6 : decode cX12_isVoice 6 = .ok (.ireturn, 1) := by decide +kernel
theorem dX12_isPlace_0 : decode cX12_isPlace 0 = .ok (.iload_n 0, 1) := by decide +kernel
theorem dX12_isPlace_1 : decode cX12_isPlace 1 = .ok (.iconst 0, 1) := by decide +kernel
theorem dX12_isPlace_2 : decode cX12_isPlace 2 = .ok (.bipush 15, 2) := by decide +kernel
theorem dX12_isPlace_4 : decode cX12_isPlace 4 = .ok (.invokestatic 129, 3) := by decide +kernel
theorem dX12_isPlace_7 : decode cX12_isPlace 7 = .ok (.ireturn, 1) := by decide +kernel
theorem dX12_finds_0 : decode cX12_finds 0 = .ok (.aload_n 0, 1) := by decide +kernel
theorem dX12_finds_1 : decode cX12_finds 1 = .ok (.iload_n 1, 1) := by decide +kernel
theorem dX12_finds_2 : decode cX12_finds 2 = .ok (.putfield 126, 3) := by decide +kernel
theorem dX12_finds_5 : decode cX12_finds 5 = .ok (.aload_n 0, 1) := by decide +kernel
theorem dX12_finds_6 : decode cX12_finds 6 = .ok (.dup, 1) := by decide +kernel
theorem dX12_finds_7 : decode cX12_finds 7 = .ok (.getfield 133, 3) := by decide +kernel
theorem dX12_finds_10 : decode cX12_finds 10 = .ok (.iconst 1, 1) := by decide +kernel
theorem dX12_finds_11 : decode cX12_finds 11 = .ok (.iadd, 1) := by decide +kernel
theorem dX12_finds_12 : decode cX12_finds 12 = .ok (.putfield 133, 3) := by decide +kernel
theorem dX12_finds_15 : decode cX12_finds 15 = .ok (.bipush (-10), 2) := by decide +kernel
theorem dX12_finds_17 : decode cX12_finds 17 = .ok (.iload_n 1, 1) := by decide +kernel
theorem dX12_finds_18 : decode cX12_finds 18 = .ok (.isub, 1) := by decide +kernel
theorem dX12_finds_19 : decode cX12_finds 19 = .ok (.ireturn, 1) := by decide +kernel
theorem dX12_keep_0 : decode cX12_keep 0 = .ok (.aload_n 0, 1) := by decide +kernel
theorem dX12_keep_1 : decode cX12_keep 1 = .ok (.iconst 1, 1) := by decide +kernel
theorem dX12_keep_2 : decode cX12_keep 2 = .ok (.putfield 136, 3) := by decide +kernel
theorem dX12_keep_5 : decode cX12_keep 5 = .ok (.aload_n 0, 1) := by decide +kernel
theorem dX12_keep_6 : decode cX12_keep 6 = .ok (.iload_n 1, 1) := by decide +kernel
theorem dX12_keep_7 : decode cX12_keep 7 = .ok (.putfield 140, 3) := by decide +kernel
theorem dX12_keep_10 : decode cX12_keep 10 = .ok (.aload_n 0, 1) := by decide +kernel
theorem dX12_keep_11 : decode cX12_keep 11 = .ok (.aload_n 0, 1) := by decide +kernel
theorem dX12_keep_12 : decode cX12_keep 12 = .ok (.getfield 9, 3) := by decide +kernel
theorem dX12_keep_15 : decode cX12_keep 15 = .ok (.iload_n 1, 1) := by decide +kernel
theorem dX12_keep_16 : decode cX12_keep 16 = .ok (.baload, 1) := by decide +kernel
theorem dX12_keep_17 : decode cX12_keep 17 = .ok (.putfield 143, 3) := by decide +kernel
theorem dX12_keep_20 : decode cX12_keep 20 = .ok (.iconst 0, 1) := by decide +kernel
theorem dX12_keep_21 : decode cX12_keep 21 = .ok (.istore_n 2, 1) := by decide +kernel
theorem dX12_keep_22 : decode cX12_keep 22 = .ok (.iload_n 2, 1) := by decide +kernel
theorem dX12_keep_23 : decode cX12_keep 23 = .ok (.iconst 2, 1) := by decide +kernel
theorem dX12_keep_24 : decode cX12_keep 24 = .ok (.if_icmp .ge 65, 3) := by decide +kernel
theorem dX12_keep_27 : decode cX12_keep 27 = .ok (.aload_n 0, 1) := by decide +kernel
theorem dX12_keep_28 : decode cX12_keep 28 = .ok (.getfield 20, 3) := by decide +kernel
theorem dX12_keep_31 : decode cX12_keep 31 = .ok (.iload_n 2, 1) := by decide +kernel
theorem dX12_keep_32 : decode cX12_keep 32 = .ok (.aload_n 0, 1) := by decide +kernel
theorem dX12_keep_33 : decode cX12_keep 33 = .ok (.getfield 13, 3) := by decide +kernel
theorem dX12_keep_36 : decode cX12_keep 36 = .ok (.iconst 2, 1) := by decide +kernel
theorem dX12_keep_37 : decode cX12_keep 37 = .ok (.iload_n 1, 1) := by decide +kernel
theorem dX12_keep_38 : decode cX12_keep 38 = .ok (.imul, 1) := by decide +kernel
theorem dX12_keep_39 : decode cX12_keep 39 = .ok (.iload_n 2, 1) := by decide +kernel
theorem dX12_keep_40 : decode cX12_keep 40 = .ok (.iadd, 1) := by decide +kernel
theorem dX12_keep_41 : decode cX12_keep 41 = .ok (.iaload, 1) := by decide +kernel
theorem dX12_keep_42 : decode cX12_keep 42 = .ok (.iastore, 1) := by decide +kernel
theorem dX12_keep_43 : decode cX12_keep 43 = .ok (.iconst 0, 1) := by decide +kernel
theorem dX12_keep_44 : decode cX12_keep 44 = .ok (.istore_n 3, 1) := by decide +kernel
theorem dX12_keep_45 : decode cX12_keep 45 = .ok (.iload_n 3, 1) := by decide +kernel
theorem dX12_keep_46 : decode cX12_keep 46 = .ok (.bipush 24, 2) := by decide +kernel
theorem dX12_keep_48 : decode cX12_keep 48 = .ok (.if_icmp .ge 35, 3) := by decide +kernel
theorem dX12_keep_51 : decode cX12_keep 51 = .ok (.aload_n 0, 1) := by decide +kernel
theorem dX12_keep_52 : decode cX12_keep 52 = .ok (.getfield 23, 3) := by decide +kernel
theorem dX12_keep_55 : decode cX12_keep 55 = .ok (.bipush 24, 2) := by decide +kernel
theorem dX12_keep_57 : decode cX12_keep 57 = .ok (.iload_n 2, 1) := by decide +kernel
theorem dX12_keep_58 : decode cX12_keep 58 = .ok (.imul, 1) := by decide +kernel
theorem dX12_keep_59 : decode cX12_keep 59 = .ok (.iload_n 3, 1) := by decide +kernel
theorem dX12_keep_60 : decode cX12_keep 60 = .ok (.iadd, 1) := by decide +kernel
theorem dX12_keep_61 : decode cX12_keep 61 = .ok (.aload_n 0, 1) := by decide +kernel
theorem dX12_keep_62 : decode cX12_keep 62 = .ok (.getfield 17, 3) := by decide +kernel
theorem dX12_keep_65 : decode cX12_keep 65 = .ok (.bipush 24, 2) := by decide +kernel
theorem dX12_keep_67 : decode cX12_keep 67 = .ok (.iconst 2, 1) := by decide +kernel
theorem dX12_keep_68 : decode cX12_keep 68 = .ok (.iload_n 1, 1) := by decide +kernel
theorem dX12_keep_69 : decode cX12_keep 69 = .ok (.imul, 1) := by decide +kernel
theorem dX12_keep_70 : decode cX12_keep 70 = .ok (.iload_n 2, 1) := by decide +kernel
theorem dX12_keep_71 : decode cX12_keep 71 = .ok (.iadd, 1) := by decide +kernel
theorem dX12_keep_72 : decode cX12_keep 72 = .ok (.imul, 1) := by decide +kernel
theorem dX12_keep_73 : decode cX12_keep 73 = .ok (.iload_n 3, 1) := by decide +kernel
theorem dX12_keep_74 : decode cX12_keep 74 = .ok (.iadd, 1) := by decide +kernel
theorem dX12_keep_75 : decode cX12_keep 75 = .ok (.iaload, 1) := by decide +kernel
theorem dX12_keep_76 : decode cX12_keep 76 = .ok (.iastore, 1) := by decide +kernel
theorem dX12_keep_77 : decode cX12_keep 77 = .ok (.iinc 3 1, 3) := by decide +kernel
theorem dX12_keep_80 : decode cX12_keep 80 = .ok (.goto (-35), 3) := by decide +kernel
theorem dX12_keep_83 : decode cX12_keep 83 = .ok (.iinc 2 1, 3) := by decide +kernel
theorem dX12_keep_86 : decode cX12_keep 86 = .ok (.goto (-64), 3) := by decide +kernel
theorem dX12_keep_89 : decode cX12_keep 89 = .ok (.return_, 1) := by decide +kernel
theorem dX12_against_0 : decode cX12_against 0 = .ok (.aload_n 0, 1) := by decide +kernel
theorem dX12_against_1 : decode cX12_against 1 = .ok (.getfield 9, 3) := by decide +kernel
theorem dX12_against_4 : decode cX12_against 4 = .ok (.iload_n 1, 1) := by decide +kernel
theorem dX12_against_5 : decode cX12_against 5 = .ok (.baload, 1) := by decide +kernel
theorem dX12_against_6 : decode cX12_against 6 = .ok (.ifCond .ne 7, 3) := by decide +kernel
theorem dX12_against_9 : decode cX12_against 9 = .ok (.iconst 1, 1) := by decide +kernel
theorem dX12_against_10 : decode cX12_against 10 = .ok (.goto 29, 3) := by decide +kernel
theorem dX12_against_13 : decode cX12_against 13 = .ok (.aload_n 0, 1) := by decide +kernel
theorem dX12_against_14 : decode cX12_against 14 = .ok (.getfield 13, 3) := by decide +kernel
theorem dX12_against_17 : decode cX12_against 17 = .ok (.iconst 2, 1) := by decide +kernel
theorem dX12_against_18 : decode cX12_against 18 = .ok (.iload_n 1, 1) := by decide +kernel
theorem dX12_against_19 : decode cX12_against 19 = .ok (.imul, 1) := by decide +kernel
theorem dX12_against_20 : decode cX12_against 20 = .ok (.iaload, 1) := by decide +kernel
theorem dX12_against_21 : decode cX12_against 21 = .ok (.aload_n 0, 1) := by decide +kernel
theorem dX12_against_22 : decode cX12_against 22 = .ok (.getfield 13, 3) := by decide +kernel
theorem dX12_against_25 : decode cX12_against 25 = .ok (.iconst 2, 1) := by decide +kernel
theorem dX12_against_26 : decode cX12_against 26 = .ok (.iload_n 1, 1) := by decide +kernel
theorem dX12_against_27 : decode cX12_against 27 = .ok (.imul, 1) := by decide +kernel
theorem dX12_against_28 : decode cX12_against 28 = .ok (.iconst 1, 1) := by decide +kernel
theorem dX12_against_29 : decode cX12_against 29 = .ok (.iadd, 1) := by decide +kernel
theorem dX12_against_30 : decode cX12_against 30 = .ok (.iaload, 1) := by decide +kernel
theorem dX12_against_31 : decode cX12_against 31 = .ok (.if_icmp .le 7, 3) := by decide +kernel
theorem dX12_against_34 : decode cX12_against 34 = .ok (.iconst 2, 1) := by decide +kernel
theorem dX12_against_35 : decode cX12_against 35 = .ok (.goto 4, 3) := by decide +kernel
theorem dX12_against_38 : decode cX12_against 38 = .ok (.iconst 0, 1) := by decide +kernel
theorem dX12_against_39 : decode cX12_against 39 = .ok (.ireturn, 1) := by decide +kernel
theorem dX12_againstCanon_0 : decode cX12_againstCanon 0 = .ok (.aload_n 0, 1) := by decide +kernel
theorem dX12_againstCanon_1 : decode cX12_againstCanon 1 = .ok (.iload_n 1, 1) := by decide +kernel
theorem dX12_againstCanon_2 : decode cX12_againstCanon 2 = .ok (.invokevirtual 165, 3) := by decide +kernel
theorem dX12_againstCanon_5 : decode cX12_againstCanon 5 = .ok (.istore_n 3, 1) := by decide +kernel
theorem dX12_againstCanon_6 : decode cX12_againstCanon 6 = .ok (.iload_n 3, 1) := by decide +kernel
theorem dX12_againstCanon_7 : decode cX12_againstCanon 7 = .ok (.ifCond .le 7, 3) := by decide +kernel
theorem dX12_againstCanon_10 : decode cX12_againstCanon 10 = .ok (.iload_n 3, 1) := by decide +kernel
theorem dX12_againstCanon_11 : decode cX12_againstCanon 11 = .ok (.goto 17, 3) := by decide +kernel
theorem dX12_againstCanon_14 : decode cX12_againstCanon 14 = .ok (.aload_n 0, 1) := by decide +kernel
theorem dX12_againstCanon_15 : decode cX12_againstCanon 15 = .ok (.getfield 53, 3) := by decide +kernel
theorem dX12_againstCanon_18 : decode cX12_againstCanon 18 = .ok (.iload_n 2, 1) := by decide +kernel
theorem dX12_againstCanon_19 : decode cX12_againstCanon 19 = .ok (.iaload, 1) := by decide +kernel
theorem dX12_againstCanon_20 : decode cX12_againstCanon 20 = .ok (.ifCond .ne 7, 3) := by decide +kernel
theorem dX12_againstCanon_23 : decode cX12_againstCanon 23 = .ok (.iconst 1, 1) := by decide +kernel
theorem dX12_againstCanon_24 : decode cX12_againstCanon 24 = .ok (.goto 4, 3) := by decide +kernel
theorem dX12_againstCanon_27 : decode cX12_againstCanon 27 = .ok (.iconst 0, 1) := by decide +kernel
theorem dX12_againstCanon_28 : decode cX12_againstCanon 28 = .ok (.ireturn, 1) := by decide +kernel
theorem dX12_beginTrace_0 : decode cX12_beginTrace 0 = .ok (.aload_n 0, 1) := by decide +kernel
theorem dX12_beginTrace_1 : decode cX12_beginTrace 1 = .ok (.iconst 0, 1) := by decide +kernel
theorem dX12_beginTrace_2 : decode cX12_beginTrace 2 = .ok (.putfield 198, 3) := by decide +kernel
theorem dX12_beginTrace_5 : decode cX12_beginTrace 5 = .ok (.aload_n 0, 1) := by decide +kernel
theorem dX12_beginTrace_6 : decode cX12_beginTrace 6 = .ok (.iconst 1, 1) := by decide +kernel
theorem dX12_beginTrace_7 : decode cX12_beginTrace 7 = .ok (.putfield 201, 3) := by decide +kernel
theorem dX12_beginTrace_10 : decode cX12_beginTrace 10 = .ok (.return_, 1) := by decide +kernel
theorem dX12_wrongIn_0 : decode cX12_wrongIn 0 = .ok (.aload_n 0, 1) := by decide +kernel
theorem dX12_wrongIn_1 : decode cX12_wrongIn 1 = .ok (.iconst 0, 1) := by decide +kernel
theorem dX12_wrongIn_2 : decode cX12_wrongIn 2 = .ok (.putfield 388, 3) := by decide +kernel
theorem dX12_wrongIn_5 : decode cX12_wrongIn 5 = .ok (.iconst 0, 1) := by decide +kernel
theorem dX12_wrongIn_6 : decode cX12_wrongIn 6 = .ok (.istore_n 1, 1) := by decide +kernel
theorem dX12_wrongIn_7 : decode cX12_wrongIn 7 = .ok (.aload_n 0, 1) := by decide +kernel
theorem dX12_wrongIn_8 : decode cX12_wrongIn 8 = .ok (.getfield 382, 3) := by decide +kernel
theorem dX12_wrongIn_11 : decode cX12_wrongIn 11 = .ok (.ifCond .le 7, 3) := by decide +kernel
theorem dX12_wrongIn_14 : decode cX12_wrongIn 14 = .ok (.iconst 1, 1) := by decide +kernel
theorem dX12_wrongIn_15 : decode cX12_wrongIn 15 = .ok (.goto 4, 3) := by decide +kernel
theorem dX12_wrongIn_18 : decode cX12_wrongIn 18 = .ok (.iconst 0, 1) := by decide +kernel
theorem dX12_wrongIn_19 : decode cX12_wrongIn 19 = .ok (.istore_n 2, 1) := by decide +kernel
theorem dX12_wrongIn_20 : decode cX12_wrongIn 20 = .ok (.iload_n 2, 1) := by decide +kernel
theorem dX12_wrongIn_21 : decode cX12_wrongIn 21 = .ok (.ifCond .eq 220, 3) := by decide +kernel
theorem dX12_wrongIn_24 : decode cX12_wrongIn 24 = .ok (.iconst 0, 1) := by decide +kernel
theorem dX12_wrongIn_25 : decode cX12_wrongIn 25 = .ok (.istore_n 3, 1) := by decide +kernel
theorem dX12_wrongIn_26 : decode cX12_wrongIn 26 = .ok (.iload_n 1, 1) := by decide +kernel
theorem dX12_wrongIn_27 : decode cX12_wrongIn 27 = .ok (.istore 4, 2) := by decide +kernel
theorem dX12_wrongIn_29 : decode cX12_wrongIn 29 = .ok (.aload_n 0, 1) := by decide +kernel
theorem dX12_wrongIn_30 : decode cX12_wrongIn 30 = .ok (.iload_n 1, 1) := by decide +kernel
theorem dX12_wrongIn_31 : decode cX12_wrongIn 31 = .ok (.invokevirtual 391, 3) := by decide +kernel
theorem dX12_wrongIn_34 : decode cX12_wrongIn 34 = .ok (.bipush 82, 2) := by decide +kernel
theorem dX12_wrongIn_36 : decode cX12_wrongIn 36 = .ok (.if_icmp .ne 9, 3) := by decide +kernel
theorem dX12_wrongIn_39 : decode cX12_wrongIn 39 = .ok (.iinc 4 1, 3) := by decide +kernel
theorem dX12_wrongIn_42 : decode cX12_wrongIn 42 = .ok (.goto 72, 3) := by decide +kernel
theorem dX12_wrongIn_45 : decode cX12_wrongIn 45 = .ok (.aload_n 0, 1) := by decide +kernel
theorem dX12_wrongIn_46 : decode cX12_wrongIn 46 = .ok (.iload 4, 2) := by decide +kernel
theorem dX12_wrongIn_48 : decode cX12_wrongIn 48 = .ok (.invokevirtual 391, 3) := by decide +kernel
theorem dX12_wrongIn_51 : decode cX12_wrongIn 51 = .ok (.bipush 48, 2) := by decide +kernel
theorem dX12_wrongIn_53 : decode cX12_wrongIn 53 = .ok (.bipush 57, 2) := by decide +kernel
theorem dX12_wrongIn_55 : decode cX12_wrongIn 55 = .ok (.invokestatic 129, 3) := by decide +kernel
theorem dX12_wrongIn_58 : decode cX12_wrongIn 58 = .ok (.ifCond .eq 38, 3) := by decide +kernel
theorem dX12_wrongIn_61 : decode cX12_wrongIn 61 = .ok (.iload 4, 2) := by decide +kernel
theorem dX12_wrongIn_63 : decode cX12_wrongIn 63 = .ok (.iload_n 1, 1) := by decide +kernel
theorem dX12_wrongIn_64 : decode cX12_wrongIn 64 = .ok (.isub, 1) := by decide +kernel
theorem dX12_wrongIn_65 : decode cX12_wrongIn 65 = .ok (.iconst 3, 1) := by decide +kernel
theorem dX12_wrongIn_66 : decode cX12_wrongIn 66 = .ok (.if_icmp .ge 20, 3) := by decide +kernel
theorem dX12_wrongIn_69 : decode cX12_wrongIn 69 = .ok (.bipush 10, 2) := by decide +kernel
theorem dX12_wrongIn_71 : decode cX12_wrongIn 71 = .ok (.iload_n 3, 1) := by decide +kernel
theorem dX12_wrongIn_72 : decode cX12_wrongIn 72 = .ok (.imul, 1) := by decide +kernel
theorem dX12_wrongIn_73 : decode cX12_wrongIn 73 = .ok (.aload_n 0, 1) := by decide +kernel
theorem dX12_wrongIn_74 : decode cX12_wrongIn 74 = .ok (.iload 4, 2) := by decide +kernel
theorem dX12_wrongIn_76 : decode cX12_wrongIn 76 = .ok (.invokevirtual 391, 3) := by decide +kernel
theorem dX12_wrongIn_79 : decode cX12_wrongIn 79 = .ok (.iadd, 1) := by decide +kernel
theorem dX12_wrongIn_80 : decode cX12_wrongIn 80 = .ok (.bipush 48, 2) := by decide +kernel
theorem dX12_wrongIn_82 : decode cX12_wrongIn 82 = .ok (.isub, 1) := by decide +kernel
theorem dX12_wrongIn_83 : decode cX12_wrongIn 83 = .ok (.goto 6, 3) := by decide +kernel
theorem dX12_wrongIn_86 : decode cX12_wrongIn 86 = .ok (.sipush 1000, 3) := by decide +kernel
theorem dX12_wrongIn_89 : decode cX12_wrongIn 89 = .ok (.istore_n 3, 1) := by decide +kernel
theorem dX12_wrongIn_90 : decode cX12_wrongIn 90 = .ok (.iinc 4 1, 3) := by decide +kernel
theorem dX12_wrongIn_93 : decode cX12_wrongIn 93 = .ok (.goto (-48), 3) := by decide +kernel
theorem dX12_wrongIn_96 : decode cX12_wrongIn 96 = .ok (.iload_n 3, 1) := by decide +kernel
theorem dX12_wrongIn_97 : decode cX12_wrongIn 97 = .ok (.iconst 1, 1) := by decide +kernel
theorem dX12_wrongIn_98 : decode cX12_wrongIn 98 = .ok (.bipush 120, 2) := by decide +kernel
theorem dX12_wrongIn_100 : decode cX12_wrongIn 100 = .ok (.invokestatic 129, 3) := by decide +kernel
theorem dX12_wrongIn_103 : decode cX12_wrongIn 103 = .ok (.ifCond .eq 9, 3) := by decide +kernel
theorem dX12_wrongIn_106 : decode cX12_wrongIn 106 = .ok (.iload 4, 2) := by decide +kernel
theorem dX12_wrongIn_108 : decode cX12_wrongIn 108 = .ok (.iload_n 1, 1) := by decide +kernel
theorem dX12_wrongIn_109 : decode cX12_wrongIn 109 = .ok (.if_icmp .ne 5, 3) := by decide +kernel
theorem dX12_wrongIn_112 : decode cX12_wrongIn 112 = .ok (.iload_n 1, 1) := by decide +kernel
theorem dX12_wrongIn_113 : decode cX12_wrongIn 113 = .ok (.ireturn, 1) := by decide +kernel
theorem dX12_wrongIn_114 : decode cX12_wrongIn 114 = .ok (.aload_n 0, 1) := by decide +kernel
theorem dX12_wrongIn_115 : decode cX12_wrongIn 115 = .ok (.iload 4, 2) := by decide +kernel
theorem dX12_wrongIn_117 : decode cX12_wrongIn 117 = .ok (.invokevirtual 391, 3) := by decide +kernel
theorem dX12_wrongIn_120 : decode cX12_wrongIn 120 = .ok (.bipush 58, 2) := by decide +kernel
theorem dX12_wrongIn_122 : decode cX12_wrongIn 122 = .ok (.if_icmp .eq 6, 3) := by decide +kernel
theorem dX12_wrongIn_125 : decode cX12_wrongIn 125 = .ok (.iload 4, 2) := by decide +kernel
theorem dX12_wrongIn_127 : decode cX12_wrongIn 127 = .ok (.ireturn, 1) := by decide +kernel
theorem dX12_wrongIn_128 : decode cX12_wrongIn 128 = .ok (.aload_n 0, 1) := by decide +kernel
theorem dX12_wrongIn_129 : decode cX12_wrongIn 129 = .ok (.iload 4, 2) := by decide +kernel
theorem dX12_wrongIn_131 : decode cX12_wrongIn 131 = .ok (.iconst 1, 1) := by decide +kernel
theorem dX12_wrongIn_132 : decode cX12_wrongIn 132 = .ok (.iadd, 1) := by decide +kernel
theorem dX12_wrongIn_133 : decode cX12_wrongIn 133 = .ok (.invokevirtual 391, 3) := by decide +kernel
theorem dX12_wrongIn_136 : decode cX12_wrongIn 136 = .ok (.bipush 48, 2) := by decide +kernel
theorem dX12_wrongIn_138 : decode cX12_wrongIn 138 = .ok (.bipush 56, 2) := by decide +kernel
theorem dX12_wrongIn_140 : decode cX12_wrongIn 140 = .ok (.invokestatic 129, 3) := by decide +kernel
theorem dX12_wrongIn_143 : decode cX12_wrongIn 143 = .ok (.ifCond .ne 8, 3) := by decide +kernel
theorem dX12_wrongIn_146 : decode cX12_wrongIn 146 = .ok (.iload 4, 2) := by decide +kernel
theorem dX12_wrongIn_148 : decode cX12_wrongIn 148 = .ok (.iconst 1, 1) := by decide +kernel
theorem dX12_wrongIn_149 : decode cX12_wrongIn 149 = .ok (.iadd, 1) := by decide +kernel
theorem dX12_wrongIn_150 : decode cX12_wrongIn 150 = .ok (.ireturn, 1) := by decide +kernel
theorem dX12_wrongIn_151 : decode cX12_wrongIn 151 = .ok (.aload_n 0, 1) := by decide +kernel
theorem dX12_wrongIn_152 : decode cX12_wrongIn 152 = .ok (.getfield 120, 3) := by decide +kernel
theorem dX12_wrongIn_155 : decode cX12_wrongIn 155 = .ok (.aload_n 0, 1) := by decide +kernel
theorem dX12_wrongIn_156 : decode cX12_wrongIn 156 = .ok (.getfield 388, 3) := by decide +kernel
theorem dX12_wrongIn_159 : decode cX12_wrongIn 159 = .ok (.iload_n 3, 1) := by decide +kernel
theorem dX12_wrongIn_160 : decode cX12_wrongIn 160 = .ok (.iastore, 1) := by decide +kernel
theorem dX12_wrongIn_161 : decode cX12_wrongIn 161 = .ok (.aload_n 0, 1) := by decide +kernel
theorem dX12_wrongIn_162 : decode cX12_wrongIn 162 = .ok (.getfield 123, 3) := by decide +kernel
theorem dX12_wrongIn_165 : decode cX12_wrongIn 165 = .ok (.aload_n 0, 1) := by decide +kernel
theorem dX12_wrongIn_166 : decode cX12_wrongIn 166 = .ok (.getfield 388, 3) := by decide +kernel
theorem dX12_wrongIn_169 : decode cX12_wrongIn 169 = .ok (.aload_n 0, 1) := by decide +kernel
theorem dX12_wrongIn_170 : decode cX12_wrongIn 170 = .ok (.iload 4, 2) := by decide +kernel
theorem dX12_wrongIn_172 : decode cX12_wrongIn 172 = .ok (.iconst 1, 1) := by decide +kernel
theorem dX12_wrongIn_173 : decode cX12_wrongIn 173 = .ok (.iadd, 1) := by decide +kernel
theorem dX12_wrongIn_174 : decode cX12_wrongIn 174 = .ok (.invokevirtual 391, 3) := by decide +kernel
theorem dX12_wrongIn_177 : decode cX12_wrongIn 177 = .ok (.bipush 48, 2) := by decide +kernel
theorem dX12_wrongIn_179 : decode cX12_wrongIn 179 = .ok (.isub, 1) := by decide +kernel
theorem dX12_wrongIn_180 : decode cX12_wrongIn 180 = .ok (.iastore, 1) := by decide +kernel
theorem dX12_wrongIn_181 : decode cX12_wrongIn 181 = .ok (.aload_n 0, 1) := by decide +kernel
theorem dX12_wrongIn_182 : decode cX12_wrongIn 182 = .ok (.dup, 1) := by decide +kernel
theorem dX12_wrongIn_183 : decode cX12_wrongIn 183 = .ok (.getfield 388, 3) := by decide +kernel
theorem dX12_wrongIn_186 : decode cX12_wrongIn 186 = .ok (.iconst 1, 1) := by decide +kernel
theorem dX12_wrongIn_187 : decode cX12_wrongIn 187 = .ok (.iadd, 1) := by decide +kernel
theorem dX12_wrongIn_188 : decode cX12_wrongIn 188 = .ok (.putfield 388, 3) := by decide +kernel
theorem dX12_wrongIn_191 : decode cX12_wrongIn 191 = .ok (.iload 4, 2) := by decide +kernel
theorem dX12_wrongIn_193 : decode cX12_wrongIn 193 = .ok (.iconst 2, 1) := by decide +kernel
theorem dX12_wrongIn_194 : decode cX12_wrongIn 194 = .ok (.iadd, 1) := by decide +kernel
theorem dX12_wrongIn_195 : decode cX12_wrongIn 195 = .ok (.istore_n 1, 1) := by decide +kernel
theorem dX12_wrongIn_196 : decode cX12_wrongIn 196 = .ok (.iload_n 1, 1) := by decide +kernel
theorem dX12_wrongIn_197 : decode cX12_wrongIn 197 = .ok (.aload_n 0, 1) := by decide +kernel
theorem dX12_wrongIn_198 : decode cX12_wrongIn 198 = .ok (.getfield 382, 3) := by decide +kernel
theorem dX12_wrongIn_201 : decode cX12_wrongIn 201 = .ok (.if_icmp .ge 7, 3) := by decide +kernel
theorem dX12_wrongIn_204 : decode cX12_wrongIn 204 = .ok (.iconst 1, 1) := by decide +kernel
theorem dX12_wrongIn_205 : decode cX12_wrongIn 205 = .ok (.goto 4, 3) := by decide +kernel
theorem dX12_wrongIn_208 : decode cX12_wrongIn 208 = .ok (.iconst 0, 1) := by decide +kernel
theorem dX12_wrongIn_209 : decode cX12_wrongIn 209 = .ok (.istore_n 2, 1) := by decide +kernel
theorem dX12_wrongIn_210 : decode cX12_wrongIn 210 = .ok (.iload_n 2, 1) := by decide +kernel
theorem dX12_wrongIn_211 : decode cX12_wrongIn 211 = .ok (.ifCond .eq 24, 3) := by decide +kernel
theorem dX12_wrongIn_214 : decode cX12_wrongIn 214 = .ok (.aload_n 0, 1) := by decide +kernel
theorem dX12_wrongIn_215 : decode cX12_wrongIn 215 = .ok (.iload_n 1, 1) := by decide +kernel
theorem dX12_wrongIn_216 : decode cX12_wrongIn 216 = .ok (.invokevirtual 391, 3) := by decide +kernel
theorem dX12_wrongIn_219 : decode cX12_wrongIn 219 = .ok (.bipush 32, 2) := by decide +kernel
theorem dX12_wrongIn_221 : decode cX12_wrongIn 221 = .ok (.if_icmp .ne 12, 3) := by decide +kernel
theorem dX12_wrongIn_224 : decode cX12_wrongIn 224 = .ok (.aload_n 0, 1) := by decide +kernel
theorem dX12_wrongIn_225 : decode cX12_wrongIn 225 = .ok (.getfield 388, 3) := by decide +kernel
theorem dX12_wrongIn_228 : decode cX12_wrongIn 228 = .ok (.bipush 24, 2) := by decide +kernel
theorem dX12_wrongIn_230 : decode cX12_wrongIn 230 = .ok (.if_icmp .ne 5, 3) := by decide +kernel
theorem dX12_wrongIn_233 : decode cX12_wrongIn 233 = .ok (.iload_n 1, 1) := by decide +kernel
theorem dX12_wrongIn_234 : decode cX12_wrongIn 234 = .ok (.ireturn, 1) := by decide +kernel
theorem dX12_wrongIn_235 : decode cX12_wrongIn 235 = .ok (.iinc 1 1, 3) := by decide +kernel
theorem dX12_wrongIn_238 : decode cX12_wrongIn 238 = .ok (.goto (-218), 3) := by decide +kernel
theorem dX12_wrongIn_241 : decode cX12_wrongIn 241 = .ok (.iconst (-1), 1) := by decide +kernel
theorem dX12_wrongIn_242 : decode cX12_wrongIn 242 = .ok (.ireturn, 1) := by decide +kernel
theorem dX12_voice_0 : decode cX12_voice 0 = .ok (.iload_n 1, 1) := by decide +kernel
theorem dX12_voice_1 : decode cX12_voice 1 = .ok (.invokestatic 153, 3) := by decide +kernel
theorem dX12_voice_4 : decode cX12_voice 4 = .ok (.ifCond .eq 9, 3) := by decide +kernel
theorem dX12_voice_7 : decode cX12_voice 7 = .ok (.iload_n 2, 1) := by decide +kernel
theorem dX12_voice_8 : decode cX12_voice 8 = .ok (.bipush 24, 2) := by decide +kernel
theorem dX12_voice_10 : decode cX12_voice 10 = .ok (.if_icmp .le 5, 3) := by decide +kernel
theorem dX12_voice_13 : decode cX12_voice 13 = .ok (.iconst (-1), 1) := by decide +kernel
theorem dX12_voice_14 : decode cX12_voice 14 = .ok (.ireturn, 1) := by decide +kernel
theorem dX12_voice_15 : decode cX12_voice 15 = .ok (.aload_n 0, 1) := by decide +kernel
theorem dX12_voice_16 : decode cX12_voice 16 = .ok (.iconst 0, 1) := by decide +kernel
theorem dX12_voice_17 : decode cX12_voice 17 = .ok (.putfield 126, 3) := by decide +kernel
theorem dX12_voice_20 : decode cX12_voice 20 = .ok (.iload_n 2, 1) := by decide +kernel
theorem dX12_voice_21 : decode cX12_voice 21 = .ok (.ifCond .ge 9, 3) := by decide +kernel
theorem dX12_voice_24 : decode cX12_voice 24 = .ok (.aload_n 0, 1) := by decide +kernel
theorem dX12_voice_25 : decode cX12_voice 25 = .ok (.iconst 5, 1) := by decide +kernel
theorem dX12_voice_26 : decode cX12_voice 26 = .ok (.invokevirtual 157, 3) := by decide +kernel
theorem dX12_voice_29 : decode cX12_voice 29 = .ok (.ireturn, 1) := by decide +kernel
theorem dX12_voice_30 : decode cX12_voice 30 = .ok (.aload_n 0, 1) := by decide +kernel
theorem dX12_voice_31 : decode cX12_voice 31 = .ok (.iload_n 1, 1) := by decide +kernel
theorem dX12_voice_32 : decode cX12_voice 32 = .ok (.invokevirtual 161, 3) := by decide +kernel
theorem dX12_voice_35 : decode cX12_voice 35 = .ok (.aload_n 0, 1) := by decide +kernel
theorem dX12_voice_36 : decode cX12_voice 36 = .ok (.getfield 9, 3) := by decide +kernel
theorem dX12_voice_39 : decode cX12_voice 39 = .ok (.iload_n 1, 1) := by decide +kernel
theorem dX12_voice_40 : decode cX12_voice 40 = .ok (.iconst 1, 1) := by decide +kernel
theorem dX12_voice_41 : decode cX12_voice 41 = .ok (.bastore, 1) := by decide +kernel
theorem dX12_voice_42 : decode cX12_voice 42 = .ok (.aload_n 0, 1) := by decide +kernel
theorem dX12_voice_43 : decode cX12_voice 43 = .ok (.getfield 13, 3) := by decide +kernel
theorem dX12_voice_46 : decode cX12_voice 46 = .ok (.iconst 2, 1) := by decide +kernel
theorem dX12_voice_47 : decode cX12_voice 47 = .ok (.iload_n 1, 1) := by decide +kernel
theorem dX12_voice_48 : decode cX12_voice 48 = .ok (.imul, 1) := by decide +kernel
theorem dX12_voice_49 : decode cX12_voice 49 = .ok (.iload_n 2, 1) := by decide +kernel
theorem dX12_voice_50 : decode cX12_voice 50 = .ok (.iastore, 1) := by decide +kernel
theorem dX12_voice_51 : decode cX12_voice 51 = .ok (.aload_n 0, 1) := by decide +kernel
theorem dX12_voice_52 : decode cX12_voice 52 = .ok (.getfield 13, 3) := by decide +kernel
theorem dX12_voice_55 : decode cX12_voice 55 = .ok (.iconst 2, 1) := by decide +kernel
theorem dX12_voice_56 : decode cX12_voice 56 = .ok (.iload_n 1, 1) := by decide +kernel
theorem dX12_voice_57 : decode cX12_voice 57 = .ok (.imul, 1) := by decide +kernel
theorem dX12_voice_58 : decode cX12_voice 58 = .ok (.iconst 1, 1) := by decide +kernel
theorem dX12_voice_59 : decode cX12_voice 59 = .ok (.iadd, 1) := by decide +kernel
theorem dX12_voice_60 : decode cX12_voice 60 = .ok (.iload_n 2, 1) := by decide +kernel
theorem dX12_voice_61 : decode cX12_voice 61 = .ok (.iastore, 1) := by decide +kernel
theorem dX12_voice_62 : decode cX12_voice 62 = .ok (.iconst 0, 1) := by decide +kernel
theorem dX12_voice_63 : decode cX12_voice 63 = .ok (.istore_n 3, 1) := by decide +kernel
theorem dX12_voice_64 : decode cX12_voice 64 = .ok (.iload_n 3, 1) := by decide +kernel
theorem dX12_voice_65 : decode cX12_voice 65 = .ok (.iload_n 2, 1) := by decide +kernel
theorem dX12_voice_66 : decode cX12_voice 66 = .ok (.if_icmp .ge 37, 3) := by decide +kernel
theorem dX12_voice_69 : decode cX12_voice 69 = .ok (.aload_n 0, 1) := by decide +kernel
theorem dX12_voice_70 : decode cX12_voice 70 = .ok (.getfield 17, 3) := by decide +kernel
theorem dX12_voice_73 : decode cX12_voice 73 = .ok (.bipush 48, 2) := by decide +kernel
theorem dX12_voice_75 : decode cX12_voice 75 = .ok (.iload_n 1, 1) := by decide +kernel
theorem dX12_voice_76 : decode cX12_voice 76 = .ok (.imul, 1) := by decide +kernel
theorem dX12_voice_77 : decode cX12_voice 77 = .ok (.iload_n 3, 1) := by decide +kernel
theorem dX12_voice_78 : decode cX12_voice 78 = .ok (.iadd, 1) := by decide +kernel
theorem dX12_voice_79 : decode cX12_voice 79 = .ok (.iconst 0, 1) := by decide +kernel
theorem dX12_voice_80 : decode cX12_voice 80 = .ok (.iastore, 1) := by decide +kernel
theorem dX12_voice_81 : decode cX12_voice 81 = .ok (.aload_n 0, 1) := by decide +kernel
theorem dX12_voice_82 : decode cX12_voice 82 = .ok (.getfield 17, 3) := by decide +kernel
theorem dX12_voice_85 : decode cX12_voice 85 = .ok (.bipush 24, 2) := by decide +kernel
theorem dX12_voice_87 : decode cX12_voice 87 = .ok (.iconst 2, 1) := by decide +kernel
theorem dX12_voice_88 : decode cX12_voice 88 = .ok (.iload_n 1, 1) := by decide +kernel
theorem dX12_voice_89 : decode cX12_voice 89 = .ok (.imul, 1) := by decide +kernel
theorem dX12_voice_90 : decode cX12_voice 90 = .ok (.iconst 1, 1) := by decide +kernel
theorem dX12_voice_91 : decode cX12_voice 91 = .ok (.iadd, 1) := by decide +kernel
theorem dX12_voice_92 : decode cX12_voice 92 = .ok (.imul, 1) := by decide +kernel
theorem dX12_voice_93 : decode cX12_voice 93 = .ok (.iload_n 3, 1) := by decide +kernel
theorem dX12_voice_94 : decode cX12_voice 94 = .ok (.iadd, 1) := by decide +kernel
theorem dX12_voice_95 : decode cX12_voice 95 = .ok (.iconst 1, 1) := by decide +kernel
theorem dX12_voice_96 : decode cX12_voice 96 = .ok (.iastore, 1) := by decide +kernel
theorem dX12_voice_97 : decode cX12_voice 97 = .ok (.iinc 3 1, 3) := by decide +kernel
theorem dX12_voice_100 : decode cX12_voice 100 = .ok (.goto (-36), 3) := by decide +kernel
theorem dX12_voice_103 : decode cX12_voice 103 = .ok (.iconst 1, 1) := by decide +kernel
theorem dX12_voice_104 : decode cX12_voice 104 = .ok (.ireturn, 1) := by decide +kernel
theorem dX12_drop_0 : decode cX12_drop 0 = .ok (.iload_n 1, 1) := by decide +kernel
theorem dX12_drop_1 : decode cX12_drop 1 = .ok (.invokestatic 153, 3) := by decide +kernel
theorem dX12_drop_4 : decode cX12_drop 4 = .ok (.ifCond .ne 5, 3) := by decide +kernel
theorem dX12_drop_7 : decode cX12_drop 7 = .ok (.iconst (-1), 1) := by decide +kernel
theorem dX12_drop_8 : decode cX12_drop 8 = .ok (.ireturn, 1) := by decide +kernel
theorem dX12_drop_9 : decode cX12_drop 9 = .ok (.aload_n 0, 1) := by decide +kernel
theorem dX12_drop_10 : decode cX12_drop 10 = .ok (.iconst 0, 1) := by decide +kernel
theorem dX12_drop_11 : decode cX12_drop 11 = .ok (.putfield 126, 3) := by decide +kernel
theorem dX12_drop_14 : decode cX12_drop 14 = .ok (.aload_n 0, 1) := by decide +kernel
theorem dX12_drop_15 : decode cX12_drop 15 = .ok (.iload_n 1, 1) := by decide +kernel
theorem dX12_drop_16 : decode cX12_drop 16 = .ok (.invokevirtual 161, 3) := by decide +kernel
theorem dX12_drop_19 : decode cX12_drop 19 = .ok (.aload_n 0, 1) := by decide +kernel
theorem dX12_drop_20 : decode cX12_drop 20 = .ok (.getfield 9, 3) := by decide +kernel
theorem dX12_drop_23 : decode cX12_drop 23 = .ok (.iload_n 1, 1) := by decide +kernel
theorem dX12_drop_24 : decode cX12_drop 24 = .ok (.baload, 1) := by decide +kernel
theorem dX12_drop_25 : decode cX12_drop 25 = .ok (.ifCond .eq 7, 3) := by decide +kernel
theorem dX12_drop_28 : decode cX12_drop 28 = .ok (.iconst 1, 1) := by decide +kernel
theorem dX12_drop_29 : decode cX12_drop 29 = .ok (.goto 4, 3) := by decide +kernel
theorem dX12_drop_32 : decode cX12_drop 32 = .ok (.iconst 0, 1) := by decide +kernel
theorem dX12_drop_33 : decode cX12_drop 33 = .ok (.istore_n 2, 1) := by decide +kernel
theorem dX12_drop_34 : decode cX12_drop 34 = .ok (.aload_n 0, 1) := by decide +kernel
theorem dX12_drop_35 : decode cX12_drop 35 = .ok (.getfield 9, 3) := by decide +kernel
theorem dX12_drop_38 : decode cX12_drop 38 = .ok (.iload_n 1, 1) := by decide +kernel
theorem dX12_drop_39 : decode cX12_drop 39 = .ok (.iconst 0, 1) := by decide +kernel
theorem dX12_drop_40 : decode cX12_drop 40 = .ok (.bastore, 1) := by decide +kernel
theorem dX12_drop_41 : decode cX12_drop 41 = .ok (.iload_n 2, 1) := by decide +kernel
theorem dX12_drop_42 : decode cX12_drop 42 = .ok (.ireturn, 1) := by decide +kernel
theorem dX12_note_0 : decode cX12_note 0 = .ok (.iload_n 1, 1) := by decide +kernel
theorem dX12_note_1 : decode cX12_note 1 = .ok (.invokestatic 153, 3) := by decide +kernel
theorem dX12_note_4 : decode cX12_note 4 = .ok (.ifCond .eq 24, 3) := by decide +kernel
theorem dX12_note_7 : decode cX12_note 7 = .ok (.iload_n 3, 1) := by decide +kernel
theorem dX12_note_8 : decode cX12_note 8 = .ok (.iconst 0, 1) := by decide +kernel
theorem dX12_note_9 : decode cX12_note 9 = .ok (.bipush 120, 2) := by decide +kernel
theorem dX12_note_11 : decode cX12_note 11 = .ok (.invokestatic 129, 3) := by decide +kernel
theorem dX12_note_14 : decode cX12_note 14 = .ok (.ifCond .eq 14, 3) := by decide +kernel
theorem dX12_note_17 : decode cX12_note 17 = .ok (.iload 4, 2) := by decide +kernel
theorem dX12_note_19 : decode cX12_note 19 = .ok (.iconst 0, 1) := by decide +kernel
theorem dX12_note_20 : decode cX12_note 20 = .ok (.bipush 8, 2) := by decide +kernel
theorem dX12_note_22 : decode cX12_note 22 = .ok (.invokestatic 129, 3) := by decide +kernel
theorem dX12_note_25 : decode cX12_note 25 = .ok (.ifCond .ne 5, 3) := by decide +kernel
theorem dX12_note_28 : decode cX12_note 28 = .ok (.iconst (-1), 1) := by decide +kernel
theorem dX12_note_29 : decode cX12_note 29 = .ok (.ireturn, 1) := by decide +kernel
theorem dX12_note_30 : decode cX12_note 30 = .ok (.aload_n 0, 1) := by decide +kernel
theorem dX12_note_31 : decode cX12_note 31 = .ok (.iconst 0, 1) := by decide +kernel
theorem dX12_note_32 : decode cX12_note 32 = .ok (.putfield 126, 3) := by decide +kernel
theorem dX12_note_35 : decode cX12_note 35 = .ok (.aload_n 0, 1) := by decide +kernel
theorem dX12_note_36 : decode cX12_note 36 = .ok (.getfield 9, 3) := by decide +kernel
theorem dX12_note_39 : decode cX12_note 39 = .ok (.iload_n 1, 1) := by decide +kernel
theorem dX12_note_40 : decode cX12_note 40 = .ok (.baload, 1) := by decide +kernel
theorem dX12_note_41 : decode cX12_note 41 = .ok (.ifCond .ne 9, 3) := by decide +kernel
theorem dX12_note_44 : decode cX12_note 44 = .ok (.aload_n 0, 1) := by decide +kernel
theorem dX12_note_45 : decode cX12_note 45 = .ok (.iconst 1, 1) := by decide +kernel
theorem dX12_note_46 : decode cX12_note 46 = .ok (.invokevirtual 157, 3) := by decide +kernel
theorem dX12_note_49 : decode cX12_note 49 = .ok (.ireturn, 1) := by decide +kernel
theorem dX12_note_50 : decode cX12_note 50 = .ok (.iload_n 2, 1) := by decide +kernel
theorem dX12_note_51 : decode cX12_note 51 = .ok (.iconst 0, 1) := by decide +kernel
theorem dX12_note_52 : decode cX12_note 52 = .ok (.aload_n 0, 1) := by decide +kernel
theorem dX12_note_53 : decode cX12_note 53 = .ok (.getfield 13, 3) := by decide +kernel
theorem dX12_note_56 : decode cX12_note 56 = .ok (.iconst 2, 1) := by decide +kernel
theorem dX12_note_57 : decode cX12_note 57 = .ok (.iload_n 1, 1) := by decide +kernel
theorem dX12_note_58 : decode cX12_note 58 = .ok (.imul, 1) := by decide +kernel
theorem dX12_note_59 : decode cX12_note 59 = .ok (.iaload, 1) := by decide +kernel
theorem dX12_note_60 : decode cX12_note 60 = .ok (.iconst 1, 1) := by decide +kernel
theorem dX12_note_61 : decode cX12_note 61 = .ok (.isub, 1) := by decide +kernel
theorem dX12_note_62 : decode cX12_note 62 = .ok (.invokestatic 129, 3) := by decide +kernel
theorem dX12_note_65 : decode cX12_note 65 = .ok (.ifCond .eq 23, 3) := by decide +kernel
theorem dX12_note_68 : decode cX12_note 68 = .ok (.iload_n 2, 1) := by decide +kernel
theorem dX12_note_69 : decode cX12_note 69 = .ok (.iconst 0, 1) := by decide +kernel
theorem dX12_note_70 : decode cX12_note 70 = .ok (.aload_n 0, 1) := by decide +kernel
theorem dX12_note_71 : decode cX12_note 71 = .ok (.getfield 13, 3) := by decide +kernel
theorem dX12_note_74 : decode cX12_note 74 = .ok (.iconst 2, 1) := by decide +kernel
theorem dX12_note_75 : decode cX12_note 75 = .ok (.iload_n 1, 1) := by decide +kernel
theorem dX12_note_76 : decode cX12_note 76 = .ok (.imul, 1) := by decide +kernel
theorem dX12_note_77 : decode cX12_note 77 = .ok (.iconst 1, 1) := by decide +kernel
theorem dX12_note_78 : decode cX12_note 78 = .ok (.iadd, 1) := by decide +kernel
theorem dX12_note_79 : decode cX12_note 79 = .ok (.iaload, 1) := by decide +kernel
theorem dX12_note_80 : decode cX12_note 80 = .ok (.iconst 1, 1) := by decide +kernel
theorem dX12_note_81 : decode cX12_note 81 = .ok (.isub, 1) := by decide +kernel
theorem dX12_note_82 : decode cX12_note 82 = .ok (.invokestatic 129, 3) := by decide +kernel
theorem dX12_note_85 : decode cX12_note 85 = .ok (.ifCond .ne 9, 3) := by decide +kernel
theorem dX12_note_88 : decode cX12_note 88 = .ok (.aload_n 0, 1) := by decide +kernel
theorem dX12_note_89 : decode cX12_note 89 = .ok (.iconst 2, 1) := by decide +kernel
theorem dX12_note_90 : decode cX12_note 90 = .ok (.invokevirtual 157, 3) := by decide +kernel
theorem dX12_note_93 : decode cX12_note 93 = .ok (.ireturn, 1) := by decide +kernel
theorem dX12_note_94 : decode cX12_note 94 = .ok (.aload_n 0, 1) := by decide +kernel
theorem dX12_note_95 : decode cX12_note 95 = .ok (.iload_n 1, 1) := by decide +kernel
theorem dX12_note_96 : decode cX12_note 96 = .ok (.invokevirtual 161, 3) := by decide +kernel
theorem dX12_note_99 : decode cX12_note 99 = .ok (.aload_n 0, 1) := by decide +kernel
theorem dX12_note_100 : decode cX12_note 100 = .ok (.getfield 17, 3) := by decide +kernel
theorem dX12_note_103 : decode cX12_note 103 = .ok (.bipush 48, 2) := by decide +kernel
theorem dX12_note_105 : decode cX12_note 105 = .ok (.iload_n 1, 1) := by decide +kernel
theorem dX12_note_106 : decode cX12_note 106 = .ok (.imul, 1) := by decide +kernel
theorem dX12_note_107 : decode cX12_note 107 = .ok (.iload_n 2, 1) := by decide +kernel
theorem dX12_note_108 : decode cX12_note 108 = .ok (.iadd, 1) := by decide +kernel
theorem dX12_note_109 : decode cX12_note 109 = .ok (.iload_n 3, 1) := by decide +kernel
theorem dX12_note_110 : decode cX12_note 110 = .ok (.iastore, 1) := by decide +kernel
theorem dX12_note_111 : decode cX12_note 111 = .ok (.aload_n 0, 1) := by decide +kernel
theorem dX12_note_112 : decode cX12_note 112 = .ok (.getfield 17, 3) := by decide +kernel
theorem dX12_note_115 : decode cX12_note 115 = .ok (.bipush 24, 2) := by decide +kernel
theorem dX12_note_117 : decode cX12_note 117 = .ok (.iconst 2, 1) := by decide +kernel
theorem dX12_note_118 : decode cX12_note 118 = .ok (.iload_n 1, 1) := by decide +kernel
theorem dX12_note_119 : decode cX12_note 119 = .ok (.imul, 1) := by decide +kernel
theorem dX12_note_120 : decode cX12_note 120 = .ok (.iconst 1, 1) := by decide +kernel
theorem dX12_note_121 : decode cX12_note 121 = .ok (.iadd, 1) := by decide +kernel
theorem dX12_note_122 : decode cX12_note 122 = .ok (.imul, 1) := by decide +kernel
theorem dX12_note_123 : decode cX12_note 123 = .ok (.iload_n 2, 1) := by decide +kernel
theorem dX12_note_124 : decode cX12_note 124 = .ok (.iadd, 1) := by decide +kernel
theorem dX12_note_125 : decode cX12_note 125 = .ok (.iload 4, 2) := by decide +kernel
theorem dX12_note_127 : decode cX12_note 127 = .ok (.iastore, 1) := by decide +kernel
theorem dX12_note_128 : decode cX12_note 128 = .ok (.iconst 1, 1) := by decide +kernel
theorem dX12_note_129 : decode cX12_note 129 = .ok (.ireturn, 1) := by decide +kernel
theorem dX12_cut_0 : decode cX12_cut 0 = .ok (.iload_n 1, 1) := by decide +kernel
theorem dX12_cut_1 : decode cX12_cut 1 = .ok (.invokestatic 153, 3) := by decide +kernel
theorem dX12_cut_4 : decode cX12_cut 4 = .ok (.ifCond .eq 18, 3) := by decide +kernel
theorem dX12_cut_7 : decode cX12_cut 7 = .ok (.iload_n 2, 1) := by decide +kernel
theorem dX12_cut_8 : decode cX12_cut 8 = .ok (.iconst 0, 1) := by decide +kernel
theorem dX12_cut_9 : decode cX12_cut 9 = .ok (.iconst 1, 1) := by decide +kernel
theorem dX12_cut_10 : decode cX12_cut 10 = .ok (.invokestatic 129, 3) := by decide +kernel
theorem dX12_cut_13 : decode cX12_cut 13 = .ok (.ifCond .eq 9, 3) := by decide +kernel
theorem dX12_cut_16 : decode cX12_cut 16 = .ok (.iload_n 3, 1) := by decide +kernel
theorem dX12_cut_17 : decode cX12_cut 17 = .ok (.bipush 24, 2) := by decide +kernel
theorem dX12_cut_19 : decode cX12_cut 19 = .ok (.if_icmp .le 5, 3) := by decide +kernel
theorem dX12_cut_22 : decode cX12_cut 22 = .ok (.iconst (-1), 1) := by decide +kernel
theorem dX12_cut_23 : decode cX12_cut 23 = .ok (.ireturn, 1) := by decide +kernel
theorem dX12_cut_24 : decode cX12_cut 24 = .ok (.aload_n 0, 1) := by decide +kernel
theorem dX12_cut_25 : decode cX12_cut 25 = .ok (.iconst 0, 1) := by decide +kernel
theorem dX12_cut_26 : decode cX12_cut 26 = .ok (.putfield 126, 3) := by decide +kernel
theorem dX12_cut_29 : decode cX12_cut 29 = .ok (.aload_n 0, 1) := by decide +kernel
theorem dX12_cut_30 : decode cX12_cut 30 = .ok (.getfield 9, 3) := by decide +kernel
theorem dX12_cut_33 : decode cX12_cut 33 = .ok (.iload_n 1, 1) := by decide +kernel
theorem dX12_cut_34 : decode cX12_cut 34 = .ok (.baload, 1) := by decide +kernel
theorem dX12_cut_35 : decode cX12_cut 35 = .ok (.ifCond .ne 9, 3) := by decide +kernel
theorem dX12_cut_38 : decode cX12_cut 38 = .ok (.aload_n 0, 1) := by decide +kernel
theorem dX12_cut_39 : decode cX12_cut 39 = .ok (.iconst 1, 1) := by decide +kernel
theorem dX12_cut_40 : decode cX12_cut 40 = .ok (.invokevirtual 157, 3) := by decide +kernel
theorem dX12_cut_43 : decode cX12_cut 43 = .ok (.ireturn, 1) := by decide +kernel
theorem dX12_cut_44 : decode cX12_cut 44 = .ok (.iload_n 3, 1) := by decide +kernel
theorem dX12_cut_45 : decode cX12_cut 45 = .ok (.ifCond .ge 9, 3) := by decide +kernel
theorem dX12_cut_48 : decode cX12_cut 48 = .ok (.aload_n 0, 1) := by decide +kernel
theorem dX12_cut_49 : decode cX12_cut 49 = .ok (.iconst 5, 1) := by decide +kernel
theorem dX12_cut_50 : decode cX12_cut 50 = .ok (.invokevirtual 157, 3) := by decide +kernel
theorem dX12_cut_53 : decode cX12_cut 53 = .ok (.ireturn, 1) := by decide +kernel
theorem dX12_cut_54 : decode cX12_cut 54 = .ok (.aload_n 0, 1) := by decide +kernel
theorem dX12_cut_55 : decode cX12_cut 55 = .ok (.getfield 13, 3) := by decide +kernel
theorem dX12_cut_58 : decode cX12_cut 58 = .ok (.iconst 2, 1) := by decide +kernel
theorem dX12_cut_59 : decode cX12_cut 59 = .ok (.iload_n 1, 1) := by decide +kernel
theorem dX12_cut_60 : decode cX12_cut 60 = .ok (.imul, 1) := by decide +kernel
theorem dX12_cut_61 : decode cX12_cut 61 = .ok (.iload_n 2, 1) := by decide +kernel
theorem dX12_cut_62 : decode cX12_cut 62 = .ok (.iadd, 1) := by decide +kernel
theorem dX12_cut_63 : decode cX12_cut 63 = .ok (.iaload, 1) := by decide +kernel
theorem dX12_cut_64 : decode cX12_cut 64 = .ok (.istore 4, 2) := by decide +kernel
theorem dX12_cut_66 : decode cX12_cut 66 = .ok (.iload_n 3, 1) := by decide +kernel
theorem dX12_cut_67 : decode cX12_cut 67 = .ok (.iload 4, 2) := by decide +kernel
theorem dX12_cut_69 : decode cX12_cut 69 = .ok (.if_icmp .le 9, 3) := by decide +kernel
theorem dX12_cut_72 : decode cX12_cut 72 = .ok (.aload_n 0, 1) := by decide +kernel
theorem dX12_cut_73 : decode cX12_cut 73 = .ok (.iconst 2, 1) := by decide +kernel
theorem dX12_cut_74 : decode cX12_cut 74 = .ok (.invokevirtual 157, 3) := by decide +kernel
theorem dX12_cut_77 : decode cX12_cut 77 = .ok (.ireturn, 1) := by decide +kernel
theorem dX12_cut_78 : decode cX12_cut 78 = .ok (.aload_n 0, 1) := by decide +kernel
theorem dX12_cut_79 : decode cX12_cut 79 = .ok (.iload_n 1, 1) := by decide +kernel
theorem dX12_cut_80 : decode cX12_cut 80 = .ok (.invokevirtual 161, 3) := by decide +kernel
theorem dX12_cut_83 : decode cX12_cut 83 = .ok (.aload_n 0, 1) := by decide +kernel
theorem dX12_cut_84 : decode cX12_cut 84 = .ok (.getfield 13, 3) := by decide +kernel
theorem dX12_cut_87 : decode cX12_cut 87 = .ok (.iconst 2, 1) := by decide +kernel
theorem dX12_cut_88 : decode cX12_cut 88 = .ok (.iload_n 1, 1) := by decide +kernel
theorem dX12_cut_89 : decode cX12_cut 89 = .ok (.imul, 1) := by decide +kernel
theorem dX12_cut_90 : decode cX12_cut 90 = .ok (.iload_n 2, 1) := by decide +kernel
theorem dX12_cut_91 : decode cX12_cut 91 = .ok (.iadd, 1) := by decide +kernel
theorem dX12_cut_92 : decode cX12_cut 92 = .ok (.iload_n 3, 1) := by decide +kernel
theorem dX12_cut_93 : decode cX12_cut 93 = .ok (.iastore, 1) := by decide +kernel
theorem dX12_cut_94 : decode cX12_cut 94 = .ok (.iload 4, 2) := by decide +kernel
theorem dX12_cut_96 : decode cX12_cut 96 = .ok (.ireturn, 1) := by decide +kernel
theorem dX12_size_0 : decode cX12_size 0 = .ok (.iload_n 1, 1) := by decide +kernel
theorem dX12_size_1 : decode cX12_size 1 = .ok (.invokestatic 153, 3) := by decide +kernel
theorem dX12_size_4 : decode cX12_size 4 = .ok (.ifCond .eq 12, 3) := by decide +kernel
theorem dX12_size_7 : decode cX12_size 7 = .ok (.iload_n 2, 1) := by decide +kernel
theorem dX12_size_8 : decode cX12_size 8 = .ok (.iconst 0, 1) := by decide +kernel
theorem dX12_size_9 : decode cX12_size 9 = .ok (.iconst 1, 1) := by decide +kernel
theorem dX12_size_10 : decode cX12_size 10 = .ok (.invokestatic 129, 3) := by decide +kernel
theorem dX12_size_13 : decode cX12_size 13 = .ok (.ifCond .ne 5, 3) := by decide +kernel
theorem dX12_size_16 : decode cX12_size 16 = .ok (.iconst (-1), 1) := by decide +kernel
theorem dX12_size_17 : decode cX12_size 17 = .ok (.ireturn, 1) := by decide +kernel
theorem dX12_size_18 : decode cX12_size 18 = .ok (.aload_n 0, 1) := by decide +kernel
theorem dX12_size_19 : decode cX12_size 19 = .ok (.iconst 0, 1) := by decide +kernel
theorem dX12_size_20 : decode cX12_size 20 = .ok (.putfield 126, 3) := by decide +kernel
theorem dX12_size_23 : decode cX12_size 23 = .ok (.aload_n 0, 1) := by decide +kernel
theorem dX12_size_24 : decode cX12_size 24 = .ok (.getfield 9, 3) := by decide +kernel
theorem dX12_size_27 : decode cX12_size 27 = .ok (.iload_n 1, 1) := by decide +kernel
theorem dX12_size_28 : decode cX12_size 28 = .ok (.baload, 1) := by decide +kernel
theorem dX12_size_29 : decode cX12_size 29 = .ok (.ifCond .eq 16, 3) := by decide +kernel
theorem dX12_size_32 : decode cX12_size 32 = .ok (.aload_n 0, 1) := by decide +kernel
theorem dX12_size_33 : decode cX12_size 33 = .ok (.getfield 13, 3) := by decide +kernel
theorem dX12_size_36 : decode cX12_size 36 = .ok (.iconst 2, 1) := by decide +kernel
theorem dX12_size_37 : decode cX12_size 37 = .ok (.iload_n 1, 1) := by decide +kernel
theorem dX12_size_38 : decode cX12_size 38 = .ok (.imul, 1) := by decide +kernel
theorem dX12_size_39 : decode cX12_size 39 = .ok (.iload_n 2, 1) := by decide +kernel
theorem dX12_size_40 : decode cX12_size 40 = .ok (.iadd, 1) := by decide +kernel
theorem dX12_size_41 : decode cX12_size 41 = .ok (.iaload, 1) := by decide +kernel
theorem dX12_size_42 : decode cX12_size 42 = .ok (.goto 8, 3) := by decide +kernel
theorem dX12_size_45 : decode cX12_size 45 = .ok (.aload_n 0, 1) := by decide +kernel
theorem dX12_size_46 : decode cX12_size 46 = .ok (.iconst 1, 1) := by decide +kernel
theorem dX12_size_47 : decode cX12_size 47 = .ok (.invokevirtual 157, 3) := by decide +kernel
theorem dX12_size_50 : decode cX12_size 50 = .ok (.ireturn, 1) := by decide +kernel
theorem dX12_number_0 : decode cX12_number 0 = .ok (.iload_n 1, 1) := by decide +kernel
theorem dX12_number_1 : decode cX12_number 1 = .ok (.invokestatic 153, 3) := by decide +kernel
theorem dX12_number_4 : decode cX12_number 4 = .ok (.ifCond .eq 12, 3) := by decide +kernel
theorem dX12_number_7 : decode cX12_number 7 = .ok (.iload_n 2, 1) := by decide +kernel
theorem dX12_number_8 : decode cX12_number 8 = .ok (.iconst 0, 1) := by decide +kernel
theorem dX12_number_9 : decode cX12_number 9 = .ok (.iconst 1, 1) := by decide +kernel
theorem dX12_number_10 : decode cX12_number 10 = .ok (.invokestatic 129, 3) := by decide +kernel
theorem dX12_number_13 : decode cX12_number 13 = .ok (.ifCond .ne 5, 3) := by decide +kernel
theorem dX12_number_16 : decode cX12_number 16 = .ok (.iconst (-1), 1) := by decide +kernel
theorem dX12_number_17 : decode cX12_number 17 = .ok (.ireturn, 1) := by decide +kernel
theorem dX12_number_18 : decode cX12_number 18 = .ok (.aload_n 0, 1) := by decide +kernel
theorem dX12_number_19 : decode cX12_number 19 = .ok (.iconst 0, 1) := by decide +kernel
theorem dX12_number_20 : decode cX12_number 20 = .ok (.putfield 126, 3) := by decide +kernel
theorem dX12_number_23 : decode cX12_number 23 = .ok (.aload_n 0, 1) := by decide +kernel
theorem dX12_number_24 : decode cX12_number 24 = .ok (.getfield 9, 3) := by decide +kernel
theorem dX12_number_27 : decode cX12_number 27 = .ok (.iload_n 1, 1) := by decide +kernel
theorem dX12_number_28 : decode cX12_number 28 = .ok (.baload, 1) := by decide +kernel
theorem dX12_number_29 : decode cX12_number 29 = .ok (.ifCond .ne 9, 3) := by decide +kernel
theorem dX12_number_32 : decode cX12_number 32 = .ok (.aload_n 0, 1) := by decide +kernel
theorem dX12_number_33 : decode cX12_number 33 = .ok (.iconst 1, 1) := by decide +kernel
theorem dX12_number_34 : decode cX12_number 34 = .ok (.invokevirtual 157, 3) := by decide +kernel
theorem dX12_number_37 : decode cX12_number 37 = .ok (.ireturn, 1) := by decide +kernel
theorem dX12_number_38 : decode cX12_number 38 = .ok (.iload_n 3, 1) := by decide +kernel
theorem dX12_number_39 : decode cX12_number 39 = .ok (.iconst 0, 1) := by decide +kernel
theorem dX12_number_40 : decode cX12_number 40 = .ok (.aload_n 0, 1) := by decide +kernel
theorem dX12_number_41 : decode cX12_number 41 = .ok (.getfield 13, 3) := by decide +kernel
theorem dX12_number_44 : decode cX12_number 44 = .ok (.iconst 2, 1) := by decide +kernel
theorem dX12_number_45 : decode cX12_number 45 = .ok (.iload_n 1, 1) := by decide +kernel
theorem dX12_number_46 : decode cX12_number 46 = .ok (.imul, 1) := by decide +kernel
theorem dX12_number_47 : decode cX12_number 47 = .ok (.iload_n 2, 1) := by decide +kernel
theorem dX12_number_48 : decode cX12_number 48 = .ok (.iadd, 1) := by decide +kernel
theorem dX12_number_49 : decode cX12_number 49 = .ok (.iaload, 1) := by decide +kernel
theorem dX12_number_50 : decode cX12_number 50 = .ok (.iconst 1, 1) := by decide +kernel
theorem dX12_number_51 : decode cX12_number 51 = .ok (.isub, 1) := by decide +kernel
theorem dX12_number_52 : decode cX12_number 52 = .ok (.invokestatic 129, 3) := by decide +kernel
theorem dX12_number_55 : decode cX12_number 55 = .ok (.ifCond .eq 21, 3) := by decide +kernel
theorem dX12_number_58 : decode cX12_number 58 = .ok (.aload_n 0, 1) := by decide +kernel
theorem dX12_number_59 : decode cX12_number 59 = .ok (.getfield 17, 3) := by decide +kernel
theorem dX12_number_62 : decode cX12_number 62 = .ok (.bipush 24, 2) := by decide +kernel
theorem dX12_number_64 : decode cX12_number 64 = .ok (.iconst 2, 1) := by decide +kernel
theorem dX12_number_65 : decode cX12_number 65 = .ok (.iload_n 1, 1) := by decide +kernel
theorem dX12_number_66 : decode cX12_number 66 = .ok (.imul, 1) := by decide +kernel
theorem dX12_number_67 : decode cX12_number 67 = .ok (.iload_n 2, 1) := by decide +kernel
theorem dX12_number_68 : decode cX12_number 68 = .ok (.iadd, 1) := by decide +kernel
theorem dX12_number_69 : decode cX12_number 69 = .ok (.imul, 1) := by decide +kernel
theorem dX12_number_70 : decode cX12_number 70 = .ok (.iload_n 3, 1) := by decide +kernel
theorem dX12_number_71 : decode cX12_number 71 = .ok (.iadd, 1) := by decide +kernel
theorem dX12_number_72 : decode cX12_number 72 = .ok (.iaload, 1) := by decide +kernel
theorem dX12_number_73 : decode cX12_number 73 = .ok (.goto 8, 3) := by decide +kernel
theorem dX12_number_76 : decode cX12_number 76 = .ok (.aload_n 0, 1) := by decide +kernel
theorem dX12_number_77 : decode cX12_number 77 = .ok (.iconst 2, 1) := by decide +kernel
theorem dX12_number_78 : decode cX12_number 78 = .ok (.invokevirtual 157, 3) := by decide +kernel
theorem dX12_number_81 : decode cX12_number 81 = .ok (.ireturn, 1) := by decide +kernel
theorem dX12_end_0 : decode cX12_end 0 = .ok (.iload_n 1, 1) := by decide +kernel
theorem dX12_end_1 : decode cX12_end 1 = .ok (.invokestatic 153, 3) := by decide +kernel
theorem dX12_end_4 : decode cX12_end 4 = .ok (.ifCond .ne 5, 3) := by decide +kernel
theorem dX12_end_7 : decode cX12_end 7 = .ok (.iconst (-1), 1) := by decide +kernel
theorem dX12_end_8 : decode cX12_end 8 = .ok (.ireturn, 1) := by decide +kernel
theorem dX12_end_9 : decode cX12_end 9 = .ok (.aload_n 0, 1) := by decide +kernel
theorem dX12_end_10 : decode cX12_end 10 = .ok (.iconst 0, 1) := by decide +kernel
theorem dX12_end_11 : decode cX12_end 11 = .ok (.putfield 126, 3) := by decide +kernel
theorem dX12_end_14 : decode cX12_end 14 = .ok (.aload_n 0, 1) := by decide +kernel
theorem dX12_end_15 : decode cX12_end 15 = .ok (.iload_n 1, 1) := by decide +kernel
theorem dX12_end_16 : decode cX12_end 16 = .ok (.invokevirtual 165, 3) := by decide +kernel
theorem dX12_end_19 : decode cX12_end 19 = .ok (.istore_n 2, 1) := by decide +kernel
theorem dX12_end_20 : decode cX12_end 20 = .ok (.iload_n 2, 1) := by decide +kernel
theorem dX12_end_21 : decode cX12_end 21 = .ok (.ifCond .le 9, 3) := by decide +kernel
theorem dX12_end_24 : decode cX12_end 24 = .ok (.aload_n 0, 1) := by decide +kernel
theorem dX12_end_25 : decode cX12_end 25 = .ok (.iload_n 2, 1) := by decide +kernel
theorem dX12_end_26 : decode cX12_end 26 = .ok (.invokevirtual 157, 3) := by decide +kernel
theorem dX12_end_29 : decode cX12_end 29 = .ok (.ireturn, 1) := by decide +kernel
theorem dX12_end_30 : decode cX12_end 30 = .ok (.aload_n 0, 1) := by decide +kernel
theorem dX12_end_31 : decode cX12_end 31 = .ok (.iload_n 1, 1) := by decide +kernel
theorem dX12_end_32 : decode cX12_end 32 = .ok (.invokevirtual 168, 3) := by decide +kernel
theorem dX12_end_35 : decode cX12_end 35 = .ok (.aload_n 0, 1) := by decide +kernel
theorem dX12_end_36 : decode cX12_end 36 = .ok (.getfield 29, 3) := by decide +kernel
theorem dX12_end_39 : decode cX12_end 39 = .ok (.iload_n 1, 1) := by decide +kernel
theorem dX12_end_40 : decode cX12_end 40 = .ok (.iaload, 1) := by decide +kernel
theorem dX12_end_41 : decode cX12_end 41 = .ok (.ireturn, 1) := by decide +kernel
theorem dX12_sounds_0 : decode cX12_sounds 0 = .ok (.iload_n 1, 1) := by decide +kernel
theorem dX12_sounds_1 : decode cX12_sounds 1 = .ok (.invokestatic 153, 3) := by decide +kernel
theorem dX12_sounds_4 : decode cX12_sounds 4 = .ok (.ifCond .eq 7, 3) := by decide +kernel
theorem dX12_sounds_7 : decode cX12_sounds 7 = .ok (.iload_n 2, 1) := by decide +kernel
theorem dX12_sounds_8 : decode cX12_sounds 8 = .ok (.ifCond .ge 5, 3) := by decide +kernel
theorem dX12_sounds_11 : decode cX12_sounds 11 = .ok (.iconst (-1), 1) := by decide +kernel
theorem dX12_sounds_12 : decode cX12_sounds 12 = .ok (.ireturn, 1) := by decide +kernel
theorem dX12_sounds_13 : decode cX12_sounds 13 = .ok (.aload_n 0, 1) := by decide +kernel
theorem dX12_sounds_14 : decode cX12_sounds 14 = .ok (.iconst 0, 1) := by decide +kernel
theorem dX12_sounds_15 : decode cX12_sounds 15 = .ok (.putfield 126, 3) := by decide +kernel
theorem dX12_sounds_18 : decode cX12_sounds 18 = .ok (.aload_n 0, 1) := by decide +kernel
theorem dX12_sounds_19 : decode cX12_sounds 19 = .ok (.iload_n 1, 1) := by decide +kernel
theorem dX12_sounds_20 : decode cX12_sounds 20 = .ok (.invokevirtual 165, 3) := by decide +kernel
theorem dX12_sounds_23 : decode cX12_sounds 23 = .ok (.istore_n 3, 1) := by decide +kernel
theorem dX12_sounds_24 : decode cX12_sounds 24 = .ok (.iload_n 3, 1) := by decide +kernel
theorem dX12_sounds_25 : decode cX12_sounds 25 = .ok (.ifCond .le 9, 3) := by decide +kernel
theorem dX12_sounds_28 : decode cX12_sounds 28 = .ok (.aload_n 0, 1) := by decide +kernel
theorem dX12_sounds_29 : decode cX12_sounds 29 = .ok (.iload_n 3, 1) := by decide +kernel
theorem dX12_sounds_30 : decode cX12_sounds 30 = .ok (.invokevirtual 157, 3) := by decide +kernel
theorem dX12_sounds_33 : decode cX12_sounds 33 = .ok (.ireturn, 1) := by decide +kernel
theorem dX12_sounds_34 : decode cX12_sounds 34 = .ok (.aload_n 0, 1) := by decide +kernel
theorem dX12_sounds_35 : decode cX12_sounds 35 = .ok (.iload_n 1, 1) := by decide +kernel
theorem dX12_sounds_36 : decode cX12_sounds 36 = .ok (.invokevirtual 168, 3) := by decide +kernel
theorem dX12_sounds_39 : decode cX12_sounds 39 = .ok (.aload_n 0, 1) := by decide +kernel
theorem dX12_sounds_40 : decode cX12_sounds 40 = .ok (.iload_n 1, 1) := by decide +kernel
theorem dX12_sounds_41 : decode cX12_sounds 41 = .ok (.iload_n 2, 1) := by decide +kernel
theorem dX12_sounds_42 : decode cX12_sounds 42 = .ok (.invokevirtual 171, 3) := by decide +kernel
theorem dX12_sounds_45 : decode cX12_sounds 45 = .ok (.ireturn, 1) := by decide +kernel
theorem dX12_transpose_0 : decode cX12_transpose 0 = .ok (.iload_n 1, 1) := by decide +kernel
theorem dX12_transpose_1 : decode cX12_transpose 1 = .ok (.invokestatic 153, 3) := by decide +kernel
theorem dX12_transpose_4 : decode cX12_transpose 4 = .ok (.ifCond .eq 14, 3) := by decide +kernel
theorem dX12_transpose_7 : decode cX12_transpose 7 = .ok (.iload_n 2, 1) := by decide +kernel
theorem dX12_transpose_8 : decode cX12_transpose 8 = .ok (.bipush (-60), 2) := by decide +kernel
theorem dX12_transpose_10 : decode cX12_transpose 10 = .ok (.bipush 60, 2) := by decide +kernel
theorem dX12_transpose_12 : decode cX12_transpose 12 = .ok (.invokestatic 129, 3) := by decide +kernel
theorem dX12_transpose_15 : decode cX12_transpose 15 = .ok (.ifCond .ne 5, 3) := by decide +kernel
theorem dX12_transpose_18 : decode cX12_transpose 18 = .ok (.iconst (-1), 1) := by decide +kernel
theorem dX12_transpose_19 : decode cX12_transpose 19 = .ok (.ireturn, 1) := by decide +kernel
theorem dX12_transpose_20 : decode cX12_transpose 20 = .ok (.aload_n 0, 1) := by decide +kernel
theorem dX12_transpose_21 : decode cX12_transpose 21 = .ok (.iconst 0, 1) := by decide +kernel
theorem dX12_transpose_22 : decode cX12_transpose 22 = .ok (.putfield 126, 3) := by decide +kernel
theorem dX12_transpose_25 : decode cX12_transpose 25 = .ok (.aload_n 0, 1) := by decide +kernel
theorem dX12_transpose_26 : decode cX12_transpose 26 = .ok (.getfield 9, 3) := by decide +kernel
theorem dX12_transpose_29 : decode cX12_transpose 29 = .ok (.iload_n 1, 1) := by decide +kernel
theorem dX12_transpose_30 : decode cX12_transpose 30 = .ok (.baload, 1) := by decide +kernel
theorem dX12_transpose_31 : decode cX12_transpose 31 = .ok (.ifCond .ne 9, 3) := by decide +kernel
theorem dX12_transpose_34 : decode cX12_transpose 34 = .ok (.aload_n 0, 1) := by decide +kernel
theorem dX12_transpose_35 : decode cX12_transpose 35 = .ok (.iconst 1, 1) := by decide +kernel
theorem dX12_transpose_36 : decode cX12_transpose 36 = .ok (.invokevirtual 157, 3) := by decide +kernel
theorem dX12_transpose_39 : decode cX12_transpose 39 = .ok (.ireturn, 1) := by decide +kernel
theorem dX12_transpose_40 : decode cX12_transpose 40 = .ok (.iconst 0, 1) := by decide +kernel
theorem dX12_transpose_41 : decode cX12_transpose 41 = .ok (.istore_n 3, 1) := by decide +kernel
theorem dX12_transpose_42 : decode cX12_transpose 42 = .ok (.iconst 1, 1) := by decide +kernel
theorem dX12_transpose_43 : decode cX12_transpose 43 = .ok (.istore 4, 2) := by decide +kernel
theorem dX12_transpose_45 : decode cX12_transpose 45 = .ok (.iconst 0, 1) := by decide +kernel
theorem dX12_transpose_46 : decode cX12_transpose 46 = .ok (.istore 5, 2) := by decide +kernel
theorem dX12_transpose_48 : decode cX12_transpose 48 = .ok (.iload 5, 2) := by decide +kernel
theorem dX12_transpose_50 : decode cX12_transpose 50 = .ok (.aload_n 0, 1) := by decide +kernel
theorem dX12_transpose_51 : decode cX12_transpose 51 = .ok (.getfield 13, 3) := by decide +kernel
theorem dX12_transpose_54 : decode cX12_transpose 54 = .ok (.iconst 2, 1) := by decide +kernel
theorem dX12_transpose_55 : decode cX12_transpose 55 = .ok (.iload_n 1, 1) := by decide +kernel
theorem dX12_transpose_56 : decode cX12_transpose 56 = .ok (.imul, 1) := by decide +kernel
theorem dX12_transpose_57 : decode cX12_transpose 57 = .ok (.iaload, 1) := by decide +kernel
theorem dX12_transpose_58 : decode cX12_transpose 58 = .ok (.if_icmp .ge 61, 3) := by decide +kernel
theorem dX12_transpose_61 : decode cX12_transpose 61 = .ok (.aload_n 0, 1) := by decide +kernel
theorem dX12_transpose_62 : decode cX12_transpose 62 = .ok (.iload_n 1, 1) := by decide +kernel
theorem dX12_transpose_63 : decode cX12_transpose 63 = .ok (.iload 5, 2) := by decide +kernel
theorem dX12_transpose_65 : decode cX12_transpose 65 = .ok (.invokevirtual 150, 3) := by decide +kernel
theorem dX12_transpose_68 : decode cX12_transpose 68 = .ok (.istore 6, 2) := by decide +kernel
theorem dX12_transpose_70 : decode cX12_transpose 70 = .ok (.iload_n 3, 1) := by decide +kernel
theorem dX12_transpose_71 : decode cX12_transpose 71 = .ok (.iload 6, 2) := by decide +kernel
theorem dX12_transpose_73 : decode cX12_transpose 73 = .ok (.ifCond .le 7, 3) := by decide +kernel
theorem dX12_transpose_76 : decode cX12_transpose 76 = .ok (.iconst 1, 1) := by decide +kernel
theorem dX12_transpose_77 : decode cX12_transpose 77 = .ok (.goto 4, 3) := by decide +kernel
theorem dX12_transpose_80 : decode cX12_transpose 80 = .ok (.iconst 0, 1) := by decide +kernel
theorem dX12_transpose_81 : decode cX12_transpose 81 = .ok (.iadd, 1) := by decide +kernel
theorem dX12_transpose_82 : decode cX12_transpose 82 = .ok (.istore_n 3, 1) := by decide +kernel
theorem dX12_transpose_83 : decode cX12_transpose 83 = .ok (.iload 4, 2) := by decide +kernel
theorem dX12_transpose_85 : decode cX12_transpose 85 = .ok (.ifCond .eq 25, 3) := by decide +kernel
theorem dX12_transpose_88 : decode cX12_transpose 88 = .ok (.iload 6, 2) := by decide +kernel
theorem dX12_transpose_90 : decode cX12_transpose 90 = .ok (.ifCond .eq 16, 3) := by decide +kernel
theorem dX12_transpose_93 : decode cX12_transpose 93 = .ok (.iload 6, 2) := by decide +kernel
theorem dX12_transpose_95 : decode cX12_transpose 95 = .ok (.iload_n 2, 1) := by decide +kernel
theorem dX12_transpose_96 : decode cX12_transpose 96 = .ok (.iadd, 1) := by decide +kernel
theorem dX12_transpose_97 : decode cX12_transpose 97 = .ok (.iconst 1, 1) := by decide +kernel
theorem dX12_transpose_98 : decode cX12_transpose 98 = .ok (.bipush 120, 2) := by decide +kernel
theorem dX12_transpose_100 : decode cX12_transpose 100 = .ok (.invokestatic 129, 3) := by decide +kernel
theorem dX12_transpose_103 : decode cX12_transpose 103 = .ok (.ifCond .eq 7, 3) := by decide +kernel
theorem dX12_transpose_106 : decode cX12_transpose 106 = .ok (.iconst 1, 1) := by decide +kernel
theorem dX12_transpose_107 : decode cX12_transpose 107 = .ok (.goto 4, 3) := by decide +kernel
theorem dX12_transpose_110 : decode cX12_transpose 110 = .ok (.iconst 0, 1) := by decide +kernel
theorem dX12_transpose_111 : decode cX12_transpose 111 = .ok (.istore 4, 2) := by decide +kernel
theorem dX12_transpose_113 : decode cX12_transpose 113 = .ok (.iinc 5 1, 3) := by decide +kernel
theorem dX12_transpose_116 : decode cX12_transpose 116 = .ok (.goto (-68), 3) := by decide +kernel
theorem dX12_transpose_119 : decode cX12_transpose 119 = .ok (.iload 4, 2) := by decide +kernel
theorem dX12_transpose_121 : decode cX12_transpose 121 = .ok (.ifCond .ne 10, 3) := by decide +kernel
theorem dX12_transpose_124 : decode cX12_transpose 124 = .ok (.aload_n 0, 1) := by decide +kernel
theorem dX12_transpose_125 : decode cX12_transpose 125 = .ok (.bipush 6, 2) := by decide +kernel
theorem dX12_transpose_127 : decode cX12_transpose 127 = .ok (.invokevirtual 157, 3) := by decide +kernel
theorem dX12_transpose_130 : decode cX12_transpose 130 = .ok (.ireturn, 1) := by decide +kernel
theorem dX12_transpose_131 : decode cX12_transpose 131 = .ok (.aload_n 0, 1) := by decide +kernel
theorem dX12_transpose_132 : decode cX12_transpose 132 = .ok (.iload_n 1, 1) := by decide +kernel
theorem dX12_transpose_133 : decode cX12_transpose 133 = .ok (.invokevirtual 161, 3) := by decide +kernel
theorem dX12_transpose_136 : decode cX12_transpose 136 = .ok (.iconst 0, 1) := by decide +kernel
theorem dX12_transpose_137 : decode cX12_transpose 137 = .ok (.istore 5, 2) := by decide +kernel
theorem dX12_transpose_139 : decode cX12_transpose 139 = .ok (.iload 5, 2) := by decide +kernel
theorem dX12_transpose_141 : decode cX12_transpose 141 = .ok (.aload_n 0, 1) := by decide +kernel
theorem dX12_transpose_142 : decode cX12_transpose 142 = .ok (.getfield 13, 3) := by decide +kernel
theorem dX12_transpose_145 : decode cX12_transpose 145 = .ok (.iconst 2, 1) := by decide +kernel
theorem dX12_transpose_146 : decode cX12_transpose 146 = .ok (.iload_n 1, 1) := by decide +kernel
theorem dX12_transpose_147 : decode cX12_transpose 147 = .ok (.imul, 1) := by decide +kernel
theorem dX12_transpose_148 : decode cX12_transpose 148 = .ok (.iaload, 1) := by decide +kernel
theorem dX12_transpose_149 : decode cX12_transpose 149 = .ok (.if_icmp .ge 43, 3) := by decide +kernel
theorem dX12_transpose_152 : decode cX12_transpose 152 = .ok (.aload_n 0, 1) := by decide +kernel
theorem dX12_transpose_153 : decode cX12_transpose 153 = .ok (.iload_n 1, 1) := by decide +kernel
theorem dX12_transpose_154 : decode cX12_transpose 154 = .ok (.iload 5, 2) := by decide +kernel
theorem dX12_transpose_156 : decode cX12_transpose 156 = .ok (.invokevirtual 150, 3) := by decide +kernel
theorem dX12_transpose_159 : decode cX12_transpose 159 = .ok (.istore 6, 2) := by decide +kernel
theorem dX12_transpose_161 : decode cX12_transpose 161 = .ok (.aload_n 0, 1) := by decide +kernel
theorem dX12_transpose_162 : decode cX12_transpose 162 = .ok (.getfield 17, 3) := by decide +kernel
theorem dX12_transpose_165 : decode cX12_transpose 165 = .ok (.bipush 48, 2) := by decide +kernel
theorem dX12_transpose_167 : decode cX12_transpose 167 = .ok (.iload_n 1, 1) := by decide +kernel
theorem dX12_transpose_168 : decode cX12_transpose 168 = .ok (.imul, 1) := by decide +kernel
theorem dX12_transpose_169 : decode cX12_transpose 169 = .ok (.iload 5, 2) := by decide +kernel
theorem dX12_transpose_171 : decode cX12_transpose 171 = .ok (.iadd, 1) := by decide +kernel
theorem dX12_transpose_172 : decode cX12_transpose 172 = .ok (.iload 6, 2) := by decide +kernel
theorem dX12_transpose_174 : decode cX12_transpose 174 = .ok (.ifCond .le 10, 3) := by decide +kernel
theorem dX12_transpose_177 : decode cX12_transpose 177 = .ok (.iload 6, 2) := by decide +kernel
theorem dX12_transpose_179 : decode cX12_transpose 179 = .ok (.iload_n 2, 1) := by decide +kernel
theorem dX12_transpose_180 : decode cX12_transpose 180 = .ok (.iadd, 1) := by decide +kernel
theorem dX12_transpose_181 : decode cX12_transpose 181 = .ok (.goto 4, 3) := by decide +kernel
theorem dX12_transpose_184 : decode cX12_transpose 184 = .ok (.iconst 0, 1) := by decide +kernel
theorem dX12_transpose_185 : decode cX12_transpose 185 = .ok (.iastore, 1) := by decide +kernel
theorem dX12_transpose_186 : decode cX12_transpose 186 = .ok (.iinc 5 1, 3) := by decide +kernel
theorem dX12_transpose_189 : decode cX12_transpose 189 = .ok (.goto (-50), 3) := by decide +kernel
theorem dX12_transpose_192 : decode cX12_transpose 192 = .ok (.iload_n 3, 1) := by decide +kernel
theorem dX12_transpose_193 : decode cX12_transpose 193 = .ok (.ireturn, 1) := by decide +kernel
theorem dX12_copy_0 : decode cX12_copy 0 = .ok (.iload_n 1, 1) := by decide +kernel
theorem dX12_copy_1 : decode cX12_copy 1 = .ok (.invokestatic 153, 3) := by decide +kernel
theorem dX12_copy_4 : decode cX12_copy 4 = .ok (.ifCond .eq 10, 3) := by decide +kernel
theorem dX12_copy_7 : decode cX12_copy 7 = .ok (.iload_n 3, 1) := by decide +kernel
theorem dX12_copy_8 : decode cX12_copy 8 = .ok (.invokestatic 153, 3) := by decide +kernel
theorem dX12_copy_11 : decode cX12_copy 11 = .ok (.ifCond .ne 5, 3) := by decide +kernel
theorem dX12_copy_14 : decode cX12_copy 14 = .ok (.iconst (-1), 1) := by decide +kernel
theorem dX12_copy_15 : decode cX12_copy 15 = .ok (.ireturn, 1) := by decide +kernel
theorem dX12_copy_16 : decode cX12_copy 16 = .ok (.aload_n 0, 1) := by decide +kernel
theorem dX12_copy_17 : decode cX12_copy 17 = .ok (.iconst 0, 1) := by decide +kernel
theorem dX12_copy_18 : decode cX12_copy 18 = .ok (.putfield 126, 3) := by decide +kernel
theorem dX12_copy_21 : decode cX12_copy 21 = .ok (.aload_n 0, 1) := by decide +kernel
theorem dX12_copy_22 : decode cX12_copy 22 = .ok (.iconst 0, 1) := by decide +kernel
theorem dX12_copy_23 : decode cX12_copy 23 = .ok (.putfield 174, 3) := by decide +kernel
theorem dX12_copy_26 : decode cX12_copy 26 = .ok (.aload_n 0, 1) := by decide +kernel
theorem dX12_copy_27 : decode cX12_copy 27 = .ok (.getfield 9, 3) := by decide +kernel
theorem dX12_copy_30 : decode cX12_copy 30 = .ok (.iload_n 1, 1) := by decide +kernel
theorem dX12_copy_31 : decode cX12_copy 31 = .ok (.baload, 1) := by decide +kernel
theorem dX12_copy_32 : decode cX12_copy 32 = .ok (.ifCond .eq 12, 3) := by decide +kernel
theorem dX12_copy_35 : decode cX12_copy 35 = .ok (.aload_n 0, 1) := by decide +kernel
theorem dX12_copy_36 : decode cX12_copy 36 = .ok (.getfield 9, 3) := by decide +kernel
theorem dX12_copy_39 : decode cX12_copy 39 = .ok (.iload_n 3, 1) := by decide +kernel
theorem dX12_copy_40 : decode cX12_copy 40 = .ok (.baload, 1) := by decide +kernel
theorem dX12_copy_41 : decode cX12_copy 41 = .ok (.ifCond .ne 9, 3) := by decide +kernel
theorem dX12_copy_44 : decode cX12_copy 44 = .ok (.aload_n 0, 1) := by decide +kernel
theorem dX12_copy_45 : decode cX12_copy 45 = .ok (.iconst 1, 1) := by decide +kernel
theorem dX12_copy_46 : decode cX12_copy 46 = .ok (.invokevirtual 157, 3) := by decide +kernel
theorem dX12_copy_49 : decode cX12_copy 49 = .ok (.ireturn, 1) := by decide +kernel
theorem dX12_copy_50 : decode cX12_copy 50 = .ok (.aload_n 0, 1) := by decide +kernel
theorem dX12_copy_51 : decode cX12_copy 51 = .ok (.iconst 0, 1) := by decide +kernel
theorem dX12_copy_52 : decode cX12_copy 52 = .ok (.iload_n 1, 1) := by decide +kernel
theorem dX12_copy_53 : decode cX12_copy 53 = .ok (.iload_n 2, 1) := by decide +kernel
theorem dX12_copy_54 : decode cX12_copy 54 = .ok (.iload_n 3, 1) := by decide +kernel
theorem dX12_copy_55 : decode cX12_copy 55 = .ok (.iload 4, 2) := by decide +kernel
theorem dX12_copy_57 : decode cX12_copy 57 = .ok (.iload 5, 2) := by decide +kernel
theorem dX12_copy_59 : decode cX12_copy 59 = .ok (.invokevirtual 177, 3) := by decide +kernel
theorem dX12_copy_62 : decode cX12_copy 62 = .ok (.ifCond .eq 18, 3) := by decide +kernel
theorem dX12_copy_65 : decode cX12_copy 65 = .ok (.aload_n 0, 1) := by decide +kernel
theorem dX12_copy_66 : decode cX12_copy 66 = .ok (.iconst 1, 1) := by decide +kernel
theorem dX12_copy_67 : decode cX12_copy 67 = .ok (.iload_n 1, 1) := by decide +kernel
theorem dX12_copy_68 : decode cX12_copy 68 = .ok (.iload_n 2, 1) := by decide +kernel
theorem dX12_copy_69 : decode cX12_copy 69 = .ok (.iload_n 3, 1) := by decide +kernel
theorem dX12_copy_70 : decode cX12_copy 70 = .ok (.iload 4, 2) := by decide +kernel
theorem dX12_copy_72 : decode cX12_copy 72 = .ok (.iload 5, 2) := by decide +kernel
theorem dX12_copy_74 : decode cX12_copy 74 = .ok (.invokevirtual 177, 3) := by decide +kernel
theorem dX12_copy_77 : decode cX12_copy 77 = .ok (.ifCond .ne 9, 3) := by decide +kernel
theorem dX12_copy_80 : decode cX12_copy 80 = .ok (.aload_n 0, 1) := by decide +kernel
theorem dX12_copy_81 : decode cX12_copy 81 = .ok (.iconst 2, 1) := by decide +kernel
theorem dX12_copy_82 : decode cX12_copy 82 = .ok (.invokevirtual 157, 3) := by decide +kernel
theorem dX12_copy_85 : decode cX12_copy 85 = .ok (.ireturn, 1) := by decide +kernel
theorem dX12_copy_86 : decode cX12_copy 86 = .ok (.iload 5, 2) := by decide +kernel
theorem dX12_copy_88 : decode cX12_copy 88 = .ok (.ireturn, 1) := by decide +kernel
theorem dX12_undo_0 : decode cX12_undo 0 = .ok (.aload_n 0, 1) := by decide +kernel
theorem dX12_undo_1 : decode cX12_undo 1 = .ok (.iconst 0, 1) := by decide +kernel
theorem dX12_undo_2 : decode cX12_undo 2 = .ok (.putfield 126, 3) := by decide +kernel
theorem dX12_undo_5 : decode cX12_undo 5 = .ok (.aload_n 0, 1) := by decide +kernel
theorem dX12_undo_6 : decode cX12_undo 6 = .ok (.getfield 136, 3) := by decide +kernel
theorem dX12_undo_9 : decode cX12_undo 9 = .ok (.ifCond .ne 10, 3) := by decide +kernel
theorem dX12_undo_12 : decode cX12_undo 12 = .ok (.aload_n 0, 1) := by decide +kernel
theorem dX12_undo_13 : decode cX12_undo 13 = .ok (.bipush 7, 2) := by decide +kernel
theorem dX12_undo_15 : decode cX12_undo 15 = .ok (.invokevirtual 157, 3) := by decide +kernel
theorem dX12_undo_18 : decode cX12_undo 18 = .ok (.ireturn, 1) := by decide +kernel
theorem dX12_undo_19 : decode cX12_undo 19 = .ok (.aload_n 0, 1) := by decide +kernel
theorem dX12_undo_20 : decode cX12_undo 20 = .ok (.getfield 140, 3) := by decide +kernel
theorem dX12_undo_23 : decode cX12_undo 23 = .ok (.istore_n 1, 1) := by decide +kernel
theorem dX12_undo_24 : decode cX12_undo 24 = .ok (.aload_n 0, 1) := by decide +kernel
theorem dX12_undo_25 : decode cX12_undo 25 = .ok (.getfield 9, 3) := by decide +kernel
theorem dX12_undo_28 : decode cX12_undo 28 = .ok (.iload_n 1, 1) := by decide +kernel
theorem dX12_undo_29 : decode cX12_undo 29 = .ok (.aload_n 0, 1) := by decide +kernel
theorem dX12_undo_30 : decode cX12_undo 30 = .ok (.getfield 143, 3) := by decide +kernel
theorem dX12_undo_33 : decode cX12_undo 33 = .ok (.bastore, 1) := by decide +kernel
theorem dX12_undo_34 : decode cX12_undo 34 = .ok (.iconst 0, 1) := by decide +kernel
theorem dX12_undo_35 : decode cX12_undo 35 = .ok (.istore_n 2, 1) := by decide +kernel
theorem dX12_undo_36 : decode cX12_undo 36 = .ok (.iload_n 2, 1) := by decide +kernel
theorem dX12_undo_37 : decode cX12_undo 37 = .ok (.iconst 2, 1) := by decide +kernel
theorem dX12_undo_38 : decode cX12_undo 38 = .ok (.if_icmp .ge 65, 3) := by decide +kernel
theorem dX12_undo_41 : decode cX12_undo 41 = .ok (.aload_n 0, 1) := by decide +kernel
theorem dX12_undo_42 : decode cX12_undo 42 = .ok (.getfield 13, 3) := by decide +kernel
theorem dX12_undo_45 : decode cX12_undo 45 = .ok (.iconst 2, 1) := by decide +kernel
theorem dX12_undo_46 : decode cX12_undo 46 = .ok (.iload_n 1, 1) := by decide +kernel
theorem dX12_undo_47 : decode cX12_undo 47 = .ok (.imul, 1) := by decide +kernel
theorem dX12_undo_48 : decode cX12_undo 48 = .ok (.iload_n 2, 1) := by decide +kernel
theorem dX12_undo_49 : decode cX12_undo 49 = .ok (.iadd, 1) := by decide +kernel
theorem dX12_undo_50 : decode cX12_undo 50 = .ok (.aload_n 0, 1) := by decide +kernel
theorem dX12_undo_51 : decode cX12_undo 51 = .ok (.getfield 20, 3) := by decide +kernel
theorem dX12_undo_54 : decode cX12_undo 54 = .ok (.iload_n 2, 1) := by decide +kernel
theorem dX12_undo_55 : decode cX12_undo 55 = .ok (.iaload, 1) := by decide +kernel
theorem dX12_undo_56 : decode cX12_undo 56 = .ok (.iastore, 1) := by decide +kernel
theorem dX12_undo_57 : decode cX12_undo 57 = .ok (.iconst 0, 1) := by decide +kernel
theorem dX12_undo_58 : decode cX12_undo 58 = .ok (.istore_n 3, 1) := by decide +kernel
theorem dX12_undo_59 : decode cX12_undo 59 = .ok (.iload_n 3, 1) := by decide +kernel
theorem dX12_undo_60 : decode cX12_undo 60 = .ok (.bipush 24, 2) := by decide +kernel
theorem dX12_undo_62 : decode cX12_undo 62 = .ok (.if_icmp .ge 35, 3) := by decide +kernel
theorem dX12_undo_65 : decode cX12_undo 65 = .ok (.aload_n 0, 1) := by decide +kernel
theorem dX12_undo_66 : decode cX12_undo 66 = .ok (.getfield 17, 3) := by decide +kernel
theorem dX12_undo_69 : decode cX12_undo 69 = .ok (.bipush 24, 2) := by decide +kernel
theorem dX12_undo_71 : decode cX12_undo 71 = .ok (.iconst 2, 1) := by decide +kernel
theorem dX12_undo_72 : decode cX12_undo 72 = .ok (.iload_n 1, 1) := by decide +kernel
theorem dX12_undo_73 : decode cX12_undo 73 = .ok (.imul, 1) := by decide +kernel
theorem dX12_undo_74 : decode cX12_undo 74 = .ok (.iload_n 2, 1) := by decide +kernel
theorem dX12_undo_75 : decode cX12_undo 75 = .ok (.iadd, 1) := by decide +kernel
theorem dX12_undo_76 : decode cX12_undo 76 = .ok (.imul, 1) := by decide +kernel
theorem dX12_undo_77 : decode cX12_undo 77 = .ok (.iload_n 3, 1) := by decide +kernel
theorem dX12_undo_78 : decode cX12_undo 78 = .ok (.iadd, 1) := by decide +kernel
theorem dX12_undo_79 : decode cX12_undo 79 = .ok (.aload_n 0, 1) := by decide +kernel
theorem dX12_undo_80 : decode cX12_undo 80 = .ok (.getfield 23, 3) := by decide +kernel
theorem dX12_undo_83 : decode cX12_undo 83 = .ok (.bipush 24, 2) := by decide +kernel
theorem dX12_undo_85 : decode cX12_undo 85 = .ok (.iload_n 2, 1) := by decide +kernel
theorem dX12_undo_86 : decode cX12_undo 86 = .ok (.imul, 1) := by decide +kernel
theorem dX12_undo_87 : decode cX12_undo 87 = .ok (.iload_n 3, 1) := by decide +kernel
theorem dX12_undo_88 : decode cX12_undo 88 = .ok (.iadd, 1) := by decide +kernel
theorem dX12_undo_89 : decode cX12_undo 89 = .ok (.iaload, 1) := by decide +kernel
theorem dX12_undo_90 : decode cX12_undo 90 = .ok (.iastore, 1) := by decide +kernel
theorem dX12_undo_91 : decode cX12_undo 91 = .ok (.iinc 3 1, 3) := by decide +kernel
theorem dX12_undo_94 : decode cX12_undo 94 = .ok (.goto (-35), 3) := by decide +kernel
theorem dX12_undo_97 : decode cX12_undo 97 = .ok (.iinc 2 1, 3) := by decide +kernel
theorem dX12_undo_100 : decode cX12_undo 100 = .ok (.goto (-64), 3) := by decide +kernel
theorem dX12_undo_103 : decode cX12_undo 103 = .ok (.aload_n 0, 1) := by decide +kernel
theorem dX12_undo_104 : decode cX12_undo 104 = .ok (.iconst 0, 1) := by decide +kernel
theorem dX12_undo_105 : decode cX12_undo 105 = .ok (.putfield 136, 3) := by decide +kernel
theorem dX12_undo_108 : decode cX12_undo 108 = .ok (.iconst 1, 1) := by decide +kernel
theorem dX12_undo_109 : decode cX12_undo 109 = .ok (.ireturn, 1) := by decide +kernel
theorem dX12_rule_0 : decode cX12_rule 0 = .ok (.iload_n 1, 1) := by decide +kernel
theorem dX12_rule_1 : decode cX12_rule 1 = .ok (.invokestatic 181, 3) := by decide +kernel
theorem dX12_rule_4 : decode cX12_rule 4 = .ok (.ifCond .eq 12, 3) := by decide +kernel
theorem dX12_rule_7 : decode cX12_rule 7 = .ok (.iload_n 2, 1) := by decide +kernel
theorem dX12_rule_8 : decode cX12_rule 8 = .ok (.iconst 0, 1) := by decide +kernel
theorem dX12_rule_9 : decode cX12_rule 9 = .ok (.iconst 3, 1) := by decide +kernel
theorem dX12_rule_10 : decode cX12_rule 10 = .ok (.invokestatic 129, 3) := by decide +kernel
theorem dX12_rule_13 : decode cX12_rule 13 = .ok (.ifCond .ne 5, 3) := by decide +kernel
theorem dX12_rule_16 : decode cX12_rule 16 = .ok (.iconst (-1), 1) := by decide +kernel
theorem dX12_rule_17 : decode cX12_rule 17 = .ok (.ireturn, 1) := by decide +kernel
theorem dX12_rule_18 : decode cX12_rule 18 = .ok (.aload_n 0, 1) := by decide +kernel
theorem dX12_rule_19 : decode cX12_rule 19 = .ok (.iconst 0, 1) := by decide +kernel
theorem dX12_rule_20 : decode cX12_rule 20 = .ok (.putfield 126, 3) := by decide +kernel
theorem dX12_rule_23 : decode cX12_rule 23 = .ok (.aload_n 0, 1) := by decide +kernel
theorem dX12_rule_24 : decode cX12_rule 24 = .ok (.getfield 32, 3) := by decide +kernel
theorem dX12_rule_27 : decode cX12_rule 27 = .ok (.aload_n 0, 1) := by decide +kernel
theorem dX12_rule_28 : decode cX12_rule 28 = .ok (.getfield 184, 3) := by decide +kernel
theorem dX12_rule_31 : decode cX12_rule 31 = .ok (.iload_n 2, 1) := by decide +kernel
theorem dX12_rule_32 : decode cX12_rule 32 = .ok (.iastore, 1) := by decide +kernel
theorem dX12_rule_33 : decode cX12_rule 33 = .ok (.aload_n 0, 1) := by decide +kernel
theorem dX12_rule_34 : decode cX12_rule 34 = .ok (.getfield 53, 3) := by decide +kernel
theorem dX12_rule_37 : decode cX12_rule 37 = .ok (.iload_n 1, 1) := by decide +kernel
theorem dX12_rule_38 : decode cX12_rule 38 = .ok (.iconst 1, 1) := by decide +kernel
theorem dX12_rule_39 : decode cX12_rule 39 = .ok (.iastore, 1) := by decide +kernel
theorem dX12_rule_40 : decode cX12_rule 40 = .ok (.aload_n 0, 1) := by decide +kernel
theorem dX12_rule_41 : decode cX12_rule 41 = .ok (.getfield 56, 3) := by decide +kernel
theorem dX12_rule_44 : decode cX12_rule 44 = .ok (.iload_n 1, 1) := by decide +kernel
theorem dX12_rule_45 : decode cX12_rule 45 = .ok (.aload_n 0, 1) := by decide +kernel
theorem dX12_rule_46 : decode cX12_rule 46 = .ok (.getfield 184, 3) := by decide +kernel
theorem dX12_rule_49 : decode cX12_rule 49 = .ok (.iastore, 1) := by decide +kernel
theorem dX12_rule_50 : decode cX12_rule 50 = .ok (.aload_n 0, 1) := by decide +kernel
theorem dX12_rule_51 : decode cX12_rule 51 = .ok (.dup, 1) := by decide +kernel
theorem dX12_rule_52 : decode cX12_rule 52 = .ok (.getfield 184, 3) := by decide +kernel
theorem dX12_rule_55 : decode cX12_rule 55 = .ok (.iconst 1, 1) := by decide +kernel
theorem dX12_rule_56 : decode cX12_rule 56 = .ok (.iadd, 1) := by decide +kernel
theorem dX12_rule_57 : decode cX12_rule 57 = .ok (.putfield 184, 3) := by decide +kernel
theorem dX12_rule_60 : decode cX12_rule 60 = .ok (.iconst 1, 1) := by decide +kernel
theorem dX12_rule_61 : decode cX12_rule 61 = .ok (.ireturn, 1) := by decide +kernel
theorem dX12_school_0 : decode cX12_school 0 = .ok (.iload_n 1, 1) := by decide +kernel
theorem dX12_school_1 : decode cX12_school 1 = .ok (.invokestatic 181, 3) := by decide +kernel
theorem dX12_school_4 : decode cX12_school 4 = .ok (.ifCond .eq 18, 3) := by decide +kernel
theorem dX12_school_7 : decode cX12_school 7 = .ok (.iload_n 2, 1) := by decide +kernel
theorem dX12_school_8 : decode cX12_school 8 = .ok (.iconst 0, 1) := by decide +kernel
theorem dX12_school_9 : decode cX12_school 9 = .ok (.iconst 2, 1) := by decide +kernel
theorem dX12_school_10 : decode cX12_school 10 = .ok (.invokestatic 129, 3) := by decide +kernel
theorem dX12_school_13 : decode cX12_school 13 = .ok (.ifCond .eq 9, 3) := by decide +kernel
theorem dX12_school_16 : decode cX12_school 16 = .ok (.iload_n 3, 1) := by decide +kernel
theorem dX12_school_17 : decode cX12_school 17 = .ok (.bipush 8, 2) := by decide +kernel
theorem dX12_school_19 : decode cX12_school 19 = .ok (.if_icmp .le 5, 3) := by decide +kernel
theorem dX12_school_22 : decode cX12_school 22 = .ok (.iconst (-1), 1) := by decide +kernel
theorem dX12_school_23 : decode cX12_school 23 = .ok (.ireturn, 1) := by decide +kernel
theorem dX12_school_24 : decode cX12_school 24 = .ok (.aload_n 0, 1) := by decide +kernel
theorem dX12_school_25 : decode cX12_school 25 = .ok (.iconst 0, 1) := by decide +kernel
theorem dX12_school_26 : decode cX12_school 26 = .ok (.putfield 126, 3) := by decide +kernel
theorem dX12_school_29 : decode cX12_school 29 = .ok (.iload_n 3, 1) := by decide +kernel
theorem dX12_school_30 : decode cX12_school 30 = .ok (.ifCond .ge 9, 3) := by decide +kernel
theorem dX12_school_33 : decode cX12_school 33 = .ok (.aload_n 0, 1) := by decide +kernel
theorem dX12_school_34 : decode cX12_school 34 = .ok (.iconst 5, 1) := by decide +kernel
theorem dX12_school_35 : decode cX12_school 35 = .ok (.invokevirtual 157, 3) := by decide +kernel
theorem dX12_school_38 : decode cX12_school 38 = .ok (.ireturn, 1) := by decide +kernel
theorem dX12_school_39 : decode cX12_school 39 = .ok (.aload_n 0, 1) := by decide +kernel
theorem dX12_school_40 : decode cX12_school 40 = .ok (.getfield 44, 3) := by decide +kernel
theorem dX12_school_43 : decode cX12_school 43 = .ok (.aload_n 0, 1) := by decide +kernel
theorem dX12_school_44 : decode cX12_school 44 = .ok (.getfield 187, 3) := by decide +kernel
theorem dX12_school_47 : decode cX12_school 47 = .ok (.iload_n 2, 1) := by decide +kernel
theorem dX12_school_48 : decode cX12_school 48 = .ok (.iastore, 1) := by decide +kernel
theorem dX12_school_49 : decode cX12_school 49 = .ok (.aload_n 0, 1) := by decide +kernel
theorem dX12_school_50 : decode cX12_school 50 = .ok (.getfield 47, 3) := by decide +kernel
theorem dX12_school_53 : decode cX12_school 53 = .ok (.aload_n 0, 1) := by decide +kernel
theorem dX12_school_54 : decode cX12_school 54 = .ok (.getfield 187, 3) := by decide +kernel
theorem dX12_school_57 : decode cX12_school 57 = .ok (.iload_n 3, 1) := by decide +kernel
theorem dX12_school_58 : decode cX12_school 58 = .ok (.iastore, 1) := by decide +kernel
theorem dX12_school_59 : decode cX12_school 59 = .ok (.iconst 0, 1) := by decide +kernel
theorem dX12_school_60 : decode cX12_school 60 = .ok (.istore 4, 2) := by decide +kernel
theorem dX12_school_62 : decode cX12_school 62 = .ok (.iload 4, 2) := by decide +kernel
theorem dX12_school_64 : decode cX12_school 64 = .ok (.bipush 8, 2) := by decide +kernel
theorem dX12_school_66 : decode cX12_school 66 = .ok (.if_icmp .ge 25, 3) := by decide +kernel
theorem dX12_school_69 : decode cX12_school 69 = .ok (.aload_n 0, 1) := by decide +kernel
theorem dX12_school_70 : decode cX12_school 70 = .ok (.getfield 50, 3) := by decide +kernel
theorem dX12_school_73 : decode cX12_school 73 = .ok (.bipush 8, 2) := by decide +kernel
theorem dX12_school_75 : decode cX12_school 75 = .ok (.aload_n 0, 1) := by decide +kernel
theorem dX12_school_76 : decode cX12_school 76 = .ok (.getfield 187, 3) := by decide +kernel
theorem dX12_school_79 : decode cX12_school 79 = .ok (.imul, 1) := by decide +kernel
theorem dX12_school_80 : decode cX12_school 80 = .ok (.iload 4, 2) := by decide +kernel
theorem dX12_school_82 : decode cX12_school 82 = .ok (.iadd, 1) := by decide +kernel
theorem dX12_school_83 : decode cX12_school 83 = .ok (.iconst (-1), 1) := by decide +kernel
theorem dX12_school_84 : decode cX12_school 84 = .ok (.iastore, 1) := by decide +kernel
theorem dX12_school_85 : decode cX12_school 85 = .ok (.iinc 4 1, 3) := by decide +kernel
theorem dX12_school_88 : decode cX12_school 88 = .ok (.goto (-26), 3) := by decide +kernel
theorem dX12_school_91 : decode cX12_school 91 = .ok (.aload_n 0, 1) := by decide +kernel
theorem dX12_school_92 : decode cX12_school 92 = .ok (.getfield 53, 3) := by decide +kernel
theorem dX12_school_95 : decode cX12_school 95 = .ok (.iload_n 1, 1) := by decide +kernel
theorem dX12_school_96 : decode cX12_school 96 = .ok (.iconst 2, 1) := by decide +kernel
theorem dX12_school_97 : decode cX12_school 97 = .ok (.iastore, 1) := by decide +kernel
theorem dX12_school_98 : decode cX12_school 98 = .ok (.aload_n 0, 1) := by decide +kernel
theorem dX12_school_99 : decode cX12_school 99 = .ok (.getfield 56, 3) := by decide +kernel
theorem dX12_school_102 : decode cX12_school 102 = .ok (.iload_n 1, 1) := by decide +kernel
theorem dX12_school_103 : decode cX12_school 103 = .ok (.aload_n 0, 1) := by decide +kernel
theorem dX12_school_104 : decode cX12_school 104 = .ok (.getfield 187, 3) := by decide +kernel
theorem dX12_school_107 : decode cX12_school 107 = .ok (.iastore, 1) := by decide +kernel
theorem dX12_school_108 : decode cX12_school 108 = .ok (.aload_n 0, 1) := by decide +kernel
theorem dX12_school_109 : decode cX12_school 109 = .ok (.dup, 1) := by decide +kernel
theorem dX12_school_110 : decode cX12_school 110 = .ok (.getfield 187, 3) := by decide +kernel
theorem dX12_school_113 : decode cX12_school 113 = .ok (.iconst 1, 1) := by decide +kernel
theorem dX12_school_114 : decode cX12_school 114 = .ok (.iadd, 1) := by decide +kernel
theorem dX12_school_115 : decode cX12_school 115 = .ok (.putfield 187, 3) := by decide +kernel
theorem dX12_school_118 : decode cX12_school 118 = .ok (.iconst 1, 1) := by decide +kernel
theorem dX12_school_119 : decode cX12_school 119 = .ok (.ireturn, 1) := by decide +kernel
theorem dX12_clear_0 : decode cX12_clear 0 = .ok (.iload_n 1, 1) := by decide +kernel
theorem dX12_clear_1 : decode cX12_clear 1 = .ok (.invokestatic 181, 3) := by decide +kernel
theorem dX12_clear_4 : decode cX12_clear 4 = .ok (.ifCond .ne 5, 3) := by decide +kernel
theorem dX12_clear_7 : decode cX12_clear 7 = .ok (.iconst (-1), 1) := by decide +kernel
theorem dX12_clear_8 : decode cX12_clear 8 = .ok (.ireturn, 1) := by decide +kernel
theorem dX12_clear_9 : decode cX12_clear 9 = .ok (.aload_n 0, 1) := by decide +kernel
theorem dX12_clear_10 : decode cX12_clear 10 = .ok (.iconst 0, 1) := by decide +kernel
theorem dX12_clear_11 : decode cX12_clear 11 = .ok (.putfield 126, 3) := by decide +kernel
theorem dX12_clear_14 : decode cX12_clear 14 = .ok (.aload_n 0, 1) := by decide +kernel
theorem dX12_clear_15 : decode cX12_clear 15 = .ok (.getfield 53, 3) := by decide +kernel
theorem dX12_clear_18 : decode cX12_clear 18 = .ok (.iload_n 1, 1) := by decide +kernel
theorem dX12_clear_19 : decode cX12_clear 19 = .ok (.iaload, 1) := by decide +kernel
theorem dX12_clear_20 : decode cX12_clear 20 = .ok (.ifCond .le 7, 3) := by decide +kernel
theorem dX12_clear_23 : decode cX12_clear 23 = .ok (.iconst 1, 1) := by decide +kernel
theorem dX12_clear_24 : decode cX12_clear 24 = .ok (.goto 4, 3) := by decide +kernel
theorem dX12_clear_27 : decode cX12_clear 27 = .ok (.iconst 0, 1) := by decide +kernel
theorem dX12_clear_28 : decode cX12_clear 28 = .ok (.istore_n 2, 1) := by decide +kernel
theorem dX12_clear_29 : decode cX12_clear 29 = .ok (.aload_n 0, 1) := by decide +kernel
theorem dX12_clear_30 : decode cX12_clear 30 = .ok (.getfield 53, 3) := by decide +kernel
theorem dX12_clear_33 : decode cX12_clear 33 = .ok (.iload_n 1, 1) := by decide +kernel
theorem dX12_clear_34 : decode cX12_clear 34 = .ok (.iconst 0, 1) := by decide +kernel
theorem dX12_clear_35 : decode cX12_clear 35 = .ok (.iastore, 1) := by decide +kernel
theorem dX12_clear_36 : decode cX12_clear 36 = .ok (.iload_n 2, 1) := by decide +kernel
theorem dX12_clear_37 : decode cX12_clear 37 = .ok (.ireturn, 1) := by decide +kernel
theorem dX12_truth_0 : decode cX12_truth 0 = .ok (.iload_n 1, 1) := by decide +kernel
theorem dX12_truth_1 : decode cX12_truth 1 = .ok (.invokestatic 181, 3) := by decide +kernel
theorem dX12_truth_4 : decode cX12_truth 4 = .ok (.ifCond .eq 12, 3) := by decide +kernel
theorem dX12_truth_7 : decode cX12_truth 7 = .ok (.iload_n 2, 1) := by decide +kernel
theorem dX12_truth_8 : decode cX12_truth 8 = .ok (.iconst 0, 1) := by decide +kernel
theorem dX12_truth_9 : decode cX12_truth 9 = .ok (.iconst 2, 1) := by decide +kernel
theorem dX12_truth_10 : decode cX12_truth 10 = .ok (.invokestatic 129, 3) := by decide +kernel
theorem dX12_truth_13 : decode cX12_truth 13 = .ok (.ifCond .ne 5, 3) := by decide +kernel
theorem dX12_truth_16 : decode cX12_truth 16 = .ok (.iconst (-1), 1) := by decide +kernel
theorem dX12_truth_17 : decode cX12_truth 17 = .ok (.ireturn, 1) := by decide +kernel
theorem dX12_truth_18 : decode cX12_truth 18 = .ok (.aload_n 0, 1) := by decide +kernel
theorem dX12_truth_19 : decode cX12_truth 19 = .ok (.iconst 0, 1) := by decide +kernel
theorem dX12_truth_20 : decode cX12_truth 20 = .ok (.putfield 126, 3) := by decide +kernel
theorem dX12_truth_23 : decode cX12_truth 23 = .ok (.aload_n 0, 1) := by decide +kernel
theorem dX12_truth_24 : decode cX12_truth 24 = .ok (.getfield 53, 3) := by decide +kernel
theorem dX12_truth_27 : decode cX12_truth 27 = .ok (.iload_n 1, 1) := by decide +kernel
theorem dX12_truth_28 : decode cX12_truth 28 = .ok (.iaload, 1) := by decide +kernel
theorem dX12_truth_29 : decode cX12_truth 29 = .ok (.iconst 2, 1) := by decide +kernel
theorem dX12_truth_30 : decode cX12_truth 30 = .ok (.if_icmp .eq 27, 3) := by decide +kernel
theorem dX12_truth_33 : decode cX12_truth 33 = .ok (.aload_n 0, 1) := by decide +kernel
theorem dX12_truth_34 : decode cX12_truth 34 = .ok (.getfield 53, 3) := by decide +kernel
theorem dX12_truth_37 : decode cX12_truth 37 = .ok (.iload_n 1, 1) := by decide +kernel
theorem dX12_truth_38 : decode cX12_truth 38 = .ok (.iaload, 1) := by decide +kernel
theorem dX12_truth_39 : decode cX12_truth 39 = .ok (.iconst 1, 1) := by decide +kernel
theorem dX12_truth_40 : decode cX12_truth 40 = .ok (.if_icmp .ne 23, 3) := by decide +kernel
theorem dX12_truth_43 : decode cX12_truth 43 = .ok (.aload_n 0, 1) := by decide +kernel
theorem dX12_truth_44 : decode cX12_truth 44 = .ok (.aload_n 0, 1) := by decide +kernel
theorem dX12_truth_45 : decode cX12_truth 45 = .ok (.getfield 56, 3) := by decide +kernel
theorem dX12_truth_48 : decode cX12_truth 48 = .ok (.iload_n 1, 1) := by decide +kernel
theorem dX12_truth_49 : decode cX12_truth 49 = .ok (.iaload, 1) := by decide +kernel
theorem dX12_truth_50 : decode cX12_truth 50 = .ok (.iload_n 2, 1) := by decide +kernel
theorem dX12_truth_51 : decode cX12_truth 51 = .ok (.invokevirtual 190, 3) := by decide +kernel
theorem dX12_truth_54 : decode cX12_truth 54 = .ok (.ifCond .ne 9, 3) := by decide +kernel
theorem dX12_truth_57 : decode cX12_truth 57 = .ok (.aload_n 0, 1) := by decide +kernel
theorem dX12_truth_58 : decode cX12_truth 58 = .ok (.iconst 3, 1) := by decide +kernel
theorem dX12_truth_59 : decode cX12_truth 59 = .ok (.invokevirtual 157, 3) := by decide +kernel
theorem dX12_truth_62 : decode cX12_truth 62 = .ok (.ireturn, 1) := by decide +kernel
theorem dX12_truth_63 : decode cX12_truth 63 = .ok (.aload_n 0, 1) := by decide +kernel
theorem dX12_truth_64 : decode cX12_truth 64 = .ok (.getfield 53, 3) := by decide +kernel
theorem dX12_truth_67 : decode cX12_truth 67 = .ok (.iload_n 1, 1) := by decide +kernel
theorem dX12_truth_68 : decode cX12_truth 68 = .ok (.iaload, 1) := by decide +kernel
theorem dX12_truth_69 : decode cX12_truth 69 = .ok (.ifCond .ne 9, 3) := by decide +kernel
theorem dX12_truth_72 : decode cX12_truth 72 = .ok (.aload_n 0, 1) := by decide +kernel
theorem dX12_truth_73 : decode cX12_truth 73 = .ok (.iconst 1, 1) := by decide +kernel
theorem dX12_truth_74 : decode cX12_truth 74 = .ok (.invokevirtual 157, 3) := by decide +kernel
theorem dX12_truth_77 : decode cX12_truth 77 = .ok (.ireturn, 1) := by decide +kernel
theorem dX12_truth_78 : decode cX12_truth 78 = .ok (.iload_n 2, 1) := by decide +kernel
theorem dX12_truth_79 : decode cX12_truth 79 = .ok (.ifCond .ne 8, 3) := by decide +kernel
theorem dX12_truth_82 : decode cX12_truth 82 = .ok (.bipush 12, 2) := by decide +kernel
theorem dX12_truth_84 : decode cX12_truth 84 = .ok (.goto 15, 3) := by decide +kernel
theorem dX12_truth_87 : decode cX12_truth 87 = .ok (.iload_n 2, 1) := by decide +kernel
theorem dX12_truth_88 : decode cX12_truth 88 = .ok (.iconst 1, 1) := by decide +kernel
theorem dX12_truth_89 : decode cX12_truth 89 = .ok (.if_icmp .ne 8, 3) := by decide +kernel
theorem dX12_truth_92 : decode cX12_truth 92 = .ok (.bipush 48, 2) := by decide +kernel
theorem dX12_truth_94 : decode cX12_truth 94 = .ok (.goto 5, 3) := by decide +kernel
theorem dX12_truth_97 : decode cX12_truth 97 = .ok (.bipush 25, 2) := by decide +kernel
theorem dX12_truth_99 : decode cX12_truth 99 = .ok (.istore 5, 2) := by decide +kernel
theorem dX12_truth_101 : decode cX12_truth 101 = .ok (.iload_n 3, 1) := by decide +kernel
theorem dX12_truth_102 : decode cX12_truth 102 = .ok (.iconst 0, 1) := by decide +kernel
theorem dX12_truth_103 : decode cX12_truth 103 = .ok (.iload 5, 2) := by decide +kernel
theorem dX12_truth_105 : decode cX12_truth 105 = .ok (.iconst 1, 1) := by decide +kernel
theorem dX12_truth_106 : decode cX12_truth 106 = .ok (.isub, 1) := by decide +kernel
theorem dX12_truth_107 : decode cX12_truth 107 = .ok (.invokestatic 129, 3) := by decide +kernel
theorem dX12_truth_110 : decode cX12_truth 110 = .ok (.ifCond .ne 9, 3) := by decide +kernel
theorem dX12_truth_113 : decode cX12_truth 113 = .ok (.aload_n 0, 1) := by decide +kernel
theorem dX12_truth_114 : decode cX12_truth 114 = .ok (.iconst 2, 1) := by decide +kernel
theorem dX12_truth_115 : decode cX12_truth 115 = .ok (.invokevirtual 157, 3) := by decide +kernel
theorem dX12_truth_118 : decode cX12_truth 118 = .ok (.ireturn, 1) := by decide +kernel
theorem dX12_truth_119 : decode cX12_truth 119 = .ok (.aload_n 0, 1) := by decide +kernel
theorem dX12_truth_120 : decode cX12_truth 120 = .ok (.iload_n 2, 1) := by decide +kernel
theorem dX12_truth_121 : decode cX12_truth 121 = .ok (.ifCond .ne 10, 3) := by decide +kernel
theorem dX12_truth_124 : decode cX12_truth 124 = .ok (.aload_n 0, 1) := by decide +kernel
theorem dX12_truth_125 : decode cX12_truth 125 = .ok (.getfield 35, 3) := by decide +kernel
theorem dX12_truth_128 : decode cX12_truth 128 = .ok (.goto 19, 3) := by decide +kernel
theorem dX12_truth_131 : decode cX12_truth 131 = .ok (.iload_n 2, 1) := by decide +kernel
theorem dX12_truth_132 : decode cX12_truth 132 = .ok (.iconst 1, 1) := by decide +kernel
theorem dX12_truth_133 : decode cX12_truth 133 = .ok (.if_icmp .ne 10, 3) := by decide +kernel
theorem dX12_truth_136 : decode cX12_truth 136 = .ok (.aload_n 0, 1) := by decide +kernel
theorem dX12_truth_137 : decode cX12_truth 137 = .ok (.getfield 38, 3) := by decide +kernel
theorem dX12_truth_140 : decode cX12_truth 140 = .ok (.goto 7, 3) := by decide +kernel
theorem dX12_truth_143 : decode cX12_truth 143 = .ok (.aload_n 0, 1) := by decide +kernel
theorem dX12_truth_144 : decode cX12_truth 144 = .ok (.getfield 41, 3) := by decide +kernel
theorem dX12_truth_147 : decode cX12_truth 147 = .ok (.iload 5, 2) := by decide +kernel
theorem dX12_truth_149 : decode cX12_truth 149 = .ok (.aload_n 0, 1) := by decide +kernel
theorem dX12_truth_150 : decode cX12_truth 150 = .ok (.getfield 56, 3) := by decide +kernel
theorem dX12_truth_153 : decode cX12_truth 153 = .ok (.iload_n 1, 1) := by decide +kernel
theorem dX12_truth_154 : decode cX12_truth 154 = .ok (.iaload, 1) := by decide +kernel
theorem dX12_truth_155 : decode cX12_truth 155 = .ok (.imul, 1) := by decide +kernel
theorem dX12_truth_156 : decode cX12_truth 156 = .ok (.iload_n 3, 1) := by decide +kernel
theorem dX12_truth_157 : decode cX12_truth 157 = .ok (.iadd, 1) := by decide +kernel
theorem dX12_truth_158 : decode cX12_truth 158 = .ok (.iload 4, 2) := by decide +kernel
theorem dX12_truth_160 : decode cX12_truth 160 = .ok (.invokevirtual 194, 3) := by decide +kernel
theorem dX12_truth_163 : decode cX12_truth 163 = .ok (.ireturn, 1) := by decide +kernel
theorem dX12_is_0 : decode cX12_is 0 = .ok (.iload_n 1, 1) := by decide +kernel
theorem dX12_is_1 : decode cX12_is 1 = .ok (.invokestatic 181, 3) := by decide +kernel
theorem dX12_is_4 : decode cX12_is 4 = .ok (.ifCond .eq 12, 3) := by decide +kernel
theorem dX12_is_7 : decode cX12_is 7 = .ok (.iload_n 2, 1) := by decide +kernel
theorem dX12_is_8 : decode cX12_is 8 = .ok (.iconst 0, 1) := by decide +kernel
theorem dX12_is_9 : decode cX12_is 9 = .ok (.iconst 4, 1) := by decide +kernel
theorem dX12_is_10 : decode cX12_is 10 = .ok (.invokestatic 129, 3) := by decide +kernel
theorem dX12_is_13 : decode cX12_is 13 = .ok (.ifCond .ne 5, 3) := by decide +kernel
theorem dX12_is_16 : decode cX12_is 16 = .ok (.iconst (-1), 1) := by decide +kernel
theorem dX12_is_17 : decode cX12_is 17 = .ok (.ireturn, 1) := by decide +kernel
theorem dX12_is_18 : decode cX12_is 18 = .ok (.aload_n 0, 1) := by decide +kernel
theorem dX12_is_19 : decode cX12_is 19 = .ok (.iconst 0, 1) := by decide +kernel
theorem dX12_is_20 : decode cX12_is 20 = .ok (.putfield 126, 3) := by decide +kernel
theorem dX12_is_23 : decode cX12_is 23 = .ok (.iload_n 2, 1) := by decide +kernel
theorem dX12_is_24 : decode cX12_is 24 = .ok (.iconst 4, 1) := by decide +kernel
theorem dX12_is_25 : decode cX12_is 25 = .ok (.if_icmp .ne 21, 3) := by decide +kernel
theorem dX12_is_28 : decode cX12_is 28 = .ok (.aload_n 0, 1) := by decide +kernel
theorem dX12_is_29 : decode cX12_is 29 = .ok (.getfield 53, 3) := by decide +kernel
theorem dX12_is_32 : decode cX12_is 32 = .ok (.iload_n 1, 1) := by decide +kernel
theorem dX12_is_33 : decode cX12_is 33 = .ok (.iaload, 1) := by decide +kernel
theorem dX12_is_34 : decode cX12_is 34 = .ok (.iconst 2, 1) := by decide +kernel
theorem dX12_is_35 : decode cX12_is 35 = .ok (.if_icmp .ne 7, 3) := by decide +kernel
theorem dX12_is_38 : decode cX12_is 38 = .ok (.iconst 1, 1) := by decide +kernel
theorem dX12_is_39 : decode cX12_is 39 = .ok (.goto 36, 3) := by decide +kernel
theorem dX12_is_42 : decode cX12_is 42 = .ok (.iconst 0, 1) := by decide +kernel
theorem dX12_is_43 : decode cX12_is 43 = .ok (.goto 32, 3) := by decide +kernel
theorem dX12_is_46 : decode cX12_is 46 = .ok (.aload_n 0, 1) := by decide +kernel
theorem dX12_is_47 : decode cX12_is 47 = .ok (.getfield 53, 3) := by decide +kernel
theorem dX12_is_50 : decode cX12_is 50 = .ok (.iload_n 1, 1) := by decide +kernel
theorem dX12_is_51 : decode cX12_is 51 = .ok (.iaload, 1) := by decide +kernel
theorem dX12_is_52 : decode cX12_is 52 = .ok (.iconst 1, 1) := by decide +kernel
theorem dX12_is_53 : decode cX12_is 53 = .ok (.if_icmp .ne 21, 3) := by decide +kernel
theorem dX12_is_56 : decode cX12_is 56 = .ok (.aload_n 0, 1) := by decide +kernel
theorem dX12_is_57 : decode cX12_is 57 = .ok (.aload_n 0, 1) := by decide +kernel
theorem dX12_is_58 : decode cX12_is 58 = .ok (.getfield 56, 3) := by decide +kernel
theorem dX12_is_61 : decode cX12_is 61 = .ok (.iload_n 1, 1) := by decide +kernel
theorem dX12_is_62 : decode cX12_is 62 = .ok (.iaload, 1) := by decide +kernel
theorem dX12_is_63 : decode cX12_is 63 = .ok (.iload_n 2, 1) := by decide +kernel
theorem dX12_is_64 : decode cX12_is 64 = .ok (.invokevirtual 190, 3) := by decide +kernel
theorem dX12_is_67 : decode cX12_is 67 = .ok (.ifCond .eq 7, 3) := by decide +kernel
theorem dX12_is_70 : decode cX12_is 70 = .ok (.iconst 1, 1) := by decide +kernel
theorem dX12_is_71 : decode cX12_is 71 = .ok (.goto 4, 3) := by decide +kernel
theorem dX12_is_74 : decode cX12_is 74 = .ok (.iconst 0, 1) := by decide +kernel
theorem dX12_is_75 : decode cX12_is 75 = .ok (.istore_n 3, 1) := by decide +kernel
theorem dX12_is_76 : decode cX12_is 76 = .ok (.iload_n 3, 1) := by decide +kernel
theorem dX12_is_77 : decode cX12_is 77 = .ok (.ifCond .eq 7, 3) := by decide +kernel
theorem dX12_is_80 : decode cX12_is 80 = .ok (.iconst 1, 1) := by decide +kernel
theorem dX12_is_81 : decode cX12_is 81 = .ok (.goto 4, 3) := by decide +kernel
theorem dX12_is_84 : decode cX12_is 84 = .ok (.iconst 0, 1) := by decide +kernel
theorem dX12_is_85 : decode cX12_is 85 = .ok (.ireturn, 1) := by decide +kernel
theorem dX12_seat_0 : decode cX12_seat 0 = .ok (.iload_n 1, 1) := by decide +kernel
theorem dX12_seat_1 : decode cX12_seat 1 = .ok (.invokestatic 181, 3) := by decide +kernel
theorem dX12_seat_4 : decode cX12_seat 4 = .ok (.ifCond .eq 10, 3) := by decide +kernel
theorem dX12_seat_7 : decode cX12_seat 7 = .ok (.iload_n 3, 1) := by decide +kernel
theorem dX12_seat_8 : decode cX12_seat 8 = .ok (.invokestatic 181, 3) := by decide +kernel
theorem dX12_seat_11 : decode cX12_seat 11 = .ok (.ifCond .ne 5, 3) := by decide +kernel
theorem dX12_seat_14 : decode cX12_seat 14 = .ok (.iconst (-1), 1) := by decide +kernel
theorem dX12_seat_15 : decode cX12_seat 15 = .ok (.ireturn, 1) := by decide +kernel
theorem dX12_seat_16 : decode cX12_seat 16 = .ok (.aload_n 0, 1) := by decide +kernel
theorem dX12_seat_17 : decode cX12_seat 17 = .ok (.iconst 0, 1) := by decide +kernel
theorem dX12_seat_18 : decode cX12_seat 18 = .ok (.putfield 126, 3) := by decide +kernel
theorem dX12_seat_21 : decode cX12_seat 21 = .ok (.aload_n 0, 1) := by decide +kernel
theorem dX12_seat_22 : decode cX12_seat 22 = .ok (.getfield 53, 3) := by decide +kernel
theorem dX12_seat_25 : decode cX12_seat 25 = .ok (.iload_n 1, 1) := by decide +kernel
theorem dX12_seat_26 : decode cX12_seat 26 = .ok (.iaload, 1) := by decide +kernel
theorem dX12_seat_27 : decode cX12_seat 27 = .ok (.iconst 1, 1) := by decide +kernel
theorem dX12_seat_28 : decode cX12_seat 28 = .ok (.if_icmp .eq 13, 3) := by decide +kernel
theorem dX12_seat_31 : decode cX12_seat 31 = .ok (.aload_n 0, 1) := by decide +kernel
theorem dX12_seat_32 : decode cX12_seat 32 = .ok (.getfield 53, 3) := by decide +kernel
theorem dX12_seat_35 : decode cX12_seat 35 = .ok (.iload_n 3, 1) := by decide +kernel
theorem dX12_seat_36 : decode cX12_seat 36 = .ok (.iaload, 1) := by decide +kernel
theorem dX12_seat_37 : decode cX12_seat 37 = .ok (.iconst 2, 1) := by decide +kernel
theorem dX12_seat_38 : decode cX12_seat 38 = .ok (.if_icmp .ne 9, 3) := by decide +kernel
theorem dX12_seat_41 : decode cX12_seat 41 = .ok (.aload_n 0, 1) := by decide +kernel
theorem dX12_seat_42 : decode cX12_seat 42 = .ok (.iconst 3, 1) := by decide +kernel
theorem dX12_seat_43 : decode cX12_seat 43 = .ok (.invokevirtual 157, 3) := by decide +kernel
theorem dX12_seat_46 : decode cX12_seat 46 = .ok (.ireturn, 1) := by decide +kernel
theorem dX12_seat_47 : decode cX12_seat 47 = .ok (.aload_n 0, 1) := by decide +kernel
theorem dX12_seat_48 : decode cX12_seat 48 = .ok (.getfield 53, 3) := by decide +kernel
theorem dX12_seat_51 : decode cX12_seat 51 = .ok (.iload_n 1, 1) := by decide +kernel
theorem dX12_seat_52 : decode cX12_seat 52 = .ok (.iaload, 1) := by decide +kernel
theorem dX12_seat_53 : decode cX12_seat 53 = .ok (.ifCond .ne 9, 3) := by decide +kernel
theorem dX12_seat_56 : decode cX12_seat 56 = .ok (.aload_n 0, 1) := by decide +kernel
theorem dX12_seat_57 : decode cX12_seat 57 = .ok (.iconst 1, 1) := by decide +kernel
theorem dX12_seat_58 : decode cX12_seat 58 = .ok (.invokevirtual 157, 3) := by decide +kernel
theorem dX12_seat_61 : decode cX12_seat 61 = .ok (.ireturn, 1) := by decide +kernel
theorem dX12_seat_62 : decode cX12_seat 62 = .ok (.aload_n 0, 1) := by decide +kernel
theorem dX12_seat_63 : decode cX12_seat 63 = .ok (.getfield 56, 3) := by decide +kernel
theorem dX12_seat_66 : decode cX12_seat 66 = .ok (.iload_n 1, 1) := by decide +kernel
theorem dX12_seat_67 : decode cX12_seat 67 = .ok (.iaload, 1) := by decide +kernel
theorem dX12_seat_68 : decode cX12_seat 68 = .ok (.istore 4, 2) := by decide +kernel
theorem dX12_seat_70 : decode cX12_seat 70 = .ok (.iload_n 2, 1) := by decide +kernel
theorem dX12_seat_71 : decode cX12_seat 71 = .ok (.iconst 0, 1) := by decide +kernel
theorem dX12_seat_72 : decode cX12_seat 72 = .ok (.aload_n 0, 1) := by decide +kernel
theorem dX12_seat_73 : decode cX12_seat 73 = .ok (.getfield 47, 3) := by decide +kernel
theorem dX12_seat_76 : decode cX12_seat 76 = .ok (.iload 4, 2) := by decide +kernel
theorem dX12_seat_78 : decode cX12_seat 78 = .ok (.iaload, 1) := by decide +kernel
theorem dX12_seat_79 : decode cX12_seat 79 = .ok (.iconst 1, 1) := by decide +kernel
theorem dX12_seat_80 : decode cX12_seat 80 = .ok (.isub, 1) := by decide +kernel
theorem dX12_seat_81 : decode cX12_seat 81 = .ok (.invokestatic 129, 3) := by decide +kernel
theorem dX12_seat_84 : decode cX12_seat 84 = .ok (.ifCond .ne 9, 3) := by decide +kernel
theorem dX12_seat_87 : decode cX12_seat 87 = .ok (.aload_n 0, 1) := by decide +kernel
theorem dX12_seat_88 : decode cX12_seat 88 = .ok (.iconst 2, 1) := by decide +kernel
theorem dX12_seat_89 : decode cX12_seat 89 = .ok (.invokevirtual 157, 3) := by decide +kernel
theorem dX12_seat_92 : decode cX12_seat 92 = .ok (.ireturn, 1) := by decide +kernel
theorem dX12_seat_93 : decode cX12_seat 93 = .ok (.aload_n 0, 1) := by decide +kernel
theorem dX12_seat_94 : decode cX12_seat 94 = .ok (.getfield 53, 3) := by decide +kernel
theorem dX12_seat_97 : decode cX12_seat 97 = .ok (.iload_n 3, 1) := by decide +kernel
theorem dX12_seat_98 : decode cX12_seat 98 = .ok (.iaload, 1) := by decide +kernel
theorem dX12_seat_99 : decode cX12_seat 99 = .ok (.ifCond .ne 7, 3) := by decide +kernel
theorem dX12_seat_102 : decode cX12_seat 102 = .ok (.iconst (-1), 1) := by decide +kernel
theorem dX12_seat_103 : decode cX12_seat 103 = .ok (.goto 9, 3) := by decide +kernel
theorem dX12_seat_106 : decode cX12_seat 106 = .ok (.aload_n 0, 1) := by decide +kernel
theorem dX12_seat_107 : decode cX12_seat 107 = .ok (.getfield 56, 3) := by decide +kernel
theorem dX12_seat_110 : decode cX12_seat 110 = .ok (.iload_n 3, 1) := by decide +kernel
theorem dX12_seat_111 : decode cX12_seat 111 = .ok (.iaload, 1) := by decide +kernel
theorem dX12_seat_112 : decode cX12_seat 112 = .ok (.istore 5, 2) := by decide +kernel
theorem dX12_seat_114 : decode cX12_seat 114 = .ok (.iload 5, 2) := by decide +kernel
theorem dX12_seat_116 : decode cX12_seat 116 = .ok (.ifCond .lt 44, 3) := by decide +kernel
theorem dX12_seat_119 : decode cX12_seat 119 = .ok (.aload_n 0, 1) := by decide +kernel
theorem dX12_seat_120 : decode cX12_seat 120 = .ok (.getfield 44, 3) := by decide +kernel
theorem dX12_seat_123 : decode cX12_seat 123 = .ok (.iload 4, 2) := by decide +kernel
theorem dX12_seat_125 : decode cX12_seat 125 = .ok (.iaload, 1) := by decide +kernel
theorem dX12_seat_126 : decode cX12_seat 126 = .ok (.ifCond .le 34, 3) := by decide +kernel
theorem dX12_seat_129 : decode cX12_seat 129 = .ok (.aload_n 0, 1) := by decide +kernel
theorem dX12_seat_130 : decode cX12_seat 130 = .ok (.iload 5, 2) := by decide +kernel
theorem dX12_seat_132 : decode cX12_seat 132 = .ok (.aload_n 0, 1) := by decide +kernel
theorem dX12_seat_133 : decode cX12_seat 133 = .ok (.getfield 44, 3) := by decide +kernel
theorem dX12_seat_136 : decode cX12_seat 136 = .ok (.iload 4, 2) := by decide +kernel
theorem dX12_seat_138 : decode cX12_seat 138 = .ok (.iaload, 1) := by decide +kernel
theorem dX12_seat_139 : decode cX12_seat 139 = .ok (.iconst 1, 1) := by decide +kernel
theorem dX12_seat_140 : decode cX12_seat 140 = .ok (.if_icmp .ne 7, 3) := by decide +kernel
theorem dX12_seat_143 : decode cX12_seat 143 = .ok (.iconst 0, 1) := by decide +kernel
theorem dX12_seat_144 : decode cX12_seat 144 = .ok (.goto 4, 3) := by decide +kernel
theorem dX12_seat_147 : decode cX12_seat 147 = .ok (.iconst 2, 1) := by decide +kernel
theorem dX12_seat_148 : decode cX12_seat 148 = .ok (.invokevirtual 190, 3) := by decide +kernel
theorem dX12_seat_151 : decode cX12_seat 151 = .ok (.ifCond .ne 9, 3) := by decide +kernel
theorem dX12_seat_154 : decode cX12_seat 154 = .ok (.aload_n 0, 1) := by decide +kernel
theorem dX12_seat_155 : decode cX12_seat 155 = .ok (.iconst 4, 1) := by decide +kernel
theorem dX12_seat_156 : decode cX12_seat 156 = .ok (.invokevirtual 157, 3) := by decide +kernel
theorem dX12_seat_159 : decode cX12_seat 159 = .ok (.ireturn, 1) := by decide +kernel
theorem dX12_seat_160 : decode cX12_seat 160 = .ok (.aload_n 0, 1) := by decide +kernel
theorem dX12_seat_161 : decode cX12_seat 161 = .ok (.getfield 50, 3) := by decide +kernel
theorem dX12_seat_164 : decode cX12_seat 164 = .ok (.bipush 8, 2) := by decide +kernel
theorem dX12_seat_166 : decode cX12_seat 166 = .ok (.iload 4, 2) := by decide +kernel
theorem dX12_seat_168 : decode cX12_seat 168 = .ok (.imul, 1) := by decide +kernel
theorem dX12_seat_169 : decode cX12_seat 169 = .ok (.iload_n 2, 1) := by decide +kernel
theorem dX12_seat_170 : decode cX12_seat 170 = .ok (.iadd, 1) := by decide +kernel
theorem dX12_seat_171 : decode cX12_seat 171 = .ok (.iload 5, 2) := by decide +kernel
theorem dX12_seat_173 : decode cX12_seat 173 = .ok (.iastore, 1) := by decide +kernel
theorem dX12_seat_174 : decode cX12_seat 174 = .ok (.iconst 1, 1) := by decide +kernel
theorem dX12_seat_175 : decode cX12_seat 175 = .ok (.ireturn, 1) := by decide +kernel
theorem dX12_seated_0 : decode cX12_seated 0 = .ok (.iload_n 1, 1) := by decide +kernel
theorem dX12_seated_1 : decode cX12_seated 1 = .ok (.invokestatic 181, 3) := by decide +kernel
theorem dX12_seated_4 : decode cX12_seated 4 = .ok (.ifCond .ne 5, 3) := by decide +kernel
theorem dX12_seated_7 : decode cX12_seated 7 = .ok (.iconst (-1), 1) := by decide +kernel
theorem dX12_seated_8 : decode cX12_seated 8 = .ok (.ireturn, 1) := by decide +kernel
theorem dX12_seated_9 : decode cX12_seated 9 = .ok (.aload_n 0, 1) := by decide +kernel
theorem dX12_seated_10 : decode cX12_seated 10 = .ok (.iconst 0, 1) := by decide +kernel
theorem dX12_seated_11 : decode cX12_seated 11 = .ok (.putfield 126, 3) := by decide +kernel
theorem dX12_seated_14 : decode cX12_seated 14 = .ok (.aload_n 0, 1) := by decide +kernel
theorem dX12_seated_15 : decode cX12_seated 15 = .ok (.getfield 53, 3) := by decide +kernel
theorem dX12_seated_18 : decode cX12_seated 18 = .ok (.iload_n 1, 1) := by decide +kernel
theorem dX12_seated_19 : decode cX12_seated 19 = .ok (.iaload, 1) := by decide +kernel
theorem dX12_seated_20 : decode cX12_seated 20 = .ok (.iconst 1, 1) := by decide +kernel
theorem dX12_seated_21 : decode cX12_seated 21 = .ok (.if_icmp .ne 9, 3) := by decide +kernel
theorem dX12_seated_24 : decode cX12_seated 24 = .ok (.aload_n 0, 1) := by decide +kernel
theorem dX12_seated_25 : decode cX12_seated 25 = .ok (.iconst 3, 1) := by decide +kernel
theorem dX12_seated_26 : decode cX12_seated 26 = .ok (.invokevirtual 157, 3) := by decide +kernel
theorem dX12_seated_29 : decode cX12_seated 29 = .ok (.ireturn, 1) := by decide +kernel
theorem dX12_seated_30 : decode cX12_seated 30 = .ok (.aload_n 0, 1) := by decide +kernel
theorem dX12_seated_31 : decode cX12_seated 31 = .ok (.getfield 53, 3) := by decide +kernel
theorem dX12_seated_34 : decode cX12_seated 34 = .ok (.iload_n 1, 1) := by decide +kernel
theorem dX12_seated_35 : decode cX12_seated 35 = .ok (.iaload, 1) := by decide +kernel
theorem dX12_seated_36 : decode cX12_seated 36 = .ok (.ifCond .ne 9, 3) := by decide +kernel
theorem dX12_seated_39 : decode cX12_seated 39 = .ok (.aload_n 0, 1) := by decide +kernel
theorem dX12_seated_40 : decode cX12_seated 40 = .ok (.iconst 1, 1) := by decide +kernel
theorem dX12_seated_41 : decode cX12_seated 41 = .ok (.invokevirtual 157, 3) := by decide +kernel
theorem dX12_seated_44 : decode cX12_seated 44 = .ok (.ireturn, 1) := by decide +kernel
theorem dX12_seated_45 : decode cX12_seated 45 = .ok (.iload_n 2, 1) := by decide +kernel
theorem dX12_seated_46 : decode cX12_seated 46 = .ok (.iconst 0, 1) := by decide +kernel
theorem dX12_seated_47 : decode cX12_seated 47 = .ok (.aload_n 0, 1) := by decide +kernel
theorem dX12_seated_48 : decode cX12_seated 48 = .ok (.getfield 47, 3) := by decide +kernel
theorem dX12_seated_51 : decode cX12_seated 51 = .ok (.aload_n 0, 1) := by decide +kernel
theorem dX12_seated_52 : decode cX12_seated 52 = .ok (.getfield 56, 3) := by decide +kernel
theorem dX12_seated_55 : decode cX12_seated 55 = .ok (.iload_n 1, 1) := by decide +kernel
theorem dX12_seated_56 : decode cX12_seated 56 = .ok (.iaload, 1) := by decide +kernel
theorem dX12_seated_57 : decode cX12_seated 57 = .ok (.iaload, 1) := by decide +kernel
theorem dX12_seated_58 : decode cX12_seated 58 = .ok (.iconst 1, 1) := by decide +kernel
theorem dX12_seated_59 : decode cX12_seated 59 = .ok (.isub, 1) := by decide +kernel
theorem dX12_seated_60 : decode cX12_seated 60 = .ok (.invokestatic 129, 3) := by decide +kernel
theorem dX12_seated_63 : decode cX12_seated 63 = .ok (.ifCond .ne 9, 3) := by decide +kernel
theorem dX12_seated_66 : decode cX12_seated 66 = .ok (.aload_n 0, 1) := by decide +kernel
theorem dX12_seated_67 : decode cX12_seated 67 = .ok (.iconst 2, 1) := by decide +kernel
theorem dX12_seated_68 : decode cX12_seated 68 = .ok (.invokevirtual 157, 3) := by decide +kernel
theorem dX12_seated_71 : decode cX12_seated 71 = .ok (.ireturn, 1) := by decide +kernel
theorem dX12_seated_72 : decode cX12_seated 72 = .ok (.aload_n 0, 1) := by decide +kernel
theorem dX12_seated_73 : decode cX12_seated 73 = .ok (.getfield 50, 3) := by decide +kernel
theorem dX12_seated_76 : decode cX12_seated 76 = .ok (.bipush 8, 2) := by decide +kernel
theorem dX12_seated_78 : decode cX12_seated 78 = .ok (.aload_n 0, 1) := by decide +kernel
theorem dX12_seated_79 : decode cX12_seated 79 = .ok (.getfield 56, 3) := by decide +kernel
theorem dX12_seated_82 : decode cX12_seated 82 = .ok (.iload_n 1, 1) := by decide +kernel
theorem dX12_seated_83 : decode cX12_seated 83 = .ok (.iaload, 1) := by decide +kernel
theorem dX12_seated_84 : decode cX12_seated 84 = .ok (.imul, 1) := by decide +kernel
theorem dX12_seated_85 : decode cX12_seated 85 = .ok (.iload_n 2, 1) := by decide +kernel
theorem dX12_seated_86 : decode cX12_seated 86 = .ok (.iadd, 1) := by decide +kernel
theorem dX12_seated_87 : decode cX12_seated 87 = .ok (.iaload, 1) := by decide +kernel
theorem dX12_seated_88 : decode cX12_seated 88 = .ok (.istore_n 3, 1) := by decide +kernel
theorem dX12_seated_89 : decode cX12_seated 89 = .ok (.iload_n 3, 1) := by decide +kernel
theorem dX12_seated_90 : decode cX12_seated 90 = .ok (.ifCond .ge 8, 3) := by decide +kernel
theorem dX12_seated_93 : decode cX12_seated 93 = .ok (.bipush (-2), 2) := by decide +kernel
theorem dX12_seated_95 : decode cX12_seated 95 = .ok (.goto 9, 3) := by decide +kernel
theorem dX12_seated_98 : decode cX12_seated 98 = .ok (.aload_n 0, 1) := by decide +kernel
theorem dX12_seated_99 : decode cX12_seated 99 = .ok (.getfield 32, 3) := by decide +kernel
theorem dX12_seated_102 : decode cX12_seated 102 = .ok (.iload_n 3, 1) := by decide +kernel
theorem dX12_seated_103 : decode cX12_seated 103 = .ok (.iaload, 1) := by decide +kernel
theorem dX12_seated_104 : decode cX12_seated 104 = .ok (.ireturn, 1) := by decide +kernel
theorem dX12_strong_0 : decode cX12_strong 0 = .ok (.iload_n 1, 1) := by decide +kernel
theorem dX12_strong_1 : decode cX12_strong 1 = .ok (.iconst 1, 1) := by decide +kernel
theorem dX12_strong_2 : decode cX12_strong 2 = .ok (.bipush 16, 2) := by decide +kernel
theorem dX12_strong_4 : decode cX12_strong 4 = .ok (.invokestatic 129, 3) := by decide +kernel
theorem dX12_strong_7 : decode cX12_strong 7 = .ok (.ifCond .ne 5, 3) := by decide +kernel
theorem dX12_strong_10 : decode cX12_strong 10 = .ok (.iconst (-1), 1) := by decide +kernel
theorem dX12_strong_11 : decode cX12_strong 11 = .ok (.ireturn, 1) := by decide +kernel
theorem dX12_strong_12 : decode cX12_strong 12 = .ok (.aload_n 0, 1) := by decide +kernel
theorem dX12_strong_13 : decode cX12_strong 13 = .ok (.iconst 0, 1) := by decide +kernel
theorem dX12_strong_14 : decode cX12_strong 14 = .ok (.putfield 126, 3) := by decide +kernel
theorem dX12_strong_17 : decode cX12_strong 17 = .ok (.aload_n 0, 1) := by decide +kernel
theorem dX12_strong_18 : decode cX12_strong 18 = .ok (.getfield 59, 3) := by decide +kernel
theorem dX12_strong_21 : decode cX12_strong 21 = .ok (.istore_n 2, 1) := by decide +kernel
theorem dX12_strong_22 : decode cX12_strong 22 = .ok (.aload_n 0, 1) := by decide +kernel
theorem dX12_strong_23 : decode cX12_strong 23 = .ok (.iload_n 1, 1) := by decide +kernel
theorem dX12_strong_24 : decode cX12_strong 24 = .ok (.putfield 59, 3) := by decide +kernel
theorem dX12_strong_27 : decode cX12_strong 27 = .ok (.iload_n 2, 1) := by decide +kernel
theorem dX12_strong_28 : decode cX12_strong 28 = .ok (.ireturn, 1) := by decide +kernel
theorem dX12_key_0 : decode cX12_key 0 = .ok (.iload_n 1, 1) := by decide +kernel
theorem dX12_key_1 : decode cX12_key 1 = .ok (.iconst 0, 1) := by decide +kernel
theorem dX12_key_2 : decode cX12_key 2 = .ok (.sipush 4095, 3) := by decide +kernel
theorem dX12_key_5 : decode cX12_key 5 = .ok (.invokestatic 129, 3) := by decide +kernel
theorem dX12_key_8 : decode cX12_key 8 = .ok (.ifCond .ne 5, 3) := by decide +kernel
theorem dX12_key_11 : decode cX12_key 11 = .ok (.iconst (-1), 1) := by decide +kernel
theorem dX12_key_12 : decode cX12_key 12 = .ok (.ireturn, 1) := by decide +kernel
theorem dX12_key_13 : decode cX12_key 13 = .ok (.aload_n 0, 1) := by decide +kernel
theorem dX12_key_14 : decode cX12_key 14 = .ok (.iconst 0, 1) := by decide +kernel
theorem dX12_key_15 : decode cX12_key 15 = .ok (.putfield 126, 3) := by decide +kernel
theorem dX12_key_18 : decode cX12_key 18 = .ok (.aload_n 0, 1) := by decide +kernel
theorem dX12_key_19 : decode cX12_key 19 = .ok (.getfield 63, 3) := by decide +kernel
theorem dX12_key_22 : decode cX12_key 22 = .ok (.istore_n 2, 1) := by decide +kernel
theorem dX12_key_23 : decode cX12_key 23 = .ok (.aload_n 0, 1) := by decide +kernel
theorem dX12_key_24 : decode cX12_key 24 = .ok (.iload_n 1, 1) := by decide +kernel
theorem dX12_key_25 : decode cX12_key 25 = .ok (.putfield 63, 3) := by decide +kernel
theorem dX12_key_28 : decode cX12_key 28 = .ok (.iload_n 2, 1) := by decide +kernel
theorem dX12_key_29 : decode cX12_key 29 = .ok (.ireturn, 1) := by decide +kernel
theorem dX12_weight_0 : decode cX12_weight 0 = .ok (.iload_n 1, 1) := by decide +kernel
theorem dX12_weight_1 : decode cX12_weight 1 = .ok (.iconst 0, 1) := by decide +kernel
theorem dX12_weight_2 : decode cX12_weight 2 = .ok (.iconst 2, 1) := by decide +kernel
theorem dX12_weight_3 : decode cX12_weight 3 = .ok (.invokestatic 129, 3) := by decide +kernel
theorem dX12_weight_6 : decode cX12_weight 6 = .ok (.ifCond .eq 13, 3) := by decide +kernel
theorem dX12_weight_9 : decode cX12_weight 9 = .ok (.iload_n 2, 1) := by decide +kernel
theorem dX12_weight_10 : decode cX12_weight 10 = .ok (.iconst 0, 1) := by decide +kernel
theorem dX12_weight_11 : decode cX12_weight 11 = .ok (.bipush 9, 2) := by decide +kernel
theorem dX12_weight_13 : decode cX12_weight 13 = .ok (.invokestatic 129, 3) := by decide +kernel
theorem dX12_weight_16 : decode cX12_weight 16 = .ok (.ifCond .ne 5, 3) := by decide +kernel
theorem dX12_weight_19 : decode cX12_weight 19 = .ok (.iconst (-1), 1) := by decide +kernel
theorem dX12_weight_20 : decode cX12_weight 20 = .ok (.ireturn, 1) := by decide +kernel
theorem dX12_weight_21 : decode cX12_weight 21 = .ok (.aload_n 0, 1) := by decide +kernel
theorem dX12_weight_22 : decode cX12_weight 22 = .ok (.iconst 0, 1) := by decide +kernel
theorem dX12_weight_23 : decode cX12_weight 23 = .ok (.putfield 126, 3) := by decide +kernel
theorem dX12_weight_26 : decode cX12_weight 26 = .ok (.aload_n 0, 1) := by decide +kernel
theorem dX12_weight_27 : decode cX12_weight 27 = .ok (.getfield 66, 3) := by decide +kernel
theorem dX12_weight_30 : decode cX12_weight 30 = .ok (.iload_n 1, 1) := by decide +kernel
theorem dX12_weight_31 : decode cX12_weight 31 = .ok (.iaload, 1) := by decide +kernel
theorem dX12_weight_32 : decode cX12_weight 32 = .ok (.istore_n 3, 1) := by decide +kernel
theorem dX12_weight_33 : decode cX12_weight 33 = .ok (.aload_n 0, 1) := by decide +kernel
theorem dX12_weight_34 : decode cX12_weight 34 = .ok (.getfield 66, 3) := by decide +kernel
theorem dX12_weight_37 : decode cX12_weight 37 = .ok (.iload_n 1, 1) := by decide +kernel
theorem dX12_weight_38 : decode cX12_weight 38 = .ok (.iload_n 2, 1) := by decide +kernel
theorem dX12_weight_39 : decode cX12_weight 39 = .ok (.iastore, 1) := by decide +kernel
theorem dX12_weight_40 : decode cX12_weight 40 = .ok (.iload_n 3, 1) := by decide +kernel
theorem dX12_weight_41 : decode cX12_weight 41 = .ok (.ireturn, 1) := by decide +kernel
theorem dX12_faults_0 : decode cX12_faults 0 = .ok (.iload_n 1, 1) := by decide +kernel
theorem dX12_faults_1 : decode cX12_faults 1 = .ok (.invokestatic 181, 3) := by decide +kernel
theorem dX12_faults_4 : decode cX12_faults 4 = .ok (.ifCond .ne 5, 3) := by decide +kernel
theorem dX12_faults_7 : decode cX12_faults 7 = .ok (.iconst (-1), 1) := by decide +kernel
theorem dX12_faults_8 : decode cX12_faults 8 = .ok (.ireturn, 1) := by decide +kernel
theorem dX12_faults_9 : decode cX12_faults 9 = .ok (.aload_n 0, 1) := by decide +kernel
theorem dX12_faults_10 : decode cX12_faults 10 = .ok (.iconst 0, 1) := by decide +kernel
theorem dX12_faults_11 : decode cX12_faults 11 = .ok (.putfield 126, 3) := by decide +kernel
theorem dX12_faults_14 : decode cX12_faults 14 = .ok (.aload_n 0, 1) := by decide +kernel
theorem dX12_faults_15 : decode cX12_faults 15 = .ok (.invokevirtual 238, 3) := by decide +kernel
theorem dX12_faults_18 : decode cX12_faults 18 = .ok (.iconst 0, 1) := by decide +kernel
theorem dX12_faults_19 : decode cX12_faults 19 = .ok (.istore_n 2, 1) := by decide +kernel
theorem dX12_faults_20 : decode cX12_faults 20 = .ok (.iconst 0, 1) := by decide +kernel
theorem dX12_faults_21 : decode cX12_faults 21 = .ok (.istore_n 3, 1) := by decide +kernel
theorem dX12_faults_22 : decode cX12_faults 22 = .ok (.iload_n 3, 1) := by decide +kernel
theorem dX12_faults_23 : decode cX12_faults 23 = .ok (.bipush 6, 2) := by decide +kernel
theorem dX12_faults_25 : decode cX12_faults 25 = .ok (.if_icmp .ge 32, 3) := by decide +kernel
theorem dX12_faults_28 : decode cX12_faults 28 = .ok (.aload_n 0, 1) := by decide +kernel
theorem dX12_faults_29 : decode cX12_faults 29 = .ok (.getfield 9, 3) := by decide +kernel
theorem dX12_faults_32 : decode cX12_faults 32 = .ok (.iload_n 3, 1) := by decide +kernel
theorem dX12_faults_33 : decode cX12_faults 33 = .ok (.baload, 1) := by decide +kernel
theorem dX12_faults_34 : decode cX12_faults 34 = .ok (.ifCond .eq 17, 3) := by decide +kernel
theorem dX12_faults_37 : decode cX12_faults 37 = .ok (.aload_n 0, 1) := by decide +kernel
theorem dX12_faults_38 : decode cX12_faults 38 = .ok (.iload_n 3, 1) := by decide +kernel
theorem dX12_faults_39 : decode cX12_faults 39 = .ok (.invokevirtual 165, 3) := by decide +kernel
theorem dX12_faults_42 : decode cX12_faults 42 = .ok (.ifCond .le 9, 3) := by decide +kernel
theorem dX12_faults_45 : decode cX12_faults 45 = .ok (.aload_n 0, 1) := by decide +kernel
theorem dX12_faults_46 : decode cX12_faults 46 = .ok (.iconst 2, 1) := by decide +kernel
theorem dX12_faults_47 : decode cX12_faults 47 = .ok (.invokevirtual 157, 3) := by decide +kernel
theorem dX12_faults_50 : decode cX12_faults 50 = .ok (.ireturn, 1) := by decide +kernel
theorem dX12_faults_51 : decode cX12_faults 51 = .ok (.iinc 3 1, 3) := by decide +kernel
theorem dX12_faults_54 : decode cX12_faults 54 = .ok (.goto (-32), 3) := by decide +kernel
theorem dX12_faults_57 : decode cX12_faults 57 = .ok (.aload_n 0, 1) := by decide +kernel
theorem dX12_faults_58 : decode cX12_faults 58 = .ok (.getfield 53, 3) := by decide +kernel
theorem dX12_faults_61 : decode cX12_faults 61 = .ok (.iload_n 1, 1) := by decide +kernel
theorem dX12_faults_62 : decode cX12_faults 62 = .ok (.iaload, 1) := by decide +kernel
theorem dX12_faults_63 : decode cX12_faults 63 = .ok (.ifCond .ne 9, 3) := by decide +kernel
theorem dX12_faults_66 : decode cX12_faults 66 = .ok (.aload_n 0, 1) := by decide +kernel
theorem dX12_faults_67 : decode cX12_faults 67 = .ok (.iconst 1, 1) := by decide +kernel
theorem dX12_faults_68 : decode cX12_faults 68 = .ok (.invokevirtual 157, 3) := by decide +kernel
theorem dX12_faults_71 : decode cX12_faults 71 = .ok (.ireturn, 1) := by decide +kernel
theorem dX12_faults_72 : decode cX12_faults 72 = .ok (.iconst 0, 1) := by decide +kernel
theorem dX12_faults_73 : decode cX12_faults 73 = .ok (.istore_n 3, 1) := by decide +kernel
theorem dX12_faults_74 : decode cX12_faults 74 = .ok (.iload_n 3, 1) := by decide +kernel
theorem dX12_faults_75 : decode cX12_faults 75 = .ok (.bipush 6, 2) := by decide +kernel
theorem dX12_faults_77 : decode cX12_faults 77 = .ok (.if_icmp .ge 35, 3) := by decide +kernel
theorem dX12_faults_80 : decode cX12_faults 80 = .ok (.aload_n 0, 1) := by decide +kernel
theorem dX12_faults_81 : decode cX12_faults 81 = .ok (.iload_n 3, 1) := by decide +kernel
theorem dX12_faults_82 : decode cX12_faults 82 = .ok (.invokevirtual 168, 3) := by decide +kernel
theorem dX12_faults_85 : decode cX12_faults 85 = .ok (.aload_n 0, 1) := by decide +kernel
theorem dX12_faults_86 : decode cX12_faults 86 = .ok (.getfield 29, 3) := by decide +kernel
theorem dX12_faults_89 : decode cX12_faults 89 = .ok (.iload_n 3, 1) := by decide +kernel
theorem dX12_faults_90 : decode cX12_faults 90 = .ok (.iaload, 1) := by decide +kernel
theorem dX12_faults_91 : decode cX12_faults 91 = .ok (.iload_n 2, 1) := by decide +kernel
theorem dX12_faults_92 : decode cX12_faults 92 = .ok (.if_icmp .le 12, 3) := by decide +kernel
theorem dX12_faults_95 : decode cX12_faults 95 = .ok (.aload_n 0, 1) := by decide +kernel
theorem dX12_faults_96 : decode cX12_faults 96 = .ok (.getfield 29, 3) := by decide +kernel
theorem dX12_faults_99 : decode cX12_faults 99 = .ok (.iload_n 3, 1) := by decide +kernel
theorem dX12_faults_100 : decode cX12_faults 100 = .ok (.iaload, 1) := by decide +kernel
theorem dX12_faults_101 : decode cX12_faults 101 = .ok (.goto 4, 3) := by decide +kernel
theorem dX12_faults_104 : decode cX12_faults 104 = .ok (.iload_n 2, 1) := by decide +kernel
theorem dX12_faults_105 : decode cX12_faults 105 = .ok (.istore_n 2, 1) := by decide +kernel
theorem dX12_faults_106 : decode cX12_faults 106 = .ok (.iinc 3 1, 3) := by decide +kernel
theorem dX12_faults_109 : decode cX12_faults 109 = .ok (.goto (-35), 3) := by decide +kernel
theorem dX12_faults_112 : decode cX12_faults 112 = .ok (.iconst 0, 1) := by decide +kernel
theorem dX12_faults_113 : decode cX12_faults 113 = .ok (.istore_n 3, 1) := by decide +kernel
theorem dX12_faults_114 : decode cX12_faults 114 = .ok (.iload_n 3, 1) := by decide +kernel
theorem dX12_faults_115 : decode cX12_faults 115 = .ok (.bipush 6, 2) := by decide +kernel
theorem dX12_faults_117 : decode cX12_faults 117 = .ok (.if_icmp .ge 48, 3) := by decide +kernel
theorem dX12_faults_120 : decode cX12_faults 120 = .ok (.iload_n 3, 1) := by decide +kernel
theorem dX12_faults_121 : decode cX12_faults 121 = .ok (.istore 4, 2) := by decide +kernel
theorem dX12_faults_123 : decode cX12_faults 123 = .ok (.iload 4, 2) := by decide +kernel
theorem dX12_faults_125 : decode cX12_faults 125 = .ok (.bipush 6, 2) := by decide +kernel
theorem dX12_faults_127 : decode cX12_faults 127 = .ok (.if_icmp .ge 32, 3) := by decide +kernel
theorem dX12_faults_130 : decode cX12_faults 130 = .ok (.aload_n 0, 1) := by decide +kernel
theorem dX12_faults_131 : decode cX12_faults 131 = .ok (.iload_n 3, 1) := by decide +kernel
theorem dX12_faults_132 : decode cX12_faults 132 = .ok (.iload 4, 2) := by decide +kernel
theorem dX12_faults_134 : decode cX12_faults 134 = .ok (.invokevirtual 241, 3) := by decide +kernel
theorem dX12_faults_137 : decode cX12_faults 137 = .ok (.aload_n 0, 1) := by decide +kernel
theorem dX12_faults_138 : decode cX12_faults 138 = .ok (.getfield 93, 3) := by decide +kernel
theorem dX12_faults_141 : decode cX12_faults 141 = .ok (.bipush 6, 2) := by decide +kernel
theorem dX12_faults_143 : decode cX12_faults 143 = .ok (.iload_n 3, 1) := by decide +kernel
theorem dX12_faults_144 : decode cX12_faults 144 = .ok (.imul, 1) := by decide +kernel
theorem dX12_faults_145 : decode cX12_faults 145 = .ok (.iload 4, 2) := by decide +kernel
theorem dX12_faults_147 : decode cX12_faults 147 = .ok (.iadd, 1) := by decide +kernel
theorem dX12_faults_148 : decode cX12_faults 148 = .ok (.aload_n 0, 1) := by decide +kernel
theorem dX12_faults_149 : decode cX12_faults 149 = .ok (.getfield 210, 3) := by decide +kernel
theorem dX12_faults_152 : decode cX12_faults 152 = .ok (.iastore, 1) := by decide +kernel
theorem dX12_faults_153 : decode cX12_faults 153 = .ok (.iinc 4 1, 3) := by decide +kernel
theorem dX12_faults_156 : decode cX12_faults 156 = .ok (.goto (-33), 3) := by decide +kernel
theorem dX12_faults_159 : decode cX12_faults 159 = .ok (.iinc 3 1, 3) := by decide +kernel
theorem dX12_faults_162 : decode cX12_faults 162 = .ok (.goto (-48), 3) := by decide +kernel
theorem dX12_faults_165 : decode cX12_faults 165 = .ok (.aload_n 0, 1) := by decide +kernel
theorem dX12_faults_166 : decode cX12_faults 166 = .ok (.iconst 0, 1) := by decide +kernel
theorem dX12_faults_167 : decode cX12_faults 167 = .ok (.putfield 245, 3) := by decide +kernel
theorem dX12_faults_170 : decode cX12_faults 170 = .ok (.aload_n 0, 1) := by decide +kernel
theorem dX12_faults_171 : decode cX12_faults 171 = .ok (.iconst 0, 1) := by decide +kernel
theorem dX12_faults_172 : decode cX12_faults 172 = .ok (.putfield 248, 3) := by decide +kernel
theorem dX12_faults_175 : decode cX12_faults 175 = .ok (.iconst 0, 1) := by decide +kernel
theorem dX12_faults_176 : decode cX12_faults 176 = .ok (.istore_n 3, 1) := by decide +kernel
theorem dX12_faults_177 : decode cX12_faults 177 = .ok (.iload_n 3, 1) := by decide +kernel
theorem dX12_faults_178 : decode cX12_faults 178 = .ok (.iload_n 2, 1) := by decide +kernel
theorem dX12_faults_179 : decode cX12_faults 179 = .ok (.if_icmp .ge 72, 3) := by decide +kernel
theorem dX12_faults_182 : decode cX12_faults 182 = .ok (.iconst 0, 1) := by decide +kernel
theorem dX12_faults_183 : decode cX12_faults 183 = .ok (.istore 4, 2) := by decide +kernel
theorem dX12_faults_185 : decode cX12_faults 185 = .ok (.iload 4, 2) := by decide +kernel
theorem dX12_faults_187 : decode cX12_faults 187 = .ok (.bipush 6, 2) := by decide +kernel
theorem dX12_faults_189 : decode cX12_faults 189 = .ok (.if_icmp .ge 56, 3) := by decide +kernel
theorem dX12_faults_192 : decode cX12_faults 192 = .ok (.iload 4, 2) := by decide +kernel
theorem dX12_faults_194 : decode cX12_faults 194 = .ok (.istore 5, 2) := by decide +kernel
theorem dX12_faults_196 : decode cX12_faults 196 = .ok (.iload 5, 2) := by decide +kernel
theorem dX12_faults_198 : decode cX12_faults 198 = .ok (.bipush 6, 2) := by decide +kernel
theorem dX12_faults_200 : decode cX12_faults 200 = .ok (.if_icmp .ge 39, 3) := by decide +kernel
theorem dX12_faults_203 : decode cX12_faults 203 = .ok (.aload_n 0, 1) := by decide +kernel
theorem dX12_faults_204 : decode cX12_faults 204 = .ok (.iload 4, 2) := by decide +kernel
theorem dX12_faults_206 : decode cX12_faults 206 = .ok (.iload_n 3, 1) := by decide +kernel
theorem dX12_faults_207 : decode cX12_faults 207 = .ok (.invokevirtual 171, 3) := by decide +kernel
theorem dX12_faults_210 : decode cX12_faults 210 = .ok (.ifCond .le 23, 3) := by decide +kernel
theorem dX12_faults_213 : decode cX12_faults 213 = .ok (.aload_n 0, 1) := by decide +kernel
theorem dX12_faults_214 : decode cX12_faults 214 = .ok (.iload 5, 2) := by decide +kernel
theorem dX12_faults_216 : decode cX12_faults 216 = .ok (.iload_n 3, 1) := by decide +kernel
theorem dX12_faults_217 : decode cX12_faults 217 = .ok (.invokevirtual 171, 3) := by decide +kernel
theorem dX12_faults_220 : decode cX12_faults 220 = .ok (.ifCond .le 13, 3) := by decide +kernel
theorem dX12_faults_223 : decode cX12_faults 223 = .ok (.aload_n 0, 1) := by decide +kernel
theorem dX12_faults_224 : decode cX12_faults 224 = .ok (.iload_n 1, 1) := by decide +kernel
theorem dX12_faults_225 : decode cX12_faults 225 = .ok (.iload_n 3, 1) := by decide +kernel
theorem dX12_faults_226 : decode cX12_faults 226 = .ok (.iload 4, 2) := by decide +kernel
theorem dX12_faults_228 : decode cX12_faults 228 = .ok (.iload 5, 2) := by decide +kernel
theorem dX12_faults_230 : decode cX12_faults 230 = .ok (.invokevirtual 251, 3) := by decide +kernel
theorem dX12_faults_233 : decode cX12_faults 233 = .ok (.iinc 5 1, 3) := by decide +kernel
theorem dX12_faults_236 : decode cX12_faults 236 = .ok (.goto (-40), 3) := by decide +kernel
theorem dX12_faults_239 : decode cX12_faults 239 = .ok (.iinc 4 1, 3) := by decide +kernel
theorem dX12_faults_242 : decode cX12_faults 242 = .ok (.goto (-57), 3) := by decide +kernel
theorem dX12_faults_245 : decode cX12_faults 245 = .ok (.iinc 3 1, 3) := by decide +kernel
theorem dX12_faults_248 : decode cX12_faults 248 = .ok (.goto (-71), 3) := by decide +kernel
theorem dX12_faults_251 : decode cX12_faults 251 = .ok (.aload_n 0, 1) := by decide +kernel
theorem dX12_faults_252 : decode cX12_faults 252 = .ok (.getfield 245, 3) := by decide +kernel
theorem dX12_faults_255 : decode cX12_faults 255 = .ok (.ireturn, 1) := by decide +kernel
theorem dX12_fault_0 : decode cX12_fault 0 = .ok (.iload_n 2, 1) := by decide +kernel
theorem dX12_fault_1 : decode cX12_fault 1 = .ok (.iconst 0, 1) := by decide +kernel
theorem dX12_fault_2 : decode cX12_fault 2 = .ok (.iconst 3, 1) := by decide +kernel
theorem dX12_fault_3 : decode cX12_fault 3 = .ok (.invokestatic 129, 3) := by decide +kernel
theorem dX12_fault_6 : decode cX12_fault 6 = .ok (.ifCond .ne 5, 3) := by decide +kernel
theorem dX12_fault_9 : decode cX12_fault 9 = .ok (.iconst (-1), 1) := by decide +kernel
theorem dX12_fault_10 : decode cX12_fault 10 = .ok (.ireturn, 1) := by decide +kernel
theorem dX12_fault_11 : decode cX12_fault 11 = .ok (.iload_n 1, 1) := by decide +kernel
theorem dX12_fault_12 : decode cX12_fault 12 = .ok (.iconst 0, 1) := by decide +kernel
theorem dX12_fault_13 : decode cX12_fault 13 = .ok (.aload_n 0, 1) := by decide +kernel
theorem dX12_fault_14 : decode cX12_fault 14 = .ok (.getfield 248, 3) := by decide +kernel
theorem dX12_fault_17 : decode cX12_fault 17 = .ok (.iconst 1, 1) := by decide +kernel
theorem dX12_fault_18 : decode cX12_fault 18 = .ok (.isub, 1) := by decide +kernel
theorem dX12_fault_19 : decode cX12_fault 19 = .ok (.invokestatic 129, 3) := by decide +kernel
theorem dX12_fault_22 : decode cX12_fault 22 = .ok (.ifCond .ne 6, 3) := by decide +kernel
theorem dX12_fault_25 : decode cX12_fault 25 = .ok (.bipush (-2), 2) := by decide +kernel
theorem dX12_fault_27 : decode cX12_fault 27 = .ok (.ireturn, 1) := by decide +kernel
theorem dX12_fault_28 : decode cX12_fault 28 = .ok (.iload_n 2, 1) := by decide +kernel
theorem dX12_fault_29 : decode cX12_fault 29 = .ok (.ifCond .ne 12, 3) := by decide +kernel
theorem dX12_fault_32 : decode cX12_fault 32 = .ok (.aload_n 0, 1) := by decide +kernel
theorem dX12_fault_33 : decode cX12_fault 33 = .ok (.getfield 72, 3) := by decide +kernel
theorem dX12_fault_36 : decode cX12_fault 36 = .ok (.iload_n 1, 1) := by decide +kernel
theorem dX12_fault_37 : decode cX12_fault 37 = .ok (.iaload, 1) := by decide +kernel
theorem dX12_fault_38 : decode cX12_fault 38 = .ok (.goto 37, 3) := by decide +kernel
theorem dX12_fault_41 : decode cX12_fault 41 = .ok (.iload_n 2, 1) := by decide +kernel
theorem dX12_fault_42 : decode cX12_fault 42 = .ok (.iconst 1, 1) := by decide +kernel
theorem dX12_fault_43 : decode cX12_fault 43 = .ok (.if_icmp .ne 12, 3) := by decide +kernel
theorem dX12_fault_46 : decode cX12_fault 46 = .ok (.aload_n 0, 1) := by decide +kernel
theorem dX12_fault_47 : decode cX12_fault 47 = .ok (.getfield 75, 3) := by decide +kernel
theorem dX12_fault_50 : decode cX12_fault 50 = .ok (.iload_n 1, 1) := by decide +kernel
theorem dX12_fault_51 : decode cX12_fault 51 = .ok (.iaload, 1) := by decide +kernel
theorem dX12_fault_52 : decode cX12_fault 52 = .ok (.goto 23, 3) := by decide +kernel
theorem dX12_fault_55 : decode cX12_fault 55 = .ok (.iload_n 2, 1) := by decide +kernel
theorem dX12_fault_56 : decode cX12_fault 56 = .ok (.iconst 2, 1) := by decide +kernel
theorem dX12_fault_57 : decode cX12_fault 57 = .ok (.if_icmp .ne 12, 3) := by decide +kernel
theorem dX12_fault_60 : decode cX12_fault 60 = .ok (.aload_n 0, 1) := by decide +kernel
theorem dX12_fault_61 : decode cX12_fault 61 = .ok (.getfield 78, 3) := by decide +kernel
theorem dX12_fault_64 : decode cX12_fault 64 = .ok (.iload_n 1, 1) := by decide +kernel
theorem dX12_fault_65 : decode cX12_fault 65 = .ok (.iaload, 1) := by decide +kernel
theorem dX12_fault_66 : decode cX12_fault 66 = .ok (.goto 9, 3) := by decide +kernel
theorem dX12_fault_69 : decode cX12_fault 69 = .ok (.aload_n 0, 1) := by decide +kernel
theorem dX12_fault_70 : decode cX12_fault 70 = .ok (.getfield 81, 3) := by decide +kernel
theorem dX12_fault_73 : decode cX12_fault 73 = .ok (.iload_n 1, 1) := by decide +kernel
theorem dX12_fault_74 : decode cX12_fault 74 = .ok (.iaload, 1) := by decide +kernel
theorem dX12_fault_75 : decode cX12_fault 75 = .ok (.ireturn, 1) := by decide +kernel
theorem dX12_mend_0 : decode cX12_mend 0 = .ok (.aload_n 0, 1) := by decide +kernel
theorem dX12_mend_1 : decode cX12_mend 1 = .ok (.iconst 0, 1) := by decide +kernel
theorem dX12_mend_2 : decode cX12_mend 2 = .ok (.putfield 126, 3) := by decide +kernel
theorem dX12_mend_5 : decode cX12_mend 5 = .ok (.aload_n 0, 1) := by decide +kernel
theorem dX12_mend_6 : decode cX12_mend 6 = .ok (.invokevirtual 238, 3) := by decide +kernel
theorem dX12_mend_9 : decode cX12_mend 9 = .ok (.iload_n 1, 1) := by decide +kernel
theorem dX12_mend_10 : decode cX12_mend 10 = .ok (.iconst 0, 1) := by decide +kernel
theorem dX12_mend_11 : decode cX12_mend 11 = .ok (.aload_n 0, 1) := by decide +kernel
theorem dX12_mend_12 : decode cX12_mend 12 = .ok (.getfield 248, 3) := by decide +kernel
theorem dX12_mend_15 : decode cX12_mend 15 = .ok (.iconst 1, 1) := by decide +kernel
theorem dX12_mend_16 : decode cX12_mend 16 = .ok (.isub, 1) := by decide +kernel
theorem dX12_mend_17 : decode cX12_mend 17 = .ok (.invokestatic 129, 3) := by decide +kernel
theorem dX12_mend_20 : decode cX12_mend 20 = .ok (.ifCond .ne 6, 3) := by decide +kernel
theorem dX12_mend_23 : decode cX12_mend 23 = .ok (.bipush (-2), 2) := by decide +kernel
theorem dX12_mend_25 : decode cX12_mend 25 = .ok (.ireturn, 1) := by decide +kernel
theorem dX12_mend_26 : decode cX12_mend 26 = .ok (.aload_n 0, 1) := by decide +kernel
theorem dX12_mend_27 : decode cX12_mend 27 = .ok (.getfield 78, 3) := by decide +kernel
theorem dX12_mend_30 : decode cX12_mend 30 = .ok (.iload_n 1, 1) := by decide +kernel
theorem dX12_mend_31 : decode cX12_mend 31 = .ok (.iaload, 1) := by decide +kernel
theorem dX12_mend_32 : decode cX12_mend 32 = .ok (.istore_n 2, 1) := by decide +kernel
theorem dX12_mend_33 : decode cX12_mend 33 = .ok (.aload_n 0, 1) := by decide +kernel
theorem dX12_mend_34 : decode cX12_mend 34 = .ok (.getfield 81, 3) := by decide +kernel
theorem dX12_mend_37 : decode cX12_mend 37 = .ok (.iload_n 1, 1) := by decide +kernel
theorem dX12_mend_38 : decode cX12_mend 38 = .ok (.iaload, 1) := by decide +kernel
theorem dX12_mend_39 : decode cX12_mend 39 = .ok (.istore_n 3, 1) := by decide +kernel
theorem dX12_mend_40 : decode cX12_mend 40 = .ok (.aload_n 0, 1) := by decide +kernel
theorem dX12_mend_41 : decode cX12_mend 41 = .ok (.getfield 9, 3) := by decide +kernel
theorem dX12_mend_44 : decode cX12_mend 44 = .ok (.iload_n 2, 1) := by decide +kernel
theorem dX12_mend_45 : decode cX12_mend 45 = .ok (.baload, 1) := by decide +kernel
theorem dX12_mend_46 : decode cX12_mend 46 = .ok (.ifCond .eq 11, 3) := by decide +kernel
theorem dX12_mend_49 : decode cX12_mend 49 = .ok (.aload_n 0, 1) := by decide +kernel
theorem dX12_mend_50 : decode cX12_mend 50 = .ok (.iload_n 2, 1) := by decide +kernel
theorem dX12_mend_51 : decode cX12_mend 51 = .ok (.invokevirtual 165, 3) := by decide +kernel
theorem dX12_mend_54 : decode cX12_mend 54 = .ok (.ifCond .gt 20, 3) := by decide +kernel
theorem dX12_mend_57 : decode cX12_mend 57 = .ok (.aload_n 0, 1) := by decide +kernel
theorem dX12_mend_58 : decode cX12_mend 58 = .ok (.getfield 9, 3) := by decide +kernel
theorem dX12_mend_61 : decode cX12_mend 61 = .ok (.iload_n 3, 1) := by decide +kernel
theorem dX12_mend_62 : decode cX12_mend 62 = .ok (.baload, 1) := by decide +kernel
theorem dX12_mend_63 : decode cX12_mend 63 = .ok (.ifCond .eq 17, 3) := by decide +kernel
theorem dX12_mend_66 : decode cX12_mend 66 = .ok (.aload_n 0, 1) := by decide +kernel
theorem dX12_mend_67 : decode cX12_mend 67 = .ok (.iload_n 3, 1) := by decide +kernel
theorem dX12_mend_68 : decode cX12_mend 68 = .ok (.invokevirtual 165, 3) := by decide +kernel
theorem dX12_mend_71 : decode cX12_mend 71 = .ok (.ifCond .le 9, 3) := by decide +kernel
theorem dX12_mend_74 : decode cX12_mend 74 = .ok (.aload_n 0, 1) := by decide +kernel
theorem dX12_mend_75 : decode cX12_mend 75 = .ok (.iconst 2, 1) := by decide +kernel
theorem dX12_mend_76 : decode cX12_mend 76 = .ok (.invokevirtual 157, 3) := by decide +kernel
theorem dX12_mend_79 : decode cX12_mend 79 = .ok (.ireturn, 1) := by decide +kernel
theorem dX12_mend_80 : decode cX12_mend 80 = .ok (.aload_n 0, 1) := by decide +kernel
theorem dX12_mend_81 : decode cX12_mend 81 = .ok (.iload_n 2, 1) := by decide +kernel
theorem dX12_mend_82 : decode cX12_mend 82 = .ok (.invokevirtual 168, 3) := by decide +kernel
theorem dX12_mend_85 : decode cX12_mend 85 = .ok (.aload_n 0, 1) := by decide +kernel
theorem dX12_mend_86 : decode cX12_mend 86 = .ok (.iload_n 3, 1) := by decide +kernel
theorem dX12_mend_87 : decode cX12_mend 87 = .ok (.invokevirtual 168, 3) := by decide +kernel
theorem dX12_mend_90 : decode cX12_mend 90 = .ok (.aload_n 0, 1) := by decide +kernel
theorem dX12_mend_91 : decode cX12_mend 91 = .ok (.getfield 75, 3) := by decide +kernel
theorem dX12_mend_94 : decode cX12_mend 94 = .ok (.iload_n 1, 1) := by decide +kernel
theorem dX12_mend_95 : decode cX12_mend 95 = .ok (.iaload, 1) := by decide +kernel
theorem dX12_mend_96 : decode cX12_mend 96 = .ok (.istore 4, 2) := by decide +kernel
theorem dX12_mend_98 : decode cX12_mend 98 = .ok (.aload_n 0, 1) := by decide +kernel
theorem dX12_mend_99 : decode cX12_mend 99 = .ok (.getfield 84, 3) := by decide +kernel
theorem dX12_mend_102 : decode cX12_mend 102 = .ok (.iload_n 1, 1) := by decide +kernel
theorem dX12_mend_103 : decode cX12_mend 103 = .ok (.iaload, 1) := by decide +kernel
theorem dX12_mend_104 : decode cX12_mend 104 = .ok (.istore 5, 2) := by decide +kernel
theorem dX12_mend_106 : decode cX12_mend 106 = .ok (.aload_n 0, 1) := by decide +kernel
theorem dX12_mend_107 : decode cX12_mend 107 = .ok (.iload_n 2, 1) := by decide +kernel
theorem dX12_mend_108 : decode cX12_mend 108 = .ok (.iload 4, 2) := by decide +kernel
theorem dX12_mend_110 : decode cX12_mend 110 = .ok (.invokevirtual 171, 3) := by decide +kernel
theorem dX12_mend_113 : decode cX12_mend 113 = .ok (.istore 6, 2) := by decide +kernel
theorem dX12_mend_115 : decode cX12_mend 115 = .ok (.aload_n 0, 1) := by decide +kernel
theorem dX12_mend_116 : decode cX12_mend 116 = .ok (.iload_n 3, 1) := by decide +kernel
theorem dX12_mend_117 : decode cX12_mend 117 = .ok (.iload 4, 2) := by decide +kernel
theorem dX12_mend_119 : decode cX12_mend 119 = .ok (.invokevirtual 171, 3) := by decide +kernel
theorem dX12_mend_122 : decode cX12_mend 122 = .ok (.istore 7, 2) := by decide +kernel
theorem dX12_mend_124 : decode cX12_mend 124 = .ok (.iload 6, 2) := by decide +kernel
theorem dX12_mend_126 : decode cX12_mend 126 = .ok (.ifCond .eq 8, 3) := by decide +kernel
theorem dX12_mend_129 : decode cX12_mend 129 = .ok (.iload 7, 2) := by decide +kernel
theorem dX12_mend_131 : decode cX12_mend 131 = .ok (.ifCond .ne 6, 3) := by decide +kernel
theorem dX12_mend_134 : decode cX12_mend 134 = .ok (.bipush (-2), 2) := by decide +kernel
theorem dX12_mend_136 : decode cX12_mend 136 = .ok (.ireturn, 1) := by decide +kernel
theorem dX12_mend_137 : decode cX12_mend 137 = .ok (.aload_n 0, 1) := by decide +kernel
theorem dX12_mend_138 : decode cX12_mend 138 = .ok (.iload_n 2, 1) := by decide +kernel
theorem dX12_mend_139 : decode cX12_mend 139 = .ok (.iload_n 3, 1) := by decide +kernel
theorem dX12_mend_140 : decode cX12_mend 140 = .ok (.invokevirtual 241, 3) := by decide +kernel
theorem dX12_mend_143 : decode cX12_mend 143 = .ok (.aload_n 0, 1) := by decide +kernel
theorem dX12_mend_144 : decode cX12_mend 144 = .ok (.getfield 32, 3) := by decide +kernel
theorem dX12_mend_147 : decode cX12_mend 147 = .ok (.iload 5, 2) := by decide +kernel
theorem dX12_mend_149 : decode cX12_mend 149 = .ok (.iaload, 1) := by decide +kernel
theorem dX12_mend_150 : decode cX12_mend 150 = .ok (.iconst 2, 1) := by decide +kernel
theorem dX12_mend_151 : decode cX12_mend 151 = .ok (.if_icmp .ne 12, 3) := by decide +kernel
theorem dX12_mend_154 : decode cX12_mend 154 = .ok (.aload_n 0, 1) := by decide +kernel
theorem dX12_mend_155 : decode cX12_mend 155 = .ok (.bipush 20, 2) := by decide +kernel
theorem dX12_mend_157 : decode cX12_mend 157 = .ok (.invokevirtual 213, 3) := by decide +kernel
theorem dX12_mend_160 : decode cX12_mend 160 = .ok (.bipush (-2), 2) := by decide +kernel
theorem dX12_mend_162 : decode cX12_mend 162 = .ok (.ireturn, 1) := by decide +kernel
theorem dX12_mend_163 : decode cX12_mend 163 = .ok (.aload_n 0, 1) := by decide +kernel
theorem dX12_mend_164 : decode cX12_mend 164 = .ok (.getfield 32, 3) := by decide +kernel
theorem dX12_mend_167 : decode cX12_mend 167 = .ok (.iload 5, 2) := by decide +kernel
theorem dX12_mend_169 : decode cX12_mend 169 = .ok (.iaload, 1) := by decide +kernel
theorem dX12_mend_170 : decode cX12_mend 170 = .ok (.iconst 3, 1) := by decide +kernel
theorem dX12_mend_171 : decode cX12_mend 171 = .ok (.if_icmp .ne 27, 3) := by decide +kernel
theorem dX12_mend_174 : decode cX12_mend 174 = .ok (.aload_n 0, 1) := by decide +kernel
theorem dX12_mend_175 : decode cX12_mend 175 = .ok (.bipush 22, 2) := by decide +kernel
theorem dX12_mend_177 : decode cX12_mend 177 = .ok (.invokevirtual 213, 3) := by decide +kernel
theorem dX12_mend_180 : decode cX12_mend 180 = .ok (.aload_n 0, 1) := by decide +kernel
theorem dX12_mend_181 : decode cX12_mend 181 = .ok (.iload 5, 2) := by decide +kernel
theorem dX12_mend_183 : decode cX12_mend 183 = .ok (.iload 4, 2) := by decide +kernel
theorem dX12_mend_185 : decode cX12_mend 185 = .ok (.iload 7, 2) := by decide +kernel
theorem dX12_mend_187 : decode cX12_mend 187 = .ok (.iload 7, 2) := by decide +kernel
theorem dX12_mend_189 : decode cX12_mend 189 = .ok (.invokevirtual 235, 3) := by decide +kernel
theorem dX12_mend_192 : decode cX12_mend 192 = .ok (.ifCond .ne 6, 3) := by decide +kernel
theorem dX12_mend_195 : decode cX12_mend 195 = .ok (.iload 7, 2) := by decide +kernel
theorem dX12_mend_197 : decode cX12_mend 197 = .ok (.ireturn, 1) := by decide +kernel
theorem dX12_mend_198 : decode cX12_mend 198 = .ok (.aload_n 0, 1) := by decide +kernel
theorem dX12_mend_199 : decode cX12_mend 199 = .ok (.iload 5, 2) := by decide +kernel
theorem dX12_mend_201 : decode cX12_mend 201 = .ok (.iload 4, 2) := by decide +kernel
theorem dX12_mend_203 : decode cX12_mend 203 = .ok (.iload 6, 2) := by decide +kernel
theorem dX12_mend_205 : decode cX12_mend 205 = .ok (.iload 7, 2) := by decide +kernel
theorem dX12_mend_207 : decode cX12_mend 207 = .ok (.invokevirtual 264, 3) := by decide +kernel
theorem dX12_mend_210 : decode cX12_mend 210 = .ok (.ireturn, 1) := by decide +kernel
theorem dX12_canon_0 : decode cX12_canon 0 = .ok (.iload_n 1, 1) := by decide +kernel
theorem dX12_canon_1 : decode cX12_canon 1 = .ok (.invokestatic 153, 3) := by decide +kernel
theorem dX12_canon_4 : decode cX12_canon 4 = .ok (.ifCond .eq 42, 3) := by decide +kernel
theorem dX12_canon_7 : decode cX12_canon 7 = .ok (.iload_n 2, 1) := by decide +kernel
theorem dX12_canon_8 : decode cX12_canon 8 = .ok (.invokestatic 181, 3) := by decide +kernel
theorem dX12_canon_11 : decode cX12_canon 11 = .ok (.ifCond .eq 35, 3) := by decide +kernel
theorem dX12_canon_14 : decode cX12_canon 14 = .ok (.iload_n 3, 1) := by decide +kernel
theorem dX12_canon_15 : decode cX12_canon 15 = .ok (.iconst 0, 1) := by decide +kernel
theorem dX12_canon_16 : decode cX12_canon 16 = .ok (.bipush 60, 2) := by decide +kernel
theorem dX12_canon_18 : decode cX12_canon 18 = .ok (.invokestatic 129, 3) := by decide +kernel
theorem dX12_canon_21 : decode cX12_canon 21 = .ok (.ifCond .eq 25, 3) := by decide +kernel
theorem dX12_canon_24 : decode cX12_canon 24 = .ok (.iload 4, 2) := by decide +kernel
theorem dX12_canon_26 : decode cX12_canon 26 = .ok (.bipush (-60), 2) := by decide +kernel
theorem dX12_canon_28 : decode cX12_canon 28 = .ok (.bipush 60, 2) := by decide +kernel
theorem dX12_canon_30 : decode cX12_canon 30 = .ok (.invokestatic 129, 3) := by decide +kernel
theorem dX12_canon_33 : decode cX12_canon 33 = .ok (.ifCond .eq 13, 3) := by decide +kernel
theorem dX12_canon_36 : decode cX12_canon 36 = .ok (.iload 5, 2) := by decide +kernel
theorem dX12_canon_38 : decode cX12_canon 38 = .ok (.iconst 0, 1) := by decide +kernel
theorem dX12_canon_39 : decode cX12_canon 39 = .ok (.iconst 2, 1) := by decide +kernel
theorem dX12_canon_40 : decode cX12_canon 40 = .ok (.invokestatic 129, 3) := by decide +kernel
theorem dX12_canon_43 : decode cX12_canon 43 = .ok (.ifCond .ne 5, 3) := by decide +kernel
theorem dX12_canon_46 : decode cX12_canon 46 = .ok (.iconst (-1), 1) := by decide +kernel
theorem dX12_canon_47 : decode cX12_canon 47 = .ok (.ireturn, 1) := by decide +kernel
theorem dX12_canon_48 : decode cX12_canon 48 = .ok (.aload_n 0, 1) := by decide +kernel
theorem dX12_canon_49 : decode cX12_canon 49 = .ok (.iconst 0, 1) := by decide +kernel
theorem dX12_canon_50 : decode cX12_canon 50 = .ok (.putfield 126, 3) := by decide +kernel
theorem dX12_canon_53 : decode cX12_canon 53 = .ok (.aload_n 0, 1) := by decide +kernel
theorem dX12_canon_54 : decode cX12_canon 54 = .ok (.invokevirtual 238, 3) := by decide +kernel
theorem dX12_canon_57 : decode cX12_canon 57 = .ok (.aload_n 0, 1) := by decide +kernel
theorem dX12_canon_58 : decode cX12_canon 58 = .ok (.iload_n 1, 1) := by decide +kernel
theorem dX12_canon_59 : decode cX12_canon 59 = .ok (.iload_n 2, 1) := by decide +kernel
theorem dX12_canon_60 : decode cX12_canon 60 = .ok (.invokevirtual 272, 3) := by decide +kernel
theorem dX12_canon_63 : decode cX12_canon 63 = .ok (.istore 6, 2) := by decide +kernel
theorem dX12_canon_65 : decode cX12_canon 65 = .ok (.iload 6, 2) := by decide +kernel
theorem dX12_canon_67 : decode cX12_canon 67 = .ok (.ifCond .le 10, 3) := by decide +kernel
theorem dX12_canon_70 : decode cX12_canon 70 = .ok (.aload_n 0, 1) := by decide +kernel
theorem dX12_canon_71 : decode cX12_canon 71 = .ok (.iload 6, 2) := by decide +kernel
theorem dX12_canon_73 : decode cX12_canon 73 = .ok (.invokevirtual 157, 3) := by decide +kernel
theorem dX12_canon_76 : decode cX12_canon 76 = .ok (.ireturn, 1) := by decide +kernel
theorem dX12_canon_77 : decode cX12_canon 77 = .ok (.aload_n 0, 1) := by decide +kernel
theorem dX12_canon_78 : decode cX12_canon 78 = .ok (.iload_n 1, 1) := by decide +kernel
theorem dX12_canon_79 : decode cX12_canon 79 = .ok (.invokevirtual 168, 3) := by decide +kernel
theorem dX12_canon_82 : decode cX12_canon 82 = .ok (.aload_n 0, 1) := by decide +kernel
theorem dX12_canon_83 : decode cX12_canon 83 = .ok (.iload_n 1, 1) := by decide +kernel
theorem dX12_canon_84 : decode cX12_canon 84 = .ok (.iload_n 2, 1) := by decide +kernel
theorem dX12_canon_85 : decode cX12_canon 85 = .ok (.iload_n 3, 1) := by decide +kernel
theorem dX12_canon_86 : decode cX12_canon 86 = .ok (.iload 4, 2) := by decide +kernel
theorem dX12_canon_88 : decode cX12_canon 88 = .ok (.iload 5, 2) := by decide +kernel
theorem dX12_canon_90 : decode cX12_canon 90 = .ok (.invokevirtual 275, 3) := by decide +kernel
theorem dX12_canon_93 : decode cX12_canon 93 = .ok (.ireturn, 1) := by decide +kernel
theorem dX12_canons_0 : decode cX12_canons 0 = .ok (.iload_n 1, 1) := by decide +kernel
theorem dX12_canons_1 : decode cX12_canons 1 = .ok (.invokestatic 153, 3) := by decide +kernel
theorem dX12_canons_4 : decode cX12_canons 4 = .ok (.ifCond .eq 31, 3) := by decide +kernel
theorem dX12_canons_7 : decode cX12_canons 7 = .ok (.iload_n 2, 1) := by decide +kernel
theorem dX12_canons_8 : decode cX12_canons 8 = .ok (.invokestatic 181, 3) := by decide +kernel
theorem dX12_canons_11 : decode cX12_canons 11 = .ok (.ifCond .eq 24, 3) := by decide +kernel
theorem dX12_canons_14 : decode cX12_canons 14 = .ok (.iload_n 3, 1) := by decide +kernel
theorem dX12_canons_15 : decode cX12_canons 15 = .ok (.bipush (-60), 2) := by decide +kernel
theorem dX12_canons_17 : decode cX12_canons 17 = .ok (.bipush 60, 2) := by decide +kernel
theorem dX12_canons_19 : decode cX12_canons 19 = .ok (.invokestatic 129, 3) := by decide +kernel
theorem dX12_canons_22 : decode cX12_canons 22 = .ok (.ifCond .eq 13, 3) := by decide +kernel
theorem dX12_canons_25 : decode cX12_canons 25 = .ok (.iload 4, 2) := by decide +kernel
theorem dX12_canons_27 : decode cX12_canons 27 = .ok (.iconst 0, 1) := by decide +kernel
theorem dX12_canons_28 : decode cX12_canons 28 = .ok (.iconst 2, 1) := by decide +kernel
theorem dX12_canons_29 : decode cX12_canons 29 = .ok (.invokestatic 129, 3) := by decide +kernel
theorem dX12_canons_32 : decode cX12_canons 32 = .ok (.ifCond .ne 5, 3) := by decide +kernel
theorem dX12_canons_35 : decode cX12_canons 35 = .ok (.iconst (-1), 1) := by decide +kernel
theorem dX12_canons_36 : decode cX12_canons 36 = .ok (.ireturn, 1) := by decide +kernel
theorem dX12_canons_37 : decode cX12_canons 37 = .ok (.aload_n 0, 1) := by decide +kernel
theorem dX12_canons_38 : decode cX12_canons 38 = .ok (.iconst 0, 1) := by decide +kernel
theorem dX12_canons_39 : decode cX12_canons 39 = .ok (.putfield 126, 3) := by decide +kernel
theorem dX12_canons_42 : decode cX12_canons 42 = .ok (.aload_n 0, 1) := by decide +kernel
theorem dX12_canons_43 : decode cX12_canons 43 = .ok (.invokevirtual 238, 3) := by decide +kernel
theorem dX12_canons_46 : decode cX12_canons 46 = .ok (.aload_n 0, 1) := by decide +kernel
theorem dX12_canons_47 : decode cX12_canons 47 = .ok (.iload_n 1, 1) := by decide +kernel
theorem dX12_canons_48 : decode cX12_canons 48 = .ok (.iload_n 2, 1) := by decide +kernel
theorem dX12_canons_49 : decode cX12_canons 49 = .ok (.invokevirtual 272, 3) := by decide +kernel
theorem dX12_canons_52 : decode cX12_canons 52 = .ok (.istore 5, 2) := by decide +kernel
theorem dX12_canons_54 : decode cX12_canons 54 = .ok (.iload 5, 2) := by decide +kernel
theorem dX12_canons_56 : decode cX12_canons 56 = .ok (.ifCond .le 10, 3) := by decide +kernel
theorem dX12_canons_59 : decode cX12_canons 59 = .ok (.aload_n 0, 1) := by decide +kernel
theorem dX12_canons_60 : decode cX12_canons 60 = .ok (.iload 5, 2) := by decide +kernel
theorem dX12_canons_62 : decode cX12_canons 62 = .ok (.invokevirtual 157, 3) := by decide +kernel
theorem dX12_canons_65 : decode cX12_canons 65 = .ok (.ireturn, 1) := by decide +kernel
theorem dX12_canons_66 : decode cX12_canons 66 = .ok (.aload_n 0, 1) := by decide +kernel
theorem dX12_canons_67 : decode cX12_canons 67 = .ok (.iload_n 1, 1) := by decide +kernel
theorem dX12_canons_68 : decode cX12_canons 68 = .ok (.invokevirtual 168, 3) := by decide +kernel
theorem dX12_canons_71 : decode cX12_canons 71 = .ok (.iconst 0, 1) := by decide +kernel
theorem dX12_canons_72 : decode cX12_canons 72 = .ok (.istore 6, 2) := by decide +kernel
theorem dX12_canons_74 : decode cX12_canons 74 = .ok (.iconst 1, 1) := by decide +kernel
theorem dX12_canons_75 : decode cX12_canons 75 = .ok (.istore 7, 2) := by decide +kernel
theorem dX12_canons_77 : decode cX12_canons 77 = .ok (.iload 7, 2) := by decide +kernel
theorem dX12_canons_79 : decode cX12_canons 79 = .ok (.bipush 20, 2) := by decide +kernel
theorem dX12_canons_81 : decode cX12_canons 81 = .ok (.if_icmp .gt 40, 3) := by decide +kernel
theorem dX12_canons_84 : decode cX12_canons 84 = .ok (.iload 6, 2) := by decide +kernel
theorem dX12_canons_86 : decode cX12_canons 86 = .ok (.aload_n 0, 1) := by decide +kernel
theorem dX12_canons_87 : decode cX12_canons 87 = .ok (.iload_n 1, 1) := by decide +kernel
theorem dX12_canons_88 : decode cX12_canons 88 = .ok (.iload_n 2, 1) := by decide +kernel
theorem dX12_canons_89 : decode cX12_canons 89 = .ok (.iload 7, 2) := by decide +kernel
theorem dX12_canons_91 : decode cX12_canons 91 = .ok (.iload_n 3, 1) := by decide +kernel
theorem dX12_canons_92 : decode cX12_canons 92 = .ok (.iload 4, 2) := by decide +kernel
theorem dX12_canons_94 : decode cX12_canons 94 = .ok (.invokevirtual 275, 3) := by decide +kernel
theorem dX12_canons_97 : decode cX12_canons 97 = .ok (.bipush (-2), 2) := by decide +kernel
theorem dX12_canons_99 : decode cX12_canons 99 = .ok (.if_icmp .ne 12, 3) := by decide +kernel
theorem dX12_canons_102 : decode cX12_canons 102 = .ok (.iconst 1, 1) := by decide +kernel
theorem dX12_canons_103 : decode cX12_canons 103 = .ok (.iload 7, 2) := by decide +kernel
theorem dX12_canons_105 : decode cX12_canons 105 = .ok (.iconst 1, 1) := by decide +kernel
theorem dX12_canons_106 : decode cX12_canons 106 = .ok (.isub, 1) := by decide +kernel
theorem dX12_canons_107 : decode cX12_canons 107 = .ok (.ishl, 1) := by decide +kernel
theorem dX12_canons_108 : decode cX12_canons 108 = .ok (.goto 4, 3) := by decide +kernel
theorem dX12_canons_111 : decode cX12_canons 111 = .ok (.iconst 0, 1) := by decide +kernel
theorem dX12_canons_112 : decode cX12_canons 112 = .ok (.ior, 1) := by decide +kernel
theorem dX12_canons_113 : decode cX12_canons 113 = .ok (.istore 6, 2) := by decide +kernel
theorem dX12_canons_115 : decode cX12_canons 115 = .ok (.iinc 7 1, 3) := by decide +kernel
theorem dX12_canons_118 : decode cX12_canons 118 = .ok (.goto (-41), 3) := by decide +kernel
theorem dX12_canons_121 : decode cX12_canons 121 = .ok (.iload 6, 2) := by decide +kernel
theorem dX12_canons_123 : decode cX12_canons 123 = .ok (.ireturn, 1) := by decide +kernel
theorem dX12_follows_0 : decode cX12_follows 0 = .ok (.iload_n 1, 1) := by decide +kernel
theorem dX12_follows_1 : decode cX12_follows 1 = .ok (.invokestatic 153, 3) := by decide +kernel
theorem dX12_follows_4 : decode cX12_follows 4 = .ok (.ifCond .eq 46, 3) := by decide +kernel
theorem dX12_follows_7 : decode cX12_follows 7 = .ok (.iload_n 2, 1) := by decide +kernel
theorem dX12_follows_8 : decode cX12_follows 8 = .ok (.iconst 0, 1) := by decide +kernel
theorem dX12_follows_9 : decode cX12_follows 9 = .ok (.sipush 1000, 3) := by decide +kernel
theorem dX12_follows_12 : decode cX12_follows 12 = .ok (.invokestatic 129, 3) := by decide +kernel
theorem dX12_follows_15 : decode cX12_follows 15 = .ok (.ifCond .eq 35, 3) := by decide +kernel
theorem dX12_follows_18 : decode cX12_follows 18 = .ok (.iload_n 3, 1) := by decide +kernel
theorem dX12_follows_19 : decode cX12_follows 19 = .ok (.iconst 0, 1) := by decide +kernel
theorem dX12_follows_20 : decode cX12_follows 20 = .ok (.bipush 60, 2) := by decide +kernel
theorem dX12_follows_22 : decode cX12_follows 22 = .ok (.invokestatic 129, 3) := by decide +kernel
theorem dX12_follows_25 : decode cX12_follows 25 = .ok (.ifCond .eq 25, 3) := by decide +kernel
theorem dX12_follows_28 : decode cX12_follows 28 = .ok (.iload 4, 2) := by decide +kernel
theorem dX12_follows_30 : decode cX12_follows 30 = .ok (.bipush (-60), 2) := by decide +kernel
theorem dX12_follows_32 : decode cX12_follows 32 = .ok (.bipush 60, 2) := by decide +kernel
theorem dX12_follows_34 : decode cX12_follows 34 = .ok (.invokestatic 129, 3) := by decide +kernel
theorem dX12_follows_37 : decode cX12_follows 37 = .ok (.ifCond .eq 13, 3) := by decide +kernel
theorem dX12_follows_40 : decode cX12_follows 40 = .ok (.iload 5, 2) := by decide +kernel
theorem dX12_follows_42 : decode cX12_follows 42 = .ok (.iconst 0, 1) := by decide +kernel
theorem dX12_follows_43 : decode cX12_follows 43 = .ok (.iconst 2, 1) := by decide +kernel
theorem dX12_follows_44 : decode cX12_follows 44 = .ok (.invokestatic 129, 3) := by decide +kernel
theorem dX12_follows_47 : decode cX12_follows 47 = .ok (.ifCond .ne 5, 3) := by decide +kernel
theorem dX12_follows_50 : decode cX12_follows 50 = .ok (.iconst (-1), 1) := by decide +kernel
theorem dX12_follows_51 : decode cX12_follows 51 = .ok (.ireturn, 1) := by decide +kernel
theorem dX12_follows_52 : decode cX12_follows 52 = .ok (.aload_n 0, 1) := by decide +kernel
theorem dX12_follows_53 : decode cX12_follows 53 = .ok (.iconst 0, 1) := by decide +kernel
theorem dX12_follows_54 : decode cX12_follows 54 = .ok (.putfield 126, 3) := by decide +kernel
theorem dX12_follows_57 : decode cX12_follows 57 = .ok (.aload_n 0, 1) := by decide +kernel
theorem dX12_follows_58 : decode cX12_follows 58 = .ok (.iload_n 1, 1) := by decide +kernel
theorem dX12_follows_59 : decode cX12_follows 59 = .ok (.invokevirtual 165, 3) := by decide +kernel
theorem dX12_follows_62 : decode cX12_follows 62 = .ok (.istore 6, 2) := by decide +kernel
theorem dX12_follows_64 : decode cX12_follows 64 = .ok (.iload 6, 2) := by decide +kernel
theorem dX12_follows_66 : decode cX12_follows 66 = .ok (.ifCond .le 10, 3) := by decide +kernel
theorem dX12_follows_69 : decode cX12_follows 69 = .ok (.aload_n 0, 1) := by decide +kernel
theorem dX12_follows_70 : decode cX12_follows 70 = .ok (.iload 6, 2) := by decide +kernel
theorem dX12_follows_72 : decode cX12_follows 72 = .ok (.invokevirtual 157, 3) := by decide +kernel
theorem dX12_follows_75 : decode cX12_follows 75 = .ok (.ireturn, 1) := by decide +kernel
theorem dX12_follows_76 : decode cX12_follows 76 = .ok (.aload_n 0, 1) := by decide +kernel
theorem dX12_follows_77 : decode cX12_follows 77 = .ok (.iload_n 1, 1) := by decide +kernel
theorem dX12_follows_78 : decode cX12_follows 78 = .ok (.invokevirtual 168, 3) := by decide +kernel
theorem dX12_follows_81 : decode cX12_follows 81 = .ok (.aload_n 0, 1) := by decide +kernel
theorem dX12_follows_82 : decode cX12_follows 82 = .ok (.iload_n 1, 1) := by decide +kernel
theorem dX12_follows_83 : decode cX12_follows 83 = .ok (.iload_n 2, 1) := by decide +kernel
theorem dX12_follows_84 : decode cX12_follows 84 = .ok (.iload_n 3, 1) := by decide +kernel
theorem dX12_follows_85 : decode cX12_follows 85 = .ok (.iload 4, 2) := by decide +kernel
theorem dX12_follows_87 : decode cX12_follows 87 = .ok (.iload 5, 2) := by decide +kernel
theorem dX12_follows_89 : decode cX12_follows 89 = .ok (.invokevirtual 268, 3) := by decide +kernel
theorem dX12_follows_92 : decode cX12_follows 92 = .ok (.ireturn, 1) := by decide +kernel
theorem dX12_set_0 : decode cX12_set 0 = .ok (.iload_n 1, 1) := by decide +kernel
theorem dX12_set_1 : decode cX12_set 1 = .ok (.invokestatic 153, 3) := by decide +kernel
theorem dX12_set_4 : decode cX12_set 4 = .ok (.ifCond .eq 67, 3) := by decide +kernel
theorem dX12_set_7 : decode cX12_set 7 = .ok (.iload_n 2, 1) := by decide +kernel
theorem dX12_set_8 : decode cX12_set 8 = .ok (.invokestatic 153, 3) := by decide +kernel
theorem dX12_set_11 : decode cX12_set 11 = .ok (.ifCond .eq 60, 3) := by decide +kernel
theorem dX12_set_14 : decode cX12_set 14 = .ok (.iload_n 3, 1) := by decide +kernel
theorem dX12_set_15 : decode cX12_set 15 = .ok (.invokestatic 181, 3) := by decide +kernel
theorem dX12_set_18 : decode cX12_set 18 = .ok (.ifCond .eq 53, 3) := by decide +kernel
theorem dX12_set_21 : decode cX12_set 21 = .ok (.iload 7, 2) := by decide +kernel
theorem dX12_set_23 : decode cX12_set 23 = .ok (.iconst 0, 1) := by decide +kernel
theorem dX12_set_24 : decode cX12_set 24 = .ok (.bipush 30, 2) := by decide +kernel
theorem dX12_set_26 : decode cX12_set 26 = .ok (.invokestatic 129, 3) := by decide +kernel
theorem dX12_set_29 : decode cX12_set 29 = .ok (.ifCond .eq 42, 3) := by decide +kernel
theorem dX12_set_32 : decode cX12_set 32 = .ok (.iload 5, 2) := by decide +kernel
theorem dX12_set_34 : decode cX12_set 34 = .ok (.iconst 1, 1) := by decide +kernel
theorem dX12_set_35 : decode cX12_set 35 = .ok (.bipush 120, 2) := by decide +kernel
theorem dX12_set_37 : decode cX12_set 37 = .ok (.invokestatic 129, 3) := by decide +kernel
theorem dX12_set_40 : decode cX12_set 40 = .ok (.ifCond .eq 31, 3) := by decide +kernel
theorem dX12_set_43 : decode cX12_set 43 = .ok (.iload 6, 2) := by decide +kernel
theorem dX12_set_45 : decode cX12_set 45 = .ok (.iconst 1, 1) := by decide +kernel
theorem dX12_set_46 : decode cX12_set 46 = .ok (.bipush 120, 2) := by decide +kernel
theorem dX12_set_48 : decode cX12_set 48 = .ok (.invokestatic 129, 3) := by decide +kernel
theorem dX12_set_51 : decode cX12_set 51 = .ok (.ifCond .eq 20, 3) := by decide +kernel
theorem dX12_set_54 : decode cX12_set 54 = .ok (.iload 5, 2) := by decide +kernel
theorem dX12_set_56 : decode cX12_set 56 = .ok (.iload 6, 2) := by decide +kernel
theorem dX12_set_58 : decode cX12_set 58 = .ok (.if_icmp .gt 13, 3) := by decide +kernel
theorem dX12_set_61 : decode cX12_set 61 = .ok (.iload 6, 2) := by decide +kernel
theorem dX12_set_63 : decode cX12_set 63 = .ok (.iload 5, 2) := by decide +kernel
theorem dX12_set_65 : decode cX12_set 65 = .ok (.isub, 1) := by decide +kernel
theorem dX12_set_66 : decode cX12_set 66 = .ok (.bipush 15, 2) := by decide +kernel
theorem dX12_set_68 : decode cX12_set 68 = .ok (.if_icmp .le 5, 3) := by decide +kernel
theorem dX12_set_71 : decode cX12_set 71 = .ok (.iconst (-1), 1) := by decide +kernel
theorem dX12_set_72 : decode cX12_set 72 = .ok (.ireturn, 1) := by decide +kernel
theorem dX12_set_73 : decode cX12_set 73 = .ok (.aload_n 0, 1) := by decide +kernel
theorem dX12_set_74 : decode cX12_set 74 = .ok (.iconst 0, 1) := by decide +kernel
theorem dX12_set_75 : decode cX12_set 75 = .ok (.putfield 126, 3) := by decide +kernel
theorem dX12_set_78 : decode cX12_set 78 = .ok (.aload_n 0, 1) := by decide +kernel
theorem dX12_set_79 : decode cX12_set 79 = .ok (.iload_n 2, 1) := by decide +kernel
theorem dX12_set_80 : decode cX12_set 80 = .ok (.invokevirtual 165, 3) := by decide +kernel
theorem dX12_set_83 : decode cX12_set 83 = .ok (.istore 8, 2) := by decide +kernel
theorem dX12_set_85 : decode cX12_set 85 = .ok (.iload 8, 2) := by decide +kernel
theorem dX12_set_87 : decode cX12_set 87 = .ok (.ifCond .le 10, 3) := by decide +kernel
theorem dX12_set_90 : decode cX12_set 90 = .ok (.aload_n 0, 1) := by decide +kernel
theorem dX12_set_91 : decode cX12_set 91 = .ok (.iload 8, 2) := by decide +kernel
theorem dX12_set_93 : decode cX12_set 93 = .ok (.invokevirtual 157, 3) := by decide +kernel
theorem dX12_set_96 : decode cX12_set 96 = .ok (.ireturn, 1) := by decide +kernel
theorem dX12_set_97 : decode cX12_set 97 = .ok (.aload_n 0, 1) := by decide +kernel
theorem dX12_set_98 : decode cX12_set 98 = .ok (.iconst 1, 1) := by decide +kernel
theorem dX12_set_99 : decode cX12_set 99 = .ok (.putfield 355, 3) := by decide +kernel
theorem dX12_set_102 : decode cX12_set 102 = .ok (.aload_n 0, 1) := by decide +kernel
theorem dX12_set_103 : decode cX12_set 103 = .ok (.iload_n 1, 1) := by decide +kernel
theorem dX12_set_104 : decode cX12_set 104 = .ok (.putfield 358, 3) := by decide +kernel
theorem dX12_set_107 : decode cX12_set 107 = .ok (.aload_n 0, 1) := by decide +kernel
theorem dX12_set_108 : decode cX12_set 108 = .ok (.iload_n 3, 1) := by decide +kernel
theorem dX12_set_109 : decode cX12_set 109 = .ok (.putfield 290, 3) := by decide +kernel
theorem dX12_set_112 : decode cX12_set 112 = .ok (.aload_n 0, 1) := by decide +kernel
theorem dX12_set_113 : decode cX12_set 113 = .ok (.iload 4, 2) := by decide +kernel
theorem dX12_set_115 : decode cX12_set 115 = .ok (.putfield 287, 3) := by decide +kernel
theorem dX12_set_118 : decode cX12_set 118 = .ok (.aload_n 0, 1) := by decide +kernel
theorem dX12_set_119 : decode cX12_set 119 = .ok (.iload 5, 2) := by decide +kernel
theorem dX12_set_121 : decode cX12_set 121 = .ok (.putfield 278, 3) := by decide +kernel
theorem dX12_set_124 : decode cX12_set 124 = .ok (.aload_n 0, 1) := by decide +kernel
theorem dX12_set_125 : decode cX12_set 125 = .ok (.iload 6, 2) := by decide +kernel
theorem dX12_set_127 : decode cX12_set 127 = .ok (.putfield 299, 3) := by decide +kernel
theorem dX12_set_130 : decode cX12_set 130 = .ok (.aload_n 0, 1) := by decide +kernel
theorem dX12_set_131 : decode cX12_set 131 = .ok (.aload_n 0, 1) := by decide +kernel
theorem dX12_set_132 : decode cX12_set 132 = .ok (.getfield 13, 3) := by decide +kernel
theorem dX12_set_135 : decode cX12_set 135 = .ok (.iconst 2, 1) := by decide +kernel
theorem dX12_set_136 : decode cX12_set 136 = .ok (.iload_n 2, 1) := by decide +kernel
theorem dX12_set_137 : decode cX12_set 137 = .ok (.imul, 1) := by decide +kernel
theorem dX12_set_138 : decode cX12_set 138 = .ok (.iaload, 1) := by decide +kernel
theorem dX12_set_139 : decode cX12_set 139 = .ok (.putfield 281, 3) := by decide +kernel
theorem dX12_set_142 : decode cX12_set 142 = .ok (.iconst 0, 1) := by decide +kernel
theorem dX12_set_143 : decode cX12_set 143 = .ok (.istore 9, 2) := by decide +kernel
theorem dX12_set_145 : decode cX12_set 145 = .ok (.iconst 0, 1) := by decide +kernel
theorem dX12_set_146 : decode cX12_set 146 = .ok (.istore 10, 2) := by decide +kernel
theorem dX12_set_148 : decode cX12_set 148 = .ok (.iload 10, 2) := by decide +kernel
theorem dX12_set_150 : decode cX12_set 150 = .ok (.aload_n 0, 1) := by decide +kernel
theorem dX12_set_151 : decode cX12_set 151 = .ok (.getfield 281, 3) := by decide +kernel
theorem dX12_set_154 : decode cX12_set 154 = .ok (.if_icmp .ge 58, 3) := by decide +kernel
theorem dX12_set_157 : decode cX12_set 157 = .ok (.aload_n 0, 1) := by decide +kernel
theorem dX12_set_158 : decode cX12_set 158 = .ok (.getfield 96, 3) := by decide +kernel
theorem dX12_set_161 : decode cX12_set 161 = .ok (.iload 10, 2) := by decide +kernel
theorem dX12_set_163 : decode cX12_set 163 = .ok (.aload_n 0, 1) := by decide +kernel
theorem dX12_set_164 : decode cX12_set 164 = .ok (.iload_n 2, 1) := by decide +kernel
theorem dX12_set_165 : decode cX12_set 165 = .ok (.iload 10, 2) := by decide +kernel
theorem dX12_set_167 : decode cX12_set 167 = .ok (.invokevirtual 150, 3) := by decide +kernel
theorem dX12_set_170 : decode cX12_set 170 = .ok (.iastore, 1) := by decide +kernel
theorem dX12_set_171 : decode cX12_set 171 = .ok (.aload_n 0, 1) := by decide +kernel
theorem dX12_set_172 : decode cX12_set 172 = .ok (.getfield 99, 3) := by decide +kernel
theorem dX12_set_175 : decode cX12_set 175 = .ok (.iload 10, 2) := by decide +kernel
theorem dX12_set_177 : decode cX12_set 177 = .ok (.aload_n 0, 1) := by decide +kernel
theorem dX12_set_178 : decode cX12_set 178 = .ok (.iload_n 2, 1) := by decide +kernel
theorem dX12_set_179 : decode cX12_set 179 = .ok (.iload 10, 2) := by decide +kernel
theorem dX12_set_181 : decode cX12_set 181 = .ok (.invokevirtual 146, 3) := by decide +kernel
theorem dX12_set_184 : decode cX12_set 184 = .ok (.iastore, 1) := by decide +kernel
theorem dX12_set_185 : decode cX12_set 185 = .ok (.aload_n 0, 1) := by decide +kernel
theorem dX12_set_186 : decode cX12_set 186 = .ok (.getfield 102, 3) := by decide +kernel
theorem dX12_set_189 : decode cX12_set 189 = .ok (.iload 10, 2) := by decide +kernel
theorem dX12_set_191 : decode cX12_set 191 = .ok (.iload 9, 2) := by decide +kernel
theorem dX12_set_193 : decode cX12_set 193 = .ok (.iastore, 1) := by decide +kernel
theorem dX12_set_194 : decode cX12_set 194 = .ok (.iload 9, 2) := by decide +kernel
theorem dX12_set_196 : decode cX12_set 196 = .ok (.aload_n 0, 1) := by decide +kernel
theorem dX12_set_197 : decode cX12_set 197 = .ok (.getfield 99, 3) := by decide +kernel
theorem dX12_set_200 : decode cX12_set 200 = .ok (.iload 10, 2) := by decide +kernel
theorem dX12_set_202 : decode cX12_set 202 = .ok (.iaload, 1) := by decide +kernel
theorem dX12_set_203 : decode cX12_set 203 = .ok (.iadd, 1) := by decide +kernel
theorem dX12_set_204 : decode cX12_set 204 = .ok (.istore 9, 2) := by decide +kernel
theorem dX12_set_206 : decode cX12_set 206 = .ok (.iinc 10 1, 3) := by decide +kernel
theorem dX12_set_209 : decode cX12_set 209 = .ok (.goto (-61), 3) := by decide +kernel
theorem dX12_set_212 : decode cX12_set 212 = .ok (.aload_n 0, 1) := by decide +kernel
theorem dX12_set_213 : decode cX12_set 213 = .ok (.iconst 0, 1) := by decide +kernel
theorem dX12_set_214 : decode cX12_set 214 = .ok (.putfield 361, 3) := by decide +kernel
theorem dX12_set_217 : decode cX12_set 217 = .ok (.aload_n 0, 1) := by decide +kernel
theorem dX12_set_218 : decode cX12_set 218 = .ok (.iconst 0, 1) := by decide +kernel
theorem dX12_set_219 : decode cX12_set 219 = .ok (.putfield 340, 3) := by decide +kernel
theorem dX12_set_222 : decode cX12_set 222 = .ok (.aload_n 0, 1) := by decide +kernel
theorem dX12_set_223 : decode cX12_set 223 = .ok (.iconst 0, 1) := by decide +kernel
theorem dX12_set_224 : decode cX12_set 224 = .ok (.putfield 364, 3) := by decide +kernel
theorem dX12_set_227 : decode cX12_set 227 = .ok (.aload_n 0, 1) := by decide +kernel
theorem dX12_set_228 : decode cX12_set 228 = .ok (.iload 7, 2) := by decide +kernel
theorem dX12_set_230 : decode cX12_set 230 = .ok (.invokevirtual 367, 3) := by decide +kernel
theorem dX12_set_233 : decode cX12_set 233 = .ok (.ireturn, 1) := by decide +kernel
theorem dX12_goOn_0 : decode cX12_goOn 0 = .ok (.iload_n 1, 1) := by decide +kernel
theorem dX12_goOn_1 : decode cX12_goOn 1 = .ok (.iconst 0, 1) := by decide +kernel
theorem dX12_goOn_2 : decode cX12_goOn 2 = .ok (.bipush 30, 2) := by decide +kernel
theorem dX12_goOn_4 : decode cX12_goOn 4 = .ok (.invokestatic 129, 3) := by decide +kernel
theorem dX12_goOn_7 : decode cX12_goOn 7 = .ok (.ifCond .ne 5, 3) := by decide +kernel
theorem dX12_goOn_10 : decode cX12_goOn 10 = .ok (.iconst (-1), 1) := by decide +kernel
theorem dX12_goOn_11 : decode cX12_goOn 11 = .ok (.ireturn, 1) := by decide +kernel
theorem dX12_goOn_12 : decode cX12_goOn 12 = .ok (.aload_n 0, 1) := by decide +kernel
theorem dX12_goOn_13 : decode cX12_goOn 13 = .ok (.iconst 0, 1) := by decide +kernel
theorem dX12_goOn_14 : decode cX12_goOn 14 = .ok (.putfield 126, 3) := by decide +kernel
theorem dX12_goOn_17 : decode cX12_goOn 17 = .ok (.aload_n 0, 1) := by decide +kernel
theorem dX12_goOn_18 : decode cX12_goOn 18 = .ok (.getfield 355, 3) := by decide +kernel
theorem dX12_goOn_21 : decode cX12_goOn 21 = .ok (.ifCond .eq 10, 3) := by decide +kernel
theorem dX12_goOn_24 : decode cX12_goOn 24 = .ok (.aload_n 0, 1) := by decide +kernel
theorem dX12_goOn_25 : decode cX12_goOn 25 = .ok (.getfield 364, 3) := by decide +kernel
theorem dX12_goOn_28 : decode cX12_goOn 28 = .ok (.ifCond .eq 12, 3) := by decide +kernel
theorem dX12_goOn_31 : decode cX12_goOn 31 = .ok (.aload_n 0, 1) := by decide +kernel
theorem dX12_goOn_32 : decode cX12_goOn 32 = .ok (.bipush 7, 2) := by decide +kernel
theorem dX12_goOn_34 : decode cX12_goOn 34 = .ok (.invokevirtual 157, 3) := by decide +kernel
theorem dX12_goOn_37 : decode cX12_goOn 37 = .ok (.goto 8, 3) := by decide +kernel
theorem dX12_goOn_40 : decode cX12_goOn 40 = .ok (.aload_n 0, 1) := by decide +kernel
theorem dX12_goOn_41 : decode cX12_goOn 41 = .ok (.iload_n 1, 1) := by decide +kernel
theorem dX12_goOn_42 : decode cX12_goOn 42 = .ok (.invokevirtual 367, 3) := by decide +kernel
theorem dX12_goOn_45 : decode cX12_goOn 45 = .ok (.ireturn, 1) := by decide +kernel
theorem dX12_least_0 : decode cX12_least 0 = .ok (.aload_n 0, 1) := by decide +kernel
theorem dX12_least_1 : decode cX12_least 1 = .ok (.getfield 355, 3) := by decide +kernel
theorem dX12_least_4 : decode cX12_least 4 = .ok (.ifCond .eq 24, 3) := by decide +kernel
theorem dX12_least_7 : decode cX12_least 7 = .ok (.aload_n 0, 1) := by decide +kernel
theorem dX12_least_8 : decode cX12_least 8 = .ok (.getfield 340, 3) := by decide +kernel
theorem dX12_least_11 : decode cX12_least 11 = .ok (.ifCond .eq 17, 3) := by decide +kernel
theorem dX12_least_14 : decode cX12_least 14 = .ok (.aload_n 0, 1) := by decide +kernel
theorem dX12_least_15 : decode cX12_least 15 = .ok (.getfield 352, 3) := by decide +kernel
theorem dX12_least_18 : decode cX12_least 18 = .ok (.ifCond .eq 10, 3) := by decide +kernel
theorem dX12_least_21 : decode cX12_least 21 = .ok (.aload_n 0, 1) := by decide +kernel
theorem dX12_least_22 : decode cX12_least 22 = .ok (.getfield 346, 3) := by decide +kernel
theorem dX12_least_25 : decode cX12_least 25 = .ok (.goto 5, 3) := by decide +kernel
theorem dX12_least_28 : decode cX12_least 28 = .ok (.bipush (-2), 2) := by decide +kernel
theorem dX12_least_30 : decode cX12_least 30 = .ok (.ireturn, 1) := by decide +kernel
theorem dX12_many_0 : decode cX12_many 0 = .ok (.aload_n 0, 1) := by decide +kernel
theorem dX12_many_1 : decode cX12_many 1 = .ok (.getfield 355, 3) := by decide +kernel
theorem dX12_many_4 : decode cX12_many 4 = .ok (.ifCond .eq 17, 3) := by decide +kernel
theorem dX12_many_7 : decode cX12_many 7 = .ok (.aload_n 0, 1) := by decide +kernel
theorem dX12_many_8 : decode cX12_many 8 = .ok (.getfield 340, 3) := by decide +kernel
theorem dX12_many_11 : decode cX12_many 11 = .ok (.ifCond .eq 10, 3) := by decide +kernel
theorem dX12_many_14 : decode cX12_many 14 = .ok (.aload_n 0, 1) := by decide +kernel
theorem dX12_many_15 : decode cX12_many 15 = .ok (.getfield 349, 3) := by decide +kernel
theorem dX12_many_18 : decode cX12_many 18 = .ok (.goto 5, 3) := by decide +kernel
theorem dX12_many_21 : decode cX12_many 21 = .ok (.bipush (-2), 2) := by decide +kernel
theorem dX12_many_23 : decode cX12_many 23 = .ok (.ireturn, 1) := by decide +kernel
theorem dX12_row_0 : decode cX12_row 0 = .ok (.aload_n 0, 1) := by decide +kernel
theorem dX12_row_1 : decode cX12_row 1 = .ok (.getfield 355, 3) := by decide +kernel
theorem dX12_row_4 : decode cX12_row 4 = .ok (.ifCond .ne 6, 3) := by decide +kernel
theorem dX12_row_7 : decode cX12_row 7 = .ok (.bipush (-2), 2) := by decide +kernel
theorem dX12_row_9 : decode cX12_row 9 = .ok (.ireturn, 1) := by decide +kernel
theorem dX12_row_10 : decode cX12_row 10 = .ok (.iload_n 2, 1) := by decide +kernel
theorem dX12_row_11 : decode cX12_row 11 = .ok (.aload_n 0, 1) := by decide +kernel
theorem dX12_row_12 : decode cX12_row 12 = .ok (.getfield 278, 3) := by decide +kernel
theorem dX12_row_15 : decode cX12_row 15 = .ok (.aload_n 0, 1) := by decide +kernel
theorem dX12_row_16 : decode cX12_row 16 = .ok (.getfield 299, 3) := by decide +kernel
theorem dX12_row_19 : decode cX12_row 19 = .ok (.invokestatic 129, 3) := by decide +kernel
theorem dX12_row_22 : decode cX12_row 22 = .ok (.ifCond .eq 12, 3) := by decide +kernel
theorem dX12_row_25 : decode cX12_row 25 = .ok (.iload_n 3, 1) := by decide +kernel
theorem dX12_row_26 : decode cX12_row 26 = .ok (.iconst 0, 1) := by decide +kernel
theorem dX12_row_27 : decode cX12_row 27 = .ok (.iconst 2, 1) := by decide +kernel
theorem dX12_row_28 : decode cX12_row 28 = .ok (.invokestatic 129, 3) := by decide +kernel
theorem dX12_row_31 : decode cX12_row 31 = .ok (.ifCond .ne 5, 3) := by decide +kernel
theorem dX12_row_34 : decode cX12_row 34 = .ok (.iconst (-1), 1) := by decide +kernel
theorem dX12_row_35 : decode cX12_row 35 = .ok (.ireturn, 1) := by decide +kernel
theorem dX12_row_36 : decode cX12_row 36 = .ok (.aload_n 0, 1) := by decide +kernel
theorem dX12_row_37 : decode cX12_row 37 = .ok (.iload_n 1, 1) := by decide +kernel
theorem dX12_row_38 : decode cX12_row 38 = .ok (.invokevirtual 379, 3) := by decide +kernel
theorem dX12_row_41 : decode cX12_row 41 = .ok (.ifCond .eq 18, 3) := by decide +kernel
theorem dX12_row_44 : decode cX12_row 44 = .ok (.aload_n 0, 1) := by decide +kernel
theorem dX12_row_45 : decode cX12_row 45 = .ok (.getfield 105, 3) := by decide +kernel
theorem dX12_row_48 : decode cX12_row 48 = .ok (.aload_n 0, 1) := by decide +kernel
theorem dX12_row_49 : decode cX12_row 49 = .ok (.iload_n 1, 1) := by decide +kernel
theorem dX12_row_50 : decode cX12_row 50 = .ok (.iload_n 2, 1) := by decide +kernel
theorem dX12_row_51 : decode cX12_row 51 = .ok (.iload_n 3, 1) := by decide +kernel
theorem dX12_row_52 : decode cX12_row 52 = .ok (.invokevirtual 322, 3) := by decide +kernel
theorem dX12_row_55 : decode cX12_row 55 = .ok (.iaload, 1) := by decide +kernel
theorem dX12_row_56 : decode cX12_row 56 = .ok (.goto 5, 3) := by decide +kernel
theorem dX12_row_59 : decode cX12_row 59 = .ok (.bipush (-2), 2) := by decide +kernel
theorem dX12_row_61 : decode cX12_row 61 = .ok (.ireturn, 1) := by decide +kernel
theorem dX12_spoil_0 : decode cX12_spoil 0 = .ok (.aload_n 0, 1) := by decide +kernel
theorem dX12_spoil_1 : decode cX12_spoil 1 = .ok (.getfield 355, 3) := by decide +kernel
theorem dX12_spoil_4 : decode cX12_spoil 4 = .ok (.ifCond .ne 6, 3) := by decide +kernel
theorem dX12_spoil_7 : decode cX12_spoil 7 = .ok (.bipush (-2), 2) := by decide +kernel
theorem dX12_spoil_9 : decode cX12_spoil 9 = .ok (.ireturn, 1) := by decide +kernel
theorem dX12_spoil_10 : decode cX12_spoil 10 = .ok (.iload_n 2, 1) := by decide +kernel
theorem dX12_spoil_11 : decode cX12_spoil 11 = .ok (.aload_n 0, 1) := by decide +kernel
theorem dX12_spoil_12 : decode cX12_spoil 12 = .ok (.getfield 278, 3) := by decide +kernel
theorem dX12_spoil_15 : decode cX12_spoil 15 = .ok (.aload_n 0, 1) := by decide +kernel
theorem dX12_spoil_16 : decode cX12_spoil 16 = .ok (.getfield 299, 3) := by decide +kernel
theorem dX12_spoil_19 : decode cX12_spoil 19 = .ok (.invokestatic 129, 3) := by decide +kernel
theorem dX12_spoil_22 : decode cX12_spoil 22 = .ok (.ifCond .eq 24, 3) := by decide +kernel
theorem dX12_spoil_25 : decode cX12_spoil 25 = .ok (.iload_n 3, 1) := by decide +kernel
theorem dX12_spoil_26 : decode cX12_spoil 26 = .ok (.iconst 0, 1) := by decide +kernel
theorem dX12_spoil_27 : decode cX12_spoil 27 = .ok (.iconst 2, 1) := by decide +kernel
theorem dX12_spoil_28 : decode cX12_spoil 28 = .ok (.invokestatic 129, 3) := by decide +kernel
theorem dX12_spoil_31 : decode cX12_spoil 31 = .ok (.ifCond .eq 15, 3) := by decide +kernel
theorem dX12_spoil_34 : decode cX12_spoil 34 = .ok (.iload 4, 2) := by decide +kernel
theorem dX12_spoil_36 : decode cX12_spoil 36 = .ok (.iconst 0, 1) := by decide +kernel
theorem dX12_spoil_37 : decode cX12_spoil 37 = .ok (.ldc_w 314, 3) := by decide +kernel
theorem dX12_spoil_40 : decode cX12_spoil 40 = .ok (.invokestatic 129, 3) := by decide +kernel
theorem dX12_spoil_43 : decode cX12_spoil 43 = .ok (.ifCond .ne 5, 3) := by decide +kernel
theorem dX12_spoil_46 : decode cX12_spoil 46 = .ok (.iconst (-1), 1) := by decide +kernel
theorem dX12_spoil_47 : decode cX12_spoil 47 = .ok (.ireturn, 1) := by decide +kernel
theorem dX12_spoil_48 : decode cX12_spoil 48 = .ok (.aload_n 0, 1) := by decide +kernel
theorem dX12_spoil_49 : decode cX12_spoil 49 = .ok (.getfield 340, 3) := by decide +kernel
theorem dX12_spoil_52 : decode cX12_spoil 52 = .ok (.ifCond .eq 11, 3) := by decide +kernel
theorem dX12_spoil_55 : decode cX12_spoil 55 = .ok (.aload_n 0, 1) := by decide +kernel
theorem dX12_spoil_56 : decode cX12_spoil 56 = .ok (.iload_n 1, 1) := by decide +kernel
theorem dX12_spoil_57 : decode cX12_spoil 57 = .ok (.invokevirtual 379, 3) := by decide +kernel
theorem dX12_spoil_60 : decode cX12_spoil 60 = .ok (.ifCond .ne 6, 3) := by decide +kernel
theorem dX12_spoil_63 : decode cX12_spoil 63 = .ok (.bipush (-2), 2) := by decide +kernel
theorem dX12_spoil_65 : decode cX12_spoil 65 = .ok (.ireturn, 1) := by decide +kernel
theorem dX12_spoil_66 : decode cX12_spoil 66 = .ok (.aload_n 0, 1) := by decide +kernel
theorem dX12_spoil_67 : decode cX12_spoil 67 = .ok (.getfield 105, 3) := by decide +kernel
theorem dX12_spoil_70 : decode cX12_spoil 70 = .ok (.aload_n 0, 1) := by decide +kernel
theorem dX12_spoil_71 : decode cX12_spoil 71 = .ok (.iload_n 1, 1) := by decide +kernel
theorem dX12_spoil_72 : decode cX12_spoil 72 = .ok (.iload_n 2, 1) := by decide +kernel
theorem dX12_spoil_73 : decode cX12_spoil 73 = .ok (.iload_n 3, 1) := by decide +kernel
theorem dX12_spoil_74 : decode cX12_spoil 74 = .ok (.invokevirtual 322, 3) := by decide +kernel
theorem dX12_spoil_77 : decode cX12_spoil 77 = .ok (.iaload, 1) := by decide +kernel
theorem dX12_spoil_78 : decode cX12_spoil 78 = .ok (.istore 5, 2) := by decide +kernel
theorem dX12_spoil_80 : decode cX12_spoil 80 = .ok (.aload_n 0, 1) := by decide +kernel
theorem dX12_spoil_81 : decode cX12_spoil 81 = .ok (.getfield 105, 3) := by decide +kernel
theorem dX12_spoil_84 : decode cX12_spoil 84 = .ok (.aload_n 0, 1) := by decide +kernel
theorem dX12_spoil_85 : decode cX12_spoil 85 = .ok (.iload_n 1, 1) := by decide +kernel
theorem dX12_spoil_86 : decode cX12_spoil 86 = .ok (.iload_n 2, 1) := by decide +kernel
theorem dX12_spoil_87 : decode cX12_spoil 87 = .ok (.iload_n 3, 1) := by decide +kernel
theorem dX12_spoil_88 : decode cX12_spoil 88 = .ok (.invokevirtual 322, 3) := by decide +kernel
theorem dX12_spoil_91 : decode cX12_spoil 91 = .ok (.iload 4, 2) := by decide +kernel
theorem dX12_spoil_93 : decode cX12_spoil 93 = .ok (.iastore, 1) := by decide +kernel
theorem dX12_spoil_94 : decode cX12_spoil 94 = .ok (.iload 5, 2) := by decide +kernel
theorem dX12_spoil_96 : decode cX12_spoil 96 = .ok (.ireturn, 1) := by decide +kernel
theorem dX12_check_0 : decode cX12_check 0 = .ok (.aload_n 0, 1) := by decide +kernel
theorem dX12_check_1 : decode cX12_check 1 = .ok (.iconst 0, 1) := by decide +kernel
theorem dX12_check_2 : decode cX12_check 2 = .ok (.putfield 126, 3) := by decide +kernel
theorem dX12_check_5 : decode cX12_check 5 = .ok (.aload_n 0, 1) := by decide +kernel
theorem dX12_check_6 : decode cX12_check 6 = .ok (.getfield 355, 3) := by decide +kernel
theorem dX12_check_9 : decode cX12_check 9 = .ok (.ifCond .eq 10, 3) := by decide +kernel
theorem dX12_check_12 : decode cX12_check 12 = .ok (.aload_n 0, 1) := by decide +kernel
theorem dX12_check_13 : decode cX12_check 13 = .ok (.getfield 340, 3) := by decide +kernel
theorem dX12_check_16 : decode cX12_check 16 = .ok (.ifCond .ne 6, 3) := by decide +kernel
theorem dX12_check_19 : decode cX12_check 19 = .ok (.bipush (-2), 2) := by decide +kernel
theorem dX12_check_21 : decode cX12_check 21 = .ok (.ireturn, 1) := by decide +kernel
theorem dX12_check_22 : decode cX12_check 22 = .ok (.aload_n 0, 1) := by decide +kernel
theorem dX12_check_23 : decode cX12_check 23 = .ok (.getfield 53, 3) := by decide +kernel
theorem dX12_check_26 : decode cX12_check 26 = .ok (.aload_n 0, 1) := by decide +kernel
theorem dX12_check_27 : decode cX12_check 27 = .ok (.getfield 290, 3) := by decide +kernel
theorem dX12_check_30 : decode cX12_check 30 = .ok (.iaload, 1) := by decide +kernel
theorem dX12_check_31 : decode cX12_check 31 = .ok (.ifCond .ne 9, 3) := by decide +kernel
theorem dX12_check_34 : decode cX12_check 34 = .ok (.aload_n 0, 1) := by decide +kernel
theorem dX12_check_35 : decode cX12_check 35 = .ok (.iconst 1, 1) := by decide +kernel
theorem dX12_check_36 : decode cX12_check 36 = .ok (.invokevirtual 157, 3) := by decide +kernel
theorem dX12_check_39 : decode cX12_check 39 = .ok (.ireturn, 1) := by decide +kernel
theorem dX12_check_40 : decode cX12_check 40 = .ok (.aload_n 0, 1) := by decide +kernel
theorem dX12_check_41 : decode cX12_check 41 = .ok (.iconst 0, 1) := by decide +kernel
theorem dX12_check_42 : decode cX12_check 42 = .ok (.putfield 201, 3) := by decide +kernel
theorem dX12_check_45 : decode cX12_check 45 = .ok (.aload_n 0, 1) := by decide +kernel
theorem dX12_check_46 : decode cX12_check 46 = .ok (.invokevirtual 370, 3) := by decide +kernel
theorem dX12_check_49 : decode cX12_check 49 = .ok (.iconst 1, 1) := by decide +kernel
theorem dX12_check_50 : decode cX12_check 50 = .ok (.istore_n 1, 1) := by decide +kernel
theorem dX12_check_51 : decode cX12_check 51 = .ok (.iconst 0, 1) := by decide +kernel
theorem dX12_check_52 : decode cX12_check 52 = .ok (.istore_n 2, 1) := by decide +kernel
theorem dX12_check_53 : decode cX12_check 53 = .ok (.iload_n 2, 1) := by decide +kernel
theorem dX12_check_54 : decode cX12_check 54 = .ok (.aload_n 0, 1) := by decide +kernel
theorem dX12_check_55 : decode cX12_check 55 = .ok (.getfield 281, 3) := by decide +kernel
theorem dX12_check_58 : decode cX12_check 58 = .ok (.if_icmp .ge 99, 3) := by decide +kernel
theorem dX12_check_61 : decode cX12_check 61 = .ok (.aload_n 0, 1) := by decide +kernel
theorem dX12_check_62 : decode cX12_check 62 = .ok (.iload_n 2, 1) := by decide +kernel
theorem dX12_check_63 : decode cX12_check 63 = .ok (.invokevirtual 284, 3) := by decide +kernel
theorem dX12_check_66 : decode cX12_check 66 = .ok (.ifCond .eq 85, 3) := by decide +kernel
theorem dX12_check_69 : decode cX12_check 69 = .ok (.aload_n 0, 1) := by decide +kernel
theorem dX12_check_70 : decode cX12_check 70 = .ok (.iload_n 2, 1) := by decide +kernel
theorem dX12_check_71 : decode cX12_check 71 = .ok (.invokevirtual 333, 3) := by decide +kernel
theorem dX12_check_74 : decode cX12_check 74 = .ok (.iconst 0, 1) := by decide +kernel
theorem dX12_check_75 : decode cX12_check 75 = .ok (.istore_n 3, 1) := by decide +kernel
theorem dX12_check_76 : decode cX12_check 76 = .ok (.iload_n 3, 1) := by decide +kernel
theorem dX12_check_77 : decode cX12_check 77 = .ok (.iconst 3, 1) := by decide +kernel
theorem dX12_check_78 : decode cX12_check 78 = .ok (.aload_n 0, 1) := by decide +kernel
theorem dX12_check_79 : decode cX12_check 79 = .ok (.getfield 299, 3) := by decide +kernel
theorem dX12_check_82 : decode cX12_check 82 = .ok (.aload_n 0, 1) := by decide +kernel
theorem dX12_check_83 : decode cX12_check 83 = .ok (.getfield 278, 3) := by decide +kernel
theorem dX12_check_86 : decode cX12_check 86 = .ok (.isub, 1) := by decide +kernel
theorem dX12_check_87 : decode cX12_check 87 = .ok (.iconst 1, 1) := by decide +kernel
theorem dX12_check_88 : decode cX12_check 88 = .ok (.iadd, 1) := by decide +kernel
theorem dX12_check_89 : decode cX12_check 89 = .ok (.imul, 1) := by decide +kernel
theorem dX12_check_90 : decode cX12_check 90 = .ok (.if_icmp .ge 61, 3) := by decide +kernel
theorem dX12_check_93 : decode cX12_check 93 = .ok (.aload_n 0, 1) := by decide +kernel
theorem dX12_check_94 : decode cX12_check 94 = .ok (.getfield 278, 3) := by decide +kernel
theorem dX12_check_97 : decode cX12_check 97 = .ok (.iload_n 3, 1) := by decide +kernel
theorem dX12_check_98 : decode cX12_check 98 = .ok (.iconst 3, 1) := by decide +kernel
theorem dX12_check_99 : decode cX12_check 99 = .ok (.idiv, 1) := by decide +kernel
theorem dX12_check_100 : decode cX12_check 100 = .ok (.iadd, 1) := by decide +kernel
theorem dX12_check_101 : decode cX12_check 101 = .ok (.istore 4, 2) := by decide +kernel
theorem dX12_check_103 : decode cX12_check 103 = .ok (.aload_n 0, 1) := by decide +kernel
theorem dX12_check_104 : decode cX12_check 104 = .ok (.iload_n 2, 1) := by decide +kernel
theorem dX12_check_105 : decode cX12_check 105 = .ok (.iload 4, 2) := by decide +kernel
theorem dX12_check_107 : decode cX12_check 107 = .ok (.iload_n 3, 1) := by decide +kernel
theorem dX12_check_108 : decode cX12_check 108 = .ok (.iconst 3, 1) := by decide +kernel
theorem dX12_check_109 : decode cX12_check 109 = .ok (.irem, 1) := by decide +kernel
theorem dX12_check_110 : decode cX12_check 110 = .ok (.invokevirtual 336, 3) := by decide +kernel
theorem dX12_check_113 : decode cX12_check 113 = .ok (.iload_n 1, 1) := by decide +kernel
theorem dX12_check_114 : decode cX12_check 114 = .ok (.ifCond .eq 29, 3) := by decide +kernel
theorem dX12_check_117 : decode cX12_check 117 = .ok (.aload_n 0, 1) := by decide +kernel
theorem dX12_check_118 : decode cX12_check 118 = .ok (.getfield 105, 3) := by decide +kernel
theorem dX12_check_121 : decode cX12_check 121 = .ok (.aload_n 0, 1) := by decide +kernel
theorem dX12_check_122 : decode cX12_check 122 = .ok (.iload_n 2, 1) := by decide +kernel
theorem dX12_check_123 : decode cX12_check 123 = .ok (.iload 4, 2) := by decide +kernel
theorem dX12_check_125 : decode cX12_check 125 = .ok (.iload_n 3, 1) := by decide +kernel
theorem dX12_check_126 : decode cX12_check 126 = .ok (.iconst 3, 1) := by decide +kernel
theorem dX12_check_127 : decode cX12_check 127 = .ok (.irem, 1) := by decide +kernel
theorem dX12_check_128 : decode cX12_check 128 = .ok (.invokevirtual 322, 3) := by decide +kernel
theorem dX12_check_131 : decode cX12_check 131 = .ok (.iaload, 1) := by decide +kernel
theorem dX12_check_132 : decode cX12_check 132 = .ok (.aload_n 0, 1) := by decide +kernel
theorem dX12_check_133 : decode cX12_check 133 = .ok (.getfield 302, 3) := by decide +kernel
theorem dX12_check_136 : decode cX12_check 136 = .ok (.if_icmp .ne 7, 3) := by decide +kernel
theorem dX12_check_139 : decode cX12_check 139 = .ok (.iconst 1, 1) := by decide +kernel
theorem dX12_check_140 : decode cX12_check 140 = .ok (.goto 4, 3) := by decide +kernel
theorem dX12_check_143 : decode cX12_check 143 = .ok (.iconst 0, 1) := by decide +kernel
theorem dX12_check_144 : decode cX12_check 144 = .ok (.istore_n 1, 1) := by decide +kernel
theorem dX12_check_145 : decode cX12_check 145 = .ok (.iinc 3 1, 3) := by decide +kernel
theorem dX12_check_148 : decode cX12_check 148 = .ok (.goto (-72), 3) := by decide +kernel
theorem dX12_check_151 : decode cX12_check 151 = .ok (.iinc 2 1, 3) := by decide +kernel
theorem dX12_check_154 : decode cX12_check 154 = .ok (.goto (-101), 3) := by decide +kernel
theorem dX12_check_157 : decode cX12_check 157 = .ok (.aload_n 0, 1) := by decide +kernel
theorem dX12_check_158 : decode cX12_check 158 = .ok (.invokevirtual 343, 3) := by decide +kernel
theorem dX12_check_161 : decode cX12_check 161 = .ok (.iload_n 1, 1) := by decide +kernel
theorem dX12_check_162 : decode cX12_check 162 = .ok (.ifCond .eq 18, 3) := by decide +kernel
theorem dX12_check_165 : decode cX12_check 165 = .ok (.aload_n 0, 1) := by decide +kernel
theorem dX12_check_166 : decode cX12_check 166 = .ok (.getfield 302, 3) := by decide +kernel
theorem dX12_check_169 : decode cX12_check 169 = .ok (.aload_n 0, 1) := by decide +kernel
theorem dX12_check_170 : decode cX12_check 170 = .ok (.getfield 346, 3) := by decide +kernel
theorem dX12_check_173 : decode cX12_check 173 = .ok (.if_icmp .ne 7, 3) := by decide +kernel
theorem dX12_check_176 : decode cX12_check 176 = .ok (.iconst 1, 1) := by decide +kernel
theorem dX12_check_177 : decode cX12_check 177 = .ok (.goto 4, 3) := by decide +kernel
theorem dX12_check_180 : decode cX12_check 180 = .ok (.iconst 0, 1) := by decide +kernel
theorem dX12_check_181 : decode cX12_check 181 = .ok (.ireturn, 1) := by decide +kernel
theorem dX12_print_0 : decode cX12_print 0 = .ok (.iload_n 1, 1) := by decide +kernel
theorem dX12_print_1 : decode cX12_print 1 = .ok (.invokestatic 153, 3) := by decide +kernel
theorem dX12_print_4 : decode cX12_print 4 = .ok (.ifCond .ne 5, 3) := by decide +kernel
theorem dX12_print_7 : decode cX12_print 7 = .ok (.iconst (-1), 1) := by decide +kernel
theorem dX12_print_8 : decode cX12_print 8 = .ok (.ireturn, 1) := by decide +kernel
theorem dX12_print_9 : decode cX12_print 9 = .ok (.aload_n 0, 1) := by decide +kernel
theorem dX12_print_10 : decode cX12_print 10 = .ok (.iconst 0, 1) := by decide +kernel
theorem dX12_print_11 : decode cX12_print 11 = .ok (.putfield 126, 3) := by decide +kernel
theorem dX12_print_14 : decode cX12_print 14 = .ok (.aload_n 0, 1) := by decide +kernel
theorem dX12_print_15 : decode cX12_print 15 = .ok (.iload_n 1, 1) := by decide +kernel
theorem dX12_print_16 : decode cX12_print 16 = .ok (.invokevirtual 165, 3) := by decide +kernel
theorem dX12_print_19 : decode cX12_print 19 = .ok (.istore_n 2, 1) := by decide +kernel
theorem dX12_print_20 : decode cX12_print 20 = .ok (.iload_n 2, 1) := by decide +kernel
theorem dX12_print_21 : decode cX12_print 21 = .ok (.ifCond .le 9, 3) := by decide +kernel
theorem dX12_print_24 : decode cX12_print 24 = .ok (.aload_n 0, 1) := by decide +kernel
theorem dX12_print_25 : decode cX12_print 25 = .ok (.iload_n 2, 1) := by decide +kernel
theorem dX12_print_26 : decode cX12_print 26 = .ok (.invokevirtual 157, 3) := by decide +kernel
theorem dX12_print_29 : decode cX12_print 29 = .ok (.ireturn, 1) := by decide +kernel
theorem dX12_print_30 : decode cX12_print 30 = .ok (.aload_n 0, 1) := by decide +kernel
theorem dX12_print_31 : decode cX12_print 31 = .ok (.iconst 0, 1) := by decide +kernel
theorem dX12_print_32 : decode cX12_print 32 = .ok (.putfield 382, 3) := by decide +kernel
theorem dX12_print_35 : decode cX12_print 35 = .ok (.iconst 0, 1) := by decide +kernel
theorem dX12_print_36 : decode cX12_print 36 = .ok (.istore_n 3, 1) := by decide +kernel
theorem dX12_print_37 : decode cX12_print 37 = .ok (.iload_n 3, 1) := by decide +kernel
theorem dX12_print_38 : decode cX12_print 38 = .ok (.aload_n 0, 1) := by decide +kernel
theorem dX12_print_39 : decode cX12_print 39 = .ok (.getfield 13, 3) := by decide +kernel
theorem dX12_print_42 : decode cX12_print 42 = .ok (.iconst 2, 1) := by decide +kernel
theorem dX12_print_43 : decode cX12_print 43 = .ok (.iload_n 1, 1) := by decide +kernel
theorem dX12_print_44 : decode cX12_print 44 = .ok (.imul, 1) := by decide +kernel
theorem dX12_print_45 : decode cX12_print 45 = .ok (.iaload, 1) := by decide +kernel
theorem dX12_print_46 : decode cX12_print 46 = .ok (.if_icmp .ge 115, 3) := by decide +kernel
theorem dX12_print_49 : decode cX12_print 49 = .ok (.aload_n 0, 1) := by decide +kernel
theorem dX12_print_50 : decode cX12_print 50 = .ok (.iload_n 1, 1) := by decide +kernel
theorem dX12_print_51 : decode cX12_print 51 = .ok (.iload_n 3, 1) := by decide +kernel
theorem dX12_print_52 : decode cX12_print 52 = .ok (.invokevirtual 150, 3) := by decide +kernel
theorem dX12_print_55 : decode cX12_print 55 = .ok (.istore 4, 2) := by decide +kernel
theorem dX12_print_57 : decode cX12_print 57 = .ok (.iload_n 3, 1) := by decide +kernel
theorem dX12_print_58 : decode cX12_print 58 = .ok (.ifCond .le 9, 3) := by decide +kernel
theorem dX12_print_61 : decode cX12_print 61 = .ok (.aload_n 0, 1) := by decide +kernel
theorem dX12_print_62 : decode cX12_print 62 = .ok (.bipush 32, 2) := by decide +kernel
theorem dX12_print_64 : decode cX12_print 64 = .ok (.invokevirtual 385, 3) := by decide +kernel
theorem dX12_print_67 : decode cX12_print 67 = .ok (.iload 4, 2) := by decide +kernel
theorem dX12_print_69 : decode cX12_print 69 = .ok (.ifCond .ne 9, 3) := by decide +kernel
theorem dX12_print_72 : decode cX12_print 72 = .ok (.aload_n 0, 1) := by decide +kernel
theorem dX12_print_73 : decode cX12_print 73 = .ok (.bipush 82, 2) := by decide +kernel
theorem dX12_print_75 : decode cX12_print 75 = .ok (.invokevirtual 385, 3) := by decide +kernel
theorem dX12_print_78 : decode cX12_print 78 = .ok (.iload 4, 2) := by decide +kernel
theorem dX12_print_80 : decode cX12_print 80 = .ok (.bipush 100, 2) := by decide +kernel
theorem dX12_print_82 : decode cX12_print 82 = .ok (.if_icmp .lt 15, 3) := by decide +kernel
theorem dX12_print_85 : decode cX12_print 85 = .ok (.aload_n 0, 1) := by decide +kernel
theorem dX12_print_86 : decode cX12_print 86 = .ok (.bipush 48, 2) := by decide +kernel
theorem dX12_print_88 : decode cX12_print 88 = .ok (.iload 4, 2) := by decide +kernel
theorem dX12_print_90 : decode cX12_print 90 = .ok (.bipush 100, 2) := by decide +kernel
theorem dX12_print_92 : decode cX12_print 92 = .ok (.idiv, 1) := by decide +kernel
theorem dX12_print_93 : decode cX12_print 93 = .ok (.iadd, 1) := by decide +kernel
theorem dX12_print_94 : decode cX12_print 94 = .ok (.invokevirtual 385, 3) := by decide +kernel
theorem dX12_print_97 : decode cX12_print 97 = .ok (.iload 4, 2) := by decide +kernel
theorem dX12_print_99 : decode cX12_print 99 = .ok (.bipush 10, 2) := by decide +kernel
theorem dX12_print_101 : decode cX12_print 101 = .ok (.if_icmp .lt 18, 3) := by decide +kernel
theorem dX12_print_104 : decode cX12_print 104 = .ok (.aload_n 0, 1) := by decide +kernel
theorem dX12_print_105 : decode cX12_print 105 = .ok (.bipush 48, 2) := by decide +kernel
theorem dX12_print_107 : decode cX12_print 107 = .ok (.iload 4, 2) := by decide +kernel
theorem dX12_print_109 : decode cX12_print 109 = .ok (.bipush 10, 2) := by decide +kernel
theorem dX12_print_111 : decode cX12_print 111 = .ok (.idiv, 1) := by decide +kernel
theorem dX12_print_112 : decode cX12_print 112 = .ok (.bipush 10, 2) := by decide +kernel
theorem dX12_print_114 : decode cX12_print 114 = .ok (.irem, 1) := by decide +kernel
theorem dX12_print_115 : decode cX12_print 115 = .ok (.iadd, 1) := by decide +kernel
theorem dX12_print_116 : decode cX12_print 116 = .ok (.invokevirtual 385, 3) := by decide +kernel
theorem dX12_print_119 : decode cX12_print 119 = .ok (.iload 4, 2) := by decide +kernel
theorem dX12_print_121 : decode cX12_print 121 = .ok (.ifCond .le 15, 3) := by decide +kernel
theorem dX12_print_124 : decode cX12_print 124 = .ok (.aload_n 0, 1) := by decide +kernel
theorem dX12_print_125 : decode cX12_print 125 = .ok (.bipush 48, 2) := by decide +kernel
theorem dX12_print_127 : decode cX12_print 127 = .ok (.iload 4, 2) := by decide +kernel
theorem dX12_print_129 : decode cX12_print 129 = .ok (.bipush 10, 2) := by decide +kernel
theorem dX12_print_131 : decode cX12_print 131 = .ok (.irem, 1) := by decide +kernel
theorem dX12_print_132 : decode cX12_print 132 = .ok (.iadd, 1) := by decide +kernel
theorem dX12_print_133 : decode cX12_print 133 = .ok (.invokevirtual 385, 3) := by decide +kernel
theorem dX12_print_136 : decode cX12_print 136 = .ok (.aload_n 0, 1) := by decide +kernel
theorem dX12_print_137 : decode cX12_print 137 = .ok (.bipush 58, 2) := by decide +kernel
theorem dX12_print_139 : decode cX12_print 139 = .ok (.invokevirtual 385, 3) := by decide +kernel
theorem dX12_print_142 : decode cX12_print 142 = .ok (.aload_n 0, 1) := by decide +kernel
theorem dX12_print_143 : decode cX12_print 143 = .ok (.bipush 48, 2) := by decide +kernel
theorem dX12_print_145 : decode cX12_print 145 = .ok (.aload_n 0, 1) := by decide +kernel
theorem dX12_print_146 : decode cX12_print 146 = .ok (.iload_n 1, 1) := by decide +kernel
theorem dX12_print_147 : decode cX12_print 147 = .ok (.iload_n 3, 1) := by decide +kernel
theorem dX12_print_148 : decode cX12_print 148 = .ok (.invokevirtual 146, 3) := by decide +kernel
theorem dX12_print_151 : decode cX12_print 151 = .ok (.iadd, 1) := by decide +kernel
theorem dX12_print_152 : decode cX12_print 152 = .ok (.invokevirtual 385, 3) := by decide +kernel
theorem dX12_print_155 : decode cX12_print 155 = .ok (.iinc 3 1, 3) := by decide +kernel
theorem dX12_print_158 : decode cX12_print 158 = .ok (.goto (-121), 3) := by decide +kernel
theorem dX12_print_161 : decode cX12_print 161 = .ok (.aload_n 0, 1) := by decide +kernel
theorem dX12_print_162 : decode cX12_print 162 = .ok (.getfield 382, 3) := by decide +kernel
theorem dX12_print_165 : decode cX12_print 165 = .ok (.ireturn, 1) := by decide +kernel
theorem dX12_read_0 : decode cX12_read 0 = .ok (.iload_n 1, 1) := by decide +kernel
theorem dX12_read_1 : decode cX12_read 1 = .ok (.invokestatic 153, 3) := by decide +kernel
theorem dX12_read_4 : decode cX12_read 4 = .ok (.ifCond .ne 5, 3) := by decide +kernel
theorem dX12_read_7 : decode cX12_read 7 = .ok (.iconst (-1), 1) := by decide +kernel
theorem dX12_read_8 : decode cX12_read 8 = .ok (.ireturn, 1) := by decide +kernel
theorem dX12_read_9 : decode cX12_read 9 = .ok (.aload_n 0, 1) := by decide +kernel
theorem dX12_read_10 : decode cX12_read 10 = .ok (.iconst 0, 1) := by decide +kernel
theorem dX12_read_11 : decode cX12_read 11 = .ok (.putfield 126, 3) := by decide +kernel
theorem dX12_read_14 : decode cX12_read 14 = .ok (.aload_n 0, 1) := by decide +kernel
theorem dX12_read_15 : decode cX12_read 15 = .ok (.invokevirtual 394, 3) := by decide +kernel
theorem dX12_read_18 : decode cX12_read 18 = .ok (.istore_n 2, 1) := by decide +kernel
theorem dX12_read_19 : decode cX12_read 19 = .ok (.iload_n 2, 1) := by decide +kernel
theorem dX12_read_20 : decode cX12_read 20 = .ok (.ifCond .lt 8, 3) := by decide +kernel
theorem dX12_read_23 : decode cX12_read 23 = .ok (.bipush (-100), 2) := by decide +kernel
theorem dX12_read_25 : decode cX12_read 25 = .ok (.iload_n 2, 1) := by decide +kernel
theorem dX12_read_26 : decode cX12_read 26 = .ok (.isub, 1) := by decide +kernel
theorem dX12_read_27 : decode cX12_read 27 = .ok (.ireturn, 1) := by decide +kernel
theorem dX12_read_28 : decode cX12_read 28 = .ok (.aload_n 0, 1) := by decide +kernel
theorem dX12_read_29 : decode cX12_read 29 = .ok (.iload_n 1, 1) := by decide +kernel
theorem dX12_read_30 : decode cX12_read 30 = .ok (.invokevirtual 161, 3) := by decide +kernel
theorem dX12_read_33 : decode cX12_read 33 = .ok (.aload_n 0, 1) := by decide +kernel
theorem dX12_read_34 : decode cX12_read 34 = .ok (.getfield 9, 3) := by decide +kernel
theorem dX12_read_37 : decode cX12_read 37 = .ok (.iload_n 1, 1) := by decide +kernel
theorem dX12_read_38 : decode cX12_read 38 = .ok (.iconst 1, 1) := by decide +kernel
theorem dX12_read_39 : decode cX12_read 39 = .ok (.bastore, 1) := by decide +kernel
theorem dX12_read_40 : decode cX12_read 40 = .ok (.aload_n 0, 1) := by decide +kernel
theorem dX12_read_41 : decode cX12_read 41 = .ok (.getfield 13, 3) := by decide +kernel
theorem dX12_read_44 : decode cX12_read 44 = .ok (.iconst 2, 1) := by decide +kernel
theorem dX12_read_45 : decode cX12_read 45 = .ok (.iload_n 1, 1) := by decide +kernel
theorem dX12_read_46 : decode cX12_read 46 = .ok (.imul, 1) := by decide +kernel
theorem dX12_read_47 : decode cX12_read 47 = .ok (.aload_n 0, 1) := by decide +kernel
theorem dX12_read_48 : decode cX12_read 48 = .ok (.getfield 388, 3) := by decide +kernel
theorem dX12_read_51 : decode cX12_read 51 = .ok (.iastore, 1) := by decide +kernel
theorem dX12_read_52 : decode cX12_read 52 = .ok (.aload_n 0, 1) := by decide +kernel
theorem dX12_read_53 : decode cX12_read 53 = .ok (.getfield 13, 3) := by decide +kernel
theorem dX12_read_56 : decode cX12_read 56 = .ok (.iconst 2, 1) := by decide +kernel
theorem dX12_read_57 : decode cX12_read 57 = .ok (.iload_n 1, 1) := by decide +kernel
theorem dX12_read_58 : decode cX12_read 58 = .ok (.imul, 1) := by decide +kernel
theorem dX12_read_59 : decode cX12_read 59 = .ok (.iconst 1, 1) := by decide +kernel
theorem dX12_read_60 : decode cX12_read 60 = .ok (.iadd, 1) := by decide +kernel
theorem dX12_read_61 : decode cX12_read 61 = .ok (.aload_n 0, 1) := by decide +kernel
theorem dX12_read_62 : decode cX12_read 62 = .ok (.getfield 388, 3) := by decide +kernel
theorem dX12_read_65 : decode cX12_read 65 = .ok (.iastore, 1) := by decide +kernel
theorem dX12_read_66 : decode cX12_read 66 = .ok (.iconst 0, 1) := by decide +kernel
theorem dX12_read_67 : decode cX12_read 67 = .ok (.istore_n 3, 1) := by decide +kernel
theorem dX12_read_68 : decode cX12_read 68 = .ok (.iload_n 3, 1) := by decide +kernel
theorem dX12_read_69 : decode cX12_read 69 = .ok (.aload_n 0, 1) := by decide +kernel
theorem dX12_read_70 : decode cX12_read 70 = .ok (.getfield 388, 3) := by decide +kernel
theorem dX12_read_73 : decode cX12_read 73 = .ok (.if_icmp .ge 47, 3) := by decide +kernel
theorem dX12_read_76 : decode cX12_read 76 = .ok (.aload_n 0, 1) := by decide +kernel
theorem dX12_read_77 : decode cX12_read 77 = .ok (.getfield 17, 3) := by decide +kernel
theorem dX12_read_80 : decode cX12_read 80 = .ok (.bipush 48, 2) := by decide +kernel
theorem dX12_read_82 : decode cX12_read 82 = .ok (.iload_n 1, 1) := by decide +kernel
theorem dX12_read_83 : decode cX12_read 83 = .ok (.imul, 1) := by decide +kernel
theorem dX12_read_84 : decode cX12_read 84 = .ok (.iload_n 3, 1) := by decide +kernel
theorem dX12_read_85 : decode cX12_read 85 = .ok (.iadd, 1) := by decide +kernel
theorem dX12_read_86 : decode cX12_read 86 = .ok (.aload_n 0, 1) := by decide +kernel
theorem dX12_read_87 : decode cX12_read 87 = .ok (.getfield 120, 3) := by decide +kernel
theorem dX12_read_90 : decode cX12_read 90 = .ok (.iload_n 3, 1) := by decide +kernel
theorem dX12_read_91 : decode cX12_read 91 = .ok (.iaload, 1) := by decide +kernel
theorem dX12_read_92 : decode cX12_read 92 = .ok (.iastore, 1) := by decide +kernel
theorem dX12_read_93 : decode cX12_read 93 = .ok (.aload_n 0, 1) := by decide +kernel
theorem dX12_read_94 : decode cX12_read 94 = .ok (.getfield 17, 3) := by decide +kernel
theorem dX12_read_97 : decode cX12_read 97 = .ok (.bipush 24, 2) := by decide +kernel
theorem dX12_read_99 : decode cX12_read 99 = .ok (.iconst 2, 1) := by decide +kernel
theorem dX12_read_100 : decode cX12_read 100 = .ok (.iload_n 1, 1) := by decide +kernel
theorem dX12_read_101 : decode cX12_read 101 = .ok (.imul, 1) := by decide +kernel
theorem dX12_read_102 : decode cX12_read 102 = .ok (.iconst 1, 1) := by decide +kernel
theorem dX12_read_103 : decode cX12_read 103 = .ok (.iadd, 1) := by decide +kernel
theorem dX12_read_104 : decode cX12_read 104 = .ok (.imul, 1) := by decide +kernel
theorem dX12_read_105 : decode cX12_read 105 = .ok (.iload_n 3, 1) := by decide +kernel
theorem dX12_read_106 : decode cX12_read 106 = .ok (.iadd, 1) := by decide +kernel
theorem dX12_read_107 : decode cX12_read 107 = .ok (.aload_n 0, 1) := by decide +kernel
theorem dX12_read_108 : decode cX12_read 108 = .ok (.getfield 123, 3) := by decide +kernel
theorem dX12_read_111 : decode cX12_read 111 = .ok (.iload_n 3, 1) := by decide +kernel
theorem dX12_read_112 : decode cX12_read 112 = .ok (.iaload, 1) := by decide +kernel
theorem dX12_read_113 : decode cX12_read 113 = .ok (.iastore, 1) := by decide +kernel
theorem dX12_read_114 : decode cX12_read 114 = .ok (.iinc 3 1, 3) := by decide +kernel
theorem dX12_read_117 : decode cX12_read 117 = .ok (.goto (-49), 3) := by decide +kernel
theorem dX12_read_120 : decode cX12_read 120 = .ok (.aload_n 0, 1) := by decide +kernel
theorem dX12_read_121 : decode cX12_read 121 = .ok (.getfield 388, 3) := by decide +kernel
theorem dX12_read_124 : decode cX12_read 124 = .ok (.ireturn, 1) := by decide +kernel
theorem dX12_put_0 : decode cX12_put 0 = .ok (.iload_n 1, 1) := by decide +kernel
theorem dX12_put_1 : decode cX12_put 1 = .ok (.iconst 0, 1) := by decide +kernel
theorem dX12_put_2 : decode cX12_put 2 = .ok (.aload_n 0, 1) := by decide +kernel
theorem dX12_put_3 : decode cX12_put 3 = .ok (.getfield 382, 3) := by decide +kernel
theorem dX12_put_6 : decode cX12_put 6 = .ok (.invokestatic 129, 3) := by decide +kernel
theorem dX12_put_9 : decode cX12_put 9 = .ok (.ifCond .eq 21, 3) := by decide +kernel
theorem dX12_put_12 : decode cX12_put 12 = .ok (.iload_n 1, 1) := by decide +kernel
theorem dX12_put_13 : decode cX12_put 13 = .ok (.sipush 160, 3) := by decide +kernel
theorem dX12_put_16 : decode cX12_put 16 = .ok (.if_icmp .ge 14, 3) := by decide +kernel
theorem dX12_put_19 : decode cX12_put 19 = .ok (.iload_n 2, 1) := by decide +kernel
theorem dX12_put_20 : decode cX12_put 20 = .ok (.bipush 32, 2) := by decide +kernel
theorem dX12_put_22 : decode cX12_put 22 = .ok (.bipush 126, 2) := by decide +kernel
theorem dX12_put_24 : decode cX12_put 24 = .ok (.invokestatic 129, 3) := by decide +kernel
theorem dX12_put_27 : decode cX12_put 27 = .ok (.ifCond .ne 5, 3) := by decide +kernel
theorem dX12_put_30 : decode cX12_put 30 = .ok (.iconst (-1), 1) := by decide +kernel
theorem dX12_put_31 : decode cX12_put 31 = .ok (.ireturn, 1) := by decide +kernel
theorem dX12_put_32 : decode cX12_put 32 = .ok (.aload_n 0, 1) := by decide +kernel
theorem dX12_put_33 : decode cX12_put 33 = .ok (.iload_n 1, 1) := by decide +kernel
theorem dX12_put_34 : decode cX12_put 34 = .ok (.aload_n 0, 1) := by decide +kernel
theorem dX12_put_35 : decode cX12_put 35 = .ok (.getfield 382, 3) := by decide +kernel
theorem dX12_put_38 : decode cX12_put 38 = .ok (.if_icmp .ne 9, 3) := by decide +kernel
theorem dX12_put_41 : decode cX12_put 41 = .ok (.iload_n 1, 1) := by decide +kernel
theorem dX12_put_42 : decode cX12_put 42 = .ok (.iconst 1, 1) := by decide +kernel
theorem dX12_put_43 : decode cX12_put 43 = .ok (.iadd, 1) := by decide +kernel
theorem dX12_put_44 : decode cX12_put 44 = .ok (.goto 7, 3) := by decide +kernel
theorem dX12_put_47 : decode cX12_put 47 = .ok (.aload_n 0, 1) := by decide +kernel
theorem dX12_put_48 : decode cX12_put 48 = .ok (.getfield 382, 3) := by decide +kernel
theorem dX12_put_51 : decode cX12_put 51 = .ok (.putfield 382, 3) := by decide +kernel
theorem dX12_put_54 : decode cX12_put 54 = .ok (.aload_n 0, 1) := by decide +kernel
theorem dX12_put_55 : decode cX12_put 55 = .ok (.getfield 87, 3) := by decide +kernel
theorem dX12_put_58 : decode cX12_put 58 = .ok (.iload_n 1, 1) := by decide +kernel
theorem dX12_put_59 : decode cX12_put 59 = .ok (.iload_n 2, 1) := by decide +kernel
theorem dX12_put_60 : decode cX12_put 60 = .ok (.iastore, 1) := by decide +kernel
theorem dX12_put_61 : decode cX12_put 61 = .ok (.iconst 1, 1) := by decide +kernel
theorem dX12_put_62 : decode cX12_put 62 = .ok (.ireturn, 1) := by decide +kernel
theorem dX12_cutLine_0 : decode cX12_cutLine 0 = .ok (.iload_n 1, 1) := by decide +kernel
theorem dX12_cutLine_1 : decode cX12_cutLine 1 = .ok (.iconst 0, 1) := by decide +kernel
theorem dX12_cutLine_2 : decode cX12_cutLine 2 = .ok (.aload_n 0, 1) := by decide +kernel
theorem dX12_cutLine_3 : decode cX12_cutLine 3 = .ok (.getfield 382, 3) := by decide +kernel
theorem dX12_cutLine_6 : decode cX12_cutLine 6 = .ok (.invokestatic 129, 3) := by decide +kernel
theorem dX12_cutLine_9 : decode cX12_cutLine 9 = .ok (.ifCond .ne 5, 3) := by decide +kernel
theorem dX12_cutLine_12 : decode cX12_cutLine 12 = .ok (.iconst (-1), 1) := by decide +kernel
theorem dX12_cutLine_13 : decode cX12_cutLine 13 = .ok (.ireturn, 1) := by decide +kernel
theorem dX12_cutLine_14 : decode cX12_cutLine 14 = .ok (.aload_n 0, 1) := by decide +kernel
theorem dX12_cutLine_15 : decode cX12_cutLine 15 = .ok (.getfield 382, 3) := by decide +kernel
theorem dX12_cutLine_18 : decode cX12_cutLine 18 = .ok (.istore_n 2, 1) := by decide +kernel
theorem dX12_cutLine_19 : decode cX12_cutLine 19 = .ok (.aload_n 0, 1) := by decide +kernel
theorem dX12_cutLine_20 : decode cX12_cutLine 20 = .ok (.iload_n 1, 1) := by decide +kernel
theorem dX12_cutLine_21 : decode cX12_cutLine 21 = .ok (.putfield 382, 3) := by decide +kernel
theorem dX12_cutLine_24 : decode cX12_cutLine 24 = .ok (.iload_n 2, 1) := by decide +kernel
theorem dX12_cutLine_25 : decode cX12_cutLine 25 = .ok (.ireturn, 1) := by decide +kernel
theorem dX12_character_0 : decode cX12_character 0 = .ok (.iload_n 1, 1) := by decide +kernel
theorem dX12_character_1 : decode cX12_character 1 = .ok (.iconst 0, 1) := by decide +kernel
theorem dX12_character_2 : decode cX12_character 2 = .ok (.aload_n 0, 1) := by decide +kernel
theorem dX12_character_3 : decode cX12_character 3 = .ok (.getfield 382, 3) := by decide +kernel
theorem dX12_character_6 : decode cX12_character 6 = .ok (.iconst 1, 1) := by decide +kernel
theorem dX12_character_7 : decode cX12_character 7 = .ok (.isub, 1) := by decide +kernel
theorem dX12_character_8 : decode cX12_character 8 = .ok (.invokestatic 129, 3) := by decide +kernel
theorem dX12_character_11 : decode cX12_character 11 = .ok (.ifCond .eq 12, 3) := by decide +kernel
theorem dX12_character_14 : decode cX12_character 14 = .ok (.aload_n 0, 1) := by decide +kernel
theorem dX12_character_15 : decode cX12_character 15 = .ok (.getfield 87, 3) := by decide +kernel
theorem dX12_character_18 : decode cX12_character 18 = .ok (.iload_n 1, 1) := by decide +kernel
theorem dX12_character_19 : decode cX12_character 19 = .ok (.iaload, 1) := by decide +kernel
theorem dX12_character_20 : decode cX12_character 20 = .ok (.goto 5, 3) := by decide +kernel
theorem dX12_character_23 : decode cX12_character 23 = .ok (.bipush (-2), 2) := by decide +kernel
theorem dX12_character_25 : decode cX12_character 25 = .ok (.ireturn, 1) := by decide +kernel
theorem dX12_status_0 : decode cX12_status 0 = .ok (.aload_n 0, 1) := by decide +kernel
theorem dX12_status_1 : decode cX12_status 1 = .ok (.getfield 126, 3) := by decide +kernel
theorem dX12_status_4 : decode cX12_status 4 = .ok (.ireturn, 1) := by decide +kernel
theorem dX12_trace_0 : decode cX12_trace 0 = .ok (.iload_n 1, 1) := by decide +kernel
theorem dX12_trace_1 : decode cX12_trace 1 = .ok (.iconst 0, 1) := by decide +kernel
theorem dX12_trace_2 : decode cX12_trace 2 = .ok (.aload_n 0, 1) := by decide +kernel
theorem dX12_trace_3 : decode cX12_trace 3 = .ok (.getfield 198, 3) := by decide +kernel
theorem dX12_trace_6 : decode cX12_trace 6 = .ok (.bipush 60, 2) := by decide +kernel
theorem dX12_trace_8 : decode cX12_trace 8 = .ok (.if_icmp .ge 10, 3) := by decide +kernel
theorem dX12_trace_11 : decode cX12_trace 11 = .ok (.aload_n 0, 1) := by decide +kernel
theorem dX12_trace_12 : decode cX12_trace 12 = .ok (.getfield 198, 3) := by decide +kernel
theorem dX12_trace_15 : decode cX12_trace 15 = .ok (.goto 5, 3) := by decide +kernel
theorem dX12_trace_18 : decode cX12_trace 18 = .ok (.bipush 60, 2) := by decide +kernel
theorem dX12_trace_20 : decode cX12_trace 20 = .ok (.iconst 1, 1) := by decide +kernel
theorem dX12_trace_21 : decode cX12_trace 21 = .ok (.isub, 1) := by decide +kernel
theorem dX12_trace_22 : decode cX12_trace 22 = .ok (.invokestatic 129, 3) := by decide +kernel
theorem dX12_trace_25 : decode cX12_trace 25 = .ok (.ifCond .eq 12, 3) := by decide +kernel
theorem dX12_trace_28 : decode cX12_trace 28 = .ok (.aload_n 0, 1) := by decide +kernel
theorem dX12_trace_29 : decode cX12_trace 29 = .ok (.getfield 69, 3) := by decide +kernel
theorem dX12_trace_32 : decode cX12_trace 32 = .ok (.iload_n 1, 1) := by decide +kernel
theorem dX12_trace_33 : decode cX12_trace 33 = .ok (.iaload, 1) := by decide +kernel
theorem dX12_trace_34 : decode cX12_trace 34 = .ok (.goto 5, 3) := by decide +kernel
theorem dX12_trace_37 : decode cX12_trace 37 = .ok (.bipush (-2), 2) := by decide +kernel
theorem dX12_trace_39 : decode cX12_trace 39 = .ok (.ireturn, 1) := by decide +kernel
theorem dX12_count_0 : decode cX12_count 0 = .ok (.iconst 0, 1) := by decide +kernel
theorem dX12_count_1 : decode cX12_count 1 = .ok (.istore_n 2, 1) := by decide +kernel
theorem dX12_count_2 : decode cX12_count 2 = .ok (.iload_n 1, 1) := by decide +kernel
theorem dX12_count_3 : decode cX12_count 3 = .ok (.tableswitch 160 0 7 #[45, 50, 55, 60, 93, 126, 142, 147], 45) := by decide +kernel
theorem dX12_count_48 : decode cX12_count 48 = .ok (.aload_n 0, 1) := by decide +kernel
theorem dX12_count_49 : decode cX12_count 49 = .ok (.getfield 245, 3) := by decide +kernel
theorem dX12_count_52 : decode cX12_count 52 = .ok (.ireturn, 1) := by decide +kernel
theorem dX12_count_53 : decode cX12_count 53 = .ok (.aload_n 0, 1) := by decide +kernel
theorem dX12_count_54 : decode cX12_count 54 = .ok (.getfield 133, 3) := by decide +kernel
theorem dX12_count_57 : decode cX12_count 57 = .ok (.ireturn, 1) := by decide +kernel
theorem dX12_count_58 : decode cX12_count 58 = .ok (.aload_n 0, 1) := by decide +kernel
theorem dX12_count_59 : decode cX12_count 59 = .ok (.getfield 198, 3) := by decide +kernel
theorem dX12_count_62 : decode cX12_count 62 = .ok (.ireturn, 1) := by decide +kernel
theorem dX12_count_63 : decode cX12_count 63 = .ok (.iconst 0, 1) := by decide +kernel
theorem dX12_count_64 : decode cX12_count 64 = .ok (.istore_n 3, 1) := by decide +kernel
theorem dX12_count_65 : decode cX12_count 65 = .ok (.iload_n 3, 1) := by decide +kernel
theorem dX12_count_66 : decode cX12_count 66 = .ok (.bipush 6, 2) := by decide +kernel
theorem dX12_count_68 : decode cX12_count 68 = .ok (.if_icmp .ge 26, 3) := by decide +kernel
theorem dX12_count_71 : decode cX12_count 71 = .ok (.iload_n 2, 1) := by decide +kernel
theorem dX12_count_72 : decode cX12_count 72 = .ok (.aload_n 0, 1) := by decide +kernel
theorem dX12_count_73 : decode cX12_count 73 = .ok (.getfield 9, 3) := by decide +kernel
theorem dX12_count_76 : decode cX12_count 76 = .ok (.iload_n 3, 1) := by decide +kernel
theorem dX12_count_77 : decode cX12_count 77 = .ok (.baload, 1) := by decide +kernel
theorem dX12_count_78 : decode cX12_count 78 = .ok (.ifCond .eq 7, 3) := by decide +kernel
theorem dX12_count_81 : decode cX12_count 81 = .ok (.iconst 1, 1) := by decide +kernel
theorem dX12_count_82 : decode cX12_count 82 = .ok (.goto 4, 3) := by decide +kernel
theorem dX12_count_85 : decode cX12_count 85 = .ok (.iconst 0, 1) := by decide +kernel
theorem dX12_count_86 : decode cX12_count 86 = .ok (.iadd, 1) := by decide +kernel
theorem dX12_count_87 : decode cX12_count 87 = .ok (.istore_n 2, 1) := by decide +kernel
theorem dX12_count_88 : decode cX12_count 88 = .ok (.iinc 3 1, 3) := by decide +kernel
theorem dX12_count_91 : decode cX12_count 91 = .ok (.goto (-26), 3) := by decide +kernel
theorem dX12_count_94 : decode cX12_count 94 = .ok (.iload_n 2, 1) := by decide +kernel
theorem dX12_count_95 : decode cX12_count 95 = .ok (.ireturn, 1) := by decide +kernel
theorem dX12_count_96 : decode cX12_count 96 = .ok (.iconst 0, 1) := by decide +kernel
theorem dX12_count_97 : decode cX12_count 97 = .ok (.istore_n 3, 1) := by decide +kernel
theorem dX12_count_98 : decode cX12_count 98 = .ok (.iload_n 3, 1) := by decide +kernel
theorem dX12_count_99 : decode cX12_count 99 = .ok (.bipush 16, 2) := by decide +kernel
theorem dX12_count_101 : decode cX12_count 101 = .ok (.if_icmp .ge 26, 3) := by decide +kernel
theorem dX12_count_104 : decode cX12_count 104 = .ok (.iload_n 2, 1) := by decide +kernel
theorem dX12_count_105 : decode cX12_count 105 = .ok (.aload_n 0, 1) := by decide +kernel
theorem dX12_count_106 : decode cX12_count 106 = .ok (.getfield 53, 3) := by decide +kernel
theorem dX12_count_109 : decode cX12_count 109 = .ok (.iload_n 3, 1) := by decide +kernel
theorem dX12_count_110 : decode cX12_count 110 = .ok (.iaload, 1) := by decide +kernel
theorem dX12_count_111 : decode cX12_count 111 = .ok (.ifCond .le 7, 3) := by decide +kernel
theorem dX12_count_114 : decode cX12_count 114 = .ok (.iconst 1, 1) := by decide +kernel
theorem dX12_count_115 : decode cX12_count 115 = .ok (.goto 4, 3) := by decide +kernel
theorem dX12_count_118 : decode cX12_count 118 = .ok (.iconst 0, 1) := by decide +kernel
theorem dX12_count_119 : decode cX12_count 119 = .ok (.iadd, 1) := by decide +kernel
theorem dX12_count_120 : decode cX12_count 120 = .ok (.istore_n 2, 1) := by decide +kernel
theorem dX12_count_121 : decode cX12_count 121 = .ok (.iinc 3 1, 3) := by decide +kernel
theorem dX12_count_124 : decode cX12_count 124 = .ok (.goto (-26), 3) := by decide +kernel
theorem dX12_count_127 : decode cX12_count 127 = .ok (.iload_n 2, 1) := by decide +kernel
theorem dX12_count_128 : decode cX12_count 128 = .ok (.ireturn, 1) := by decide +kernel
theorem dX12_count_129 : decode cX12_count 129 = .ok (.aload_n 0, 1) := by decide +kernel
theorem dX12_count_130 : decode cX12_count 130 = .ok (.getfield 355, 3) := by decide +kernel
theorem dX12_count_133 : decode cX12_count 133 = .ok (.ifCond .eq 10, 3) := by decide +kernel
theorem dX12_count_136 : decode cX12_count 136 = .ok (.aload_n 0, 1) := by decide +kernel
theorem dX12_count_137 : decode cX12_count 137 = .ok (.getfield 361, 3) := by decide +kernel
theorem dX12_count_140 : decode cX12_count 140 = .ok (.goto 4, 3) := by decide +kernel
theorem dX12_count_143 : decode cX12_count 143 = .ok (.iconst 0, 1) := by decide +kernel
theorem dX12_count_144 : decode cX12_count 144 = .ok (.ireturn, 1) := by decide +kernel
theorem dX12_count_145 : decode cX12_count 145 = .ok (.aload_n 0, 1) := by decide +kernel
theorem dX12_count_146 : decode cX12_count 146 = .ok (.getfield 174, 3) := by decide +kernel
theorem dX12_count_149 : decode cX12_count 149 = .ok (.ireturn, 1) := by decide +kernel
theorem dX12_count_150 : decode cX12_count 150 = .ok (.aload_n 0, 1) := by decide +kernel
theorem dX12_count_151 : decode cX12_count 151 = .ok (.getfield 136, 3) := by decide +kernel
theorem dX12_count_154 : decode cX12_count 154 = .ok (.ifCond .eq 7, 3) := by decide +kernel
theorem dX12_count_157 : decode cX12_count 157 = .ok (.iconst 1, 1) := by decide +kernel
theorem dX12_count_158 : decode cX12_count 158 = .ok (.goto 4, 3) := by decide +kernel
theorem dX12_count_161 : decode cX12_count 161 = .ok (.iconst 0, 1) := by decide +kernel
theorem dX12_count_162 : decode cX12_count 162 = .ok (.ireturn, 1) := by decide +kernel
theorem dX12_count_163 : decode cX12_count 163 = .ok (.iconst (-1), 1) := by decide +kernel
theorem dX12_count_164 : decode cX12_count 164 = .ok (.ireturn, 1) := by decide +kernel
