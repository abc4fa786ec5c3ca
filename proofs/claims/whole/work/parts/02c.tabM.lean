theorem dX6_init_0 : decode cX6_init 0 = .ok (.aload_n 0, 1) := by decide +kernel
theorem dX6_init_1 : decode cX6_init 1 = .ok (.invokespecial 1, 3) := by decide +kernel
theorem dX6_init_4 : decode cX6_init 4 = .ok (.aload_n 0, 1) := by decide +kernel
theorem dX6_init_5 : decode cX6_init 5 = .ok (.bipush 16, 2) := by decide +kernel
theorem dX6_init_7 : decode cX6_init 7 = .ok (.newarray .int, 2) := by decide +kernel
theorem dX6_init_9 : decode cX6_init 9 = .ok (.putfield 9, 3) := by decide +kernel
theorem dX6_init_12 : decode cX6_init 12 = .ok (.aload_n 0, 1) := by decide +kernel
theorem dX6_init_13 : decode cX6_init 13 = .ok (.bipush 16, 2) := by decide +kernel
theorem dX6_init_15 : decode cX6_init 15 = .ok (.newarray .int, 2) := by decide +kernel
theorem dX6_init_17 : decode cX6_init 17 = .ok (.putfield 13, 3) := by decide +kernel
theorem dX6_init_20 : decode cX6_init 20 = .ok (.aload_n 0, 1) := by decide +kernel
theorem dX6_init_21 : decode cX6_init 21 = .ok (.bipush 16, 2) := by decide +kernel
theorem dX6_init_23 : decode cX6_init 23 = .ok (.newarray .char, 2) := by decide +kernel
theorem dX6_init_25 : decode cX6_init 25 = .ok (.putfield 16, 3) := by decide +kernel
theorem dX6_init_28 : decode cX6_init 28 = .ok (.aload_n 0, 1) := by decide +kernel
theorem dX6_init_29 : decode cX6_init 29 = .ok (.bipush 16, 2) := by decide +kernel
theorem dX6_init_31 : decode cX6_init 31 = .ok (.newarray .boolean, 2) := by decide +kernel
theorem dX6_init_33 : decode cX6_init 33 = .ok (.putfield 20, 3) := by decide +kernel
theorem dX6_init_36 : decode cX6_init 36 = .ok (.aload_n 0, 1) := by decide +kernel
theorem dX6_init_37 : decode cX6_init 37 = .ok (.sipush 192, 3) := by decide +kernel
theorem dX6_init_40 : decode cX6_init 40 = .ok (.newarray .int, 2) := by decide +kernel
theorem dX6_init_42 : decode cX6_init 42 = .ok (.putfield 24, 3) := by decide +kernel
theorem dX6_init_45 : decode cX6_init 45 = .ok (.aload_n 0, 1) := by decide +kernel
theorem dX6_init_46 : decode cX6_init 46 = .ok (.bipush 12, 2) := by decide +kernel
theorem dX6_init_48 : decode cX6_init 48 = .ok (.newarray .int, 2) := by decide +kernel
theorem dX6_init_50 : decode cX6_init 50 = .ok (.putfield 27, 3) := by decide +kernel
theorem dX6_init_53 : decode cX6_init 53 = .ok (.aload_n 0, 1) := by decide +kernel
theorem dX6_init_54 : decode cX6_init 54 = .ok (.bipush 12, 2) := by decide +kernel
theorem dX6_init_56 : decode cX6_init 56 = .ok (.newarray .int, 2) := by decide +kernel
theorem dX6_init_58 : decode cX6_init 58 = .ok (.putfield 30, 3) := by decide +kernel
theorem dX6_init_61 : decode cX6_init 61 = .ok (.aload_n 0, 1) := by decide +kernel
theorem dX6_init_62 : decode cX6_init 62 = .ok (.bipush 12, 2) := by decide +kernel
theorem dX6_init_64 : decode cX6_init 64 = .ok (.newarray .int, 2) := by decide +kernel
theorem dX6_init_66 : decode cX6_init 66 = .ok (.putfield 33, 3) := by decide +kernel
theorem dX6_init_69 : decode cX6_init 69 = .ok (.aload_n 0, 1) := by decide +kernel
theorem dX6_init_70 : decode cX6_init 70 = .ok (.bipush 12, 2) := by decide +kernel
theorem dX6_init_72 : decode cX6_init 72 = .ok (.newarray .int, 2) := by decide +kernel
theorem dX6_init_74 : decode cX6_init 74 = .ok (.putfield 36, 3) := by decide +kernel
theorem dX6_init_77 : decode cX6_init 77 = .ok (.aload_n 0, 1) := by decide +kernel
theorem dX6_init_78 : decode cX6_init 78 = .ok (.bipush 12, 2) := by decide +kernel
theorem dX6_init_80 : decode cX6_init 80 = .ok (.newarray .char, 2) := by decide +kernel
theorem dX6_init_82 : decode cX6_init 82 = .ok (.putfield 39, 3) := by decide +kernel
theorem dX6_init_85 : decode cX6_init 85 = .ok (.aload_n 0, 1) := by decide +kernel
theorem dX6_init_86 : decode cX6_init 86 = .ok (.bipush 12, 2) := by decide +kernel
theorem dX6_init_88 : decode cX6_init 88 = .ok (.newarray .boolean, 2) := by decide +kernel
theorem dX6_init_90 : decode cX6_init 90 = .ok (.putfield 42, 3) := by decide +kernel
theorem dX6_init_93 : decode cX6_init 93 = .ok (.aload_n 0, 1) := by decide +kernel
theorem dX6_init_94 : decode cX6_init 94 = .ok (.bipush 12, 2) := by decide +kernel
theorem dX6_init_96 : decode cX6_init 96 = .ok (.newarray .boolean, 2) := by decide +kernel
theorem dX6_init_98 : decode cX6_init 98 = .ok (.putfield 45, 3) := by decide +kernel
theorem dX6_init_101 : decode cX6_init 101 = .ok (.aload_n 0, 1) := by decide +kernel
theorem dX6_init_102 : decode cX6_init 102 = .ok (.bipush 12, 2) := by decide +kernel
theorem dX6_init_104 : decode cX6_init 104 = .ok (.newarray .int, 2) := by decide +kernel
theorem dX6_init_106 : decode cX6_init 106 = .ok (.dup, 1) := by decide +kernel
theorem dX6_init_107 : decode cX6_init 107 = .ok (.iconst 0, 1) := by decide +kernel
theorem dX6_init_108 : decode cX6_init 108 = .ok (.bipush (-2), 2) := by decide +kernel
theorem dX6_init_110 : decode cX6_init 110 = .ok (.iastore, 1) := by decide +kernel
theorem dX6_init_111 : decode cX6_init 111 = .ok (.dup, 1) := by decide +kernel
theorem dX6_init_112 : decode cX6_init 112 = .ok (.iconst 1, 1) := by decide +kernel
theorem dX6_init_113 : decode cX6_init 113 = .ok (.bipush (-2), 2) := by decide +kernel
theorem dX6_init_115 : decode cX6_init 115 = .ok (.iastore, 1) := by decide +kernel
theorem dX6_init_116 : decode cX6_init 116 = .ok (.dup, 1) := by decide +kernel
theorem dX6_init_117 : decode cX6_init 117 = .ok (.iconst 2, 1) := by decide +kernel
theorem dX6_init_118 : decode cX6_init 118 = .ok (.bipush (-2), 2) := by decide +kernel
theorem dX6_init_120 : decode cX6_init 120 = .ok (.iastore, 1) := by decide +kernel
theorem dX6_init_121 : decode cX6_init 121 = .ok (.dup, 1) := by decide +kernel
theorem dX6_init_122 : decode cX6_init 122 = .ok (.iconst 3, 1) := by decide +kernel
theorem dX6_init_123 : decode cX6_init 123 = .ok (.bipush (-2), 2) := by decide +kernel
theorem dX6_init_125 : decode cX6_init 125 = .ok (.iastore, 1) := by decide +kernel
theorem dX6_init_126 : decode cX6_init 126 = .ok (.dup, 1) := by decide +kernel
theorem dX6_init_127 : decode cX6_init 127 = .ok (.iconst 4, 1) := by decide +kernel
theorem dX6_init_128 : decode cX6_init 128 = .ok (.bipush (-2), 2) := by decide +kernel
theorem dX6_init_130 : decode cX6_init 130 = .ok (.iastore, 1) := by decide +kernel
theorem dX6_init_131 : decode cX6_init 131 = .ok (.dup, 1) := by decide +kernel
theorem dX6_init_132 : decode cX6_init 132 = .ok (.iconst 5, 1) := by decide +kernel
theorem dX6_init_133 : decode cX6_init 133 = .ok (.bipush (-2), 2) := by decide +kernel
theorem dX6_init_135 : decode cX6_init 135 = .ok (.iastore, 1) := by decide +kernel
theorem dX6_init_136 : decode cX6_init 136 = .ok (.dup, 1) := by decide +kernel
theorem dX6_init_137 : decode cX6_init 137 = .ok (.bipush 6, 2) := by decide +kernel
theorem dX6_init_139 : decode cX6_init 139 = .ok (.bipush (-2), 2) := by decide +kernel
theorem dX6_init_141 : decode cX6_init 141 = .ok (.iastore, 1) := by decide +kernel
theorem dX6_init_142 : decode cX6_init 142 = .ok (.dup, 1) := by decide +kernel
theorem dX6_init_143 : decode cX6_init 143 = .ok (.bipush 7, 2) := by decide +kernel
theorem dX6_init_145 : decode cX6_init 145 = .ok (.bipush (-2), 2) := by decide +kernel
theorem dX6_init_147 : decode cX6_init 147 = .ok (.iastore, 1) := by decide +kernel
theorem dX6_init_148 : decode cX6_init 148 = .ok (.dup, 1) := by decide +kernel
theorem dX6_init_149 : decode cX6_init 149 = .ok (.bipush 8, 2) := by decide +kernel
theorem dX6_init_151 : decode cX6_init 151 = .ok (.bipush (-2), 2) := by decide +kernel
theorem dX6_init_153 : decode cX6_init 153 = .ok (.iastore, 1) := by decide +kernel
theorem dX6_init_154 : decode cX6_init 154 = .ok (.dup, 1) := by decide +kernel
theorem dX6_init_155 : decode cX6_init 155 = .ok (.bipush 9, 2) := by decide +kernel
theorem dX6_init_157 : decode cX6_init 157 = .ok (.bipush (-2), 2) := by decide +kernel
theorem dX6_init_159 : decode cX6_init 159 = .ok (.iastore, 1) := by decide +kernel
theorem dX6_init_160 : decode cX6_init 160 = .ok (.dup, 1) := by decide +kernel
theorem dX6_init_161 : decode cX6_init 161 = .ok (.bipush 10, 2) := by decide +kernel
theorem dX6_init_163 : decode cX6_init 163 = .ok (.bipush (-2), 2) := by decide +kernel
theorem dX6_init_165 : decode cX6_init 165 = .ok (.iastore, 1) := by decide +kernel
theorem dX6_init_166 : decode cX6_init 166 = .ok (.dup, 1) := by decide +kernel
theorem dX6_init_167 : decode cX6_init 167 = .ok (.bipush 11, 2) := by decide +kernel
theorem dX6_init_169 : decode cX6_init 169 = .ok (.bipush (-2), 2) := by decide +kernel
theorem dX6_init_171 : decode cX6_init 171 = .ok (.iastore, 1) := by decide +kernel
theorem dX6_init_172 : decode cX6_init 172 = .ok (.putfield 48, 3) := by decide +kernel
theorem dX6_init_175 : decode cX6_init 175 = .ok (.aload_n 0, 1) := by decide +kernel
theorem dX6_init_176 : decode cX6_init 176 = .ok (.bipush 12, 2) := by decide +kernel
theorem dX6_init_178 : decode cX6_init 178 = .ok (.newarray .int, 2) := by decide +kernel
theorem dX6_init_180 : decode cX6_init 180 = .ok (.dup, 1) := by decide +kernel
theorem dX6_init_181 : decode cX6_init 181 = .ok (.iconst 0, 1) := by decide +kernel
theorem dX6_init_182 : decode cX6_init 182 = .ok (.iconst (-1), 1) := by decide +kernel
theorem dX6_init_183 : decode cX6_init 183 = .ok (.iastore, 1) := by decide +kernel
theorem dX6_init_184 : decode cX6_init 184 = .ok (.dup, 1) := by decide +kernel
theorem dX6_init_185 : decode cX6_init 185 = .ok (.iconst 1, 1) := by decide +kernel
theorem dX6_init_186 : decode cX6_init 186 = .ok (.iconst (-1), 1) := by decide +kernel
theorem dX6_init_187 : decode cX6_init 187 = .ok (.iastore, 1) := by decide +kernel
theorem dX6_init_188 : decode cX6_init 188 = .ok (.dup, 1) := by decide +kernel
theorem dX6_init_189 : decode cX6_init 189 = .ok (.iconst 2, 1) := by decide +kernel
theorem dX6_init_190 : decode cX6_init 190 = .ok (.iconst (-1), 1) := by decide +kernel
theorem dX6_init_191 : decode cX6_init 191 = .ok (.iastore, 1) := by decide +kernel
theorem dX6_init_192 : decode cX6_init 192 = .ok (.dup, 1) := by decide +kernel
theorem dX6_init_193 : decode cX6_init 193 = .ok (.iconst 3, 1) := by decide +kernel
theorem dX6_init_194 : decode cX6_init 194 = .ok (.iconst (-1), 1) := by decide +kernel
theorem dX6_init_195 : decode cX6_init 195 = .ok (.iastore, 1) := by decide +kernel
theorem dX6_init_196 : decode cX6_init 196 = .ok (.dup, 1) := by decide +kernel
theorem dX6_init_197 : decode cX6_init 197 = .ok (.iconst 4, 1) := by decide +kernel
theorem dX6_init_198 : decode cX6_init 198 = .ok (.iconst (-1), 1) := by decide +kernel
theorem dX6_init_199 : decode cX6_init 199 = .ok (.iastore, 1) := by decide +kernel
theorem dX6_init_200 : decode cX6_init 200 = .ok (.dup, 1) := by decide +kernel
theorem dX6_init_201 : decode cX6_init 201 = .ok (.iconst 5, 1) := by decide +kernel
theorem dX6_init_202 : decode cX6_init 202 = .ok (.iconst (-1), 1) := by decide +kernel
theorem dX6_init_203 : decode cX6_init 203 = .ok (.iastore, 1) := by decide +kernel
theorem dX6_init_204 : decode cX6_init 204 = .ok (.dup, 1) := by decide +kernel
theorem dX6_init_205 : decode cX6_init 205 = .ok (.bipush 6, 2) := by decide +kernel
theorem dX6_init_207 : decode cX6_init 207 = .ok (.iconst (-1), 1) := by decide +kernel
theorem dX6_init_208 : decode cX6_init 208 = .ok (.iastore, 1) := by decide +kernel
theorem dX6_init_209 : decode cX6_init 209 = .ok (.dup, 1) := by decide +kernel
theorem dX6_init_210 : decode cX6_init 210 = .ok (.bipush 7, 2) := by decide +kernel
theorem dX6_init_212 : decode cX6_init 212 = .ok (.iconst (-1), 1) := by decide +kernel
theorem dX6_init_213 : decode cX6_init 213 = .ok (.iastore, 1) := by decide +kernel
theorem dX6_init_214 : decode cX6_init 214 = .ok (.dup, 1) := by decide +kernel
theorem dX6_init_215 : decode cX6_init 215 = .ok (.bipush 8, 2) := by decide +kernel
theorem dX6_init_217 : decode cX6_init 217 = .ok (.iconst (-1), 1) := by decide +kernel
theorem dX6_init_218 : decode cX6_init 218 = .ok (.iastore, 1) := by decide +kernel
theorem dX6_init_219 : decode cX6_init 219 = .ok (.dup, 1) := by decide +kernel
theorem dX6_init_220 : decode cX6_init 220 = .ok (.bipush 9, 2) := by decide +kernel
theorem dX6_init_222 : decode cX6_init 222 = .ok (.iconst (-1), 1) := by decide +kernel
theorem dX6_init_223 : decode cX6_init 223 = .ok (.iastore, 1) := by decide +kernel
theorem dX6_init_224 : decode cX6_init 224 = .ok (.dup, 1) := by decide +kernel
theorem dX6_init_225 : decode cX6_init 225 = .ok (.bipush 10, 2) := by decide +kernel
theorem dX6_init_227 : decode cX6_init 227 = .ok (.iconst (-1), 1) := by decide +kernel
theorem dX6_init_228 : decode cX6_init 228 = .ok (.iastore, 1) := by decide +kernel
theorem dX6_init_229 : decode cX6_init 229 = .ok (.dup, 1) := by decide +kernel
theorem dX6_init_230 : decode cX6_init 230 = .ok (.bipush 11, 2) := by decide +kernel
theorem dX6_init_232 : decode cX6_init 232 = .ok (.iconst (-1), 1) := by decide +kernel
theorem dX6_init_233 : decode cX6_init 233 = .ok (.iastore, 1) := by decide +kernel
theorem dX6_init_234 : decode cX6_init 234 = .ok (.putfield 51, 3) := by decide +kernel
theorem dX6_init_237 : decode cX6_init 237 = .ok (.aload_n 0, 1) := by decide +kernel
theorem dX6_init_238 : decode cX6_init 238 = .ok (.iconst 5, 1) := by decide +kernel
theorem dX6_init_239 : decode cX6_init 239 = .ok (.newarray .int, 2) := by decide +kernel
theorem dX6_init_241 : decode cX6_init 241 = .ok (.putfield 54, 3) := by decide +kernel
theorem dX6_init_244 : decode cX6_init 244 = .ok (.aload_n 0, 1) := by decide +kernel
theorem dX6_init_245 : decode cX6_init 245 = .ok (.iconst 5, 1) := by decide +kernel
theorem dX6_init_246 : decode cX6_init 246 = .ok (.newarray .int, 2) := by decide +kernel
theorem dX6_init_248 : decode cX6_init 248 = .ok (.putfield 57, 3) := by decide +kernel
theorem dX6_init_251 : decode cX6_init 251 = .ok (.aload_n 0, 1) := by decide +kernel
theorem dX6_init_252 : decode cX6_init 252 = .ok (.iconst 4, 1) := by decide +kernel
theorem dX6_init_253 : decode cX6_init 253 = .ok (.newarray .int, 2) := by decide +kernel
theorem dX6_init_255 : decode cX6_init 255 = .ok (.putfield 60, 3) := by decide +kernel
theorem dX6_init_258 : decode cX6_init 258 = .ok (.aload_n 0, 1) := by decide +kernel
theorem dX6_init_259 : decode cX6_init 259 = .ok (.iconst 4, 1) := by decide +kernel
theorem dX6_init_260 : decode cX6_init 260 = .ok (.newarray .char, 2) := by decide +kernel
theorem dX6_init_262 : decode cX6_init 262 = .ok (.putfield 63, 3) := by decide +kernel
theorem dX6_init_265 : decode cX6_init 265 = .ok (.aload_n 0, 1) := by decide +kernel
theorem dX6_init_266 : decode cX6_init 266 = .ok (.iconst 4, 1) := by decide +kernel
theorem dX6_init_267 : decode cX6_init 267 = .ok (.newarray .int, 2) := by decide +kernel
theorem dX6_init_269 : decode cX6_init 269 = .ok (.putfield 66, 3) := by decide +kernel
theorem dX6_init_272 : decode cX6_init 272 = .ok (.aload_n 0, 1) := by decide +kernel
theorem dX6_init_273 : decode cX6_init 273 = .ok (.iconst 4, 1) := by decide +kernel
theorem dX6_init_274 : decode cX6_init 274 = .ok (.newarray .int, 2) := by decide +kernel
theorem dX6_init_276 : decode cX6_init 276 = .ok (.putfield 69, 3) := by decide +kernel
theorem dX6_init_279 : decode cX6_init 279 = .ok (.aload_n 0, 1) := by decide +kernel
theorem dX6_init_280 : decode cX6_init 280 = .ok (.iconst 4, 1) := by decide +kernel
theorem dX6_init_281 : decode cX6_init 281 = .ok (.newarray .int, 2) := by decide +kernel
theorem dX6_init_283 : decode cX6_init 283 = .ok (.putfield 72, 3) := by decide +kernel
theorem dX6_init_286 : decode cX6_init 286 = .ok (.aload_n 0, 1) := by decide +kernel
theorem dX6_init_287 : decode cX6_init 287 = .ok (.iconst 4, 1) := by decide +kernel
theorem dX6_init_288 : decode cX6_init 288 = .ok (.newarray .int, 2) := by decide +kernel
theorem dX6_init_290 : decode cX6_init 290 = .ok (.putfield 75, 3) := by decide +kernel
theorem dX6_init_293 : decode cX6_init 293 = .ok (.aload_n 0, 1) := by decide +kernel
theorem dX6_init_294 : decode cX6_init 294 = .ok (.iconst 4, 1) := by decide +kernel
theorem dX6_init_295 : decode cX6_init 295 = .ok (.newarray .boolean, 2) := by decide +kernel
theorem dX6_init_297 : decode cX6_init 297 = .ok (.putfield 78, 3) := by decide +kernel
theorem dX6_init_300 : decode cX6_init 300 = .ok (.aload_n 0, 1) := by decide +kernel
theorem dX6_init_301 : decode cX6_init 301 = .ok (.bipush 8, 2) := by decide +kernel
theorem dX6_init_303 : decode cX6_init 303 = .ok (.newarray .char, 2) := by decide +kernel
theorem dX6_init_305 : decode cX6_init 305 = .ok (.putfield 81, 3) := by decide +kernel
theorem dX6_init_308 : decode cX6_init 308 = .ok (.aload_n 0, 1) := by decide +kernel
theorem dX6_init_309 : decode cX6_init 309 = .ok (.bipush 8, 2) := by decide +kernel
theorem dX6_init_311 : decode cX6_init 311 = .ok (.newarray .int, 2) := by decide +kernel
theorem dX6_init_313 : decode cX6_init 313 = .ok (.putfield 84, 3) := by decide +kernel
theorem dX6_init_316 : decode cX6_init 316 = .ok (.aload_n 0, 1) := by decide +kernel
theorem dX6_init_317 : decode cX6_init 317 = .ok (.bipush 8, 2) := by decide +kernel
theorem dX6_init_319 : decode cX6_init 319 = .ok (.newarray .int, 2) := by decide +kernel
theorem dX6_init_321 : decode cX6_init 321 = .ok (.putfield 87, 3) := by decide +kernel
theorem dX6_init_324 : decode cX6_init 324 = .ok (.aload_n 0, 1) := by decide +kernel
theorem dX6_init_325 : decode cX6_init 325 = .ok (.bipush 32, 2) := by decide +kernel
theorem dX6_init_327 : decode cX6_init 327 = .ok (.putfield 90, 3) := by decide +kernel
theorem dX6_init_330 : decode cX6_init 330 = .ok (.aload_n 0, 1) := by decide +kernel
theorem dX6_init_331 : decode cX6_init 331 = .ok (.sipush 255, 3) := by decide +kernel
theorem dX6_init_334 : decode cX6_init 334 = .ok (.putfield 94, 3) := by decide +kernel
theorem dX6_init_337 : decode cX6_init 337 = .ok (.return_, 1) := by decide +kernel
theorem dX6_thrown_0 : decode cX6_thrown 0 = .ok (.aload_n 0, 1) := by decide +kernel
theorem dX6_thrown_1 : decode cX6_thrown 1 = .ok (.getfield 98, 3) := by decide +kernel
theorem dX6_thrown_4 : decode cX6_thrown 4 = .ok (.ireturn, 1) := by decide +kernel
theorem dX6_in_0 : decode cX6_in 0 = .ok (.lload_n 0, 1) := by decide +kernel
theorem dX6_in_1 : decode cX6_in 1 = .ok (.lload_n 2, 1) := by decide +kernel
theorem dX6_in_2 : decode cX6_in 2 = .ok (.lcmp, 1) := by decide +kernel
theorem dX6_in_3 : decode cX6_in 3 = .ok (.ifCond .lt 14, 3) := by decide +kernel
theorem dX6_in_6 : decode cX6_in 6 = .ok (.lload_n 0, 1) := by decide +kernel
theorem dX6_in_7 : decode cX6_in 7 = .ok (.lload 4, 2) := by decide +kernel
theorem dX6_in_9 : decode cX6_in 9 = .ok (.lcmp, 1) := by decide +kernel
theorem dX6_in_10 : decode cX6_in 10 = .ok (.ifCond .gt 7, 3) := by decide +kernel
theorem dX6_in_13 : decode cX6_in 13 = .ok (.iconst 1, 1) := by decide +kernel
theorem dX6_in_14 : decode cX6_in 14 = .ok (.goto 4, 3) := by decide +kernel
theorem dX6_in_17 : decode cX6_in 17 = .ok (.iconst 0, 1) := by decide +kernel
theorem dX6_in_18 : decode cX6_in 18 = .ok (.ireturn, 1) := by decide +kernel
set_option maxRecDepth 20000 in
theorem ggX6_isChannel_X6_in : GoodIn wsX6_isChannel wsX6_in := goodIn_r _ [5] (by decide +kernel) (by decide +kernel)
set_option maxRecDepth 20000 in
theorem gX6_isChannel_X6_in : GoodIn wsX6_isChannel (va_wsS RX6 103 yX6_in wsX6_in) := goodIn_app (goodIn_of _ (by decide +kernel)) ggX6_isChannel_X6_in
theorem dX6_isChannel_0 : decode cX6_isChannel 0 = .ok (.iload_n 0, 1) := by decide +kernel
theorem dX6_isChannel_1 : decode cX6_isChannel 1 = .ok (.i2l, 1) := by decide +kernel
theorem dX6_isChannel_2 : decode cX6_isChannel 2 = .ok (.lconst 0, 1) := by decide +kernel
theorem dX6_isChannel_3 : decode cX6_isChannel 3 = .ok (.ldc2_w 101, 3) := by decide +kernel
theorem dX6_isChannel_6 : decode cX6_isChannel 6 = .ok (.invokestatic 103, 3) := by decide +kernel
theorem dX6_isChannel_9 : decode cX6_isChannel 9 = .ok (.ireturn, 1) := by decide +kernel
set_option maxRecDepth 20000 in
theorem ggX6_isLevel_X6_in : GoodIn wsX6_isLevel wsX6_in := goodIn_r _ [5] (by decide +kernel) (by decide +kernel)
set_option maxRecDepth 20000 in
theorem gX6_isLevel_X6_in : GoodIn wsX6_isLevel (va_wsS RX6 103 yX6_in wsX6_in) := goodIn_app (goodIn_of _ (by decide +kernel)) ggX6_isLevel_X6_in
theorem dX6_isLevel_0 : decode cX6_isLevel 0 = .ok (.iload_n 0, 1) := by decide +kernel
theorem dX6_isLevel_1 : decode cX6_isLevel 1 = .ok (.i2l, 1) := by decide +kernel
theorem dX6_isLevel_2 : decode cX6_isLevel 2 = .ok (.lconst 0, 1) := by decide +kernel
theorem dX6_isLevel_3 : decode cX6_isLevel 3 = .ok (.ldc2_w 107, 3) := by decide +kernel
theorem dX6_isLevel_6 : decode cX6_isLevel 6 = .ok (.invokestatic 103, 3) := by decide +kernel
theorem dX6_isLevel_9 : decode cX6_isLevel 9 = .ok (.ireturn, 1) := by decide +kernel
theorem dX6_cueAt_0 : decode cX6_cueAt 0 = .ok (.iconst 0, 1) := by decide +kernel
theorem dX6_cueAt_1 : decode cX6_cueAt 1 = .ok (.istore_n 2, 1) := by decide +kernel
theorem dX6_cueAt_2 : decode cX6_cueAt 2 = .ok (.iload_n 2, 1) := by decide +kernel
theorem dX6_cueAt_3 : decode cX6_cueAt 3 = .ok (.aload_n 0, 1) := by decide +kernel
theorem dX6_cueAt_4 : decode cX6_cueAt 4 = .ok (.getfield 109, 3) := by decide +kernel
theorem dX6_cueAt_7 : decode cX6_cueAt 7 = .ok (.if_icmp .ge 21, 3) := by decide +kernel
theorem dX6_cueAt_10 : decode cX6_cueAt 10 = .ok (.aload_n 0, 1) := by decide +kernel
theorem dX6_cueAt_11 : decode cX6_cueAt 11 = .ok (.getfield 9, 3) := by decide +kernel
theorem dX6_cueAt_14 : decode cX6_cueAt 14 = .ok (.iload_n 2, 1) := by decide +kernel
theorem dX6_cueAt_15 : decode cX6_cueAt 15 = .ok (.iaload, 1) := by decide +kernel
theorem dX6_cueAt_16 : decode cX6_cueAt 16 = .ok (.iload_n 1, 1) := by decide +kernel
theorem dX6_cueAt_17 : decode cX6_cueAt 17 = .ok (.if_icmp .ne 5, 3) := by decide +kernel
theorem dX6_cueAt_20 : decode cX6_cueAt 20 = .ok (.iload_n 2, 1) := by decide +kernel
theorem dX6_cueAt_21 : decode cX6_cueAt 21 = .ok (.ireturn, 1) := by decide +kernel
theorem dX6_cueAt_22 : decode cX6_cueAt 22 = .ok (.iinc 2 1, 3) := by decide +kernel
theorem dX6_cueAt_25 : decode cX6_cueAt 25 = .ok (.goto (-23), 3) := by decide +kernel
theorem dX6_cueAt_28 : decode cX6_cueAt 28 = .ok (.iconst (-1), 1) := by decide +kernel
theorem dX6_cueAt_29 : decode cX6_cueAt 29 = .ok (.ireturn, 1) := by decide +kernel
set_option maxRecDepth 20000 in
theorem ggX6_addCue_X6_in : GoodIn wsX6_addCue wsX6_in := goodIn_r _ [13] (by decide +kernel) (by decide +kernel)
set_option maxRecDepth 20000 in
theorem gX6_addCue_X6_in : GoodIn wsX6_addCue (va_wsS RX6 103 yX6_in wsX6_in) := goodIn_app (goodIn_of _ (by decide +kernel)) ggX6_addCue_X6_in
set_option maxRecDepth 20000 in
theorem ggX6_addCue_X6_cueAt : GoodIn wsX6_addCue wsX6_cueAt := goodIn_ca (goodIn_r _ [17, 3, 5, 22, 23, 24, 25, 26, 27, 28, 29, 30, 31, 32, 33, 34, 35, 36, 37, 38, 39, 40, 41, 42, 43, 44, 45, 46, 47, 48, 49, 50, 51, 52, 53, 54, 55, 56, 57] (by decide +kernel) (by decide +kernel)) (goodIn_sub (fun _ h => List.mem_cons_of_mem _ (List.mem_append_right _ h)) (by decide +kernel))
set_option maxRecDepth 20000 in
theorem gX6_addCue_X6_cueAt : GoodIn wsX6_addCue (wsV RX6 116 RX6 yX6_cueAt wsX6_cueAt) := goodIn_app (goodIn_of _ (by decide +kernel)) ggX6_addCue_X6_cueAt
set_option maxRecDepth 20000 in
theorem ggX6_addCue_X6_copies : GoodIn wsX6_addCue wsX6_copies := goodIn_ca (goodIn_r _ [21, 5, 6, 7, 8, 9, 22, 23, 24, 25, 26, 27, 28, 29, 30, 31, 32, 33, 34, 35, 36, 37, 38, 39, 40, 41, 42, 43, 44, 45, 46, 47, 48, 49, 50, 51, 52, 53, 54, 55, 56, 57] (by decide +kernel) (by decide +kernel)) (goodIn_sub (fun _ h => List.mem_cons_of_mem _ (List.mem_append_right _ h)) (by decide +kernel))
set_option maxRecDepth 20000 in
theorem gX6_addCue_X6_copies : GoodIn wsX6_addCue (wsV RX6 120 RX6 yX6_copies wsX6_copies) := goodIn_app (goodIn_of _ (by decide +kernel)) ggX6_addCue_X6_copies
theorem dX6_addCue_0 : decode cX6_addCue 0 = .ok (.iload_n 1, 1) := by decide +kernel
theorem dX6_addCue_1 : decode cX6_addCue 1 = .ok (.i2l, 1) := by decide +kernel
theorem dX6_addCue_2 : decode cX6_addCue 2 = .ok (.lconst 1, 1) := by decide +kernel
theorem dX6_addCue_3 : decode cX6_addCue 3 = .ok (.ldc2_w 112, 3) := by decide +kernel
theorem dX6_addCue_6 : decode cX6_addCue 6 = .ok (.invokestatic 103, 3) := by decide +kernel
theorem dX6_addCue_9 : decode cX6_addCue 9 = .ok (.ifCond .eq 37, 3) := by decide +kernel
theorem dX6_addCue_12 : decode cX6_addCue 12 = .ok (.iload_n 2, 1) := by decide +kernel
theorem dX6_addCue_13 : decode cX6_addCue 13 = .ok (.i2l, 1) := by decide +kernel
theorem dX6_addCue_14 : decode cX6_addCue 14 = .ok (.lconst 0, 1) := by decide +kernel
theorem dX6_addCue_15 : decode cX6_addCue 15 = .ok (.ldc2_w 114, 3) := by decide +kernel
theorem dX6_addCue_18 : decode cX6_addCue 18 = .ok (.invokestatic 103, 3) := by decide +kernel
theorem dX6_addCue_21 : decode cX6_addCue 21 = .ok (.ifCond .eq 25, 3) := by decide +kernel
theorem dX6_addCue_24 : decode cX6_addCue 24 = .ok (.iload_n 3, 1) := by decide +kernel
theorem dX6_addCue_25 : decode cX6_addCue 25 = .ok (.bipush 108, 2) := by decide +kernel
theorem dX6_addCue_27 : decode cX6_addCue 27 = .ok (.if_icmp .eq 15, 3) := by decide +kernel
theorem dX6_addCue_30 : decode cX6_addCue 30 = .ok (.iload_n 3, 1) := by decide +kernel
theorem dX6_addCue_31 : decode cX6_addCue 31 = .ok (.bipush 113, 2) := by decide +kernel
theorem dX6_addCue_33 : decode cX6_addCue 33 = .ok (.if_icmp .eq 9, 3) := by decide +kernel
theorem dX6_addCue_36 : decode cX6_addCue 36 = .ok (.iload_n 3, 1) := by decide +kernel
theorem dX6_addCue_37 : decode cX6_addCue 37 = .ok (.bipush 115, 2) := by decide +kernel
theorem dX6_addCue_39 : decode cX6_addCue 39 = .ok (.if_icmp .ne 7, 3) := by decide +kernel
theorem dX6_addCue_42 : decode cX6_addCue 42 = .ok (.iconst 1, 1) := by decide +kernel
theorem dX6_addCue_43 : decode cX6_addCue 43 = .ok (.goto 4, 3) := by decide +kernel
theorem dX6_addCue_46 : decode cX6_addCue 46 = .ok (.iconst 0, 1) := by decide +kernel
theorem dX6_addCue_47 : decode cX6_addCue 47 = .ok (.istore 4, 2) := by decide +kernel
theorem dX6_addCue_49 : decode cX6_addCue 49 = .ok (.aload_n 0, 1) := by decide +kernel
theorem dX6_addCue_50 : decode cX6_addCue 50 = .ok (.iload 4, 2) := by decide +kernel
theorem dX6_addCue_52 : decode cX6_addCue 52 = .ok (.ifCond .ne 7, 3) := by decide +kernel
theorem dX6_addCue_55 : decode cX6_addCue 55 = .ok (.iconst 1, 1) := by decide +kernel
theorem dX6_addCue_56 : decode cX6_addCue 56 = .ok (.goto 30, 3) := by decide +kernel
theorem dX6_addCue_59 : decode cX6_addCue 59 = .ok (.aload_n 0, 1) := by decide +kernel
theorem dX6_addCue_60 : decode cX6_addCue 60 = .ok (.iload_n 1, 1) := by decide +kernel
theorem dX6_addCue_61 : decode cX6_addCue 61 = .ok (.invokevirtual 116, 3) := by decide +kernel
theorem dX6_addCue_64 : decode cX6_addCue 64 = .ok (.iconst (-1), 1) := by decide +kernel
theorem dX6_addCue_65 : decode cX6_addCue 65 = .ok (.if_icmp .eq 7, 3) := by decide +kernel
theorem dX6_addCue_68 : decode cX6_addCue 68 = .ok (.iconst 2, 1) := by decide +kernel
theorem dX6_addCue_69 : decode cX6_addCue 69 = .ok (.goto 17, 3) := by decide +kernel
theorem dX6_addCue_72 : decode cX6_addCue 72 = .ok (.aload_n 0, 1) := by decide +kernel
theorem dX6_addCue_73 : decode cX6_addCue 73 = .ok (.getfield 109, 3) := by decide +kernel
theorem dX6_addCue_76 : decode cX6_addCue 76 = .ok (.bipush 16, 2) := by decide +kernel
theorem dX6_addCue_78 : decode cX6_addCue 78 = .ok (.if_icmp .ne 7, 3) := by decide +kernel
theorem dX6_addCue_81 : decode cX6_addCue 81 = .ok (.iconst 3, 1) := by decide +kernel
theorem dX6_addCue_82 : decode cX6_addCue 82 = .ok (.goto 4, 3) := by decide +kernel
theorem dX6_addCue_85 : decode cX6_addCue 85 = .ok (.iconst 0, 1) := by decide +kernel
theorem dX6_addCue_86 : decode cX6_addCue 86 = .ok (.putfield 98, 3) := by decide +kernel
theorem dX6_addCue_89 : decode cX6_addCue 89 = .ok (.aload_n 0, 1) := by decide +kernel
theorem dX6_addCue_90 : decode cX6_addCue 90 = .ok (.getfield 98, 3) := by decide +kernel
theorem dX6_addCue_93 : decode cX6_addCue 93 = .ok (.ifCond .le 5, 3) := by decide +kernel
theorem dX6_addCue_96 : decode cX6_addCue 96 = .ok (.iconst (-1), 1) := by decide +kernel
theorem dX6_addCue_97 : decode cX6_addCue 97 = .ok (.ireturn, 1) := by decide +kernel
theorem dX6_addCue_98 : decode cX6_addCue 98 = .ok (.aload_n 0, 1) := by decide +kernel
theorem dX6_addCue_99 : decode cX6_addCue 99 = .ok (.getfield 109, 3) := by decide +kernel
theorem dX6_addCue_102 : decode cX6_addCue 102 = .ok (.istore 5, 2) := by decide +kernel
theorem dX6_addCue_104 : decode cX6_addCue 104 = .ok (.iload 5, 2) := by decide +kernel
theorem dX6_addCue_106 : decode cX6_addCue 106 = .ok (.ifCond .le 32, 3) := by decide +kernel
theorem dX6_addCue_109 : decode cX6_addCue 109 = .ok (.aload_n 0, 1) := by decide +kernel
theorem dX6_addCue_110 : decode cX6_addCue 110 = .ok (.getfield 9, 3) := by decide +kernel
theorem dX6_addCue_113 : decode cX6_addCue 113 = .ok (.iload 5, 2) := by decide +kernel
theorem dX6_addCue_115 : decode cX6_addCue 115 = .ok (.iconst 1, 1) := by decide +kernel
theorem dX6_addCue_116 : decode cX6_addCue 116 = .ok (.isub, 1) := by decide +kernel
theorem dX6_addCue_117 : decode cX6_addCue 117 = .ok (.iaload, 1) := by decide +kernel
theorem dX6_addCue_118 : decode cX6_addCue 118 = .ok (.iload_n 1, 1) := by decide +kernel
theorem dX6_addCue_119 : decode cX6_addCue 119 = .ok (.if_icmp .le 19, 3) := by decide +kernel
theorem dX6_addCue_122 : decode cX6_addCue 122 = .ok (.aload_n 0, 1) := by decide +kernel
theorem dX6_addCue_123 : decode cX6_addCue 123 = .ok (.iload 5, 2) := by decide +kernel
theorem dX6_addCue_125 : decode cX6_addCue 125 = .ok (.iconst 1, 1) := by decide +kernel
theorem dX6_addCue_126 : decode cX6_addCue 126 = .ok (.isub, 1) := by decide +kernel
theorem dX6_addCue_127 : decode cX6_addCue 127 = .ok (.iload 5, 2) := by decide +kernel
theorem dX6_addCue_129 : decode cX6_addCue 129 = .ok (.invokevirtual 120, 3) := by decide +kernel
theorem dX6_addCue_132 : decode cX6_addCue 132 = .ok (.iinc 5 (-1), 3) := by decide +kernel
theorem dX6_addCue_135 : decode cX6_addCue 135 = .ok (.goto (-31), 3) := by decide +kernel
theorem dX6_addCue_138 : decode cX6_addCue 138 = .ok (.aload_n 0, 1) := by decide +kernel
theorem dX6_addCue_139 : decode cX6_addCue 139 = .ok (.getfield 9, 3) := by decide +kernel
theorem dX6_addCue_142 : decode cX6_addCue 142 = .ok (.iload 5, 2) := by decide +kernel
theorem dX6_addCue_144 : decode cX6_addCue 144 = .ok (.iload_n 1, 1) := by decide +kernel
theorem dX6_addCue_145 : decode cX6_addCue 145 = .ok (.iastore, 1) := by decide +kernel
theorem dX6_addCue_146 : decode cX6_addCue 146 = .ok (.aload_n 0, 1) := by decide +kernel
theorem dX6_addCue_147 : decode cX6_addCue 147 = .ok (.getfield 13, 3) := by decide +kernel
theorem dX6_addCue_150 : decode cX6_addCue 150 = .ok (.iload 5, 2) := by decide +kernel
theorem dX6_addCue_152 : decode cX6_addCue 152 = .ok (.iload_n 2, 1) := by decide +kernel
theorem dX6_addCue_153 : decode cX6_addCue 153 = .ok (.iastore, 1) := by decide +kernel
theorem dX6_addCue_154 : decode cX6_addCue 154 = .ok (.aload_n 0, 1) := by decide +kernel
theorem dX6_addCue_155 : decode cX6_addCue 155 = .ok (.getfield 16, 3) := by decide +kernel
theorem dX6_addCue_158 : decode cX6_addCue 158 = .ok (.iload 5, 2) := by decide +kernel
theorem dX6_addCue_160 : decode cX6_addCue 160 = .ok (.iload_n 3, 1) := by decide +kernel
theorem dX6_addCue_161 : decode cX6_addCue 161 = .ok (.castore, 1) := by decide +kernel
theorem dX6_addCue_162 : decode cX6_addCue 162 = .ok (.aload_n 0, 1) := by decide +kernel
theorem dX6_addCue_163 : decode cX6_addCue 163 = .ok (.getfield 20, 3) := by decide +kernel
theorem dX6_addCue_166 : decode cX6_addCue 166 = .ok (.iload 5, 2) := by decide +kernel
theorem dX6_addCue_168 : decode cX6_addCue 168 = .ok (.iconst 0, 1) := by decide +kernel
theorem dX6_addCue_169 : decode cX6_addCue 169 = .ok (.bastore, 1) := by decide +kernel
theorem dX6_addCue_170 : decode cX6_addCue 170 = .ok (.iconst 0, 1) := by decide +kernel
theorem dX6_addCue_171 : decode cX6_addCue 171 = .ok (.istore 6, 2) := by decide +kernel
theorem dX6_addCue_173 : decode cX6_addCue 173 = .ok (.iload 6, 2) := by decide +kernel
theorem dX6_addCue_175 : decode cX6_addCue 175 = .ok (.bipush 12, 2) := by decide +kernel
theorem dX6_addCue_177 : decode cX6_addCue 177 = .ok (.if_icmp .ge 23, 3) := by decide +kernel
theorem dX6_addCue_180 : decode cX6_addCue 180 = .ok (.aload_n 0, 1) := by decide +kernel
theorem dX6_addCue_181 : decode cX6_addCue 181 = .ok (.getfield 24, 3) := by decide +kernel
theorem dX6_addCue_184 : decode cX6_addCue 184 = .ok (.bipush 12, 2) := by decide +kernel
theorem dX6_addCue_186 : decode cX6_addCue 186 = .ok (.iload 5, 2) := by decide +kernel
theorem dX6_addCue_188 : decode cX6_addCue 188 = .ok (.imul, 1) := by decide +kernel
theorem dX6_addCue_189 : decode cX6_addCue 189 = .ok (.iload 6, 2) := by decide +kernel
theorem dX6_addCue_191 : decode cX6_addCue 191 = .ok (.iadd, 1) := by decide +kernel
theorem dX6_addCue_192 : decode cX6_addCue 192 = .ok (.iconst (-1), 1) := by decide +kernel
theorem dX6_addCue_193 : decode cX6_addCue 193 = .ok (.iastore, 1) := by decide +kernel
theorem dX6_addCue_194 : decode cX6_addCue 194 = .ok (.iinc 6 1, 3) := by decide +kernel
theorem dX6_addCue_197 : decode cX6_addCue 197 = .ok (.goto (-24), 3) := by decide +kernel
theorem dX6_addCue_200 : decode cX6_addCue 200 = .ok (.aload_n 0, 1) := by decide +kernel
theorem dX6_addCue_201 : decode cX6_addCue 201 = .ok (.dup, 1) := by decide +kernel
theorem dX6_addCue_202 : decode cX6_addCue 202 = .ok (.getfield 109, 3) := by decide +kernel
theorem dX6_addCue_205 : decode cX6_addCue 205 = .ok (.iconst 1, 1) := by decide +kernel
theorem dX6_addCue_206 : decode cX6_addCue 206 = .ok (.iadd, 1) := by decide +kernel
theorem dX6_addCue_207 : decode cX6_addCue 207 = .ok (.putfield 109, 3) := by decide +kernel
theorem dX6_addCue_210 : decode cX6_addCue 210 = .ok (.aload_n 0, 1) := by decide +kernel
theorem dX6_addCue_211 : decode cX6_addCue 211 = .ok (.getfield 109, 3) := by decide +kernel
theorem dX6_addCue_214 : decode cX6_addCue 214 = .ok (.ireturn, 1) := by decide +kernel
theorem dX6_copies_0 : decode cX6_copies 0 = .ok (.aload_n 0, 1) := by decide +kernel
theorem dX6_copies_1 : decode cX6_copies 1 = .ok (.getfield 9, 3) := by decide +kernel
theorem dX6_copies_4 : decode cX6_copies 4 = .ok (.iload_n 2, 1) := by decide +kernel
theorem dX6_copies_5 : decode cX6_copies 5 = .ok (.aload_n 0, 1) := by decide +kernel
theorem dX6_copies_6 : decode cX6_copies 6 = .ok (.getfield 9, 3) := by decide +kernel
theorem dX6_copies_9 : decode cX6_copies 9 = .ok (.iload_n 1, 1) := by decide +kernel
theorem dX6_copies_10 : decode cX6_copies 10 = .ok (.iaload, 1) := by decide +kernel
theorem dX6_copies_11 : decode cX6_copies 11 = .ok (.iastore, 1) := by decide +kernel
theorem dX6_copies_12 : decode cX6_copies 12 = .ok (.aload_n 0, 1) := by decide +kernel
theorem dX6_copies_13 : decode cX6_copies 13 = .ok (.getfield 13, 3) := by decide +kernel
theorem dX6_copies_16 : decode cX6_copies 16 = .ok (.iload_n 2, 1) := by decide +kernel
theorem dX6_copies_17 : decode cX6_copies 17 = .ok (.aload_n 0, 1) := by decide +kernel
theorem dX6_copies_18 : decode cX6_copies 18 = .ok (.getfield 13, 3) := by decide +kernel
theorem dX6_copies_21 : decode cX6_copies 21 = .ok (.iload_n 1, 1) := by decide +kernel
theorem dX6_copies_22 : decode cX6_copies 22 = .ok (.iaload, 1) := by decide +kernel
theorem dX6_copies_23 : decode cX6_copies 23 = .ok (.iastore, 1) := by decide +kernel
theorem dX6_copies_24 : decode cX6_copies 24 = .ok (.aload_n 0, 1) := by decide +kernel
theorem dX6_copies_25 : decode cX6_copies 25 = .ok (.getfield 16, 3) := by decide +kernel
theorem dX6_copies_28 : decode cX6_copies 28 = .ok (.iload_n 2, 1) := by decide +kernel
theorem dX6_copies_29 : decode cX6_copies 29 = .ok (.aload_n 0, 1) := by decide +kernel
theorem dX6_copies_30 : decode cX6_copies 30 = .ok (.getfield 16, 3) := by decide +kernel
theorem dX6_copies_33 : decode cX6_copies 33 = .ok (.iload_n 1, 1) := by decide +kernel
theorem dX6_copies_34 : decode cX6_copies 34 = .ok (.caload, 1) := by decide +kernel
theorem dX6_copies_35 : decode cX6_copies 35 = .ok (.castore, 1) := by decide +kernel
theorem dX6_copies_36 : decode cX6_copies 36 = .ok (.aload_n 0, 1) := by decide +kernel
theorem dX6_copies_37 : decode cX6_copies 37 = .ok (.getfield 20, 3) := by decide +kernel
theorem dX6_copies_40 : decode cX6_copies 40 = .ok (.iload_n 2, 1) := by decide +kernel
theorem dX6_copies_41 : decode cX6_copies 41 = .ok (.aload_n 0, 1) := by decide +kernel
theorem dX6_copies_42 : decode cX6_copies 42 = .ok (.getfield 20, 3) := by decide +kernel
theorem dX6_copies_45 : decode cX6_copies 45 = .ok (.iload_n 1, 1) := by decide +kernel
theorem dX6_copies_46 : decode cX6_copies 46 = .ok (.baload, 1) := by decide +kernel
theorem dX6_copies_47 : decode cX6_copies 47 = .ok (.bastore, 1) := by decide +kernel
theorem dX6_copies_48 : decode cX6_copies 48 = .ok (.iconst 0, 1) := by decide +kernel
theorem dX6_copies_49 : decode cX6_copies 49 = .ok (.istore_n 3, 1) := by decide +kernel
theorem dX6_copies_50 : decode cX6_copies 50 = .ok (.iload_n 3, 1) := by decide +kernel
theorem dX6_copies_51 : decode cX6_copies 51 = .ok (.bipush 12, 2) := by decide +kernel
theorem dX6_copies_53 : decode cX6_copies 53 = .ok (.if_icmp .ge 31, 3) := by decide +kernel
theorem dX6_copies_56 : decode cX6_copies 56 = .ok (.aload_n 0, 1) := by decide +kernel
theorem dX6_copies_57 : decode cX6_copies 57 = .ok (.getfield 24, 3) := by decide +kernel
theorem dX6_copies_60 : decode cX6_copies 60 = .ok (.bipush 12, 2) := by decide +kernel
theorem dX6_copies_62 : decode cX6_copies 62 = .ok (.iload_n 2, 1) := by decide +kernel
theorem dX6_copies_63 : decode cX6_copies 63 = .ok (.imul, 1) := by decide +kernel
theorem dX6_copies_64 : decode cX6_copies 64 = .ok (.iload_n 3, 1) := by decide +kernel
theorem dX6_copies_65 : decode cX6_copies 65 = .ok (.iadd, 1) := by decide +kernel
theorem dX6_copies_66 : decode cX6_copies 66 = .ok (.aload_n 0, 1) := by decide +kernel
theorem dX6_copies_67 : decode cX6_copies 67 = .ok (.getfield 24, 3) := by decide +kernel
theorem dX6_copies_70 : decode cX6_copies 70 = .ok (.bipush 12, 2) := by decide +kernel
theorem dX6_copies_72 : decode cX6_copies 72 = .ok (.iload_n 1, 1) := by decide +kernel
theorem dX6_copies_73 : decode cX6_copies 73 = .ok (.imul, 1) := by decide +kernel
theorem dX6_copies_74 : decode cX6_copies 74 = .ok (.iload_n 3, 1) := by decide +kernel
theorem dX6_copies_75 : decode cX6_copies 75 = .ok (.iadd, 1) := by decide +kernel
theorem dX6_copies_76 : decode cX6_copies 76 = .ok (.iaload, 1) := by decide +kernel
theorem dX6_copies_77 : decode cX6_copies 77 = .ok (.iastore, 1) := by decide +kernel
theorem dX6_copies_78 : decode cX6_copies 78 = .ok (.iinc 3 1, 3) := by decide +kernel
theorem dX6_copies_81 : decode cX6_copies 81 = .ok (.goto (-31), 3) := by decide +kernel
theorem dX6_copies_84 : decode cX6_copies 84 = .ok (.return_, 1) := by decide +kernel
set_option maxRecDepth 20000 in
theorem ggX6_removeCue_X6_cueAt : GoodIn wsX6_removeCue wsX6_cueAt := goodIn_ca (goodIn_r _ [7, 2, 8, 17, 18, 19, 20, 21, 22, 23, 24, 25, 26, 27, 28, 29, 30, 31, 32, 33, 34, 35, 36, 37, 38, 39, 40, 41, 42, 43, 44, 45, 46, 47, 48, 49, 50, 51, 52] (by decide +kernel) (by decide +kernel)) (goodIn_sub (fun _ h => List.mem_cons_of_mem _ (List.mem_append_right _ h)) (by decide +kernel))
set_option maxRecDepth 20000 in
theorem gX6_removeCue_X6_cueAt : GoodIn wsX6_removeCue (wsV RX6 116 RX6 yX6_cueAt wsX6_cueAt) := goodIn_app (goodIn_of _ (by decide +kernel)) ggX6_removeCue_X6_cueAt
set_option maxRecDepth 20000 in
theorem ggX6_removeCue_X6_copies : GoodIn wsX6_removeCue wsX6_copies := goodIn_ca (goodIn_r _ [12, 8, 13, 14, 15, 16, 17, 18, 19, 20, 21, 22, 23, 24, 25, 26, 27, 28, 29, 30, 31, 32, 33, 34, 35, 36, 37, 38, 39, 40, 41, 42, 43, 44, 45, 46, 47, 48, 49, 50, 51, 52] (by decide +kernel) (by decide +kernel)) (goodIn_sub (fun _ h => List.mem_cons_of_mem _ (List.mem_append_right _ h)) (by decide +kernel))
set_option maxRecDepth 20000 in
theorem gX6_removeCue_X6_copies : GoodIn wsX6_removeCue (wsV RX6 120 RX6 yX6_copies wsX6_copies) := goodIn_app (goodIn_of _ (by decide +kernel)) ggX6_removeCue_X6_copies
theorem dX6_removeCue_0 : decode cX6_removeCue 0 = .ok (.aload_n 0, 1) := by decide +kernel
theorem dX6_removeCue_1 : decode cX6_removeCue 1 = .ok (.iload_n 1, 1) := by decide +kernel
theorem dX6_removeCue_2 : decode cX6_removeCue 2 = .ok (.invokevirtual 116, 3) := by decide +kernel
theorem dX6_removeCue_5 : decode cX6_removeCue 5 = .ok (.istore_n 2, 1) := by decide +kernel
theorem dX6_removeCue_6 : decode cX6_removeCue 6 = .ok (.aload_n 0, 1) := by decide +kernel
theorem dX6_removeCue_7 : decode cX6_removeCue 7 = .ok (.iload_n 2, 1) := by decide +kernel
theorem dX6_removeCue_8 : decode cX6_removeCue 8 = .ok (.iconst (-1), 1) := by decide +kernel
theorem dX6_removeCue_9 : decode cX6_removeCue 9 = .ok (.if_icmp .ne 7, 3) := by decide +kernel
theorem dX6_removeCue_12 : decode cX6_removeCue 12 = .ok (.iconst 1, 1) := by decide +kernel
theorem dX6_removeCue_13 : decode cX6_removeCue 13 = .ok (.goto 4, 3) := by decide +kernel
theorem dX6_removeCue_16 : decode cX6_removeCue 16 = .ok (.iconst 0, 1) := by decide +kernel
theorem dX6_removeCue_17 : decode cX6_removeCue 17 = .ok (.putfield 98, 3) := by decide +kernel
theorem dX6_removeCue_20 : decode cX6_removeCue 20 = .ok (.aload_n 0, 1) := by decide +kernel
theorem dX6_removeCue_21 : decode cX6_removeCue 21 = .ok (.getfield 98, 3) := by decide +kernel
theorem dX6_removeCue_24 : decode cX6_removeCue 24 = .ok (.ifCond .le 5, 3) := by decide +kernel
theorem dX6_removeCue_27 : decode cX6_removeCue 27 = .ok (.iconst (-1), 1) := by decide +kernel
theorem dX6_removeCue_28 : decode cX6_removeCue 28 = .ok (.ireturn, 1) := by decide +kernel
theorem dX6_removeCue_29 : decode cX6_removeCue 29 = .ok (.aload_n 0, 1) := by decide +kernel
theorem dX6_removeCue_30 : decode cX6_removeCue 30 = .ok (.dup, 1) := by decide +kernel
theorem dX6_removeCue_31 : decode cX6_removeCue 31 = .ok (.getfield 109, 3) := by decide +kernel
theorem dX6_removeCue_34 : decode cX6_removeCue 34 = .ok (.iconst 1, 1) := by decide +kernel
theorem dX6_removeCue_35 : decode cX6_removeCue 35 = .ok (.isub, 1) := by decide +kernel
theorem dX6_removeCue_36 : decode cX6_removeCue 36 = .ok (.putfield 109, 3) := by decide +kernel
theorem dX6_removeCue_39 : decode cX6_removeCue 39 = .ok (.iload_n 2, 1) := by decide +kernel
theorem dX6_removeCue_40 : decode cX6_removeCue 40 = .ok (.istore_n 3, 1) := by decide +kernel
theorem dX6_removeCue_41 : decode cX6_removeCue 41 = .ok (.iload_n 3, 1) := by decide +kernel
theorem dX6_removeCue_42 : decode cX6_removeCue 42 = .ok (.aload_n 0, 1) := by decide +kernel
theorem dX6_removeCue_43 : decode cX6_removeCue 43 = .ok (.getfield 109, 3) := by decide +kernel
theorem dX6_removeCue_46 : decode cX6_removeCue 46 = .ok (.if_icmp .ge 17, 3) := by decide +kernel
theorem dX6_removeCue_49 : decode cX6_removeCue 49 = .ok (.aload_n 0, 1) := by decide +kernel
theorem dX6_removeCue_50 : decode cX6_removeCue 50 = .ok (.iload_n 3, 1) := by decide +kernel
theorem dX6_removeCue_51 : decode cX6_removeCue 51 = .ok (.iconst 1, 1) := by decide +kernel
theorem dX6_removeCue_52 : decode cX6_removeCue 52 = .ok (.iadd, 1) := by decide +kernel
theorem dX6_removeCue_53 : decode cX6_removeCue 53 = .ok (.iload_n 3, 1) := by decide +kernel
theorem dX6_removeCue_54 : decode cX6_removeCue 54 = .ok (.invokevirtual 120, 3) := by decide +kernel
theorem dX6_removeCue_57 : decode cX6_removeCue 57 = .ok (.iinc 3 1, 3) := by decide +kernel
theorem dX6_removeCue_60 : decode cX6_removeCue 60 = .ok (.goto (-19), 3) := by decide +kernel
theorem dX6_removeCue_63 : decode cX6_removeCue 63 = .ok (.aload_n 0, 1) := by decide +kernel
theorem dX6_removeCue_64 : decode cX6_removeCue 64 = .ok (.getfield 109, 3) := by decide +kernel
theorem dX6_removeCue_67 : decode cX6_removeCue 67 = .ok (.ireturn, 1) := by decide +kernel
set_option maxRecDepth 20000 in
theorem ggX6_setChange_X6_cueAt : GoodIn wsX6_setChange wsX6_cueAt := goodIn_ca (goodIn_r _ [7, 8, 9, 21, 22, 23, 24, 25, 26, 27, 28, 29, 30, 31, 32, 33, 34, 35, 36, 37, 38, 39, 40, 41, 42, 43, 44, 45, 46, 47, 48, 49, 50, 51, 52, 53, 54, 55, 56] (by decide +kernel) (by decide +kernel)) (goodIn_sub (fun _ h => List.mem_cons_of_mem _ (List.mem_append_right _ h)) (by decide +kernel))
set_option maxRecDepth 20000 in
theorem gX6_setChange_X6_cueAt : GoodIn wsX6_setChange (wsV RX6 116 RX6 yX6_cueAt wsX6_cueAt) := goodIn_app (goodIn_of _ (by decide +kernel)) ggX6_setChange_X6_cueAt
set_option maxRecDepth 20000 in
theorem ggX6_setChange_X6_isChannel : GoodIn wsX6_setChange wsX6_isChannel := goodIn_r _ [12, 13, 14, 15, 6, 16] (by decide +kernel) (by decide +kernel)
set_option maxRecDepth 20000 in
theorem gX6_setChange_X6_isChannel : GoodIn wsX6_setChange (va_wsS RX6 124 yX6_isChannel wsX6_isChannel) := goodIn_app (goodIn_of _ (by decide +kernel)) ggX6_setChange_X6_isChannel
set_option maxRecDepth 20000 in
theorem ggX6_setChange_X6_isLevel : GoodIn wsX6_setChange wsX6_isLevel := goodIn_r _ [19, 20, 14, 15, 6, 16] (by decide +kernel) (by decide +kernel)
set_option maxRecDepth 20000 in
theorem gX6_setChange_X6_isLevel : GoodIn wsX6_setChange (va_wsS RX6 128 yX6_isLevel wsX6_isLevel) := goodIn_app (goodIn_of _ (by decide +kernel)) ggX6_setChange_X6_isLevel
theorem dX6_setChange_0 : decode cX6_setChange 0 = .ok (.aload_n 0, 1) := by decide +kernel
theorem dX6_setChange_1 : decode cX6_setChange 1 = .ok (.iload_n 1, 1) := by decide +kernel
theorem dX6_setChange_2 : decode cX6_setChange 2 = .ok (.invokevirtual 116, 3) := by decide +kernel
theorem dX6_setChange_5 : decode cX6_setChange 5 = .ok (.istore 4, 2) := by decide +kernel
theorem dX6_setChange_7 : decode cX6_setChange 7 = .ok (.aload_n 0, 1) := by decide +kernel
theorem dX6_setChange_8 : decode cX6_setChange 8 = .ok (.iload 4, 2) := by decide +kernel
theorem dX6_setChange_10 : decode cX6_setChange 10 = .ok (.iconst (-1), 1) := by decide +kernel
theorem dX6_setChange_11 : decode cX6_setChange 11 = .ok (.if_icmp .ne 7, 3) := by decide +kernel
theorem dX6_setChange_14 : decode cX6_setChange 14 = .ok (.iconst 1, 1) := by decide +kernel
theorem dX6_setChange_15 : decode cX6_setChange 15 = .ok (.goto 26, 3) := by decide +kernel
theorem dX6_setChange_18 : decode cX6_setChange 18 = .ok (.iload_n 2, 1) := by decide +kernel
theorem dX6_setChange_19 : decode cX6_setChange 19 = .ok (.invokestatic 124, 3) := by decide +kernel
theorem dX6_setChange_22 : decode cX6_setChange 22 = .ok (.ifCond .ne 7, 3) := by decide +kernel
theorem dX6_setChange_25 : decode cX6_setChange 25 = .ok (.iconst 2, 1) := by decide +kernel
theorem dX6_setChange_26 : decode cX6_setChange 26 = .ok (.goto 15, 3) := by decide +kernel
theorem dX6_setChange_29 : decode cX6_setChange 29 = .ok (.iload_n 3, 1) := by decide +kernel
theorem dX6_setChange_30 : decode cX6_setChange 30 = .ok (.invokestatic 128, 3) := by decide +kernel
theorem dX6_setChange_33 : decode cX6_setChange 33 = .ok (.ifCond .ne 7, 3) := by decide +kernel
theorem dX6_setChange_36 : decode cX6_setChange 36 = .ok (.iconst 3, 1) := by decide +kernel
theorem dX6_setChange_37 : decode cX6_setChange 37 = .ok (.goto 4, 3) := by decide +kernel
theorem dX6_setChange_40 : decode cX6_setChange 40 = .ok (.iconst 0, 1) := by decide +kernel
theorem dX6_setChange_41 : decode cX6_setChange 41 = .ok (.putfield 98, 3) := by decide +kernel
theorem dX6_setChange_44 : decode cX6_setChange 44 = .ok (.aload_n 0, 1) := by decide +kernel
theorem dX6_setChange_45 : decode cX6_setChange 45 = .ok (.getfield 98, 3) := by decide +kernel
theorem dX6_setChange_48 : decode cX6_setChange 48 = .ok (.ifCond .le 5, 3) := by decide +kernel
theorem dX6_setChange_51 : decode cX6_setChange 51 = .ok (.iconst (-1), 1) := by decide +kernel
theorem dX6_setChange_52 : decode cX6_setChange 52 = .ok (.ireturn, 1) := by decide +kernel
theorem dX6_setChange_53 : decode cX6_setChange 53 = .ok (.aload_n 0, 1) := by decide +kernel
theorem dX6_setChange_54 : decode cX6_setChange 54 = .ok (.getfield 24, 3) := by decide +kernel
theorem dX6_setChange_57 : decode cX6_setChange 57 = .ok (.bipush 12, 2) := by decide +kernel
theorem dX6_setChange_59 : decode cX6_setChange 59 = .ok (.iload 4, 2) := by decide +kernel
theorem dX6_setChange_61 : decode cX6_setChange 61 = .ok (.imul, 1) := by decide +kernel
theorem dX6_setChange_62 : decode cX6_setChange 62 = .ok (.iload_n 2, 1) := by decide +kernel
theorem dX6_setChange_63 : decode cX6_setChange 63 = .ok (.iadd, 1) := by decide +kernel
theorem dX6_setChange_64 : decode cX6_setChange 64 = .ok (.iaload, 1) := by decide +kernel
theorem dX6_setChange_65 : decode cX6_setChange 65 = .ok (.istore 5, 2) := by decide +kernel
theorem dX6_setChange_67 : decode cX6_setChange 67 = .ok (.aload_n 0, 1) := by decide +kernel
theorem dX6_setChange_68 : decode cX6_setChange 68 = .ok (.getfield 24, 3) := by decide +kernel
theorem dX6_setChange_71 : decode cX6_setChange 71 = .ok (.bipush 12, 2) := by decide +kernel
theorem dX6_setChange_73 : decode cX6_setChange 73 = .ok (.iload 4, 2) := by decide +kernel
theorem dX6_setChange_75 : decode cX6_setChange 75 = .ok (.imul, 1) := by decide +kernel
theorem dX6_setChange_76 : decode cX6_setChange 76 = .ok (.iload_n 2, 1) := by decide +kernel
theorem dX6_setChange_77 : decode cX6_setChange 77 = .ok (.iadd, 1) := by decide +kernel
theorem dX6_setChange_78 : decode cX6_setChange 78 = .ok (.iload_n 3, 1) := by decide +kernel
theorem dX6_setChange_79 : decode cX6_setChange 79 = .ok (.iastore, 1) := by decide +kernel
theorem dX6_setChange_80 : decode cX6_setChange 80 = .ok (.iload 5, 2) := by decide +kernel
theorem dX6_setChange_82 : decode cX6_setChange 82 = .ok (.ireturn, 1) := by decide +kernel
set_option maxRecDepth 20000 in
theorem ggX6_removeChange_X6_cueAt : GoodIn wsX6_removeChange wsX6_cueAt := goodIn_ca (goodIn_r _ [7, 8, 9, 17, 18, 19, 20, 21, 22, 23, 24, 25, 26, 27, 28, 29, 30, 31, 32, 33, 34, 35, 36, 37, 38, 39, 40, 41, 42, 43, 44, 45, 46, 47, 48, 49, 50, 51, 52] (by decide +kernel) (by decide +kernel)) (goodIn_sub (fun _ h => List.mem_cons_of_mem _ (List.mem_append_right _ h)) (by decide +kernel))
set_option maxRecDepth 20000 in
theorem gX6_removeChange_X6_cueAt : GoodIn wsX6_removeChange (wsV RX6 116 RX6 yX6_cueAt wsX6_cueAt) := goodIn_app (goodIn_of _ (by decide +kernel)) ggX6_removeChange_X6_cueAt
set_option maxRecDepth 20000 in
theorem ggX6_removeChange_X6_isChannel : GoodIn wsX6_removeChange wsX6_isChannel := goodIn_r _ [12, 13, 14, 15, 6, 16] (by decide +kernel) (by decide +kernel)
set_option maxRecDepth 20000 in
theorem gX6_removeChange_X6_isChannel : GoodIn wsX6_removeChange (va_wsS RX6 124 yX6_isChannel wsX6_isChannel) := goodIn_app (goodIn_of _ (by decide +kernel)) ggX6_removeChange_X6_isChannel
theorem dX6_removeChange_0 : decode cX6_removeChange 0 = .ok (.aload_n 0, 1) := by decide +kernel
theorem dX6_removeChange_1 : decode cX6_removeChange 1 = .ok (.iload_n 1, 1) := by decide +kernel
theorem dX6_removeChange_2 : decode cX6_removeChange 2 = .ok (.invokevirtual 116, 3) := by decide +kernel
theorem dX6_removeChange_5 : decode cX6_removeChange 5 = .ok (.istore_n 3, 1) := by decide +kernel
theorem dX6_removeChange_6 : decode cX6_removeChange 6 = .ok (.aload_n 0, 1) := by decide +kernel
theorem dX6_removeChange_7 : decode cX6_removeChange 7 = .ok (.iload_n 3, 1) := by decide +kernel
theorem dX6_removeChange_8 : decode cX6_removeChange 8 = .ok (.iconst (-1), 1) := by decide +kernel
theorem dX6_removeChange_9 : decode cX6_removeChange 9 = .ok (.if_icmp .ne 7, 3) := by decide +kernel
theorem dX6_removeChange_12 : decode cX6_removeChange 12 = .ok (.iconst 1, 1) := by decide +kernel
theorem dX6_removeChange_13 : decode cX6_removeChange 13 = .ok (.goto 34, 3) := by decide +kernel
theorem dX6_removeChange_16 : decode cX6_removeChange 16 = .ok (.iload_n 2, 1) := by decide +kernel
theorem dX6_removeChange_17 : decode cX6_removeChange 17 = .ok (.invokestatic 124, 3) := by decide +kernel
theorem dX6_removeChange_20 : decode cX6_removeChange 20 = .ok (.ifCond .ne 7, 3) := by decide +kernel
theorem dX6_removeChange_23 : decode cX6_removeChange 23 = .ok (.iconst 2, 1) := by decide +kernel
theorem dX6_removeChange_24 : decode cX6_removeChange 24 = .ok (.goto 23, 3) := by decide +kernel
theorem dX6_removeChange_27 : decode cX6_removeChange 27 = .ok (.aload_n 0, 1) := by decide +kernel
theorem dX6_removeChange_28 : decode cX6_removeChange 28 = .ok (.getfield 24, 3) := by decide +kernel
theorem dX6_removeChange_31 : decode cX6_removeChange 31 = .ok (.bipush 12, 2) := by decide +kernel
theorem dX6_removeChange_33 : decode cX6_removeChange 33 = .ok (.iload_n 3, 1) := by decide +kernel
theorem dX6_removeChange_34 : decode cX6_removeChange 34 = .ok (.imul, 1) := by decide +kernel
theorem dX6_removeChange_35 : decode cX6_removeChange 35 = .ok (.iload_n 2, 1) := by decide +kernel
theorem dX6_removeChange_36 : decode cX6_removeChange 36 = .ok (.iadd, 1) := by decide +kernel
theorem dX6_removeChange_37 : decode cX6_removeChange 37 = .ok (.iaload, 1) := by decide +kernel
theorem dX6_removeChange_38 : decode cX6_removeChange 38 = .ok (.iconst (-1), 1) := by decide +kernel
theorem dX6_removeChange_39 : decode cX6_removeChange 39 = .ok (.if_icmp .ne 7, 3) := by decide +kernel
theorem dX6_removeChange_42 : decode cX6_removeChange 42 = .ok (.iconst 1, 1) := by decide +kernel
theorem dX6_removeChange_43 : decode cX6_removeChange 43 = .ok (.goto 4, 3) := by decide +kernel
theorem dX6_removeChange_46 : decode cX6_removeChange 46 = .ok (.iconst 0, 1) := by decide +kernel
theorem dX6_removeChange_47 : decode cX6_removeChange 47 = .ok (.putfield 98, 3) := by decide +kernel
theorem dX6_removeChange_50 : decode cX6_removeChange 50 = .ok (.aload_n 0, 1) := by decide +kernel
theorem dX6_removeChange_51 : decode cX6_removeChange 51 = .ok (.getfield 98, 3) := by decide +kernel
theorem dX6_removeChange_54 : decode cX6_removeChange 54 = .ok (.ifCond .le 5, 3) := by decide +kernel
theorem dX6_removeChange_57 : decode cX6_removeChange 57 = .ok (.iconst (-1), 1) := by decide +kernel
theorem dX6_removeChange_58 : decode cX6_removeChange 58 = .ok (.ireturn, 1) := by decide +kernel
theorem dX6_removeChange_59 : decode cX6_removeChange 59 = .ok (.aload_n 0, 1) := by decide +kernel
theorem dX6_removeChange_60 : decode cX6_removeChange 60 = .ok (.getfield 24, 3) := by decide +kernel
theorem dX6_removeChange_63 : decode cX6_removeChange 63 = .ok (.bipush 12, 2) := by decide +kernel
theorem dX6_removeChange_65 : decode cX6_removeChange 65 = .ok (.iload_n 3, 1) := by decide +kernel
theorem dX6_removeChange_66 : decode cX6_removeChange 66 = .ok (.imul, 1) := by decide +kernel
theorem dX6_removeChange_67 : decode cX6_removeChange 67 = .ok (.iload_n 2, 1) := by decide +kernel
theorem dX6_removeChange_68 : decode cX6_removeChange 68 = .ok (.iadd, 1) := by decide +kernel
theorem dX6_removeChange_69 : decode cX6_removeChange 69 = .ok (.iaload, 1) := by decide +kernel
theorem dX6_removeChange_70 : decode cX6_removeChange 70 = .ok (.istore 4, 2) := by decide +kernel
theorem dX6_removeChange_72 : decode cX6_removeChange 72 = .ok (.aload_n 0, 1) := by decide +kernel
theorem dX6_removeChange_73 : decode cX6_removeChange 73 = .ok (.getfield 24, 3) := by decide +kernel
theorem dX6_removeChange_76 : decode cX6_removeChange 76 = .ok (.bipush 12, 2) := by decide +kernel
theorem dX6_removeChange_78 : decode cX6_removeChange 78 = .ok (.iload_n 3, 1) := by decide +kernel
theorem dX6_removeChange_79 : decode cX6_removeChange 79 = .ok (.imul, 1) := by decide +kernel
theorem dX6_removeChange_80 : decode cX6_removeChange 80 = .ok (.iload_n 2, 1) := by decide +kernel
theorem dX6_removeChange_81 : decode cX6_removeChange 81 = .ok (.iadd, 1) := by decide +kernel
theorem dX6_removeChange_82 : decode cX6_removeChange 82 = .ok (.iconst (-1), 1) := by decide +kernel
theorem dX6_removeChange_83 : decode cX6_removeChange 83 = .ok (.iastore, 1) := by decide +kernel
theorem dX6_removeChange_84 : decode cX6_removeChange 84 = .ok (.iload 4, 2) := by decide +kernel
theorem dX6_removeChange_86 : decode cX6_removeChange 86 = .ok (.ireturn, 1) := by decide +kernel
set_option maxRecDepth 20000 in
theorem ggX6_setBlock_X6_cueAt : GoodIn wsX6_setBlock wsX6_cueAt := goodIn_ca (goodIn_r _ [7, 8, 9, 10, 11, 12, 13, 14, 15, 16, 17, 18, 19, 20, 21, 22, 23, 24, 25, 26, 27, 28, 29, 30, 31, 32, 33, 34, 35, 36, 37, 38, 39, 40, 41, 42, 43, 44, 45] (by decide +kernel) (by decide +kernel)) (goodIn_sub (fun _ h => List.mem_cons_of_mem _ (List.mem_append_right _ h)) (by decide +kernel))
set_option maxRecDepth 20000 in
theorem gX6_setBlock_X6_cueAt : GoodIn wsX6_setBlock (wsV RX6 116 RX6 yX6_cueAt wsX6_cueAt) := goodIn_app (goodIn_of _ (by decide +kernel)) ggX6_setBlock_X6_cueAt
theorem dX6_setBlock_0 : decode cX6_setBlock 0 = .ok (.aload_n 0, 1) := by decide +kernel
theorem dX6_setBlock_1 : decode cX6_setBlock 1 = .ok (.iload_n 1, 1) := by decide +kernel
theorem dX6_setBlock_2 : decode cX6_setBlock 2 = .ok (.invokevirtual 116, 3) := by decide +kernel
theorem dX6_setBlock_5 : decode cX6_setBlock 5 = .ok (.istore_n 3, 1) := by decide +kernel
theorem dX6_setBlock_6 : decode cX6_setBlock 6 = .ok (.aload_n 0, 1) := by decide +kernel
theorem dX6_setBlock_7 : decode cX6_setBlock 7 = .ok (.iload_n 3, 1) := by decide +kernel
theorem dX6_setBlock_8 : decode cX6_setBlock 8 = .ok (.iconst (-1), 1) := by decide +kernel
theorem dX6_setBlock_9 : decode cX6_setBlock 9 = .ok (.if_icmp .ne 7, 3) := by decide +kernel
theorem dX6_setBlock_12 : decode cX6_setBlock 12 = .ok (.iconst 1, 1) := by decide +kernel
theorem dX6_setBlock_13 : decode cX6_setBlock 13 = .ok (.goto 4, 3) := by decide +kernel
theorem dX6_setBlock_16 : decode cX6_setBlock 16 = .ok (.iconst 0, 1) := by decide +kernel
theorem dX6_setBlock_17 : decode cX6_setBlock 17 = .ok (.putfield 98, 3) := by decide +kernel
theorem dX6_setBlock_20 : decode cX6_setBlock 20 = .ok (.aload_n 0, 1) := by decide +kernel
theorem dX6_setBlock_21 : decode cX6_setBlock 21 = .ok (.getfield 98, 3) := by decide +kernel
theorem dX6_setBlock_24 : decode cX6_setBlock 24 = .ok (.ifCond .ne 16, 3) := by decide +kernel
theorem dX6_setBlock_27 : decode cX6_setBlock 27 = .ok (.aload_n 0, 1) := by decide +kernel
theorem dX6_setBlock_28 : decode cX6_setBlock 28 = .ok (.getfield 20, 3) := by decide +kernel
theorem dX6_setBlock_31 : decode cX6_setBlock 31 = .ok (.iload_n 3, 1) := by decide +kernel
theorem dX6_setBlock_32 : decode cX6_setBlock 32 = .ok (.baload, 1) := by decide +kernel
theorem dX6_setBlock_33 : decode cX6_setBlock 33 = .ok (.ifCond .eq 7, 3) := by decide +kernel
theorem dX6_setBlock_36 : decode cX6_setBlock 36 = .ok (.iconst 1, 1) := by decide +kernel
theorem dX6_setBlock_37 : decode cX6_setBlock 37 = .ok (.goto 4, 3) := by decide +kernel
theorem dX6_setBlock_40 : decode cX6_setBlock 40 = .ok (.iconst 0, 1) := by decide +kernel
theorem dX6_setBlock_41 : decode cX6_setBlock 41 = .ok (.istore 4, 2) := by decide +kernel
theorem dX6_setBlock_43 : decode cX6_setBlock 43 = .ok (.aload_n 0, 1) := by decide +kernel
theorem dX6_setBlock_44 : decode cX6_setBlock 44 = .ok (.getfield 98, 3) := by decide +kernel
theorem dX6_setBlock_47 : decode cX6_setBlock 47 = .ok (.ifCond .ne 10, 3) := by decide +kernel
theorem dX6_setBlock_50 : decode cX6_setBlock 50 = .ok (.aload_n 0, 1) := by decide +kernel
theorem dX6_setBlock_51 : decode cX6_setBlock 51 = .ok (.getfield 20, 3) := by decide +kernel
theorem dX6_setBlock_54 : decode cX6_setBlock 54 = .ok (.iload_n 3, 1) := by decide +kernel
theorem dX6_setBlock_55 : decode cX6_setBlock 55 = .ok (.iload_n 2, 1) := by decide +kernel
theorem dX6_setBlock_56 : decode cX6_setBlock 56 = .ok (.bastore, 1) := by decide +kernel
theorem dX6_setBlock_57 : decode cX6_setBlock 57 = .ok (.iload 4, 2) := by decide +kernel
theorem dX6_setBlock_59 : decode cX6_setBlock 59 = .ok (.ireturn, 1) := by decide +kernel
theorem dX6_tracked_0 : decode cX6_tracked 0 = .ok (.iload_n 1, 1) := by decide +kernel
theorem dX6_tracked_1 : decode cX6_tracked 1 = .ok (.istore_n 3, 1) := by decide +kernel
theorem dX6_tracked_2 : decode cX6_tracked 2 = .ok (.iload_n 3, 1) := by decide +kernel
theorem dX6_tracked_3 : decode cX6_tracked 3 = .ok (.ifCond .lt 44, 3) := by decide +kernel
theorem dX6_tracked_6 : decode cX6_tracked 6 = .ok (.aload_n 0, 1) := by decide +kernel
theorem dX6_tracked_7 : decode cX6_tracked 7 = .ok (.getfield 24, 3) := by decide +kernel
theorem dX6_tracked_10 : decode cX6_tracked 10 = .ok (.bipush 12, 2) := by decide +kernel
theorem dX6_tracked_12 : decode cX6_tracked 12 = .ok (.iload_n 3, 1) := by decide +kernel
theorem dX6_tracked_13 : decode cX6_tracked 13 = .ok (.imul, 1) := by decide +kernel
theorem dX6_tracked_14 : decode cX6_tracked 14 = .ok (.iload_n 2, 1) := by decide +kernel
theorem dX6_tracked_15 : decode cX6_tracked 15 = .ok (.iadd, 1) := by decide +kernel
theorem dX6_tracked_16 : decode cX6_tracked 16 = .ok (.iaload, 1) := by decide +kernel
theorem dX6_tracked_17 : decode cX6_tracked 17 = .ok (.istore 4, 2) := by decide +kernel
theorem dX6_tracked_19 : decode cX6_tracked 19 = .ok (.iload 4, 2) := by decide +kernel
theorem dX6_tracked_21 : decode cX6_tracked 21 = .ok (.iconst (-1), 1) := by decide +kernel
theorem dX6_tracked_22 : decode cX6_tracked 22 = .ok (.if_icmp .ne 12, 3) := by decide +kernel
theorem dX6_tracked_25 : decode cX6_tracked 25 = .ok (.aload_n 0, 1) := by decide +kernel
theorem dX6_tracked_26 : decode cX6_tracked 26 = .ok (.getfield 20, 3) := by decide +kernel
theorem dX6_tracked_29 : decode cX6_tracked 29 = .ok (.iload_n 3, 1) := by decide +kernel
theorem dX6_tracked_30 : decode cX6_tracked 30 = .ok (.baload, 1) := by decide +kernel
theorem dX6_tracked_31 : decode cX6_tracked 31 = .ok (.ifCond .eq 10, 3) := by decide +kernel
theorem dX6_tracked_34 : decode cX6_tracked 34 = .ok (.iconst 0, 1) := by decide +kernel
theorem dX6_tracked_35 : decode cX6_tracked 35 = .ok (.iload 4, 2) := by decide +kernel
theorem dX6_tracked_37 : decode cX6_tracked 37 = .ok (.invokestatic 131, 3) := by decide +kernel
theorem dX6_tracked_40 : decode cX6_tracked 40 = .ok (.ireturn, 1) := by decide +kernel
theorem dX6_tracked_41 : decode cX6_tracked 41 = .ok (.iinc 3 (-1), 3) := by decide +kernel
theorem dX6_tracked_44 : decode cX6_tracked 44 = .ok (.goto (-42), 3) := by decide +kernel
theorem dX6_tracked_47 : decode cX6_tracked 47 = .ok (.iconst 0, 1) := by decide +kernel
theorem dX6_tracked_48 : decode cX6_tracked 48 = .ok (.ireturn, 1) := by decide +kernel
set_option maxRecDepth 20000 in
theorem ggX6_trackedLevel_X6_cueAt : GoodIn wsX6_trackedLevel wsX6_cueAt := goodIn_ca (goodIn_r _ [6, 7, 8, 26, 27, 28, 29, 30, 31, 32, 33, 34, 35, 36, 37, 38, 39, 40, 41, 42, 43, 44, 45, 46, 47, 48, 49, 50, 51, 52, 53, 54, 55, 56, 57, 58, 59, 60, 61] (by decide +kernel) (by decide +kernel)) (goodIn_sub (fun _ h => List.mem_cons_of_mem _ (List.mem_append_right _ h)) (by decide +kernel))
set_option maxRecDepth 20000 in
theorem gX6_trackedLevel_X6_cueAt : GoodIn wsX6_trackedLevel (wsV RX6 116 RX6 yX6_cueAt wsX6_cueAt) := goodIn_app (goodIn_of _ (by decide +kernel)) ggX6_trackedLevel_X6_cueAt
set_option maxRecDepth 20000 in
theorem ggX6_trackedLevel_X6_isChannel : GoodIn wsX6_trackedLevel wsX6_isChannel := goodIn_r _ [11, 12, 13, 14, 5, 15] (by decide +kernel) (by decide +kernel)
set_option maxRecDepth 20000 in
theorem gX6_trackedLevel_X6_isChannel : GoodIn wsX6_trackedLevel (va_wsS RX6 124 yX6_isChannel wsX6_isChannel) := goodIn_app (goodIn_of _ (by decide +kernel)) ggX6_trackedLevel_X6_isChannel
set_option maxRecDepth 20000 in
theorem ggX6_trackedLevel_X6_tracked : GoodIn wsX6_trackedLevel wsX6_tracked := goodIn_ca (goodIn_r _ [19, 20, 21, 22, 23, 24, 25, 26, 27, 28, 29, 30, 31, 32, 33, 34, 35, 36, 37, 38, 39, 40, 41, 42, 43, 44, 45, 46, 47, 48, 49, 50, 51, 52, 53, 54, 55, 56, 57, 58, 59, 60, 61] (by decide +kernel) (by decide +kernel)) (goodIn_sub (fun _ h => List.mem_cons_of_mem _ (List.mem_append_right _ h)) (by decide +kernel))
set_option maxRecDepth 20000 in
theorem gX6_trackedLevel_X6_tracked : GoodIn wsX6_trackedLevel (wsV RX6 137 RX6 yX6_tracked wsX6_tracked) := goodIn_app (goodIn_of _ (by decide +kernel)) ggX6_trackedLevel_X6_tracked
theorem dX6_trackedLevel_0 : decode cX6_trackedLevel 0 = .ok (.aload_n 0, 1) := by decide +kernel
theorem dX6_trackedLevel_1 : decode cX6_trackedLevel 1 = .ok (.iload_n 1, 1) := by decide +kernel
theorem dX6_trackedLevel_2 : decode cX6_trackedLevel 2 = .ok (.invokevirtual 116, 3) := by decide +kernel
theorem dX6_trackedLevel_5 : decode cX6_trackedLevel 5 = .ok (.istore_n 3, 1) := by decide +kernel
theorem dX6_trackedLevel_6 : decode cX6_trackedLevel 6 = .ok (.aload_n 0, 1) := by decide +kernel
theorem dX6_trackedLevel_7 : decode cX6_trackedLevel 7 = .ok (.iload_n 3, 1) := by decide +kernel
theorem dX6_trackedLevel_8 : decode cX6_trackedLevel 8 = .ok (.iconst (-1), 1) := by decide +kernel
theorem dX6_trackedLevel_9 : decode cX6_trackedLevel 9 = .ok (.if_icmp .ne 7, 3) := by decide +kernel
theorem dX6_trackedLevel_12 : decode cX6_trackedLevel 12 = .ok (.iconst 1, 1) := by decide +kernel
theorem dX6_trackedLevel_13 : decode cX6_trackedLevel 13 = .ok (.goto 15, 3) := by decide +kernel
theorem dX6_trackedLevel_16 : decode cX6_trackedLevel 16 = .ok (.iload_n 2, 1) := by decide +kernel
theorem dX6_trackedLevel_17 : decode cX6_trackedLevel 17 = .ok (.invokestatic 124, 3) := by decide +kernel
theorem dX6_trackedLevel_20 : decode cX6_trackedLevel 20 = .ok (.ifCond .ne 7, 3) := by decide +kernel
theorem dX6_trackedLevel_23 : decode cX6_trackedLevel 23 = .ok (.iconst 2, 1) := by decide +kernel
theorem dX6_trackedLevel_24 : decode cX6_trackedLevel 24 = .ok (.goto 4, 3) := by decide +kernel
theorem dX6_trackedLevel_27 : decode cX6_trackedLevel 27 = .ok (.iconst 0, 1) := by decide +kernel
theorem dX6_trackedLevel_28 : decode cX6_trackedLevel 28 = .ok (.putfield 98, 3) := by decide +kernel
theorem dX6_trackedLevel_31 : decode cX6_trackedLevel 31 = .ok (.aload_n 0, 1) := by decide +kernel
theorem dX6_trackedLevel_32 : decode cX6_trackedLevel 32 = .ok (.getfield 98, 3) := by decide +kernel
theorem dX6_trackedLevel_35 : decode cX6_trackedLevel 35 = .ok (.ifCond .ne 12, 3) := by decide +kernel
theorem dX6_trackedLevel_38 : decode cX6_trackedLevel 38 = .ok (.aload_n 0, 1) := by decide +kernel
theorem dX6_trackedLevel_39 : decode cX6_trackedLevel 39 = .ok (.iload_n 3, 1) := by decide +kernel
theorem dX6_trackedLevel_40 : decode cX6_trackedLevel 40 = .ok (.iload_n 2, 1) := by decide +kernel
theorem dX6_trackedLevel_41 : decode cX6_trackedLevel 41 = .ok (.invokevirtual 137, 3) := by decide +kernel
theorem dX6_trackedLevel_44 : decode cX6_trackedLevel 44 = .ok (.goto 4, 3) := by decide +kernel
theorem dX6_trackedLevel_47 : decode cX6_trackedLevel 47 = .ok (.iconst (-1), 1) := by decide +kernel
theorem dX6_trackedLevel_48 : decode cX6_trackedLevel 48 = .ok (.ireturn, 1) := by decide +kernel
theorem dX6_cues_0 : decode cX6_cues 0 = .ok (.aload_n 0, 1) := by decide +kernel
theorem dX6_cues_1 : decode cX6_cues 1 = .ok (.iconst 0, 1) := by decide +kernel
theorem dX6_cues_2 : decode cX6_cues 2 = .ok (.putfield 98, 3) := by decide +kernel
theorem dX6_cues_5 : decode cX6_cues 5 = .ok (.aload_n 0, 1) := by decide +kernel
theorem dX6_cues_6 : decode cX6_cues 6 = .ok (.getfield 109, 3) := by decide +kernel
theorem dX6_cues_9 : decode cX6_cues 9 = .ok (.ireturn, 1) := by decide +kernel
theorem dX6_faded_0 : decode cX6_faded 0 = .ok (.aload_n 0, 1) := by decide +kernel
theorem dX6_faded_1 : decode cX6_faded 1 = .ok (.getfield 42, 3) := by decide +kernel
theorem dX6_faded_4 : decode cX6_faded 4 = .ok (.iload_n 1, 1) := by decide +kernel
theorem dX6_faded_5 : decode cX6_faded 5 = .ok (.baload, 1) := by decide +kernel
theorem dX6_faded_6 : decode cX6_faded 6 = .ok (.ifCond .ne 10, 3) := by decide +kernel
theorem dX6_faded_9 : decode cX6_faded 9 = .ok (.aload_n 0, 1) := by decide +kernel
theorem dX6_faded_10 : decode cX6_faded 10 = .ok (.getfield 27, 3) := by decide +kernel
theorem dX6_faded_13 : decode cX6_faded 13 = .ok (.iload_n 1, 1) := by decide +kernel
theorem dX6_faded_14 : decode cX6_faded 14 = .ok (.iaload, 1) := by decide +kernel
theorem dX6_faded_15 : decode cX6_faded 15 = .ok (.ireturn, 1) := by decide +kernel
theorem dX6_faded_16 : decode cX6_faded 16 = .ok (.aload_n 0, 1) := by decide +kernel
theorem dX6_faded_17 : decode cX6_faded 17 = .ok (.getfield 140, 3) := by decide +kernel
theorem dX6_faded_20 : decode cX6_faded 20 = .ok (.aload_n 0, 1) := by decide +kernel
theorem dX6_faded_21 : decode cX6_faded 21 = .ok (.getfield 33, 3) := by decide +kernel
theorem dX6_faded_24 : decode cX6_faded 24 = .ok (.iload_n 1, 1) := by decide +kernel
theorem dX6_faded_25 : decode cX6_faded 25 = .ok (.iaload, 1) := by decide +kernel
theorem dX6_faded_26 : decode cX6_faded 26 = .ok (.isub, 1) := by decide +kernel
theorem dX6_faded_27 : decode cX6_faded 27 = .ok (.istore_n 2, 1) := by decide +kernel
theorem dX6_faded_28 : decode cX6_faded 28 = .ok (.aload_n 0, 1) := by decide +kernel
theorem dX6_faded_29 : decode cX6_faded 29 = .ok (.getfield 36, 3) := by decide +kernel
theorem dX6_faded_32 : decode cX6_faded 32 = .ok (.iload_n 1, 1) := by decide +kernel
theorem dX6_faded_33 : decode cX6_faded 33 = .ok (.iaload, 1) := by decide +kernel
theorem dX6_faded_34 : decode cX6_faded 34 = .ok (.istore_n 3, 1) := by decide +kernel
theorem dX6_faded_35 : decode cX6_faded 35 = .ok (.aload_n 0, 1) := by decide +kernel
theorem dX6_faded_36 : decode cX6_faded 36 = .ok (.getfield 30, 3) := by decide +kernel
theorem dX6_faded_39 : decode cX6_faded 39 = .ok (.iload_n 1, 1) := by decide +kernel
theorem dX6_faded_40 : decode cX6_faded 40 = .ok (.iaload, 1) := by decide +kernel
theorem dX6_faded_41 : decode cX6_faded 41 = .ok (.aload_n 0, 1) := by decide +kernel
theorem dX6_faded_42 : decode cX6_faded 42 = .ok (.getfield 27, 3) := by decide +kernel
theorem dX6_faded_45 : decode cX6_faded 45 = .ok (.iload_n 1, 1) := by decide +kernel
theorem dX6_faded_46 : decode cX6_faded 46 = .ok (.iaload, 1) := by decide +kernel
theorem dX6_faded_47 : decode cX6_faded 47 = .ok (.isub, 1) := by decide +kernel
theorem dX6_faded_48 : decode cX6_faded 48 = .ok (.istore 4, 2) := by decide +kernel
theorem dX6_faded_50 : decode cX6_faded 50 = .ok (.aload_n 0, 1) := by decide +kernel
theorem dX6_faded_51 : decode cX6_faded 51 = .ok (.getfield 39, 3) := by decide +kernel
theorem dX6_faded_54 : decode cX6_faded 54 = .ok (.iload_n 1, 1) := by decide +kernel
theorem dX6_faded_55 : decode cX6_faded 55 = .ok (.caload, 1) := by decide +kernel
theorem dX6_faded_56 : decode cX6_faded 56 = .ok (.bipush 108, 2) := by decide +kernel
theorem dX6_faded_58 : decode cX6_faded 58 = .ok (.if_icmp .ne 17, 3) := by decide +kernel
theorem dX6_faded_61 : decode cX6_faded 61 = .ok (.aload_n 0, 1) := by decide +kernel
theorem dX6_faded_62 : decode cX6_faded 62 = .ok (.getfield 27, 3) := by decide +kernel
theorem dX6_faded_65 : decode cX6_faded 65 = .ok (.iload_n 1, 1) := by decide +kernel
theorem dX6_faded_66 : decode cX6_faded 66 = .ok (.iaload, 1) := by decide +kernel
theorem dX6_faded_67 : decode cX6_faded 67 = .ok (.iload 4, 2) := by decide +kernel
theorem dX6_faded_69 : decode cX6_faded 69 = .ok (.iload_n 2, 1) := by decide +kernel
theorem dX6_faded_70 : decode cX6_faded 70 = .ok (.imul, 1) := by decide +kernel
theorem dX6_faded_71 : decode cX6_faded 71 = .ok (.iload_n 3, 1) := by decide +kernel
theorem dX6_faded_72 : decode cX6_faded 72 = .ok (.idiv, 1) := by decide +kernel
theorem dX6_faded_73 : decode cX6_faded 73 = .ok (.iadd, 1) := by decide +kernel
theorem dX6_faded_74 : decode cX6_faded 74 = .ok (.ireturn, 1) := by decide +kernel
theorem dX6_faded_75 : decode cX6_faded 75 = .ok (.aload_n 0, 1) := by decide +kernel
theorem dX6_faded_76 : decode cX6_faded 76 = .ok (.getfield 39, 3) := by decide +kernel
theorem dX6_faded_79 : decode cX6_faded 79 = .ok (.iload_n 1, 1) := by decide +kernel
theorem dX6_faded_80 : decode cX6_faded 80 = .ok (.caload, 1) := by decide +kernel
theorem dX6_faded_81 : decode cX6_faded 81 = .ok (.bipush 113, 2) := by decide +kernel
theorem dX6_faded_83 : decode cX6_faded 83 = .ok (.if_icmp .ne 21, 3) := by decide +kernel
theorem dX6_faded_86 : decode cX6_faded 86 = .ok (.aload_n 0, 1) := by decide +kernel
theorem dX6_faded_87 : decode cX6_faded 87 = .ok (.getfield 27, 3) := by decide +kernel
theorem dX6_faded_90 : decode cX6_faded 90 = .ok (.iload_n 1, 1) := by decide +kernel
theorem dX6_faded_91 : decode cX6_faded 91 = .ok (.iaload, 1) := by decide +kernel
theorem dX6_faded_92 : decode cX6_faded 92 = .ok (.iload 4, 2) := by decide +kernel
theorem dX6_faded_94 : decode cX6_faded 94 = .ok (.iload_n 2, 1) := by decide +kernel
theorem dX6_faded_95 : decode cX6_faded 95 = .ok (.iload_n 2, 1) := by decide +kernel
theorem dX6_faded_96 : decode cX6_faded 96 = .ok (.imul, 1) := by decide +kernel
theorem dX6_faded_97 : decode cX6_faded 97 = .ok (.imul, 1) := by decide +kernel
theorem dX6_faded_98 : decode cX6_faded 98 = .ok (.iload_n 3, 1) := by decide +kernel
theorem dX6_faded_99 : decode cX6_faded 99 = .ok (.iload_n 3, 1) := by decide +kernel
theorem dX6_faded_100 : decode cX6_faded 100 = .ok (.imul, 1) := by decide +kernel
theorem dX6_faded_101 : decode cX6_faded 101 = .ok (.idiv, 1) := by decide +kernel
theorem dX6_faded_102 : decode cX6_faded 102 = .ok (.iadd, 1) := by decide +kernel
theorem dX6_faded_103 : decode cX6_faded 103 = .ok (.ireturn, 1) := by decide +kernel
theorem dX6_faded_104 : decode cX6_faded 104 = .ok (.aload_n 0, 1) := by decide +kernel
theorem dX6_faded_105 : decode cX6_faded 105 = .ok (.getfield 27, 3) := by decide +kernel
theorem dX6_faded_108 : decode cX6_faded 108 = .ok (.iload_n 1, 1) := by decide +kernel
theorem dX6_faded_109 : decode cX6_faded 109 = .ok (.iaload, 1) := by decide +kernel
theorem dX6_faded_110 : decode cX6_faded 110 = .ok (.iload 4, 2) := by decide +kernel
theorem dX6_faded_112 : decode cX6_faded 112 = .ok (.iconst 3, 1) := by decide +kernel
theorem dX6_faded_113 : decode cX6_faded 113 = .ok (.iload_n 2, 1) := by decide +kernel
theorem dX6_faded_114 : decode cX6_faded 114 = .ok (.imul, 1) := by decide +kernel
theorem dX6_faded_115 : decode cX6_faded 115 = .ok (.iload_n 2, 1) := by decide +kernel
theorem dX6_faded_116 : decode cX6_faded 116 = .ok (.imul, 1) := by decide +kernel
theorem dX6_faded_117 : decode cX6_faded 117 = .ok (.iload_n 3, 1) := by decide +kernel
theorem dX6_faded_118 : decode cX6_faded 118 = .ok (.imul, 1) := by decide +kernel
theorem dX6_faded_119 : decode cX6_faded 119 = .ok (.iconst 2, 1) := by decide +kernel
theorem dX6_faded_120 : decode cX6_faded 120 = .ok (.iload_n 2, 1) := by decide +kernel
theorem dX6_faded_121 : decode cX6_faded 121 = .ok (.imul, 1) := by decide +kernel
theorem dX6_faded_122 : decode cX6_faded 122 = .ok (.iload_n 2, 1) := by decide +kernel
theorem dX6_faded_123 : decode cX6_faded 123 = .ok (.imul, 1) := by decide +kernel
theorem dX6_faded_124 : decode cX6_faded 124 = .ok (.iload_n 2, 1) := by decide +kernel
theorem dX6_faded_125 : decode cX6_faded 125 = .ok (.imul, 1) := by decide +kernel
theorem dX6_faded_126 : decode cX6_faded 126 = .ok (.isub, 1) := by decide +kernel
theorem dX6_faded_127 : decode cX6_faded 127 = .ok (.imul, 1) := by decide +kernel
theorem dX6_faded_128 : decode cX6_faded 128 = .ok (.iload_n 3, 1) := by decide +kernel
theorem dX6_faded_129 : decode cX6_faded 129 = .ok (.iload_n 3, 1) := by decide +kernel
theorem dX6_faded_130 : decode cX6_faded 130 = .ok (.imul, 1) := by decide +kernel
theorem dX6_faded_131 : decode cX6_faded 131 = .ok (.iload_n 3, 1) := by decide +kernel
theorem dX6_faded_132 : decode cX6_faded 132 = .ok (.imul, 1) := by decide +kernel
theorem dX6_faded_133 : decode cX6_faded 133 = .ok (.idiv, 1) := by decide +kernel
theorem dX6_faded_134 : decode cX6_faded 134 = .ok (.iadd, 1) := by decide +kernel
theorem dX6_faded_135 : decode cX6_faded 135 = .ok (.ireturn, 1) := by decide +kernel
set_option maxRecDepth 20000 in
theorem ggX6_plays_X6_faded : GoodIn wsX6_plays wsX6_faded := goodIn_ca (goodIn_ca (goodIn_r _ [17, 4, 3, 9, 8, 10, 7, 11, 28, 29, 30, 31, 32, 33, 34, 35, 36, 37, 38, 39, 40, 41, 42, 43, 44, 45, 46, 47, 48, 49, 50, 51, 52, 53, 54, 55, 56, 57, 58, 59, 60, 61, 62, 63] (by decide +kernel) (by decide +kernel)) (goodIn_sub (fun _ h => List.mem_cons_of_mem _ (List.mem_append_left _ (List.mem_append_right _ h))) (by decide +kernel))) (goodIn_sub (fun _ h => List.mem_cons_of_mem _ (List.mem_append_right _ h)) (by decide +kernel))
set_option maxRecDepth 20000 in
theorem gX6_plays_X6_faded : GoodIn wsX6_plays (wsV RX6 146 RX6 yX6_faded wsX6_faded) := goodIn_app (goodIn_of _ (by decide +kernel)) ggX6_plays_X6_faded
set_option maxRecDepth 20000 in
theorem ggX6_plays_X6_tracked : GoodIn wsX6_plays wsX6_tracked := goodIn_ca (goodIn_r _ [21, 22, 23, 24, 25, 26, 27, 28, 29, 30, 31, 32, 33, 34, 35, 36, 37, 38, 39, 40, 41, 42, 43, 44, 45, 46, 47, 48, 49, 50, 51, 52, 53, 54, 55, 56, 57, 58, 59, 60, 61, 62, 63] (by decide +kernel) (by decide +kernel)) (goodIn_sub (fun _ h => List.mem_cons_of_mem _ (List.mem_append_left _ (List.mem_append_right _ h))) (by decide +kernel))
set_option maxRecDepth 20000 in
theorem gX6_plays_X6_tracked : GoodIn wsX6_plays (wsV RX6 137 RX6 yX6_tracked wsX6_tracked) := goodIn_app (goodIn_of _ (by decide +kernel)) ggX6_plays_X6_tracked
theorem dX6_plays_0 : decode cX6_plays 0 = .ok (.aload_n 0, 1) := by decide +kernel
theorem dX6_plays_1 : decode cX6_plays 1 = .ok (.aload_n 0, 1) := by decide +kernel
theorem dX6_plays_2 : decode cX6_plays 2 = .ok (.getfield 9, 3) := by decide +kernel
theorem dX6_plays_5 : decode cX6_plays 5 = .ok (.iload_n 1, 1) := by decide +kernel
theorem dX6_plays_6 : decode cX6_plays 6 = .ok (.iaload, 1) := by decide +kernel
theorem dX6_plays_7 : decode cX6_plays 7 = .ok (.putfield 143, 3) := by decide +kernel
theorem dX6_plays_10 : decode cX6_plays 10 = .ok (.iconst 0, 1) := by decide +kernel
theorem dX6_plays_11 : decode cX6_plays 11 = .ok (.istore_n 2, 1) := by decide +kernel
theorem dX6_plays_12 : decode cX6_plays 12 = .ok (.iload_n 2, 1) := by decide +kernel
theorem dX6_plays_13 : decode cX6_plays 13 = .ok (.bipush 12, 2) := by decide +kernel
theorem dX6_plays_15 : decode cX6_plays 15 = .ok (.if_icmp .ge 137, 3) := by decide +kernel
theorem dX6_plays_18 : decode cX6_plays 18 = .ok (.aload_n 0, 1) := by decide +kernel
theorem dX6_plays_19 : decode cX6_plays 19 = .ok (.getfield 27, 3) := by decide +kernel
theorem dX6_plays_22 : decode cX6_plays 22 = .ok (.iload_n 2, 1) := by decide +kernel
theorem dX6_plays_23 : decode cX6_plays 23 = .ok (.aload_n 0, 1) := by decide +kernel
theorem dX6_plays_24 : decode cX6_plays 24 = .ok (.iload_n 2, 1) := by decide +kernel
theorem dX6_plays_25 : decode cX6_plays 25 = .ok (.invokevirtual 146, 3) := by decide +kernel
theorem dX6_plays_28 : decode cX6_plays 28 = .ok (.iastore, 1) := by decide +kernel
theorem dX6_plays_29 : decode cX6_plays 29 = .ok (.aload_n 0, 1) := by decide +kernel
theorem dX6_plays_30 : decode cX6_plays 30 = .ok (.getfield 42, 3) := by decide +kernel
theorem dX6_plays_33 : decode cX6_plays 33 = .ok (.iload_n 2, 1) := by decide +kernel
theorem dX6_plays_34 : decode cX6_plays 34 = .ok (.iconst 0, 1) := by decide +kernel
theorem dX6_plays_35 : decode cX6_plays 35 = .ok (.bastore, 1) := by decide +kernel
theorem dX6_plays_36 : decode cX6_plays 36 = .ok (.aload_n 0, 1) := by decide +kernel
theorem dX6_plays_37 : decode cX6_plays 37 = .ok (.iload_n 1, 1) := by decide +kernel
theorem dX6_plays_38 : decode cX6_plays 38 = .ok (.iload_n 2, 1) := by decide +kernel
theorem dX6_plays_39 : decode cX6_plays 39 = .ok (.invokevirtual 137, 3) := by decide +kernel
theorem dX6_plays_42 : decode cX6_plays 42 = .ok (.istore_n 3, 1) := by decide +kernel
theorem dX6_plays_43 : decode cX6_plays 43 = .ok (.iload_n 3, 1) := by decide +kernel
theorem dX6_plays_44 : decode cX6_plays 44 = .ok (.aload_n 0, 1) := by decide +kernel
theorem dX6_plays_45 : decode cX6_plays 45 = .ok (.getfield 27, 3) := by decide +kernel
theorem dX6_plays_48 : decode cX6_plays 48 = .ok (.iload_n 2, 1) := by decide +kernel
theorem dX6_plays_49 : decode cX6_plays 49 = .ok (.iaload, 1) := by decide +kernel
theorem dX6_plays_50 : decode cX6_plays 50 = .ok (.if_icmp .eq 96, 3) := by decide +kernel
theorem dX6_plays_53 : decode cX6_plays 53 = .ok (.aload_n 0, 1) := by decide +kernel
theorem dX6_plays_54 : decode cX6_plays 54 = .ok (.getfield 48, 3) := by decide +kernel
theorem dX6_plays_57 : decode cX6_plays 57 = .ok (.iload_n 2, 1) := by decide +kernel
theorem dX6_plays_58 : decode cX6_plays 58 = .ok (.iconst (-1), 1) := by decide +kernel
theorem dX6_plays_59 : decode cX6_plays 59 = .ok (.iastore, 1) := by decide +kernel
theorem dX6_plays_60 : decode cX6_plays 60 = .ok (.aload_n 0, 1) := by decide +kernel
theorem dX6_plays_61 : decode cX6_plays 61 = .ok (.getfield 42, 3) := by decide +kernel
theorem dX6_plays_64 : decode cX6_plays 64 = .ok (.iload_n 2, 1) := by decide +kernel
theorem dX6_plays_65 : decode cX6_plays 65 = .ok (.aload_n 0, 1) := by decide +kernel
theorem dX6_plays_66 : decode cX6_plays 66 = .ok (.getfield 13, 3) := by decide +kernel
theorem dX6_plays_69 : decode cX6_plays 69 = .ok (.iload_n 1, 1) := by decide +kernel
theorem dX6_plays_70 : decode cX6_plays 70 = .ok (.iaload, 1) := by decide +kernel
theorem dX6_plays_71 : decode cX6_plays 71 = .ok (.ifCond .le 7, 3) := by decide +kernel
theorem dX6_plays_74 : decode cX6_plays 74 = .ok (.iconst 1, 1) := by decide +kernel
theorem dX6_plays_75 : decode cX6_plays 75 = .ok (.goto 4, 3) := by decide +kernel
theorem dX6_plays_78 : decode cX6_plays 78 = .ok (.iconst 0, 1) := by decide +kernel
theorem dX6_plays_79 : decode cX6_plays 79 = .ok (.bastore, 1) := by decide +kernel
theorem dX6_plays_80 : decode cX6_plays 80 = .ok (.aload_n 0, 1) := by decide +kernel
theorem dX6_plays_81 : decode cX6_plays 81 = .ok (.getfield 30, 3) := by decide +kernel
theorem dX6_plays_84 : decode cX6_plays 84 = .ok (.iload_n 2, 1) := by decide +kernel
theorem dX6_plays_85 : decode cX6_plays 85 = .ok (.iload_n 3, 1) := by decide +kernel
theorem dX6_plays_86 : decode cX6_plays 86 = .ok (.iastore, 1) := by decide +kernel
theorem dX6_plays_87 : decode cX6_plays 87 = .ok (.aload_n 0, 1) := by decide +kernel
theorem dX6_plays_88 : decode cX6_plays 88 = .ok (.getfield 33, 3) := by decide +kernel
theorem dX6_plays_91 : decode cX6_plays 91 = .ok (.iload_n 2, 1) := by decide +kernel
theorem dX6_plays_92 : decode cX6_plays 92 = .ok (.aload_n 0, 1) := by decide +kernel
theorem dX6_plays_93 : decode cX6_plays 93 = .ok (.getfield 140, 3) := by decide +kernel
theorem dX6_plays_96 : decode cX6_plays 96 = .ok (.iastore, 1) := by decide +kernel
theorem dX6_plays_97 : decode cX6_plays 97 = .ok (.aload_n 0, 1) := by decide +kernel
theorem dX6_plays_98 : decode cX6_plays 98 = .ok (.getfield 36, 3) := by decide +kernel
theorem dX6_plays_101 : decode cX6_plays 101 = .ok (.iload_n 2, 1) := by decide +kernel
theorem dX6_plays_102 : decode cX6_plays 102 = .ok (.aload_n 0, 1) := by decide +kernel
theorem dX6_plays_103 : decode cX6_plays 103 = .ok (.getfield 13, 3) := by decide +kernel
theorem dX6_plays_106 : decode cX6_plays 106 = .ok (.iload_n 1, 1) := by decide +kernel
theorem dX6_plays_107 : decode cX6_plays 107 = .ok (.iaload, 1) := by decide +kernel
theorem dX6_plays_108 : decode cX6_plays 108 = .ok (.iastore, 1) := by decide +kernel
theorem dX6_plays_109 : decode cX6_plays 109 = .ok (.aload_n 0, 1) := by decide +kernel
theorem dX6_plays_110 : decode cX6_plays 110 = .ok (.getfield 39, 3) := by decide +kernel
theorem dX6_plays_113 : decode cX6_plays 113 = .ok (.iload_n 2, 1) := by decide +kernel
theorem dX6_plays_114 : decode cX6_plays 114 = .ok (.aload_n 0, 1) := by decide +kernel
theorem dX6_plays_115 : decode cX6_plays 115 = .ok (.getfield 16, 3) := by decide +kernel
theorem dX6_plays_118 : decode cX6_plays 118 = .ok (.iload_n 1, 1) := by decide +kernel
theorem dX6_plays_119 : decode cX6_plays 119 = .ok (.caload, 1) := by decide +kernel
theorem dX6_plays_120 : decode cX6_plays 120 = .ok (.castore, 1) := by decide +kernel
theorem dX6_plays_121 : decode cX6_plays 121 = .ok (.aload_n 0, 1) := by decide +kernel
theorem dX6_plays_122 : decode cX6_plays 122 = .ok (.getfield 27, 3) := by decide +kernel
theorem dX6_plays_125 : decode cX6_plays 125 = .ok (.iload_n 2, 1) := by decide +kernel
theorem dX6_plays_126 : decode cX6_plays 126 = .ok (.aload_n 0, 1) := by decide +kernel
theorem dX6_plays_127 : decode cX6_plays 127 = .ok (.getfield 42, 3) := by decide +kernel
theorem dX6_plays_130 : decode cX6_plays 130 = .ok (.iload_n 2, 1) := by decide +kernel
theorem dX6_plays_131 : decode cX6_plays 131 = .ok (.baload, 1) := by decide +kernel
theorem dX6_plays_132 : decode cX6_plays 132 = .ok (.ifCond .eq 12, 3) := by decide +kernel
theorem dX6_plays_135 : decode cX6_plays 135 = .ok (.aload_n 0, 1) := by decide +kernel
theorem dX6_plays_136 : decode cX6_plays 136 = .ok (.getfield 27, 3) := by decide +kernel
theorem dX6_plays_139 : decode cX6_plays 139 = .ok (.iload_n 2, 1) := by decide +kernel
theorem dX6_plays_140 : decode cX6_plays 140 = .ok (.iaload, 1) := by decide +kernel
theorem dX6_plays_141 : decode cX6_plays 141 = .ok (.goto 4, 3) := by decide +kernel
theorem dX6_plays_144 : decode cX6_plays 144 = .ok (.iload_n 3, 1) := by decide +kernel
theorem dX6_plays_145 : decode cX6_plays 145 = .ok (.iastore, 1) := by decide +kernel
theorem dX6_plays_146 : decode cX6_plays 146 = .ok (.iinc 2 1, 3) := by decide +kernel
theorem dX6_plays_149 : decode cX6_plays 149 = .ok (.goto (-137), 3) := by decide +kernel
theorem dX6_plays_152 : decode cX6_plays 152 = .ok (.return_, 1) := by decide +kernel
set_option maxRecDepth 20000 in
theorem ggX6_playing_X6_plays : GoodIn wsX6_playing wsX6_plays := goodIn_ca (goodIn_ca (goodIn_r _ [7, 8, 2, 9, 10, 11, 12, 13, 14, 15, 16, 17, 18, 19, 20, 21, 6, 22, 23, 24, 25, 26, 27, 28, 29, 30, 31, 32, 33, 34, 35, 36, 37, 38, 39, 40, 41, 42, 43, 44, 45, 46, 47, 48, 49, 50, 51, 52, 53, 54, 55, 56, 57, 58, 59, 60, 61, 62, 63, 64, 65, 66, 67, 68] (by decide +kernel) (by decide +kernel)) (goodIn_sub (fun _ h => List.mem_cons_of_mem _ (List.mem_append_left _ (List.mem_append_right _ h))) (by decide +kernel))) (goodIn_sub (fun _ h => List.mem_cons_of_mem _ (List.mem_append_right _ h)) (by decide +kernel))
set_option maxRecDepth 20000 in
theorem gX6_playing_X6_plays : GoodIn wsX6_playing (wsV RX6 149 RX6 yX6_plays wsX6_plays) := goodIn_app (goodIn_of _ (by decide +kernel)) ggX6_playing_X6_plays
theorem dX6_playing_0 : decode cX6_playing 0 = .ok (.aload_n 0, 1) := by decide +kernel
theorem dX6_playing_1 : decode cX6_playing 1 = .ok (.iload_n 1, 1) := by decide +kernel
theorem dX6_playing_2 : decode cX6_playing 2 = .ok (.iconst (-1), 1) := by decide +kernel
theorem dX6_playing_3 : decode cX6_playing 3 = .ok (.if_icmp .ne 7, 3) := by decide +kernel
theorem dX6_playing_6 : decode cX6_playing 6 = .ok (.iconst 1, 1) := by decide +kernel
theorem dX6_playing_7 : decode cX6_playing 7 = .ok (.goto 4, 3) := by decide +kernel
theorem dX6_playing_10 : decode cX6_playing 10 = .ok (.iconst 0, 1) := by decide +kernel
theorem dX6_playing_11 : decode cX6_playing 11 = .ok (.putfield 98, 3) := by decide +kernel
theorem dX6_playing_14 : decode cX6_playing 14 = .ok (.aload_n 0, 1) := by decide +kernel
theorem dX6_playing_15 : decode cX6_playing 15 = .ok (.getfield 98, 3) := by decide +kernel
theorem dX6_playing_18 : decode cX6_playing 18 = .ok (.ifCond .le 5, 3) := by decide +kernel
theorem dX6_playing_21 : decode cX6_playing 21 = .ok (.iconst (-1), 1) := by decide +kernel
theorem dX6_playing_22 : decode cX6_playing 22 = .ok (.ireturn, 1) := by decide +kernel
theorem dX6_playing_23 : decode cX6_playing 23 = .ok (.aload_n 0, 1) := by decide +kernel
theorem dX6_playing_24 : decode cX6_playing 24 = .ok (.iload_n 1, 1) := by decide +kernel
theorem dX6_playing_25 : decode cX6_playing 25 = .ok (.invokevirtual 149, 3) := by decide +kernel
theorem dX6_playing_28 : decode cX6_playing 28 = .ok (.aload_n 0, 1) := by decide +kernel
theorem dX6_playing_29 : decode cX6_playing 29 = .ok (.getfield 143, 3) := by decide +kernel
theorem dX6_playing_32 : decode cX6_playing 32 = .ok (.ireturn, 1) := by decide +kernel
set_option maxRecDepth 20000 in
theorem ggX6_go_X6_playing : GoodIn wsX6_go wsX6_playing := goodIn_ca (goodIn_ca (goodIn_r _ [8, 9, 3, 10, 11, 12, 7, 13, 2, 14, 15, 16, 17, 18, 19, 20, 21, 22, 23, 24, 25, 26, 27, 28, 29, 30, 31, 32, 33, 34, 35, 36, 37, 38, 39, 40, 41, 42, 43, 44, 45, 46, 47, 48, 49, 50, 51, 52, 53, 54, 55, 56, 57, 58, 59, 60, 61, 62, 63, 64, 65, 66, 67, 68, 69, 70, 71, 72, 73] (by decide +kernel) (by decide +kernel)) (goodIn_sub (fun _ h => List.mem_cons_of_mem _ (List.mem_append_left _ (List.mem_append_right _ h))) (by decide +kernel))) (goodIn_sub (fun _ h => List.mem_cons_of_mem _ (List.mem_append_right _ h)) (by decide +kernel))
set_option maxRecDepth 20000 in
theorem gX6_go_X6_playing : GoodIn wsX6_go (wsV RX6 153 RX6 yX6_playing wsX6_playing) := goodIn_app (goodIn_of _ (by decide +kernel)) ggX6_go_X6_playing
theorem dX6_go_0 : decode cX6_go 0 = .ok (.iconst (-1), 1) := by decide +kernel
theorem dX6_go_1 : decode cX6_go 1 = .ok (.istore_n 1, 1) := by decide +kernel
theorem dX6_go_2 : decode cX6_go 2 = .ok (.aload_n 0, 1) := by decide +kernel
theorem dX6_go_3 : decode cX6_go 3 = .ok (.getfield 109, 3) := by decide +kernel
theorem dX6_go_6 : decode cX6_go 6 = .ok (.iconst 1, 1) := by decide +kernel
theorem dX6_go_7 : decode cX6_go 7 = .ok (.isub, 1) := by decide +kernel
theorem dX6_go_8 : decode cX6_go 8 = .ok (.istore_n 2, 1) := by decide +kernel
theorem dX6_go_9 : decode cX6_go 9 = .ok (.iload_n 2, 1) := by decide +kernel
theorem dX6_go_10 : decode cX6_go 10 = .ok (.ifCond .lt 28, 3) := by decide +kernel
theorem dX6_go_13 : decode cX6_go 13 = .ok (.aload_n 0, 1) := by decide +kernel
theorem dX6_go_14 : decode cX6_go 14 = .ok (.getfield 9, 3) := by decide +kernel
theorem dX6_go_17 : decode cX6_go 17 = .ok (.iload_n 2, 1) := by decide +kernel
theorem dX6_go_18 : decode cX6_go 18 = .ok (.iaload, 1) := by decide +kernel
theorem dX6_go_19 : decode cX6_go 19 = .ok (.aload_n 0, 1) := by decide +kernel
theorem dX6_go_20 : decode cX6_go 20 = .ok (.getfield 143, 3) := by decide +kernel
theorem dX6_go_23 : decode cX6_go 23 = .ok (.if_icmp .le 7, 3) := by decide +kernel
theorem dX6_go_26 : decode cX6_go 26 = .ok (.iload_n 2, 1) := by decide +kernel
theorem dX6_go_27 : decode cX6_go 27 = .ok (.goto 4, 3) := by decide +kernel
theorem dX6_go_30 : decode cX6_go 30 = .ok (.iload_n 1, 1) := by decide +kernel
theorem dX6_go_31 : decode cX6_go 31 = .ok (.istore_n 1, 1) := by decide +kernel
theorem dX6_go_32 : decode cX6_go 32 = .ok (.iinc 2 (-1), 3) := by decide +kernel
theorem dX6_go_35 : decode cX6_go 35 = .ok (.goto (-26), 3) := by decide +kernel
theorem dX6_go_38 : decode cX6_go 38 = .ok (.aload_n 0, 1) := by decide +kernel
theorem dX6_go_39 : decode cX6_go 39 = .ok (.iload_n 1, 1) := by decide +kernel
theorem dX6_go_40 : decode cX6_go 40 = .ok (.invokevirtual 153, 3) := by decide +kernel
theorem dX6_go_43 : decode cX6_go 43 = .ok (.ireturn, 1) := by decide +kernel
set_option maxRecDepth 20000 in
theorem ggX6_back_X6_playing : GoodIn wsX6_back wsX6_playing := goodIn_ca (goodIn_ca (goodIn_r _ [8, 9, 3, 10, 11, 12, 7, 13, 2, 14, 15, 16, 17, 18, 19, 20, 21, 22, 23, 24, 25, 26, 27, 28, 29, 30, 31, 32, 33, 34, 35, 36, 37, 38, 39, 40, 41, 42, 43, 44, 45, 46, 47, 48, 49, 50, 51, 52, 53, 54, 55, 56, 57, 58, 59, 60, 61, 62, 63, 64, 65, 66, 67, 68, 69, 70, 71, 72, 73] (by decide +kernel) (by decide +kernel)) (goodIn_sub (fun _ h => List.mem_cons_of_mem _ (List.mem_append_left _ (List.mem_append_right _ h))) (by decide +kernel))) (goodIn_sub (fun _ h => List.mem_cons_of_mem _ (List.mem_append_right _ h)) (by decide +kernel))
set_option maxRecDepth 20000 in
theorem gX6_back_X6_playing : GoodIn wsX6_back (wsV RX6 153 RX6 yX6_playing wsX6_playing) := goodIn_app (goodIn_of _ (by decide +kernel)) ggX6_back_X6_playing
theorem dX6_back_0 : decode cX6_back 0 = .ok (.iconst (-1), 1) := by decide +kernel
theorem dX6_back_1 : decode cX6_back 1 = .ok (.istore_n 1, 1) := by decide +kernel
theorem dX6_back_2 : decode cX6_back 2 = .ok (.iconst 0, 1) := by decide +kernel
theorem dX6_back_3 : decode cX6_back 3 = .ok (.istore_n 2, 1) := by decide +kernel
theorem dX6_back_4 : decode cX6_back 4 = .ok (.iload_n 2, 1) := by decide +kernel
theorem dX6_back_5 : decode cX6_back 5 = .ok (.aload_n 0, 1) := by decide +kernel
theorem dX6_back_6 : decode cX6_back 6 = .ok (.getfield 109, 3) := by decide +kernel
theorem dX6_back_9 : decode cX6_back 9 = .ok (.if_icmp .ge 28, 3) := by decide +kernel
theorem dX6_back_12 : decode cX6_back 12 = .ok (.aload_n 0, 1) := by decide +kernel
theorem dX6_back_13 : decode cX6_back 13 = .ok (.getfield 9, 3) := by decide +kernel
theorem dX6_back_16 : decode cX6_back 16 = .ok (.iload_n 2, 1) := by decide +kernel
theorem dX6_back_17 : decode cX6_back 17 = .ok (.iaload, 1) := by decide +kernel
theorem dX6_back_18 : decode cX6_back 18 = .ok (.aload_n 0, 1) := by decide +kernel
theorem dX6_back_19 : decode cX6_back 19 = .ok (.getfield 143, 3) := by decide +kernel
theorem dX6_back_22 : decode cX6_back 22 = .ok (.if_icmp .ge 7, 3) := by decide +kernel
theorem dX6_back_25 : decode cX6_back 25 = .ok (.iload_n 2, 1) := by decide +kernel
theorem dX6_back_26 : decode cX6_back 26 = .ok (.goto 4, 3) := by decide +kernel
theorem dX6_back_29 : decode cX6_back 29 = .ok (.iload_n 1, 1) := by decide +kernel
theorem dX6_back_30 : decode cX6_back 30 = .ok (.istore_n 1, 1) := by decide +kernel
theorem dX6_back_31 : decode cX6_back 31 = .ok (.iinc 2 1, 3) := by decide +kernel
theorem dX6_back_34 : decode cX6_back 34 = .ok (.goto (-30), 3) := by decide +kernel
theorem dX6_back_37 : decode cX6_back 37 = .ok (.aload_n 0, 1) := by decide +kernel
theorem dX6_back_38 : decode cX6_back 38 = .ok (.iload_n 1, 1) := by decide +kernel
theorem dX6_back_39 : decode cX6_back 39 = .ok (.invokevirtual 153, 3) := by decide +kernel
theorem dX6_back_42 : decode cX6_back 42 = .ok (.ireturn, 1) := by decide +kernel
set_option maxRecDepth 20000 in
theorem ggX6_goTo_X6_cueAt : GoodIn wsX6_goTo wsX6_cueAt := goodIn_ca (goodIn_r _ [6, 7, 8, 42, 43, 44, 45, 46, 47, 48, 49, 50, 51, 52, 53, 54, 55, 56, 57, 58, 59, 60, 61, 62, 63, 64, 65, 66, 67, 68, 69, 70, 71, 72, 73, 74, 75, 76, 77] (by decide +kernel) (by decide +kernel)) (goodIn_sub (fun _ h => List.mem_cons_of_mem _ (List.mem_append_left _ (List.mem_append_right _ h))) (by decide +kernel))
set_option maxRecDepth 20000 in
theorem gX6_goTo_X6_cueAt : GoodIn wsX6_goTo (wsV RX6 116 RX6 yX6_cueAt wsX6_cueAt) := goodIn_app (goodIn_of _ (by decide +kernel)) ggX6_goTo_X6_cueAt
set_option maxRecDepth 20000 in
theorem ggX6_goTo_X6_playing : GoodIn wsX6_goTo wsX6_playing := goodIn_ca (goodIn_ca (goodIn_r _ [12, 13, 14, 15, 16, 17, 5, 18, 8, 19, 1, 20, 21, 22, 23, 24, 25, 26, 27, 28, 29, 30, 31, 32, 33, 34, 35, 36, 37, 38, 39, 40, 41, 42, 43, 44, 45, 46, 47, 48, 49, 50, 51, 52, 53, 54, 55, 56, 57, 58, 59, 60, 61, 62, 63, 64, 65, 66, 67, 68, 69, 70, 71, 72, 73, 74, 75, 76, 77] (by decide +kernel) (by decide +kernel)) (goodIn_sub (fun _ h => List.mem_cons_of_mem _ (List.mem_append_left _ (List.mem_append_right _ h))) (by decide +kernel))) (goodIn_sub (fun _ h => List.mem_cons_of_mem _ (List.mem_append_right _ h)) (by decide +kernel))
set_option maxRecDepth 20000 in
theorem gX6_goTo_X6_playing : GoodIn wsX6_goTo (wsV RX6 153 RX6 yX6_playing wsX6_playing) := goodIn_app (goodIn_of _ (by decide +kernel)) ggX6_goTo_X6_playing
theorem dX6_goTo_0 : decode cX6_goTo 0 = .ok (.aload_n 0, 1) := by decide +kernel
theorem dX6_goTo_1 : decode cX6_goTo 1 = .ok (.aload_n 0, 1) := by decide +kernel
theorem dX6_goTo_2 : decode cX6_goTo 2 = .ok (.iload_n 1, 1) := by decide +kernel
theorem dX6_goTo_3 : decode cX6_goTo 3 = .ok (.invokevirtual 116, 3) := by decide +kernel
theorem dX6_goTo_6 : decode cX6_goTo 6 = .ok (.invokevirtual 153, 3) := by decide +kernel
theorem dX6_goTo_9 : decode cX6_goTo 9 = .ok (.iconst (-1), 1) := by decide +kernel
theorem dX6_goTo_10 : decode cX6_goTo 10 = .ok (.if_icmp .ne 5, 3) := by decide +kernel
theorem dX6_goTo_13 : decode cX6_goTo 13 = .ok (.iconst (-1), 1) := by decide +kernel
theorem dX6_goTo_14 : decode cX6_goTo 14 = .ok (.ireturn, 1) := by decide +kernel
theorem dX6_goTo_15 : decode cX6_goTo 15 = .ok (.iconst 0, 1) := by decide +kernel
theorem dX6_goTo_16 : decode cX6_goTo 16 = .ok (.istore_n 2, 1) := by decide +kernel
theorem dX6_goTo_17 : decode cX6_goTo 17 = .ok (.iconst 0, 1) := by decide +kernel
theorem dX6_goTo_18 : decode cX6_goTo 18 = .ok (.istore_n 3, 1) := by decide +kernel
theorem dX6_goTo_19 : decode cX6_goTo 19 = .ok (.iload_n 3, 1) := by decide +kernel
theorem dX6_goTo_20 : decode cX6_goTo 20 = .ok (.bipush 12, 2) := by decide +kernel
theorem dX6_goTo_22 : decode cX6_goTo 22 = .ok (.if_icmp .ge 26, 3) := by decide +kernel
theorem dX6_goTo_25 : decode cX6_goTo 25 = .ok (.iload_n 2, 1) := by decide +kernel
theorem dX6_goTo_26 : decode cX6_goTo 26 = .ok (.aload_n 0, 1) := by decide +kernel
theorem dX6_goTo_27 : decode cX6_goTo 27 = .ok (.getfield 42, 3) := by decide +kernel
theorem dX6_goTo_30 : decode cX6_goTo 30 = .ok (.iload_n 3, 1) := by decide +kernel
theorem dX6_goTo_31 : decode cX6_goTo 31 = .ok (.baload, 1) := by decide +kernel
theorem dX6_goTo_32 : decode cX6_goTo 32 = .ok (.ifCond .eq 7, 3) := by decide +kernel
theorem dX6_goTo_35 : decode cX6_goTo 35 = .ok (.iconst 1, 1) := by decide +kernel
theorem dX6_goTo_36 : decode cX6_goTo 36 = .ok (.goto 4, 3) := by decide +kernel
theorem dX6_goTo_39 : decode cX6_goTo 39 = .ok (.iconst 0, 1) := by decide +kernel
theorem dX6_goTo_40 : decode cX6_goTo 40 = .ok (.iadd, 1) := by decide +kernel
theorem dX6_goTo_41 : decode cX6_goTo 41 = .ok (.istore_n 2, 1) := by decide +kernel
theorem dX6_goTo_42 : decode cX6_goTo 42 = .ok (.iinc 3 1, 3) := by decide +kernel
theorem dX6_goTo_45 : decode cX6_goTo 45 = .ok (.goto (-26), 3) := by decide +kernel
theorem dX6_goTo_48 : decode cX6_goTo 48 = .ok (.iload_n 2, 1) := by decide +kernel
theorem dX6_goTo_49 : decode cX6_goTo 49 = .ok (.ireturn, 1) := by decide +kernel
set_option maxRecDepth 20000 in
theorem ggX6_pass_X6_in : GoodIn wsX6_pass wsX6_in := goodIn_r _ [13] (by decide +kernel) (by decide +kernel)
set_option maxRecDepth 20000 in
theorem gX6_pass_X6_in : GoodIn wsX6_pass (va_wsS RX6 103 yX6_in wsX6_in) := goodIn_app (goodIn_of _ (by decide +kernel)) ggX6_pass_X6_in
set_option maxRecDepth 20000 in
theorem ggX6_pass_X6_levelOf : GoodIn wsX6_pass wsX6_levelOf := goodIn_ca (goodIn_ca (goodIn_r _ [17, 18, 19, 20, 21, 22, 23, 24, 25, 26, 27, 12, 28, 29, 30, 31, 32, 33, 34, 35, 36, 37, 38, 39, 4, 7, 3, 5, 6, 8, 40, 41, 42, 43, 44, 45, 46, 47, 48, 49, 50, 51, 52, 53, 54, 55, 56, 57, 58, 59, 60, 61, 62, 63, 64, 65, 66, 67, 68, 69, 70, 71, 72, 73, 74, 75, 76, 77, 78, 79, 80, 81, 82, 83, 84, 85, 86, 87, 88, 89, 90, 91, 92] (by decide +kernel) (by decide +kernel)) (goodIn_sub (fun _ h => List.mem_cons_of_mem _ (List.mem_append_left _ (List.mem_append_right _ h))) (by decide +kernel))) (goodIn_sub (fun _ h => List.mem_cons_of_mem _ (List.mem_append_right _ h)) (by decide +kernel))
set_option maxRecDepth 20000 in
theorem gX6_pass_X6_levelOf : GoodIn wsX6_pass (wsV RX6 162 RX6 yX6_levelOf wsX6_levelOf) := goodIn_app (goodIn_of _ (by decide +kernel)) ggX6_pass_X6_levelOf
theorem dX6_pass_0 : decode cX6_pass 0 = .ok (.aload_n 0, 1) := by decide +kernel
theorem dX6_pass_1 : decode cX6_pass 1 = .ok (.iload_n 1, 1) := by decide +kernel
theorem dX6_pass_2 : decode cX6_pass 2 = .ok (.i2l, 1) := by decide +kernel
theorem dX6_pass_3 : decode cX6_pass 3 = .ok (.lconst 1, 1) := by decide +kernel
theorem dX6_pass_4 : decode cX6_pass 4 = .ok (.ldc2_w 156, 3) := by decide +kernel
theorem dX6_pass_7 : decode cX6_pass 7 = .ok (.invokestatic 103, 3) := by decide +kernel
theorem dX6_pass_10 : decode cX6_pass 10 = .ok (.ifCond .eq 7, 3) := by decide +kernel
theorem dX6_pass_13 : decode cX6_pass 13 = .ok (.iconst 0, 1) := by decide +kernel
theorem dX6_pass_14 : decode cX6_pass 14 = .ok (.goto 4, 3) := by decide +kernel
theorem dX6_pass_17 : decode cX6_pass 17 = .ok (.iconst 1, 1) := by decide +kernel
theorem dX6_pass_18 : decode cX6_pass 18 = .ok (.putfield 98, 3) := by decide +kernel
theorem dX6_pass_21 : decode cX6_pass 21 = .ok (.aload_n 0, 1) := by decide +kernel
theorem dX6_pass_22 : decode cX6_pass 22 = .ok (.getfield 98, 3) := by decide +kernel
theorem dX6_pass_25 : decode cX6_pass 25 = .ok (.ifCond .le 5, 3) := by decide +kernel
theorem dX6_pass_28 : decode cX6_pass 28 = .ok (.iconst (-1), 1) := by decide +kernel
theorem dX6_pass_29 : decode cX6_pass 29 = .ok (.ireturn, 1) := by decide +kernel
theorem dX6_pass_30 : decode cX6_pass 30 = .ok (.iconst 0, 1) := by decide +kernel
theorem dX6_pass_31 : decode cX6_pass 31 = .ok (.istore_n 2, 1) := by decide +kernel
theorem dX6_pass_32 : decode cX6_pass 32 = .ok (.iload_n 2, 1) := by decide +kernel
theorem dX6_pass_33 : decode cX6_pass 33 = .ok (.iload_n 1, 1) := by decide +kernel
theorem dX6_pass_34 : decode cX6_pass 34 = .ok (.if_icmp .ge 110, 3) := by decide +kernel
theorem dX6_pass_37 : decode cX6_pass 37 = .ok (.aload_n 0, 1) := by decide +kernel
theorem dX6_pass_38 : decode cX6_pass 38 = .ok (.dup, 1) := by decide +kernel
theorem dX6_pass_39 : decode cX6_pass 39 = .ok (.getfield 140, 3) := by decide +kernel
theorem dX6_pass_42 : decode cX6_pass 42 = .ok (.iconst 1, 1) := by decide +kernel
theorem dX6_pass_43 : decode cX6_pass 43 = .ok (.iadd, 1) := by decide +kernel
theorem dX6_pass_44 : decode cX6_pass 44 = .ok (.putfield 140, 3) := by decide +kernel
theorem dX6_pass_47 : decode cX6_pass 47 = .ok (.iconst 0, 1) := by decide +kernel
theorem dX6_pass_48 : decode cX6_pass 48 = .ok (.istore_n 3, 1) := by decide +kernel
theorem dX6_pass_49 : decode cX6_pass 49 = .ok (.iload_n 3, 1) := by decide +kernel
theorem dX6_pass_50 : decode cX6_pass 50 = .ok (.bipush 12, 2) := by decide +kernel
theorem dX6_pass_52 : decode cX6_pass 52 = .ok (.if_icmp .ge 57, 3) := by decide +kernel
theorem dX6_pass_55 : decode cX6_pass 55 = .ok (.aload_n 0, 1) := by decide +kernel
theorem dX6_pass_56 : decode cX6_pass 56 = .ok (.getfield 42, 3) := by decide +kernel
theorem dX6_pass_59 : decode cX6_pass 59 = .ok (.iload_n 3, 1) := by decide +kernel
theorem dX6_pass_60 : decode cX6_pass 60 = .ok (.baload, 1) := by decide +kernel
theorem dX6_pass_61 : decode cX6_pass 61 = .ok (.ifCond .eq 42, 3) := by decide +kernel
theorem dX6_pass_64 : decode cX6_pass 64 = .ok (.aload_n 0, 1) := by decide +kernel
theorem dX6_pass_65 : decode cX6_pass 65 = .ok (.getfield 140, 3) := by decide +kernel
theorem dX6_pass_68 : decode cX6_pass 68 = .ok (.aload_n 0, 1) := by decide +kernel
theorem dX6_pass_69 : decode cX6_pass 69 = .ok (.getfield 33, 3) := by decide +kernel
theorem dX6_pass_72 : decode cX6_pass 72 = .ok (.iload_n 3, 1) := by decide +kernel
theorem dX6_pass_73 : decode cX6_pass 73 = .ok (.iaload, 1) := by decide +kernel
theorem dX6_pass_74 : decode cX6_pass 74 = .ok (.isub, 1) := by decide +kernel
theorem dX6_pass_75 : decode cX6_pass 75 = .ok (.aload_n 0, 1) := by decide +kernel
theorem dX6_pass_76 : decode cX6_pass 76 = .ok (.getfield 36, 3) := by decide +kernel
theorem dX6_pass_79 : decode cX6_pass 79 = .ok (.iload_n 3, 1) := by decide +kernel
theorem dX6_pass_80 : decode cX6_pass 80 = .ok (.iaload, 1) := by decide +kernel
theorem dX6_pass_81 : decode cX6_pass 81 = .ok (.if_icmp .ne 22, 3) := by decide +kernel
theorem dX6_pass_84 : decode cX6_pass 84 = .ok (.aload_n 0, 1) := by decide +kernel
theorem dX6_pass_85 : decode cX6_pass 85 = .ok (.getfield 42, 3) := by decide +kernel
theorem dX6_pass_88 : decode cX6_pass 88 = .ok (.iload_n 3, 1) := by decide +kernel
theorem dX6_pass_89 : decode cX6_pass 89 = .ok (.iconst 0, 1) := by decide +kernel
theorem dX6_pass_90 : decode cX6_pass 90 = .ok (.bastore, 1) := by decide +kernel
theorem dX6_pass_91 : decode cX6_pass 91 = .ok (.aload_n 0, 1) := by decide +kernel
theorem dX6_pass_92 : decode cX6_pass 92 = .ok (.getfield 27, 3) := by decide +kernel
theorem dX6_pass_95 : decode cX6_pass 95 = .ok (.iload_n 3, 1) := by decide +kernel
theorem dX6_pass_96 : decode cX6_pass 96 = .ok (.aload_n 0, 1) := by decide +kernel
theorem dX6_pass_97 : decode cX6_pass 97 = .ok (.getfield 30, 3) := by decide +kernel
theorem dX6_pass_100 : decode cX6_pass 100 = .ok (.iload_n 3, 1) := by decide +kernel
theorem dX6_pass_101 : decode cX6_pass 101 = .ok (.iaload, 1) := by decide +kernel
theorem dX6_pass_102 : decode cX6_pass 102 = .ok (.iastore, 1) := by decide +kernel
theorem dX6_pass_103 : decode cX6_pass 103 = .ok (.iinc 3 1, 3) := by decide +kernel
theorem dX6_pass_106 : decode cX6_pass 106 = .ok (.goto (-57), 3) := by decide +kernel
theorem dX6_pass_109 : decode cX6_pass 109 = .ok (.iconst 0, 1) := by decide +kernel
theorem dX6_pass_110 : decode cX6_pass 110 = .ok (.istore_n 3, 1) := by decide +kernel
theorem dX6_pass_111 : decode cX6_pass 111 = .ok (.iload_n 3, 1) := by decide +kernel
theorem dX6_pass_112 : decode cX6_pass 112 = .ok (.bipush 12, 2) := by decide +kernel
theorem dX6_pass_114 : decode cX6_pass 114 = .ok (.if_icmp .ge 24, 3) := by decide +kernel
theorem dX6_pass_117 : decode cX6_pass 117 = .ok (.aload_n 0, 1) := by decide +kernel
theorem dX6_pass_118 : decode cX6_pass 118 = .ok (.dup, 1) := by decide +kernel
theorem dX6_pass_119 : decode cX6_pass 119 = .ok (.getfield 158, 3) := by decide +kernel
theorem dX6_pass_122 : decode cX6_pass 122 = .ok (.aload_n 0, 1) := by decide +kernel
theorem dX6_pass_123 : decode cX6_pass 123 = .ok (.iload_n 3, 1) := by decide +kernel
theorem dX6_pass_124 : decode cX6_pass 124 = .ok (.invokevirtual 162, 3) := by decide +kernel
theorem dX6_pass_127 : decode cX6_pass 127 = .ok (.i2l, 1) := by decide +kernel
theorem dX6_pass_128 : decode cX6_pass 128 = .ok (.ladd, 1) := by decide +kernel
theorem dX6_pass_129 : decode cX6_pass 129 = .ok (.putfield 158, 3) := by decide +kernel
theorem dX6_pass_132 : decode cX6_pass 132 = .ok (.iinc 3 1, 3) := by decide +kernel
theorem dX6_pass_135 : decode cX6_pass 135 = .ok (.goto (-24), 3) := by decide +kernel
theorem dX6_pass_138 : decode cX6_pass 138 = .ok (.iinc 2 1, 3) := by decide +kernel
theorem dX6_pass_141 : decode cX6_pass 141 = .ok (.goto (-109), 3) := by decide +kernel
theorem dX6_pass_144 : decode cX6_pass 144 = .ok (.aload_n 0, 1) := by decide +kernel
theorem dX6_pass_145 : decode cX6_pass 145 = .ok (.getfield 140, 3) := by decide +kernel
theorem dX6_pass_148 : decode cX6_pass 148 = .ok (.ireturn, 1) := by decide +kernel
theorem dX6_currentCue_0 : decode cX6_currentCue 0 = .ok (.aload_n 0, 1) := by decide +kernel
theorem dX6_currentCue_1 : decode cX6_currentCue 1 = .ok (.iconst 0, 1) := by decide +kernel
theorem dX6_currentCue_2 : decode cX6_currentCue 2 = .ok (.putfield 98, 3) := by decide +kernel
theorem dX6_currentCue_5 : decode cX6_currentCue 5 = .ok (.aload_n 0, 1) := by decide +kernel
theorem dX6_currentCue_6 : decode cX6_currentCue 6 = .ok (.getfield 143, 3) := by decide +kernel
theorem dX6_currentCue_9 : decode cX6_currentCue 9 = .ok (.ireturn, 1) := by decide +kernel
set_option maxRecDepth 20000 in
theorem ggX6_cueLevel_X6_isChannel : GoodIn wsX6_cueLevel wsX6_isChannel := goodIn_r _ [5, 6, 7, 8, 4, 9] (by decide +kernel) (by decide +kernel)
set_option maxRecDepth 20000 in
theorem gX6_cueLevel_X6_isChannel : GoodIn wsX6_cueLevel (va_wsS RX6 124 yX6_isChannel wsX6_isChannel) := goodIn_app (goodIn_of _ (by decide +kernel)) ggX6_cueLevel_X6_isChannel
set_option maxRecDepth 20000 in
theorem ggX6_cueLevel_X6_faded : GoodIn wsX6_cueLevel wsX6_faded := goodIn_ca (goodIn_ca (goodIn_r _ [13, 14, 15, 16, 17, 18, 19, 20, 21, 22, 23, 24, 25, 26, 27, 28, 29, 30, 31, 32, 33, 34, 35, 36, 37, 38, 39, 40, 41, 42, 43, 44, 45, 46, 47, 48, 49, 50, 51, 52, 53, 54, 55, 56] (by decide +kernel) (by decide +kernel)) (goodIn_sub (fun _ h => List.mem_cons_of_mem _ (List.mem_append_left _ (List.mem_append_right _ h))) (by decide +kernel))) (goodIn_sub (fun _ h => List.mem_cons_of_mem _ (List.mem_append_right _ h)) (by decide +kernel))
set_option maxRecDepth 20000 in
theorem gX6_cueLevel_X6_faded : GoodIn wsX6_cueLevel (wsV RX6 146 RX6 yX6_faded wsX6_faded) := goodIn_app (goodIn_of _ (by decide +kernel)) ggX6_cueLevel_X6_faded
theorem dX6_cueLevel_0 : decode cX6_cueLevel 0 = .ok (.aload_n 0, 1) := by decide +kernel
theorem dX6_cueLevel_1 : decode cX6_cueLevel 1 = .ok (.iload_n 1, 1) := by decide +kernel
theorem dX6_cueLevel_2 : decode cX6_cueLevel 2 = .ok (.invokestatic 124, 3) := by decide +kernel
theorem dX6_cueLevel_5 : decode cX6_cueLevel 5 = .ok (.ifCond .eq 7, 3) := by decide +kernel
theorem dX6_cueLevel_8 : decode cX6_cueLevel 8 = .ok (.iconst 0, 1) := by decide +kernel
theorem dX6_cueLevel_9 : decode cX6_cueLevel 9 = .ok (.goto 4, 3) := by decide +kernel
theorem dX6_cueLevel_12 : decode cX6_cueLevel 12 = .ok (.iconst 1, 1) := by decide +kernel
theorem dX6_cueLevel_13 : decode cX6_cueLevel 13 = .ok (.putfield 98, 3) := by decide +kernel
theorem dX6_cueLevel_16 : decode cX6_cueLevel 16 = .ok (.aload_n 0, 1) := by decide +kernel
theorem dX6_cueLevel_17 : decode cX6_cueLevel 17 = .ok (.getfield 98, 3) := by decide +kernel
theorem dX6_cueLevel_20 : decode cX6_cueLevel 20 = .ok (.ifCond .ne 11, 3) := by decide +kernel
theorem dX6_cueLevel_23 : decode cX6_cueLevel 23 = .ok (.aload_n 0, 1) := by decide +kernel
theorem dX6_cueLevel_24 : decode cX6_cueLevel 24 = .ok (.iload_n 1, 1) := by decide +kernel
theorem dX6_cueLevel_25 : decode cX6_cueLevel 25 = .ok (.invokevirtual 146, 3) := by decide +kernel
theorem dX6_cueLevel_28 : decode cX6_cueLevel 28 = .ok (.goto 4, 3) := by decide +kernel
theorem dX6_cueLevel_31 : decode cX6_cueLevel 31 = .ok (.iconst (-1), 1) := by decide +kernel
theorem dX6_cueLevel_32 : decode cX6_cueLevel 32 = .ok (.ireturn, 1) := by decide +kernel
theorem dX6_ticksLeft_0 : decode cX6_ticksLeft 0 = .ok (.aload_n 0, 1) := by decide +kernel
theorem dX6_ticksLeft_1 : decode cX6_ticksLeft 1 = .ok (.iconst 0, 1) := by decide +kernel
theorem dX6_ticksLeft_2 : decode cX6_ticksLeft 2 = .ok (.putfield 98, 3) := by decide +kernel
theorem dX6_ticksLeft_5 : decode cX6_ticksLeft 5 = .ok (.iconst 0, 1) := by decide +kernel
theorem dX6_ticksLeft_6 : decode cX6_ticksLeft 6 = .ok (.istore_n 1, 1) := by decide +kernel
theorem dX6_ticksLeft_7 : decode cX6_ticksLeft 7 = .ok (.iconst 0, 1) := by decide +kernel
theorem dX6_ticksLeft_8 : decode cX6_ticksLeft 8 = .ok (.istore_n 2, 1) := by decide +kernel
theorem dX6_ticksLeft_9 : decode cX6_ticksLeft 9 = .ok (.iload_n 2, 1) := by decide +kernel
theorem dX6_ticksLeft_10 : decode cX6_ticksLeft 10 = .ok (.bipush 12, 2) := by decide +kernel
theorem dX6_ticksLeft_12 : decode cX6_ticksLeft 12 = .ok (.if_icmp .ge 45, 3) := by decide +kernel
theorem dX6_ticksLeft_15 : decode cX6_ticksLeft 15 = .ok (.iload_n 1, 1) := by decide +kernel
theorem dX6_ticksLeft_16 : decode cX6_ticksLeft 16 = .ok (.aload_n 0, 1) := by decide +kernel
theorem dX6_ticksLeft_17 : decode cX6_ticksLeft 17 = .ok (.getfield 42, 3) := by decide +kernel
theorem dX6_ticksLeft_20 : decode cX6_ticksLeft 20 = .ok (.iload_n 2, 1) := by decide +kernel
theorem dX6_ticksLeft_21 : decode cX6_ticksLeft 21 = .ok (.baload, 1) := by decide +kernel
theorem dX6_ticksLeft_22 : decode cX6_ticksLeft 22 = .ok (.ifCond .eq 24, 3) := by decide +kernel
theorem dX6_ticksLeft_25 : decode cX6_ticksLeft 25 = .ok (.aload_n 0, 1) := by decide +kernel
theorem dX6_ticksLeft_26 : decode cX6_ticksLeft 26 = .ok (.getfield 36, 3) := by decide +kernel
theorem dX6_ticksLeft_29 : decode cX6_ticksLeft 29 = .ok (.iload_n 2, 1) := by decide +kernel
theorem dX6_ticksLeft_30 : decode cX6_ticksLeft 30 = .ok (.iaload, 1) := by decide +kernel
theorem dX6_ticksLeft_31 : decode cX6_ticksLeft 31 = .ok (.aload_n 0, 1) := by decide +kernel
theorem dX6_ticksLeft_32 : decode cX6_ticksLeft 32 = .ok (.getfield 140, 3) := by decide +kernel
theorem dX6_ticksLeft_35 : decode cX6_ticksLeft 35 = .ok (.aload_n 0, 1) := by decide +kernel
theorem dX6_ticksLeft_36 : decode cX6_ticksLeft 36 = .ok (.getfield 33, 3) := by decide +kernel
theorem dX6_ticksLeft_39 : decode cX6_ticksLeft 39 = .ok (.iload_n 2, 1) := by decide +kernel
theorem dX6_ticksLeft_40 : decode cX6_ticksLeft 40 = .ok (.iaload, 1) := by decide +kernel
theorem dX6_ticksLeft_41 : decode cX6_ticksLeft 41 = .ok (.isub, 1) := by decide +kernel
theorem dX6_ticksLeft_42 : decode cX6_ticksLeft 42 = .ok (.isub, 1) := by decide +kernel
theorem dX6_ticksLeft_43 : decode cX6_ticksLeft 43 = .ok (.goto 4, 3) := by decide +kernel
theorem dX6_ticksLeft_46 : decode cX6_ticksLeft 46 = .ok (.iconst 0, 1) := by decide +kernel
theorem dX6_ticksLeft_47 : decode cX6_ticksLeft 47 = .ok (.invokestatic 131, 3) := by decide +kernel
theorem dX6_ticksLeft_50 : decode cX6_ticksLeft 50 = .ok (.istore_n 1, 1) := by decide +kernel
theorem dX6_ticksLeft_51 : decode cX6_ticksLeft 51 = .ok (.iinc 2 1, 3) := by decide +kernel
theorem dX6_ticksLeft_54 : decode cX6_ticksLeft 54 = .ok (.goto (-45), 3) := by decide +kernel
theorem dX6_ticksLeft_57 : decode cX6_ticksLeft 57 = .ok (.iload_n 1, 1) := by decide +kernel
theorem dX6_ticksLeft_58 : decode cX6_ticksLeft 58 = .ok (.ireturn, 1) := by decide +kernel
set_option maxRecDepth 20000 in
theorem ggX6_isGroup_X6_in : GoodIn wsX6_isGroup wsX6_in := goodIn_r _ [5] (by decide +kernel) (by decide +kernel)
set_option maxRecDepth 20000 in
theorem gX6_isGroup_X6_in : GoodIn wsX6_isGroup (va_wsS RX6 103 yX6_in wsX6_in) := goodIn_app (goodIn_of _ (by decide +kernel)) ggX6_isGroup_X6_in
theorem dX6_isGroup_0 : decode cX6_isGroup 0 = .ok (.iload_n 1, 1) := by decide +kernel
theorem dX6_isGroup_1 : decode cX6_isGroup 1 = .ok (.i2l, 1) := by decide +kernel
theorem dX6_isGroup_2 : decode cX6_isGroup 2 = .ok (.lconst 0, 1) := by decide +kernel
theorem dX6_isGroup_3 : decode cX6_isGroup 3 = .ok (.aload_n 0, 1) := by decide +kernel
theorem dX6_isGroup_4 : decode cX6_isGroup 4 = .ok (.getfield 165, 3) := by decide +kernel
theorem dX6_isGroup_7 : decode cX6_isGroup 7 = .ok (.iconst 1, 1) := by decide +kernel
theorem dX6_isGroup_8 : decode cX6_isGroup 8 = .ok (.isub, 1) := by decide +kernel
theorem dX6_isGroup_9 : decode cX6_isGroup 9 = .ok (.i2l, 1) := by decide +kernel
theorem dX6_isGroup_10 : decode cX6_isGroup 10 = .ok (.invokestatic 103, 3) := by decide +kernel
theorem dX6_isGroup_13 : decode cX6_isGroup 13 = .ok (.ireturn, 1) := by decide +kernel
theorem dX6_addGroup_0 : decode cX6_addGroup 0 = .ok (.aload_n 0, 1) := by decide +kernel
theorem dX6_addGroup_1 : decode cX6_addGroup 1 = .ok (.aload_n 0, 1) := by decide +kernel
theorem dX6_addGroup_2 : decode cX6_addGroup 2 = .ok (.getfield 165, 3) := by decide +kernel
theorem dX6_addGroup_5 : decode cX6_addGroup 5 = .ok (.iconst 5, 1) := by decide +kernel
theorem dX6_addGroup_6 : decode cX6_addGroup 6 = .ok (.if_icmp .ne 7, 3) := by decide +kernel
theorem dX6_addGroup_9 : decode cX6_addGroup 9 = .ok (.iconst 1, 1) := by decide +kernel
theorem dX6_addGroup_10 : decode cX6_addGroup 10 = .ok (.goto 4, 3) := by decide +kernel
theorem dX6_addGroup_13 : decode cX6_addGroup 13 = .ok (.iconst 0, 1) := by decide +kernel
theorem dX6_addGroup_14 : decode cX6_addGroup 14 = .ok (.putfield 98, 3) := by decide +kernel
theorem dX6_addGroup_17 : decode cX6_addGroup 17 = .ok (.aload_n 0, 1) := by decide +kernel
theorem dX6_addGroup_18 : decode cX6_addGroup 18 = .ok (.getfield 98, 3) := by decide +kernel
theorem dX6_addGroup_21 : decode cX6_addGroup 21 = .ok (.ifCond .le 5, 3) := by decide +kernel
theorem dX6_addGroup_24 : decode cX6_addGroup 24 = .ok (.iconst (-1), 1) := by decide +kernel
theorem dX6_addGroup_25 : decode cX6_addGroup 25 = .ok (.ireturn, 1) := by decide +kernel
theorem dX6_addGroup_26 : decode cX6_addGroup 26 = .ok (.aload_n 0, 1) := by decide +kernel
theorem dX6_addGroup_27 : decode cX6_addGroup 27 = .ok (.dup, 1) := by decide +kernel
theorem dX6_addGroup_28 : decode cX6_addGroup 28 = .ok (.getfield 165, 3) := by decide +kernel
theorem dX6_addGroup_31 : decode cX6_addGroup 31 = .ok (.iconst 1, 1) := by decide +kernel
theorem dX6_addGroup_32 : decode cX6_addGroup 32 = .ok (.iadd, 1) := by decide +kernel
theorem dX6_addGroup_33 : decode cX6_addGroup 33 = .ok (.putfield 165, 3) := by decide +kernel
theorem dX6_addGroup_36 : decode cX6_addGroup 36 = .ok (.aload_n 0, 1) := by decide +kernel
theorem dX6_addGroup_37 : decode cX6_addGroup 37 = .ok (.getfield 165, 3) := by decide +kernel
theorem dX6_addGroup_40 : decode cX6_addGroup 40 = .ok (.iconst 1, 1) := by decide +kernel
theorem dX6_addGroup_41 : decode cX6_addGroup 41 = .ok (.isub, 1) := by decide +kernel
theorem dX6_addGroup_42 : decode cX6_addGroup 42 = .ok (.ireturn, 1) := by decide +kernel
theorem dX6_isMember_0 : decode cX6_isMember 0 = .ok (.aload_n 0, 1) := by decide +kernel
theorem dX6_isMember_1 : decode cX6_isMember 1 = .ok (.getfield 54, 3) := by decide +kernel
theorem dX6_isMember_4 : decode cX6_isMember 4 = .ok (.iload_n 1, 1) := by decide +kernel
theorem dX6_isMember_5 : decode cX6_isMember 5 = .ok (.iaload, 1) := by decide +kernel
theorem dX6_isMember_6 : decode cX6_isMember 6 = .ok (.iload_n 2, 1) := by decide +kernel
theorem dX6_isMember_7 : decode cX6_isMember 7 = .ok (.ishr, 1) := by decide +kernel
theorem dX6_isMember_8 : decode cX6_isMember 8 = .ok (.iconst 1, 1) := by decide +kernel
theorem dX6_isMember_9 : decode cX6_isMember 9 = .ok (.iand, 1) := by decide +kernel
theorem dX6_isMember_10 : decode cX6_isMember 10 = .ok (.iconst 1, 1) := by decide +kernel
theorem dX6_isMember_11 : decode cX6_isMember 11 = .ok (.if_icmp .ne 7, 3) := by decide +kernel
theorem dX6_isMember_14 : decode cX6_isMember 14 = .ok (.iconst 1, 1) := by decide +kernel
theorem dX6_isMember_15 : decode cX6_isMember 15 = .ok (.goto 4, 3) := by decide +kernel
theorem dX6_isMember_18 : decode cX6_isMember 18 = .ok (.iconst 0, 1) := by decide +kernel
theorem dX6_isMember_19 : decode cX6_isMember 19 = .ok (.ireturn, 1) := by decide +kernel
set_option maxRecDepth 20000 in
theorem ggX6_setMember_X6_isGroup : GoodIn wsX6_setMember wsX6_isGroup := goodIn_r _ [7, 8, 9, 10, 6, 11, 20, 21, 22, 23, 24, 25, 26, 27, 28, 29, 30, 31, 32, 33, 34, 35, 36, 37, 38, 39, 40, 41, 42, 43, 44, 45, 46, 47, 48, 49, 50, 51, 52, 53, 54, 55] (by decide +kernel) (by decide +kernel)
set_option maxRecDepth 20000 in
theorem gX6_setMember_X6_isGroup : GoodIn wsX6_setMember (wsV RX6 168 RX6 yX6_isGroup wsX6_isGroup) := goodIn_app (goodIn_of _ (by decide +kernel)) ggX6_setMember_X6_isGroup
set_option maxRecDepth 20000 in
theorem ggX6_setMember_X6_isChannel : GoodIn wsX6_setMember wsX6_isChannel := goodIn_r _ [14, 15, 9, 10, 6, 11] (by decide +kernel) (by decide +kernel)
set_option maxRecDepth 20000 in
theorem gX6_setMember_X6_isChannel : GoodIn wsX6_setMember (va_wsS RX6 124 yX6_isChannel wsX6_isChannel) := goodIn_app (goodIn_of _ (by decide +kernel)) ggX6_setMember_X6_isChannel
set_option maxRecDepth 20000 in
theorem ggX6_setMember_X6_isMember : GoodIn wsX6_setMember wsX6_isMember := goodIn_ca (goodIn_r _ [19, 2, 20, 21, 22, 23, 24, 25, 26, 27, 28, 29, 30, 31, 32, 33, 34, 35, 36, 37, 38, 39, 40, 41, 42, 43, 44, 45, 46, 47, 48, 49, 50, 51, 52, 53, 54, 55] (by decide +kernel) (by decide +kernel)) (goodIn_sub (fun _ h => List.mem_cons_of_mem _ (List.mem_append_right _ h)) (by decide +kernel))
set_option maxRecDepth 20000 in
theorem gX6_setMember_X6_isMember : GoodIn wsX6_setMember (wsV RX6 171 RX6 yX6_isMember wsX6_isMember) := goodIn_app (goodIn_of _ (by decide +kernel)) ggX6_setMember_X6_isMember
theorem dX6_setMember_0 : decode cX6_setMember 0 = .ok (.aload_n 0, 1) := by decide +kernel
theorem dX6_setMember_1 : decode cX6_setMember 1 = .ok (.aload_n 0, 1) := by decide +kernel
theorem dX6_setMember_2 : decode cX6_setMember 2 = .ok (.iload_n 1, 1) := by decide +kernel
theorem dX6_setMember_3 : decode cX6_setMember 3 = .ok (.invokevirtual 168, 3) := by decide +kernel
theorem dX6_setMember_6 : decode cX6_setMember 6 = .ok (.ifCond .eq 14, 3) := by decide +kernel
theorem dX6_setMember_9 : decode cX6_setMember 9 = .ok (.iload_n 2, 1) := by decide +kernel
theorem dX6_setMember_10 : decode cX6_setMember 10 = .ok (.invokestatic 124, 3) := by decide +kernel
theorem dX6_setMember_13 : decode cX6_setMember 13 = .ok (.ifCond .eq 7, 3) := by decide +kernel
theorem dX6_setMember_16 : decode cX6_setMember 16 = .ok (.iconst 0, 1) := by decide +kernel
theorem dX6_setMember_17 : decode cX6_setMember 17 = .ok (.goto 4, 3) := by decide +kernel
theorem dX6_setMember_20 : decode cX6_setMember 20 = .ok (.iconst 1, 1) := by decide +kernel
theorem dX6_setMember_21 : decode cX6_setMember 21 = .ok (.putfield 98, 3) := by decide +kernel
theorem dX6_setMember_24 : decode cX6_setMember 24 = .ok (.aload_n 0, 1) := by decide +kernel
theorem dX6_setMember_25 : decode cX6_setMember 25 = .ok (.getfield 98, 3) := by decide +kernel
theorem dX6_setMember_28 : decode cX6_setMember 28 = .ok (.ifCond .ne 16, 3) := by decide +kernel
theorem dX6_setMember_31 : decode cX6_setMember 31 = .ok (.aload_n 0, 1) := by decide +kernel
theorem dX6_setMember_32 : decode cX6_setMember 32 = .ok (.iload_n 1, 1) := by decide +kernel
theorem dX6_setMember_33 : decode cX6_setMember 33 = .ok (.iload_n 2, 1) := by decide +kernel
theorem dX6_setMember_34 : decode cX6_setMember 34 = .ok (.invokevirtual 171, 3) := by decide +kernel
theorem dX6_setMember_37 : decode cX6_setMember 37 = .ok (.ifCond .eq 7, 3) := by decide +kernel
theorem dX6_setMember_40 : decode cX6_setMember 40 = .ok (.iconst 1, 1) := by decide +kernel
theorem dX6_setMember_41 : decode cX6_setMember 41 = .ok (.goto 4, 3) := by decide +kernel
theorem dX6_setMember_44 : decode cX6_setMember 44 = .ok (.iconst 0, 1) := by decide +kernel
theorem dX6_setMember_45 : decode cX6_setMember 45 = .ok (.istore 4, 2) := by decide +kernel
theorem dX6_setMember_47 : decode cX6_setMember 47 = .ok (.aload_n 0, 1) := by decide +kernel
theorem dX6_setMember_48 : decode cX6_setMember 48 = .ok (.getfield 98, 3) := by decide +kernel
theorem dX6_setMember_51 : decode cX6_setMember 51 = .ok (.ifCond .ne 21, 3) := by decide +kernel
theorem dX6_setMember_54 : decode cX6_setMember 54 = .ok (.iload 4, 2) := by decide +kernel
theorem dX6_setMember_56 : decode cX6_setMember 56 = .ok (.iload_n 3, 1) := by decide +kernel
theorem dX6_setMember_57 : decode cX6_setMember 57 = .ok (.if_icmp .eq 15, 3) := by decide +kernel
theorem dX6_setMember_60 : decode cX6_setMember 60 = .ok (.aload_n 0, 1) := by decide +kernel
theorem dX6_setMember_61 : decode cX6_setMember 61 = .ok (.getfield 54, 3) := by decide +kernel
theorem dX6_setMember_64 : decode cX6_setMember 64 = .ok (.iload_n 1, 1) := by decide +kernel
theorem dX6_setMember_65 : decode cX6_setMember 65 = .ok (.dup2, 1) := by decide +kernel
theorem dX6_setMember_66 : decode cX6_setMember 66 = .ok (.iaload, 1) := by decide +kernel
theorem dX6_setMember_67 : decode cX6_setMember 67 = .ok (.iconst 1, 1) := by decide +kernel
theorem dX6_setMember_68 : decode cX6_setMember 68 = .ok (.iload_n 2, 1) := by decide +kernel
theorem dX6_setMember_69 : decode cX6_setMember 69 = .ok (.ishl, 1) := by decide +kernel
theorem dX6_setMember_70 : decode cX6_setMember 70 = .ok (.ixor, 1) := by decide +kernel
theorem dX6_setMember_71 : decode cX6_setMember 71 = .ok (.iastore, 1) := by decide +kernel
theorem dX6_setMember_72 : decode cX6_setMember 72 = .ok (.iload 4, 2) := by decide +kernel
theorem dX6_setMember_74 : decode cX6_setMember 74 = .ok (.ireturn, 1) := by decide +kernel
set_option maxRecDepth 20000 in
theorem ggX6_setFader_X6_isGroup : GoodIn wsX6_setFader wsX6_isGroup := goodIn_r _ [8, 9, 10, 11, 7, 12, 22, 23, 24, 25, 26, 27, 28, 29, 30, 31, 32, 33, 34, 35, 36, 37, 38, 39, 40, 41, 42, 43, 44, 45, 46, 47, 48, 49, 50, 51, 52, 53, 54, 55, 56, 57] (by decide +kernel) (by decide +kernel)
set_option maxRecDepth 20000 in
theorem gX6_setFader_X6_isGroup : GoodIn wsX6_setFader (wsV RX6 168 RX6 yX6_isGroup wsX6_isGroup) := goodIn_app (goodIn_of _ (by decide +kernel)) ggX6_setFader_X6_isGroup
set_option maxRecDepth 20000 in
theorem ggX6_setFader_X6_isLevel : GoodIn wsX6_setFader wsX6_isLevel := goodIn_r _ [15, 16, 10, 11, 7, 12] (by decide +kernel) (by decide +kernel)
set_option maxRecDepth 20000 in
theorem gX6_setFader_X6_isLevel : GoodIn wsX6_setFader (va_wsS RX6 128 yX6_isLevel wsX6_isLevel) := goodIn_app (goodIn_of _ (by decide +kernel)) ggX6_setFader_X6_isLevel
set_option maxRecDepth 20000 in
theorem ggX6_setFader_X6_isMember : GoodIn wsX6_setFader wsX6_isMember := goodIn_ca (goodIn_r _ [20, 21, 22, 23, 24, 25, 26, 27, 28, 29, 30, 31, 32, 33, 34, 35, 36, 37, 38, 39, 40, 41, 42, 43, 44, 45, 46, 47, 48, 49, 50, 51, 52, 53, 54, 55, 56, 57] (by decide +kernel) (by decide +kernel)) (goodIn_sub (fun _ h => List.mem_cons_of_mem _ (List.mem_append_right _ h)) (by decide +kernel))
set_option maxRecDepth 20000 in
theorem gX6_setFader_X6_isMember : GoodIn wsX6_setFader (wsV RX6 171 RX6 yX6_isMember wsX6_isMember) := goodIn_app (goodIn_of _ (by decide +kernel)) ggX6_setFader_X6_isMember
theorem dX6_setFader_0 : decode cX6_setFader 0 = .ok (.aload_n 0, 1) := by decide +kernel
theorem dX6_setFader_1 : decode cX6_setFader 1 = .ok (.aload_n 0, 1) := by decide +kernel
theorem dX6_setFader_2 : decode cX6_setFader 2 = .ok (.iload_n 1, 1) := by decide +kernel
theorem dX6_setFader_3 : decode cX6_setFader 3 = .ok (.invokevirtual 168, 3) := by decide +kernel
theorem dX6_setFader_6 : decode cX6_setFader 6 = .ok (.ifCond .ne 7, 3) := by decide +kernel
theorem dX6_setFader_9 : decode cX6_setFader 9 = .ok (.iconst 1, 1) := by decide +kernel
theorem dX6_setFader_10 : decode cX6_setFader 10 = .ok (.goto 15, 3) := by decide +kernel
theorem dX6_setFader_13 : decode cX6_setFader 13 = .ok (.iload_n 2, 1) := by decide +kernel
theorem dX6_setFader_14 : decode cX6_setFader 14 = .ok (.invokestatic 128, 3) := by decide +kernel
theorem dX6_setFader_17 : decode cX6_setFader 17 = .ok (.ifCond .ne 7, 3) := by decide +kernel
theorem dX6_setFader_20 : decode cX6_setFader 20 = .ok (.iconst 2, 1) := by decide +kernel
theorem dX6_setFader_21 : decode cX6_setFader 21 = .ok (.goto 4, 3) := by decide +kernel
theorem dX6_setFader_24 : decode cX6_setFader 24 = .ok (.iconst 0, 1) := by decide +kernel
theorem dX6_setFader_25 : decode cX6_setFader 25 = .ok (.putfield 98, 3) := by decide +kernel
theorem dX6_setFader_28 : decode cX6_setFader 28 = .ok (.aload_n 0, 1) := by decide +kernel
theorem dX6_setFader_29 : decode cX6_setFader 29 = .ok (.getfield 98, 3) := by decide +kernel
theorem dX6_setFader_32 : decode cX6_setFader 32 = .ok (.ifCond .le 5, 3) := by decide +kernel
theorem dX6_setFader_35 : decode cX6_setFader 35 = .ok (.iconst (-1), 1) := by decide +kernel
theorem dX6_setFader_36 : decode cX6_setFader 36 = .ok (.ireturn, 1) := by decide +kernel
theorem dX6_setFader_37 : decode cX6_setFader 37 = .ok (.aload_n 0, 1) := by decide +kernel
theorem dX6_setFader_38 : decode cX6_setFader 38 = .ok (.getfield 57, 3) := by decide +kernel
theorem dX6_setFader_41 : decode cX6_setFader 41 = .ok (.iload_n 1, 1) := by decide +kernel
theorem dX6_setFader_42 : decode cX6_setFader 42 = .ok (.iaload, 1) := by decide +kernel
theorem dX6_setFader_43 : decode cX6_setFader 43 = .ok (.istore_n 3, 1) := by decide +kernel
theorem dX6_setFader_44 : decode cX6_setFader 44 = .ok (.aload_n 0, 1) := by decide +kernel
theorem dX6_setFader_45 : decode cX6_setFader 45 = .ok (.getfield 57, 3) := by decide +kernel
theorem dX6_setFader_48 : decode cX6_setFader 48 = .ok (.iload_n 1, 1) := by decide +kernel
theorem dX6_setFader_49 : decode cX6_setFader 49 = .ok (.iload_n 2, 1) := by decide +kernel
theorem dX6_setFader_50 : decode cX6_setFader 50 = .ok (.iastore, 1) := by decide +kernel
theorem dX6_setFader_51 : decode cX6_setFader 51 = .ok (.iconst 0, 1) := by decide +kernel
theorem dX6_setFader_52 : decode cX6_setFader 52 = .ok (.istore 4, 2) := by decide +kernel
theorem dX6_setFader_54 : decode cX6_setFader 54 = .ok (.iload 4, 2) := by decide +kernel
theorem dX6_setFader_56 : decode cX6_setFader 56 = .ok (.bipush 12, 2) := by decide +kernel
theorem dX6_setFader_58 : decode cX6_setFader 58 = .ok (.if_icmp .ge 37, 3) := by decide +kernel
theorem dX6_setFader_61 : decode cX6_setFader 61 = .ok (.aload_n 0, 1) := by decide +kernel
theorem dX6_setFader_62 : decode cX6_setFader 62 = .ok (.getfield 48, 3) := by decide +kernel
theorem dX6_setFader_65 : decode cX6_setFader 65 = .ok (.iload 4, 2) := by decide +kernel
theorem dX6_setFader_67 : decode cX6_setFader 67 = .ok (.aload_n 0, 1) := by decide +kernel
theorem dX6_setFader_68 : decode cX6_setFader 68 = .ok (.iload_n 1, 1) := by decide +kernel
theorem dX6_setFader_69 : decode cX6_setFader 69 = .ok (.iload 4, 2) := by decide +kernel
theorem dX6_setFader_71 : decode cX6_setFader 71 = .ok (.invokevirtual 171, 3) := by decide +kernel
theorem dX6_setFader_74 : decode cX6_setFader 74 = .ok (.ifCond .eq 7, 3) := by decide +kernel
theorem dX6_setFader_77 : decode cX6_setFader 77 = .ok (.iload_n 1, 1) := by decide +kernel
theorem dX6_setFader_78 : decode cX6_setFader 78 = .ok (.goto 10, 3) := by decide +kernel
theorem dX6_setFader_81 : decode cX6_setFader 81 = .ok (.aload_n 0, 1) := by decide +kernel
theorem dX6_setFader_82 : decode cX6_setFader 82 = .ok (.getfield 48, 3) := by decide +kernel
theorem dX6_setFader_85 : decode cX6_setFader 85 = .ok (.iload 4, 2) := by decide +kernel
theorem dX6_setFader_87 : decode cX6_setFader 87 = .ok (.iaload, 1) := by decide +kernel
theorem dX6_setFader_88 : decode cX6_setFader 88 = .ok (.iastore, 1) := by decide +kernel
theorem dX6_setFader_89 : decode cX6_setFader 89 = .ok (.iinc 4 1, 3) := by decide +kernel
theorem dX6_setFader_92 : decode cX6_setFader 92 = .ok (.goto (-38), 3) := by decide +kernel
theorem dX6_setFader_95 : decode cX6_setFader 95 = .ok (.iload_n 3, 1) := by decide +kernel
theorem dX6_setFader_96 : decode cX6_setFader 96 = .ok (.ireturn, 1) := by decide +kernel
set_option maxRecDepth 20000 in
theorem ggX6_setLatest_X6_isChannel : GoodIn wsX6_setLatest wsX6_isChannel := goodIn_r _ [6, 7, 8, 9, 5, 10] (by decide +kernel) (by decide +kernel)
set_option maxRecDepth 20000 in
theorem gX6_setLatest_X6_isChannel : GoodIn wsX6_setLatest (va_wsS RX6 124 yX6_isChannel wsX6_isChannel) := goodIn_app (goodIn_of _ (by decide +kernel)) ggX6_setLatest_X6_isChannel
theorem dX6_setLatest_0 : decode cX6_setLatest 0 = .ok (.aload_n 0, 1) := by decide +kernel
theorem dX6_setLatest_1 : decode cX6_setLatest 1 = .ok (.iload_n 1, 1) := by decide +kernel
theorem dX6_setLatest_2 : decode cX6_setLatest 2 = .ok (.invokestatic 124, 3) := by decide +kernel
theorem dX6_setLatest_5 : decode cX6_setLatest 5 = .ok (.ifCond .eq 7, 3) := by decide +kernel
theorem dX6_setLatest_8 : decode cX6_setLatest 8 = .ok (.iconst 0, 1) := by decide +kernel
theorem dX6_setLatest_9 : decode cX6_setLatest 9 = .ok (.goto 4, 3) := by decide +kernel
theorem dX6_setLatest_12 : decode cX6_setLatest 12 = .ok (.iconst 1, 1) := by decide +kernel
theorem dX6_setLatest_13 : decode cX6_setLatest 13 = .ok (.putfield 98, 3) := by decide +kernel
theorem dX6_setLatest_16 : decode cX6_setLatest 16 = .ok (.aload_n 0, 1) := by decide +kernel
theorem dX6_setLatest_17 : decode cX6_setLatest 17 = .ok (.getfield 98, 3) := by decide +kernel
theorem dX6_setLatest_20 : decode cX6_setLatest 20 = .ok (.ifCond .ne 16, 3) := by decide +kernel
theorem dX6_setLatest_23 : decode cX6_setLatest 23 = .ok (.aload_n 0, 1) := by decide +kernel
theorem dX6_setLatest_24 : decode cX6_setLatest 24 = .ok (.getfield 45, 3) := by decide +kernel
theorem dX6_setLatest_27 : decode cX6_setLatest 27 = .ok (.iload_n 1, 1) := by decide +kernel
theorem dX6_setLatest_28 : decode cX6_setLatest 28 = .ok (.baload, 1) := by decide +kernel
theorem dX6_setLatest_29 : decode cX6_setLatest 29 = .ok (.ifCond .eq 7, 3) := by decide +kernel
theorem dX6_setLatest_32 : decode cX6_setLatest 32 = .ok (.iconst 1, 1) := by decide +kernel
theorem dX6_setLatest_33 : decode cX6_setLatest 33 = .ok (.goto 4, 3) := by decide +kernel
theorem dX6_setLatest_36 : decode cX6_setLatest 36 = .ok (.iconst 0, 1) := by decide +kernel
theorem dX6_setLatest_37 : decode cX6_setLatest 37 = .ok (.istore_n 3, 1) := by decide +kernel
theorem dX6_setLatest_38 : decode cX6_setLatest 38 = .ok (.aload_n 0, 1) := by decide +kernel
theorem dX6_setLatest_39 : decode cX6_setLatest 39 = .ok (.getfield 98, 3) := by decide +kernel
theorem dX6_setLatest_42 : decode cX6_setLatest 42 = .ok (.ifCond .ne 10, 3) := by decide +kernel
theorem dX6_setLatest_45 : decode cX6_setLatest 45 = .ok (.aload_n 0, 1) := by decide +kernel
theorem dX6_setLatest_46 : decode cX6_setLatest 46 = .ok (.getfield 45, 3) := by decide +kernel
theorem dX6_setLatest_49 : decode cX6_setLatest 49 = .ok (.iload_n 1, 1) := by decide +kernel
theorem dX6_setLatest_50 : decode cX6_setLatest 50 = .ok (.iload_n 2, 1) := by decide +kernel
theorem dX6_setLatest_51 : decode cX6_setLatest 51 = .ok (.bastore, 1) := by decide +kernel
theorem dX6_setLatest_52 : decode cX6_setLatest 52 = .ok (.iload_n 3, 1) := by decide +kernel
theorem dX6_setLatest_53 : decode cX6_setLatest 53 = .ok (.ireturn, 1) := by decide +kernel
set_option maxRecDepth 20000 in
theorem ggX6_latestSource_X6_isChannel : GoodIn wsX6_latestSource wsX6_isChannel := goodIn_r _ [6, 7, 8, 9, 5, 10] (by decide +kernel) (by decide +kernel)
set_option maxRecDepth 20000 in
theorem gX6_latestSource_X6_isChannel : GoodIn wsX6_latestSource (va_wsS RX6 124 yX6_isChannel wsX6_isChannel) := goodIn_app (goodIn_of _ (by decide +kernel)) ggX6_latestSource_X6_isChannel
theorem dX6_latestSource_0 : decode cX6_latestSource 0 = .ok (.aload_n 0, 1) := by decide +kernel
theorem dX6_latestSource_1 : decode cX6_latestSource 1 = .ok (.iload_n 1, 1) := by decide +kernel
theorem dX6_latestSource_2 : decode cX6_latestSource 2 = .ok (.invokestatic 124, 3) := by decide +kernel
theorem dX6_latestSource_5 : decode cX6_latestSource 5 = .ok (.ifCond .ne 7, 3) := by decide +kernel
theorem dX6_latestSource_8 : decode cX6_latestSource 8 = .ok (.iconst 1, 1) := by decide +kernel
theorem dX6_latestSource_9 : decode cX6_latestSource 9 = .ok (.goto 19, 3) := by decide +kernel
theorem dX6_latestSource_12 : decode cX6_latestSource 12 = .ok (.aload_n 0, 1) := by decide +kernel
theorem dX6_latestSource_13 : decode cX6_latestSource 13 = .ok (.getfield 48, 3) := by decide +kernel
theorem dX6_latestSource_16 : decode cX6_latestSource 16 = .ok (.iload_n 1, 1) := by decide +kernel
theorem dX6_latestSource_17 : decode cX6_latestSource 17 = .ok (.iaload, 1) := by decide +kernel
theorem dX6_latestSource_18 : decode cX6_latestSource 18 = .ok (.bipush (-2), 2) := by decide +kernel
theorem dX6_latestSource_20 : decode cX6_latestSource 20 = .ok (.if_icmp .ne 7, 3) := by decide +kernel
theorem dX6_latestSource_23 : decode cX6_latestSource 23 = .ok (.iconst 2, 1) := by decide +kernel
theorem dX6_latestSource_24 : decode cX6_latestSource 24 = .ok (.goto 4, 3) := by decide +kernel
theorem dX6_latestSource_27 : decode cX6_latestSource 27 = .ok (.iconst 0, 1) := by decide +kernel
theorem dX6_latestSource_28 : decode cX6_latestSource 28 = .ok (.putfield 98, 3) := by decide +kernel
theorem dX6_latestSource_31 : decode cX6_latestSource 31 = .ok (.aload_n 0, 1) := by decide +kernel
theorem dX6_latestSource_32 : decode cX6_latestSource 32 = .ok (.getfield 98, 3) := by decide +kernel
theorem dX6_latestSource_35 : decode cX6_latestSource 35 = .ok (.ifCond .ne 12, 3) := by decide +kernel
theorem dX6_latestSource_38 : decode cX6_latestSource 38 = .ok (.aload_n 0, 1) := by decide +kernel
theorem dX6_latestSource_39 : decode cX6_latestSource 39 = .ok (.getfield 48, 3) := by decide +kernel
theorem dX6_latestSource_42 : decode cX6_latestSource 42 = .ok (.iload_n 1, 1) := by decide +kernel
theorem dX6_latestSource_43 : decode cX6_latestSource 43 = .ok (.iaload, 1) := by decide +kernel
theorem dX6_latestSource_44 : decode cX6_latestSource 44 = .ok (.goto 4, 3) := by decide +kernel
theorem dX6_latestSource_47 : decode cX6_latestSource 47 = .ok (.iconst (-1), 1) := by decide +kernel
theorem dX6_latestSource_48 : decode cX6_latestSource 48 = .ok (.ireturn, 1) := by decide +kernel
set_option maxRecDepth 20000 in
theorem ggX6_base_X6_faded : GoodIn wsX6_base wsX6_faded := goodIn_ca (goodIn_ca (goodIn_r _ [13, 14, 15, 16, 17, 18, 19, 20, 26, 27, 28, 29, 30, 31, 32, 33, 34, 35, 36, 37, 38, 39, 40, 41, 42, 43, 44, 45, 46, 47, 48, 49, 50, 51, 52, 53, 54, 55, 56, 57, 58, 59, 60, 61] (by decide +kernel) (by decide +kernel)) (goodIn_sub (fun _ h => List.mem_cons_of_mem _ (List.mem_append_left _ (List.mem_append_right _ h))) (by decide +kernel))) (goodIn_sub (fun _ h => List.mem_cons_of_mem _ (List.mem_append_right _ h)) (by decide +kernel))
set_option maxRecDepth 20000 in
theorem gX6_base_X6_faded : GoodIn wsX6_base (wsV RX6 146 RX6 yX6_faded wsX6_faded) := goodIn_app (goodIn_of _ (by decide +kernel)) ggX6_base_X6_faded
set_option maxRecDepth 20000 in
theorem ggX6_base_X6_isMember : GoodIn wsX6_base wsX6_isMember := goodIn_ca (goodIn_r _ [24, 25, 26, 27, 28, 29, 30, 31, 32, 33, 34, 35, 36, 37, 38, 39, 40, 41, 42, 43, 44, 45, 46, 47, 48, 49, 50, 51, 52, 53, 54, 55, 56, 57, 58, 59, 60, 61] (by decide +kernel) (by decide +kernel)) (goodIn_sub (fun _ h => List.mem_cons_of_mem _ (List.mem_append_left _ (List.mem_append_right _ h))) (by decide +kernel))
set_option maxRecDepth 20000 in
theorem gX6_base_X6_isMember : GoodIn wsX6_base (wsV RX6 171 RX6 yX6_isMember wsX6_isMember) := goodIn_app (goodIn_of _ (by decide +kernel)) ggX6_base_X6_isMember
theorem dX6_base_0 : decode cX6_base 0 = .ok (.aload_n 0, 1) := by decide +kernel
theorem dX6_base_1 : decode cX6_base 1 = .ok (.iload_n 1, 1) := by decide +kernel
theorem dX6_base_2 : decode cX6_base 2 = .ok (.invokevirtual 146, 3) := by decide +kernel
theorem dX6_base_5 : decode cX6_base 5 = .ok (.istore_n 2, 1) := by decide +kernel
theorem dX6_base_6 : decode cX6_base 6 = .ok (.aload_n 0, 1) := by decide +kernel
theorem dX6_base_7 : decode cX6_base 7 = .ok (.getfield 45, 3) := by decide +kernel
theorem dX6_base_10 : decode cX6_base 10 = .ok (.iload_n 1, 1) := by decide +kernel
theorem dX6_base_11 : decode cX6_base 11 = .ok (.baload, 1) := by decide +kernel
theorem dX6_base_12 : decode cX6_base 12 = .ok (.ifCond .eq 42, 3) := by decide +kernel
theorem dX6_base_15 : decode cX6_base 15 = .ok (.aload_n 0, 1) := by decide +kernel
theorem dX6_base_16 : decode cX6_base 16 = .ok (.getfield 48, 3) := by decide +kernel
theorem dX6_base_19 : decode cX6_base 19 = .ok (.iload_n 1, 1) := by decide +kernel
theorem dX6_base_20 : decode cX6_base 20 = .ok (.iaload, 1) := by decide +kernel
theorem dX6_base_21 : decode cX6_base 21 = .ok (.ifCond .lt 31, 3) := by decide +kernel
theorem dX6_base_24 : decode cX6_base 24 = .ok (.aload_n 0, 1) := by decide +kernel
theorem dX6_base_25 : decode cX6_base 25 = .ok (.aload_n 0, 1) := by decide +kernel
theorem dX6_base_26 : decode cX6_base 26 = .ok (.getfield 48, 3) := by decide +kernel
theorem dX6_base_29 : decode cX6_base 29 = .ok (.iload_n 1, 1) := by decide +kernel
theorem dX6_base_30 : decode cX6_base 30 = .ok (.iaload, 1) := by decide +kernel
theorem dX6_base_31 : decode cX6_base 31 = .ok (.iload_n 1, 1) := by decide +kernel
theorem dX6_base_32 : decode cX6_base 32 = .ok (.invokevirtual 171, 3) := by decide +kernel
theorem dX6_base_35 : decode cX6_base 35 = .ok (.ifCond .eq 17, 3) := by decide +kernel
theorem dX6_base_38 : decode cX6_base 38 = .ok (.aload_n 0, 1) := by decide +kernel
theorem dX6_base_39 : decode cX6_base 39 = .ok (.getfield 57, 3) := by decide +kernel
theorem dX6_base_42 : decode cX6_base 42 = .ok (.aload_n 0, 1) := by decide +kernel
theorem dX6_base_43 : decode cX6_base 43 = .ok (.getfield 48, 3) := by decide +kernel
theorem dX6_base_46 : decode cX6_base 46 = .ok (.iload_n 1, 1) := by decide +kernel
theorem dX6_base_47 : decode cX6_base 47 = .ok (.iaload, 1) := by decide +kernel
theorem dX6_base_48 : decode cX6_base 48 = .ok (.iaload, 1) := by decide +kernel
theorem dX6_base_49 : decode cX6_base 49 = .ok (.goto 4, 3) := by decide +kernel
theorem dX6_base_52 : decode cX6_base 52 = .ok (.iload_n 2, 1) := by decide +kernel
theorem dX6_base_53 : decode cX6_base 53 = .ok (.ireturn, 1) := by decide +kernel
theorem dX6_base_54 : decode cX6_base 54 = .ok (.iconst 0, 1) := by decide +kernel
theorem dX6_base_55 : decode cX6_base 55 = .ok (.istore_n 3, 1) := by decide +kernel
theorem dX6_base_56 : decode cX6_base 56 = .ok (.iload_n 3, 1) := by decide +kernel
theorem dX6_base_57 : decode cX6_base 57 = .ok (.aload_n 0, 1) := by decide +kernel
theorem dX6_base_58 : decode cX6_base 58 = .ok (.getfield 165, 3) := by decide +kernel
theorem dX6_base_61 : decode cX6_base 61 = .ok (.if_icmp .ge 33, 3) := by decide +kernel
theorem dX6_base_64 : decode cX6_base 64 = .ok (.aload_n 0, 1) := by decide +kernel
theorem dX6_base_65 : decode cX6_base 65 = .ok (.iload_n 3, 1) := by decide +kernel
theorem dX6_base_66 : decode cX6_base 66 = .ok (.iload_n 1, 1) := by decide +kernel
theorem dX6_base_67 : decode cX6_base 67 = .ok (.invokevirtual 171, 3) := by decide +kernel
theorem dX6_base_70 : decode cX6_base 70 = .ok (.ifCond .eq 16, 3) := by decide +kernel
theorem dX6_base_73 : decode cX6_base 73 = .ok (.iload_n 2, 1) := by decide +kernel
theorem dX6_base_74 : decode cX6_base 74 = .ok (.aload_n 0, 1) := by decide +kernel
theorem dX6_base_75 : decode cX6_base 75 = .ok (.getfield 57, 3) := by decide +kernel
theorem dX6_base_78 : decode cX6_base 78 = .ok (.iload_n 3, 1) := by decide +kernel
theorem dX6_base_79 : decode cX6_base 79 = .ok (.iaload, 1) := by decide +kernel
theorem dX6_base_80 : decode cX6_base 80 = .ok (.invokestatic 131, 3) := by decide +kernel
theorem dX6_base_83 : decode cX6_base 83 = .ok (.goto 4, 3) := by decide +kernel
theorem dX6_base_86 : decode cX6_base 86 = .ok (.iload_n 2, 1) := by decide +kernel
theorem dX6_base_87 : decode cX6_base 87 = .ok (.istore_n 2, 1) := by decide +kernel
theorem dX6_base_88 : decode cX6_base 88 = .ok (.iinc 3 1, 3) := by decide +kernel
theorem dX6_base_91 : decode cX6_base 91 = .ok (.goto (-35), 3) := by decide +kernel
theorem dX6_base_94 : decode cX6_base 94 = .ok (.iload_n 2, 1) := by decide +kernel
theorem dX6_base_95 : decode cX6_base 95 = .ok (.ireturn, 1) := by decide +kernel
set_option maxRecDepth 20000 in
theorem ggX6_baseLevel_X6_isChannel : GoodIn wsX6_baseLevel wsX6_isChannel := goodIn_r _ [5, 6, 7, 8, 4, 9] (by decide +kernel) (by decide +kernel)
set_option maxRecDepth 20000 in
theorem gX6_baseLevel_X6_isChannel : GoodIn wsX6_baseLevel (va_wsS RX6 124 yX6_isChannel wsX6_isChannel) := goodIn_app (goodIn_of _ (by decide +kernel)) ggX6_baseLevel_X6_isChannel
set_option maxRecDepth 20000 in
theorem ggX6_baseLevel_X6_base : GoodIn wsX6_baseLevel wsX6_base := goodIn_ca (goodIn_ca (goodIn_r _ [13, 14, 15, 16, 17, 18, 19, 20, 21, 22, 23, 24, 4, 25, 26, 27, 28, 29, 30, 31, 32, 33, 34, 35, 36, 37, 38, 39, 40, 41, 42, 43, 44, 45, 46, 47, 48, 49, 50, 51, 52, 53, 54, 55, 56, 57, 58, 59, 60, 61, 62, 63, 64, 65, 66, 67, 68, 69, 70, 71, 72, 73] (by decide +kernel) (by decide +kernel)) (goodIn_sub (fun _ h => List.mem_cons_of_mem _ (List.mem_append_left _ (List.mem_append_right _ h))) (by decide +kernel))) (goodIn_sub (fun _ h => List.mem_cons_of_mem _ (List.mem_append_right _ h)) (by decide +kernel))
set_option maxRecDepth 20000 in
theorem gX6_baseLevel_X6_base : GoodIn wsX6_baseLevel (wsV RX6 175 RX6 yX6_base wsX6_base) := goodIn_app (goodIn_of _ (by decide +kernel)) ggX6_baseLevel_X6_base
theorem dX6_baseLevel_0 : decode cX6_baseLevel 0 = .ok (.aload_n 0, 1) := by decide +kernel
theorem dX6_baseLevel_1 : decode cX6_baseLevel 1 = .ok (.iload_n 1, 1) := by decide +kernel
theorem dX6_baseLevel_2 : decode cX6_baseLevel 2 = .ok (.invokestatic 124, 3) := by decide +kernel
theorem dX6_baseLevel_5 : decode cX6_baseLevel 5 = .ok (.ifCond .eq 7, 3) := by decide +kernel
theorem dX6_baseLevel_8 : decode cX6_baseLevel 8 = .ok (.iconst 0, 1) := by decide +kernel
theorem dX6_baseLevel_9 : decode cX6_baseLevel 9 = .ok (.goto 4, 3) := by decide +kernel
theorem dX6_baseLevel_12 : decode cX6_baseLevel 12 = .ok (.iconst 1, 1) := by decide +kernel
theorem dX6_baseLevel_13 : decode cX6_baseLevel 13 = .ok (.putfield 98, 3) := by decide +kernel
theorem dX6_baseLevel_16 : decode cX6_baseLevel 16 = .ok (.aload_n 0, 1) := by decide +kernel
theorem dX6_baseLevel_17 : decode cX6_baseLevel 17 = .ok (.getfield 98, 3) := by decide +kernel
theorem dX6_baseLevel_20 : decode cX6_baseLevel 20 = .ok (.ifCond .ne 11, 3) := by decide +kernel
theorem dX6_baseLevel_23 : decode cX6_baseLevel 23 = .ok (.aload_n 0, 1) := by decide +kernel
theorem dX6_baseLevel_24 : decode cX6_baseLevel 24 = .ok (.iload_n 1, 1) := by decide +kernel
theorem dX6_baseLevel_25 : decode cX6_baseLevel 25 = .ok (.invokevirtual 175, 3) := by decide +kernel
theorem dX6_baseLevel_28 : decode cX6_baseLevel 28 = .ok (.goto 4, 3) := by decide +kernel
theorem dX6_baseLevel_31 : decode cX6_baseLevel 31 = .ok (.iconst (-1), 1) := by decide +kernel
theorem dX6_baseLevel_32 : decode cX6_baseLevel 32 = .ok (.ireturn, 1) := by decide +kernel
set_option maxRecDepth 20000 in
theorem ggX6_isEffect_X6_in : GoodIn wsX6_isEffect wsX6_in := goodIn_r _ [5] (by decide +kernel) (by decide +kernel)
set_option maxRecDepth 20000 in
theorem gX6_isEffect_X6_in : GoodIn wsX6_isEffect (va_wsS RX6 103 yX6_in wsX6_in) := goodIn_app (goodIn_of _ (by decide +kernel)) ggX6_isEffect_X6_in
theorem dX6_isEffect_0 : decode cX6_isEffect 0 = .ok (.iload_n 1, 1) := by decide +kernel
theorem dX6_isEffect_1 : decode cX6_isEffect 1 = .ok (.i2l, 1) := by decide +kernel
theorem dX6_isEffect_2 : decode cX6_isEffect 2 = .ok (.lconst 0, 1) := by decide +kernel
theorem dX6_isEffect_3 : decode cX6_isEffect 3 = .ok (.aload_n 0, 1) := by decide +kernel
theorem dX6_isEffect_4 : decode cX6_isEffect 4 = .ok (.getfield 178, 3) := by decide +kernel
theorem dX6_isEffect_7 : decode cX6_isEffect 7 = .ok (.iconst 1, 1) := by decide +kernel
theorem dX6_isEffect_8 : decode cX6_isEffect 8 = .ok (.isub, 1) := by decide +kernel
theorem dX6_isEffect_9 : decode cX6_isEffect 9 = .ok (.i2l, 1) := by decide +kernel
theorem dX6_isEffect_10 : decode cX6_isEffect 10 = .ok (.invokestatic 103, 3) := by decide +kernel
theorem dX6_isEffect_13 : decode cX6_isEffect 13 = .ok (.ireturn, 1) := by decide +kernel
set_option maxRecDepth 20000 in
theorem ggX6_addEffect_X6_in : GoodIn wsX6_addEffect wsX6_in := goodIn_r _ [16] (by decide +kernel) (by decide +kernel)
set_option maxRecDepth 20000 in
theorem gX6_addEffect_X6_in : GoodIn wsX6_addEffect (va_wsS RX6 103 yX6_in wsX6_in) := goodIn_app (goodIn_of _ (by decide +kernel)) ggX6_addEffect_X6_in
set_option maxRecDepth 20000 in
theorem ggX6_addEffect_X6_isGroup : GoodIn wsX6_addEffect wsX6_isGroup := goodIn_r _ [20, 21, 13, 14, 15, 16, 22, 23, 24, 25, 26, 27, 28, 29, 30, 31, 32, 33, 34, 35, 36, 37, 38, 39, 40, 41, 42, 43, 44, 45, 46, 47, 48, 49, 50, 51, 52, 53, 54, 55, 56, 57] (by decide +kernel) (by decide +kernel)
set_option maxRecDepth 20000 in
theorem gX6_addEffect_X6_isGroup : GoodIn wsX6_addEffect (wsV RX6 168 RX6 yX6_isGroup wsX6_isGroup) := goodIn_app (goodIn_of _ (by decide +kernel)) ggX6_addEffect_X6_isGroup
theorem dX6_addEffect_0 : decode cX6_addEffect 0 = .ok (.iload_n 2, 1) := by decide +kernel
theorem dX6_addEffect_1 : decode cX6_addEffect 1 = .ok (.bipush 119, 2) := by decide +kernel
theorem dX6_addEffect_3 : decode cX6_addEffect 3 = .ok (.if_icmp .eq 15, 3) := by decide +kernel
theorem dX6_addEffect_6 : decode cX6_addEffect 6 = .ok (.iload_n 2, 1) := by decide +kernel
theorem dX6_addEffect_7 : decode cX6_addEffect 7 = .ok (.bipush 116, 2) := by decide +kernel
theorem dX6_addEffect_9 : decode cX6_addEffect 9 = .ok (.if_icmp .eq 9, 3) := by decide +kernel
theorem dX6_addEffect_12 : decode cX6_addEffect 12 = .ok (.iload_n 2, 1) := by decide +kernel
theorem dX6_addEffect_13 : decode cX6_addEffect 13 = .ok (.bipush 113, 2) := by decide +kernel
theorem dX6_addEffect_15 : decode cX6_addEffect 15 = .ok (.if_icmp .ne 47, 3) := by decide +kernel
theorem dX6_addEffect_18 : decode cX6_addEffect 18 = .ok (.iload_n 3, 1) := by decide +kernel
theorem dX6_addEffect_19 : decode cX6_addEffect 19 = .ok (.i2l, 1) := by decide +kernel
theorem dX6_addEffect_20 : decode cX6_addEffect 20 = .ok (.ldc2_w 181, 3) := by decide +kernel
theorem dX6_addEffect_23 : decode cX6_addEffect 23 = .ok (.ldc2_w 114, 3) := by decide +kernel
theorem dX6_addEffect_26 : decode cX6_addEffect 26 = .ok (.invokestatic 103, 3) := by decide +kernel
theorem dX6_addEffect_29 : decode cX6_addEffect 29 = .ok (.ifCond .eq 33, 3) := by decide +kernel
theorem dX6_addEffect_32 : decode cX6_addEffect 32 = .ok (.iload 4, 2) := by decide +kernel
theorem dX6_addEffect_34 : decode cX6_addEffect 34 = .ok (.i2l, 1) := by decide +kernel
theorem dX6_addEffect_35 : decode cX6_addEffect 35 = .ok (.lconst 1, 1) := by decide +kernel
theorem dX6_addEffect_36 : decode cX6_addEffect 36 = .ok (.ldc2_w 107, 3) := by decide +kernel
theorem dX6_addEffect_39 : decode cX6_addEffect 39 = .ok (.invokestatic 103, 3) := by decide +kernel
theorem dX6_addEffect_42 : decode cX6_addEffect 42 = .ok (.ifCond .eq 20, 3) := by decide +kernel
theorem dX6_addEffect_45 : decode cX6_addEffect 45 = .ok (.iload 5, 2) := by decide +kernel
theorem dX6_addEffect_47 : decode cX6_addEffect 47 = .ok (.i2l, 1) := by decide +kernel
theorem dX6_addEffect_48 : decode cX6_addEffect 48 = .ok (.lconst 0, 1) := by decide +kernel
theorem dX6_addEffect_49 : decode cX6_addEffect 49 = .ok (.ldc2_w 183, 3) := by decide +kernel
theorem dX6_addEffect_52 : decode cX6_addEffect 52 = .ok (.invokestatic 103, 3) := by decide +kernel
theorem dX6_addEffect_55 : decode cX6_addEffect 55 = .ok (.ifCond .eq 7, 3) := by decide +kernel
theorem dX6_addEffect_58 : decode cX6_addEffect 58 = .ok (.iconst 1, 1) := by decide +kernel
theorem dX6_addEffect_59 : decode cX6_addEffect 59 = .ok (.goto 4, 3) := by decide +kernel
theorem dX6_addEffect_62 : decode cX6_addEffect 62 = .ok (.iconst 0, 1) := by decide +kernel
theorem dX6_addEffect_63 : decode cX6_addEffect 63 = .ok (.istore 6, 2) := by decide +kernel
theorem dX6_addEffect_65 : decode cX6_addEffect 65 = .ok (.aload_n 0, 1) := by decide +kernel
theorem dX6_addEffect_66 : decode cX6_addEffect 66 = .ok (.aload_n 0, 1) := by decide +kernel
theorem dX6_addEffect_67 : decode cX6_addEffect 67 = .ok (.iload_n 1, 1) := by decide +kernel
theorem dX6_addEffect_68 : decode cX6_addEffect 68 = .ok (.invokevirtual 168, 3) := by decide +kernel
theorem dX6_addEffect_71 : decode cX6_addEffect 71 = .ok (.ifCond .ne 7, 3) := by decide +kernel
theorem dX6_addEffect_74 : decode cX6_addEffect 74 = .ok (.iconst 1, 1) := by decide +kernel
theorem dX6_addEffect_75 : decode cX6_addEffect 75 = .ok (.goto 25, 3) := by decide +kernel
theorem dX6_addEffect_78 : decode cX6_addEffect 78 = .ok (.iload 6, 2) := by decide +kernel
theorem dX6_addEffect_80 : decode cX6_addEffect 80 = .ok (.ifCond .ne 7, 3) := by decide +kernel
theorem dX6_addEffect_83 : decode cX6_addEffect 83 = .ok (.iconst 2, 1) := by decide +kernel
theorem dX6_addEffect_84 : decode cX6_addEffect 84 = .ok (.goto 16, 3) := by decide +kernel
theorem dX6_addEffect_87 : decode cX6_addEffect 87 = .ok (.aload_n 0, 1) := by decide +kernel
theorem dX6_addEffect_88 : decode cX6_addEffect 88 = .ok (.getfield 178, 3) := by decide +kernel
theorem dX6_addEffect_91 : decode cX6_addEffect 91 = .ok (.iconst 4, 1) := by decide +kernel
theorem dX6_addEffect_92 : decode cX6_addEffect 92 = .ok (.if_icmp .ne 7, 3) := by decide +kernel
theorem dX6_addEffect_95 : decode cX6_addEffect 95 = .ok (.iconst 3, 1) := by decide +kernel
theorem dX6_addEffect_96 : decode cX6_addEffect 96 = .ok (.goto 4, 3) := by decide +kernel
theorem dX6_addEffect_99 : decode cX6_addEffect 99 = .ok (.iconst 0, 1) := by decide +kernel
theorem dX6_addEffect_100 : decode cX6_addEffect 100 = .ok (.putfield 98, 3) := by decide +kernel
theorem dX6_addEffect_103 : decode cX6_addEffect 103 = .ok (.aload_n 0, 1) := by decide +kernel
theorem dX6_addEffect_104 : decode cX6_addEffect 104 = .ok (.getfield 98, 3) := by decide +kernel
theorem dX6_addEffect_107 : decode cX6_addEffect 107 = .ok (.ifCond .le 5, 3) := by decide +kernel
theorem dX6_addEffect_110 : decode cX6_addEffect 110 = .ok (.iconst (-1), 1) := by decide +kernel
theorem dX6_addEffect_111 : decode cX6_addEffect 111 = .ok (.ireturn, 1) := by decide +kernel
theorem dX6_addEffect_112 : decode cX6_addEffect 112 = .ok (.aload_n 0, 1) := by decide +kernel
theorem dX6_addEffect_113 : decode cX6_addEffect 113 = .ok (.getfield 60, 3) := by decide +kernel
theorem dX6_addEffect_116 : decode cX6_addEffect 116 = .ok (.aload_n 0, 1) := by decide +kernel
theorem dX6_addEffect_117 : decode cX6_addEffect 117 = .ok (.getfield 178, 3) := by decide +kernel
theorem dX6_addEffect_120 : decode cX6_addEffect 120 = .ok (.iload_n 1, 1) := by decide +kernel
theorem dX6_addEffect_121 : decode cX6_addEffect 121 = .ok (.iastore, 1) := by decide +kernel
theorem dX6_addEffect_122 : decode cX6_addEffect 122 = .ok (.aload_n 0, 1) := by decide +kernel
theorem dX6_addEffect_123 : decode cX6_addEffect 123 = .ok (.getfield 63, 3) := by decide +kernel
theorem dX6_addEffect_126 : decode cX6_addEffect 126 = .ok (.aload_n 0, 1) := by decide +kernel
theorem dX6_addEffect_127 : decode cX6_addEffect 127 = .ok (.getfield 178, 3) := by decide +kernel
theorem dX6_addEffect_130 : decode cX6_addEffect 130 = .ok (.iload_n 2, 1) := by decide +kernel
theorem dX6_addEffect_131 : decode cX6_addEffect 131 = .ok (.castore, 1) := by decide +kernel
theorem dX6_addEffect_132 : decode cX6_addEffect 132 = .ok (.aload_n 0, 1) := by decide +kernel
theorem dX6_addEffect_133 : decode cX6_addEffect 133 = .ok (.getfield 66, 3) := by decide +kernel
theorem dX6_addEffect_136 : decode cX6_addEffect 136 = .ok (.aload_n 0, 1) := by decide +kernel
theorem dX6_addEffect_137 : decode cX6_addEffect 137 = .ok (.getfield 178, 3) := by decide +kernel
theorem dX6_addEffect_140 : decode cX6_addEffect 140 = .ok (.iload_n 3, 1) := by decide +kernel
theorem dX6_addEffect_141 : decode cX6_addEffect 141 = .ok (.iastore, 1) := by decide +kernel
theorem dX6_addEffect_142 : decode cX6_addEffect 142 = .ok (.aload_n 0, 1) := by decide +kernel
theorem dX6_addEffect_143 : decode cX6_addEffect 143 = .ok (.getfield 69, 3) := by decide +kernel
theorem dX6_addEffect_146 : decode cX6_addEffect 146 = .ok (.aload_n 0, 1) := by decide +kernel
theorem dX6_addEffect_147 : decode cX6_addEffect 147 = .ok (.getfield 178, 3) := by decide +kernel
theorem dX6_addEffect_150 : decode cX6_addEffect 150 = .ok (.iload 4, 2) := by decide +kernel
theorem dX6_addEffect_152 : decode cX6_addEffect 152 = .ok (.iastore, 1) := by decide +kernel
theorem dX6_addEffect_153 : decode cX6_addEffect 153 = .ok (.aload_n 0, 1) := by decide +kernel
theorem dX6_addEffect_154 : decode cX6_addEffect 154 = .ok (.getfield 72, 3) := by decide +kernel
theorem dX6_addEffect_157 : decode cX6_addEffect 157 = .ok (.aload_n 0, 1) := by decide +kernel
theorem dX6_addEffect_158 : decode cX6_addEffect 158 = .ok (.getfield 178, 3) := by decide +kernel
theorem dX6_addEffect_161 : decode cX6_addEffect 161 = .ok (.iload 5, 2) := by decide +kernel
theorem dX6_addEffect_163 : decode cX6_addEffect 163 = .ok (.iastore, 1) := by decide +kernel
theorem dX6_addEffect_164 : decode cX6_addEffect 164 = .ok (.aload_n 0, 1) := by decide +kernel
theorem dX6_addEffect_165 : decode cX6_addEffect 165 = .ok (.getfield 78, 3) := by decide +kernel
theorem dX6_addEffect_168 : decode cX6_addEffect 168 = .ok (.aload_n 0, 1) := by decide +kernel
theorem dX6_addEffect_169 : decode cX6_addEffect 169 = .ok (.getfield 178, 3) := by decide +kernel
theorem dX6_addEffect_172 : decode cX6_addEffect 172 = .ok (.iconst 0, 1) := by decide +kernel
theorem dX6_addEffect_173 : decode cX6_addEffect 173 = .ok (.bastore, 1) := by decide +kernel
theorem dX6_addEffect_174 : decode cX6_addEffect 174 = .ok (.aload_n 0, 1) := by decide +kernel
theorem dX6_addEffect_175 : decode cX6_addEffect 175 = .ok (.dup, 1) := by decide +kernel
theorem dX6_addEffect_176 : decode cX6_addEffect 176 = .ok (.getfield 178, 3) := by decide +kernel
theorem dX6_addEffect_179 : decode cX6_addEffect 179 = .ok (.iconst 1, 1) := by decide +kernel
theorem dX6_addEffect_180 : decode cX6_addEffect 180 = .ok (.iadd, 1) := by decide +kernel
theorem dX6_addEffect_181 : decode cX6_addEffect 181 = .ok (.putfield 178, 3) := by decide +kernel
theorem dX6_addEffect_184 : decode cX6_addEffect 184 = .ok (.aload_n 0, 1) := by decide +kernel
theorem dX6_addEffect_185 : decode cX6_addEffect 185 = .ok (.getfield 178, 3) := by decide +kernel
theorem dX6_addEffect_188 : decode cX6_addEffect 188 = .ok (.iconst 1, 1) := by decide +kernel
theorem dX6_addEffect_189 : decode cX6_addEffect 189 = .ok (.isub, 1) := by decide +kernel
theorem dX6_addEffect_190 : decode cX6_addEffect 190 = .ok (.ireturn, 1) := by decide +kernel
set_option maxRecDepth 20000 in
theorem ggX6_startEffect_X6_isEffect : GoodIn wsX6_startEffect wsX6_isEffect := goodIn_r _ [10, 5, 11, 12, 9, 13, 14, 15, 16, 17, 18, 19, 20, 21, 22, 23, 24, 25, 26, 27, 28, 29, 30, 31, 32, 33, 34, 35, 36, 37, 38, 39, 40, 41, 42, 43, 44, 45, 46, 47, 48, 49] (by decide +kernel) (by decide +kernel)
set_option maxRecDepth 20000 in
theorem gX6_startEffect_X6_isEffect : GoodIn wsX6_startEffect (wsV RX6 185 RX6 yX6_isEffect wsX6_isEffect) := goodIn_app (goodIn_of _ (by decide +kernel)) ggX6_startEffect_X6_isEffect
theorem dX6_startEffect_0 : decode cX6_startEffect 0 = .ok (.aload_n 0, 1) := by decide +kernel
theorem dX6_startEffect_1 : decode cX6_startEffect 1 = .ok (.aload_n 0, 1) := by decide +kernel
theorem dX6_startEffect_2 : decode cX6_startEffect 2 = .ok (.iload_n 1, 1) := by decide +kernel
theorem dX6_startEffect_3 : decode cX6_startEffect 3 = .ok (.invokevirtual 185, 3) := by decide +kernel
theorem dX6_startEffect_6 : decode cX6_startEffect 6 = .ok (.ifCond .ne 7, 3) := by decide +kernel
theorem dX6_startEffect_9 : decode cX6_startEffect 9 = .ok (.iconst 1, 1) := by decide +kernel
theorem dX6_startEffect_10 : decode cX6_startEffect 10 = .ok (.goto 17, 3) := by decide +kernel
theorem dX6_startEffect_13 : decode cX6_startEffect 13 = .ok (.aload_n 0, 1) := by decide +kernel
theorem dX6_startEffect_14 : decode cX6_startEffect 14 = .ok (.getfield 78, 3) := by decide +kernel
theorem dX6_startEffect_17 : decode cX6_startEffect 17 = .ok (.iload_n 1, 1) := by decide +kernel
theorem dX6_startEffect_18 : decode cX6_startEffect 18 = .ok (.baload, 1) := by decide +kernel
theorem dX6_startEffect_19 : decode cX6_startEffect 19 = .ok (.ifCond .eq 7, 3) := by decide +kernel
theorem dX6_startEffect_22 : decode cX6_startEffect 22 = .ok (.iconst 2, 1) := by decide +kernel
theorem dX6_startEffect_23 : decode cX6_startEffect 23 = .ok (.goto 4, 3) := by decide +kernel
theorem dX6_startEffect_26 : decode cX6_startEffect 26 = .ok (.iconst 0, 1) := by decide +kernel
theorem dX6_startEffect_27 : decode cX6_startEffect 27 = .ok (.putfield 98, 3) := by decide +kernel
theorem dX6_startEffect_30 : decode cX6_startEffect 30 = .ok (.aload_n 0, 1) := by decide +kernel
theorem dX6_startEffect_31 : decode cX6_startEffect 31 = .ok (.getfield 98, 3) := by decide +kernel
theorem dX6_startEffect_34 : decode cX6_startEffect 34 = .ok (.ifCond .le 5, 3) := by decide +kernel
theorem dX6_startEffect_37 : decode cX6_startEffect 37 = .ok (.iconst (-1), 1) := by decide +kernel
theorem dX6_startEffect_38 : decode cX6_startEffect 38 = .ok (.ireturn, 1) := by decide +kernel
theorem dX6_startEffect_39 : decode cX6_startEffect 39 = .ok (.aload_n 0, 1) := by decide +kernel
theorem dX6_startEffect_40 : decode cX6_startEffect 40 = .ok (.getfield 78, 3) := by decide +kernel
theorem dX6_startEffect_43 : decode cX6_startEffect 43 = .ok (.iload_n 1, 1) := by decide +kernel
theorem dX6_startEffect_44 : decode cX6_startEffect 44 = .ok (.iconst 1, 1) := by decide +kernel
theorem dX6_startEffect_45 : decode cX6_startEffect 45 = .ok (.bastore, 1) := by decide +kernel
theorem dX6_startEffect_46 : decode cX6_startEffect 46 = .ok (.aload_n 0, 1) := by decide +kernel
theorem dX6_startEffect_47 : decode cX6_startEffect 47 = .ok (.getfield 75, 3) := by decide +kernel
theorem dX6_startEffect_50 : decode cX6_startEffect 50 = .ok (.iload_n 1, 1) := by decide +kernel
theorem dX6_startEffect_51 : decode cX6_startEffect 51 = .ok (.aload_n 0, 1) := by decide +kernel
theorem dX6_startEffect_52 : decode cX6_startEffect 52 = .ok (.getfield 140, 3) := by decide +kernel
theorem dX6_startEffect_55 : decode cX6_startEffect 55 = .ok (.iastore, 1) := by decide +kernel
theorem dX6_startEffect_56 : decode cX6_startEffect 56 = .ok (.iconst 0, 1) := by decide +kernel
theorem dX6_startEffect_57 : decode cX6_startEffect 57 = .ok (.istore_n 2, 1) := by decide +kernel
theorem dX6_startEffect_58 : decode cX6_startEffect 58 = .ok (.iconst 0, 1) := by decide +kernel
theorem dX6_startEffect_59 : decode cX6_startEffect 59 = .ok (.istore_n 3, 1) := by decide +kernel
theorem dX6_startEffect_60 : decode cX6_startEffect 60 = .ok (.iload_n 3, 1) := by decide +kernel
theorem dX6_startEffect_61 : decode cX6_startEffect 61 = .ok (.aload_n 0, 1) := by decide +kernel
theorem dX6_startEffect_62 : decode cX6_startEffect 62 = .ok (.getfield 178, 3) := by decide +kernel
theorem dX6_startEffect_65 : decode cX6_startEffect 65 = .ok (.if_icmp .ge 26, 3) := by decide +kernel
theorem dX6_startEffect_68 : decode cX6_startEffect 68 = .ok (.iload_n 2, 1) := by decide +kernel
theorem dX6_startEffect_69 : decode cX6_startEffect 69 = .ok (.aload_n 0, 1) := by decide +kernel
theorem dX6_startEffect_70 : decode cX6_startEffect 70 = .ok (.getfield 78, 3) := by decide +kernel
theorem dX6_startEffect_73 : decode cX6_startEffect 73 = .ok (.iload_n 3, 1) := by decide +kernel
theorem dX6_startEffect_74 : decode cX6_startEffect 74 = .ok (.baload, 1) := by decide +kernel
theorem dX6_startEffect_75 : decode cX6_startEffect 75 = .ok (.ifCond .eq 7, 3) := by decide +kernel
theorem dX6_startEffect_78 : decode cX6_startEffect 78 = .ok (.iconst 1, 1) := by decide +kernel
theorem dX6_startEffect_79 : decode cX6_startEffect 79 = .ok (.goto 4, 3) := by decide +kernel
theorem dX6_startEffect_82 : decode cX6_startEffect 82 = .ok (.iconst 0, 1) := by decide +kernel
theorem dX6_startEffect_83 : decode cX6_startEffect 83 = .ok (.iadd, 1) := by decide +kernel
theorem dX6_startEffect_84 : decode cX6_startEffect 84 = .ok (.istore_n 2, 1) := by decide +kernel
theorem dX6_startEffect_85 : decode cX6_startEffect 85 = .ok (.iinc 3 1, 3) := by decide +kernel
theorem dX6_startEffect_88 : decode cX6_startEffect 88 = .ok (.goto (-28), 3) := by decide +kernel
theorem dX6_startEffect_91 : decode cX6_startEffect 91 = .ok (.iload_n 2, 1) := by decide +kernel
theorem dX6_startEffect_92 : decode cX6_startEffect 92 = .ok (.ireturn, 1) := by decide +kernel
set_option maxRecDepth 20000 in
theorem ggX6_stopEffect_X6_isEffect : GoodIn wsX6_stopEffect wsX6_isEffect := goodIn_r _ [9, 10, 11, 12, 8, 13, 14, 15, 16, 17, 18, 19, 20, 21, 22, 23, 24, 25, 26, 27, 28, 29, 30, 31, 32, 33, 34, 35, 36, 37, 38, 39, 40, 41, 42, 43, 44, 45, 46, 47, 48, 49] (by decide +kernel) (by decide +kernel)
set_option maxRecDepth 20000 in
theorem gX6_stopEffect_X6_isEffect : GoodIn wsX6_stopEffect (wsV RX6 185 RX6 yX6_isEffect wsX6_isEffect) := goodIn_app (goodIn_of _ (by decide +kernel)) ggX6_stopEffect_X6_isEffect
theorem dX6_stopEffect_0 : decode cX6_stopEffect 0 = .ok (.aload_n 0, 1) := by decide +kernel
theorem dX6_stopEffect_1 : decode cX6_stopEffect 1 = .ok (.aload_n 0, 1) := by decide +kernel
theorem dX6_stopEffect_2 : decode cX6_stopEffect 2 = .ok (.iload_n 1, 1) := by decide +kernel
theorem dX6_stopEffect_3 : decode cX6_stopEffect 3 = .ok (.invokevirtual 185, 3) := by decide +kernel
theorem dX6_stopEffect_6 : decode cX6_stopEffect 6 = .ok (.ifCond .ne 7, 3) := by decide +kernel
theorem dX6_stopEffect_9 : decode cX6_stopEffect 9 = .ok (.iconst 1, 1) := by decide +kernel
theorem dX6_stopEffect_10 : decode cX6_stopEffect 10 = .ok (.goto 17, 3) := by decide +kernel
theorem dX6_stopEffect_13 : decode cX6_stopEffect 13 = .ok (.aload_n 0, 1) := by decide +kernel
theorem dX6_stopEffect_14 : decode cX6_stopEffect 14 = .ok (.getfield 78, 3) := by decide +kernel
theorem dX6_stopEffect_17 : decode cX6_stopEffect 17 = .ok (.iload_n 1, 1) := by decide +kernel
theorem dX6_stopEffect_18 : decode cX6_stopEffect 18 = .ok (.baload, 1) := by decide +kernel
theorem dX6_stopEffect_19 : decode cX6_stopEffect 19 = .ok (.ifCond .ne 7, 3) := by decide +kernel
theorem dX6_stopEffect_22 : decode cX6_stopEffect 22 = .ok (.iconst 2, 1) := by decide +kernel
theorem dX6_stopEffect_23 : decode cX6_stopEffect 23 = .ok (.goto 4, 3) := by decide +kernel
theorem dX6_stopEffect_26 : decode cX6_stopEffect 26 = .ok (.iconst 0, 1) := by decide +kernel
theorem dX6_stopEffect_27 : decode cX6_stopEffect 27 = .ok (.putfield 98, 3) := by decide +kernel
theorem dX6_stopEffect_30 : decode cX6_stopEffect 30 = .ok (.aload_n 0, 1) := by decide +kernel
theorem dX6_stopEffect_31 : decode cX6_stopEffect 31 = .ok (.getfield 98, 3) := by decide +kernel
theorem dX6_stopEffect_34 : decode cX6_stopEffect 34 = .ok (.ifCond .le 5, 3) := by decide +kernel
theorem dX6_stopEffect_37 : decode cX6_stopEffect 37 = .ok (.iconst (-1), 1) := by decide +kernel
theorem dX6_stopEffect_38 : decode cX6_stopEffect 38 = .ok (.ireturn, 1) := by decide +kernel
theorem dX6_stopEffect_39 : decode cX6_stopEffect 39 = .ok (.aload_n 0, 1) := by decide +kernel
theorem dX6_stopEffect_40 : decode cX6_stopEffect 40 = .ok (.getfield 78, 3) := by decide +kernel
theorem dX6_stopEffect_43 : decode cX6_stopEffect 43 = .ok (.iload_n 1, 1) := by decide +kernel
theorem dX6_stopEffect_44 : decode cX6_stopEffect 44 = .ok (.iconst 0, 1) := by decide +kernel
theorem dX6_stopEffect_45 : decode cX6_stopEffect 45 = .ok (.bastore, 1) := by decide +kernel
theorem dX6_stopEffect_46 : decode cX6_stopEffect 46 = .ok (.aload_n 0, 1) := by decide +kernel
theorem dX6_stopEffect_47 : decode cX6_stopEffect 47 = .ok (.getfield 140, 3) := by decide +kernel
theorem dX6_stopEffect_50 : decode cX6_stopEffect 50 = .ok (.aload_n 0, 1) := by decide +kernel
theorem dX6_stopEffect_51 : decode cX6_stopEffect 51 = .ok (.getfield 75, 3) := by decide +kernel
theorem dX6_stopEffect_54 : decode cX6_stopEffect 54 = .ok (.iload_n 1, 1) := by decide +kernel
theorem dX6_stopEffect_55 : decode cX6_stopEffect 55 = .ok (.iaload, 1) := by decide +kernel
theorem dX6_stopEffect_56 : decode cX6_stopEffect 56 = .ok (.isub, 1) := by decide +kernel
theorem dX6_stopEffect_57 : decode cX6_stopEffect 57 = .ok (.ireturn, 1) := by decide +kernel
set_option maxRecDepth 20000 in
theorem ggX6_gives_X6_isMember : GoodIn wsX6_gives wsX6_isMember := goodIn_ca (goodIn_r _ [13, 14, 15, 16, 17, 18, 19, 20, 21, 22, 23, 24, 25, 26, 27, 28, 29, 30, 31, 32, 33, 34, 35, 36, 37, 38, 39, 40, 41, 42, 43, 44, 45, 46, 47, 48, 49, 50] (by decide +kernel) (by decide +kernel)) (goodIn_sub (fun _ h => List.mem_cons_of_mem _ (List.mem_append_left _ (List.mem_append_right _ h))) (by decide +kernel))
set_option maxRecDepth 20000 in
theorem gX6_gives_X6_isMember : GoodIn wsX6_gives (wsV RX6 171 RX6 yX6_isMember wsX6_isMember) := goodIn_app (goodIn_of _ (by decide +kernel)) ggX6_gives_X6_isMember
theorem dX6_gives_0 : decode cX6_gives 0 = .ok (.aload_n 0, 1) := by decide +kernel
theorem dX6_gives_1 : decode cX6_gives 1 = .ok (.getfield 78, 3) := by decide +kernel
theorem dX6_gives_4 : decode cX6_gives 4 = .ok (.iload_n 1, 1) := by decide +kernel
theorem dX6_gives_5 : decode cX6_gives 5 = .ok (.baload, 1) := by decide +kernel
theorem dX6_gives_6 : decode cX6_gives 6 = .ok (.ifCond .eq 17, 3) := by decide +kernel
theorem dX6_gives_9 : decode cX6_gives 9 = .ok (.aload_n 0, 1) := by decide +kernel
theorem dX6_gives_10 : decode cX6_gives 10 = .ok (.aload_n 0, 1) := by decide +kernel
theorem dX6_gives_11 : decode cX6_gives 11 = .ok (.getfield 60, 3) := by decide +kernel
theorem dX6_gives_14 : decode cX6_gives 14 = .ok (.iload_n 1, 1) := by decide +kernel
theorem dX6_gives_15 : decode cX6_gives 15 = .ok (.iaload, 1) := by decide +kernel
theorem dX6_gives_16 : decode cX6_gives 16 = .ok (.iload_n 2, 1) := by decide +kernel
theorem dX6_gives_17 : decode cX6_gives 17 = .ok (.invokevirtual 171, 3) := by decide +kernel
theorem dX6_gives_20 : decode cX6_gives 20 = .ok (.ifCond .ne 5, 3) := by decide +kernel
theorem dX6_gives_23 : decode cX6_gives 23 = .ok (.iconst 0, 1) := by decide +kernel
theorem dX6_gives_24 : decode cX6_gives 24 = .ok (.ireturn, 1) := by decide +kernel
theorem dX6_gives_25 : decode cX6_gives 25 = .ok (.iconst 0, 1) := by decide +kernel
theorem dX6_gives_26 : decode cX6_gives 26 = .ok (.istore_n 3, 1) := by decide +kernel
theorem dX6_gives_27 : decode cX6_gives 27 = .ok (.iconst 0, 1) := by decide +kernel
theorem dX6_gives_28 : decode cX6_gives 28 = .ok (.istore 4, 2) := by decide +kernel
theorem dX6_gives_30 : decode cX6_gives 30 = .ok (.iload 4, 2) := by decide +kernel
theorem dX6_gives_32 : decode cX6_gives 32 = .ok (.iload_n 2, 1) := by decide +kernel
theorem dX6_gives_33 : decode cX6_gives 33 = .ok (.if_icmp .ge 32, 3) := by decide +kernel
theorem dX6_gives_36 : decode cX6_gives 36 = .ok (.iload_n 3, 1) := by decide +kernel
theorem dX6_gives_37 : decode cX6_gives 37 = .ok (.aload_n 0, 1) := by decide +kernel
theorem dX6_gives_38 : decode cX6_gives 38 = .ok (.aload_n 0, 1) := by decide +kernel
theorem dX6_gives_39 : decode cX6_gives 39 = .ok (.getfield 60, 3) := by decide +kernel
theorem dX6_gives_42 : decode cX6_gives 42 = .ok (.iload_n 1, 1) := by decide +kernel
theorem dX6_gives_43 : decode cX6_gives 43 = .ok (.iaload, 1) := by decide +kernel
theorem dX6_gives_44 : decode cX6_gives 44 = .ok (.iload 4, 2) := by decide +kernel
theorem dX6_gives_46 : decode cX6_gives 46 = .ok (.invokevirtual 171, 3) := by decide +kernel
theorem dX6_gives_49 : decode cX6_gives 49 = .ok (.ifCond .eq 7, 3) := by decide +kernel
theorem dX6_gives_52 : decode cX6_gives 52 = .ok (.iconst 1, 1) := by decide +kernel
theorem dX6_gives_53 : decode cX6_gives 53 = .ok (.goto 4, 3) := by decide +kernel
theorem dX6_gives_56 : decode cX6_gives 56 = .ok (.iconst 0, 1) := by decide +kernel
theorem dX6_gives_57 : decode cX6_gives 57 = .ok (.iadd, 1) := by decide +kernel
theorem dX6_gives_58 : decode cX6_gives 58 = .ok (.istore_n 3, 1) := by decide +kernel
theorem dX6_gives_59 : decode cX6_gives 59 = .ok (.iinc 4 1, 3) := by decide +kernel
theorem dX6_gives_62 : decode cX6_gives 62 = .ok (.goto (-32), 3) := by decide +kernel
theorem dX6_gives_65 : decode cX6_gives 65 = .ok (.aload_n 0, 1) := by decide +kernel
theorem dX6_gives_66 : decode cX6_gives 66 = .ok (.getfield 66, 3) := by decide +kernel
theorem dX6_gives_69 : decode cX6_gives 69 = .ok (.iload_n 1, 1) := by decide +kernel
theorem dX6_gives_70 : decode cX6_gives 70 = .ok (.iaload, 1) := by decide +kernel
theorem dX6_gives_71 : decode cX6_gives 71 = .ok (.istore 4, 2) := by decide +kernel
theorem dX6_gives_73 : decode cX6_gives 73 = .ok (.aload_n 0, 1) := by decide +kernel
theorem dX6_gives_74 : decode cX6_gives 74 = .ok (.getfield 140, 3) := by decide +kernel
theorem dX6_gives_77 : decode cX6_gives 77 = .ok (.aload_n 0, 1) := by decide +kernel
theorem dX6_gives_78 : decode cX6_gives 78 = .ok (.getfield 75, 3) := by decide +kernel
theorem dX6_gives_81 : decode cX6_gives 81 = .ok (.iload_n 1, 1) := by decide +kernel
theorem dX6_gives_82 : decode cX6_gives 82 = .ok (.iaload, 1) := by decide +kernel
theorem dX6_gives_83 : decode cX6_gives 83 = .ok (.isub, 1) := by decide +kernel
theorem dX6_gives_84 : decode cX6_gives 84 = .ok (.aload_n 0, 1) := by decide +kernel
theorem dX6_gives_85 : decode cX6_gives 85 = .ok (.getfield 72, 3) := by decide +kernel
theorem dX6_gives_88 : decode cX6_gives 88 = .ok (.iload_n 1, 1) := by decide +kernel
theorem dX6_gives_89 : decode cX6_gives 89 = .ok (.iaload, 1) := by decide +kernel
theorem dX6_gives_90 : decode cX6_gives 90 = .ok (.iload_n 3, 1) := by decide +kernel
theorem dX6_gives_91 : decode cX6_gives 91 = .ok (.imul, 1) := by decide +kernel
theorem dX6_gives_92 : decode cX6_gives 92 = .ok (.iadd, 1) := by decide +kernel
theorem dX6_gives_93 : decode cX6_gives 93 = .ok (.iload 4, 2) := by decide +kernel
theorem dX6_gives_95 : decode cX6_gives 95 = .ok (.irem, 1) := by decide +kernel
theorem dX6_gives_96 : decode cX6_gives 96 = .ok (.istore 5, 2) := by decide +kernel
theorem dX6_gives_98 : decode cX6_gives 98 = .ok (.iload 4, 2) := by decide +kernel
theorem dX6_gives_100 : decode cX6_gives 100 = .ok (.iconst 2, 1) := by decide +kernel
theorem dX6_gives_101 : decode cX6_gives 101 = .ok (.idiv, 1) := by decide +kernel
theorem dX6_gives_102 : decode cX6_gives 102 = .ok (.istore 6, 2) := by decide +kernel
theorem dX6_gives_104 : decode cX6_gives 104 = .ok (.aload_n 0, 1) := by decide +kernel
theorem dX6_gives_105 : decode cX6_gives 105 = .ok (.getfield 63, 3) := by decide +kernel
theorem dX6_gives_108 : decode cX6_gives 108 = .ok (.iload_n 1, 1) := by decide +kernel
theorem dX6_gives_109 : decode cX6_gives 109 = .ok (.caload, 1) := by decide +kernel
theorem dX6_gives_110 : decode cX6_gives 110 = .ok (.bipush 119, 2) := by decide +kernel
theorem dX6_gives_112 : decode cX6_gives 112 = .ok (.if_icmp .ne 16, 3) := by decide +kernel
theorem dX6_gives_115 : decode cX6_gives 115 = .ok (.aload_n 0, 1) := by decide +kernel
theorem dX6_gives_116 : decode cX6_gives 116 = .ok (.getfield 69, 3) := by decide +kernel
theorem dX6_gives_119 : decode cX6_gives 119 = .ok (.iload_n 1, 1) := by decide +kernel
theorem dX6_gives_120 : decode cX6_gives 120 = .ok (.iaload, 1) := by decide +kernel
theorem dX6_gives_121 : decode cX6_gives 121 = .ok (.iload 5, 2) := by decide +kernel
theorem dX6_gives_123 : decode cX6_gives 123 = .ok (.imul, 1) := by decide +kernel
theorem dX6_gives_124 : decode cX6_gives 124 = .ok (.iload 4, 2) := by decide +kernel
theorem dX6_gives_126 : decode cX6_gives 126 = .ok (.idiv, 1) := by decide +kernel
theorem dX6_gives_127 : decode cX6_gives 127 = .ok (.ireturn, 1) := by decide +kernel
theorem dX6_gives_128 : decode cX6_gives 128 = .ok (.aload_n 0, 1) := by decide +kernel
theorem dX6_gives_129 : decode cX6_gives 129 = .ok (.getfield 63, 3) := by decide +kernel
theorem dX6_gives_132 : decode cX6_gives 132 = .ok (.iload_n 1, 1) := by decide +kernel
theorem dX6_gives_133 : decode cX6_gives 133 = .ok (.caload, 1) := by decide +kernel
theorem dX6_gives_134 : decode cX6_gives 134 = .ok (.bipush 116, 2) := by decide +kernel
theorem dX6_gives_136 : decode cX6_gives 136 = .ok (.if_icmp .ne 44, 3) := by decide +kernel
theorem dX6_gives_139 : decode cX6_gives 139 = .ok (.iload 5, 2) := by decide +kernel
theorem dX6_gives_141 : decode cX6_gives 141 = .ok (.iload 6, 2) := by decide +kernel
theorem dX6_gives_143 : decode cX6_gives 143 = .ok (.if_icmp .gt 18, 3) := by decide +kernel
theorem dX6_gives_146 : decode cX6_gives 146 = .ok (.aload_n 0, 1) := by decide +kernel
theorem dX6_gives_147 : decode cX6_gives 147 = .ok (.getfield 69, 3) := by decide +kernel
theorem dX6_gives_150 : decode cX6_gives 150 = .ok (.iload_n 1, 1) := by decide +kernel
theorem dX6_gives_151 : decode cX6_gives 151 = .ok (.iaload, 1) := by decide +kernel
theorem dX6_gives_152 : decode cX6_gives 152 = .ok (.iload 5, 2) := by decide +kernel
theorem dX6_gives_154 : decode cX6_gives 154 = .ok (.imul, 1) := by decide +kernel
theorem dX6_gives_155 : decode cX6_gives 155 = .ok (.iload 6, 2) := by decide +kernel
theorem dX6_gives_157 : decode cX6_gives 157 = .ok (.idiv, 1) := by decide +kernel
theorem dX6_gives_158 : decode cX6_gives 158 = .ok (.goto 21, 3) := by decide +kernel
theorem dX6_gives_161 : decode cX6_gives 161 = .ok (.aload_n 0, 1) := by decide +kernel
theorem dX6_gives_162 : decode cX6_gives 162 = .ok (.getfield 69, 3) := by decide +kernel
theorem dX6_gives_165 : decode cX6_gives 165 = .ok (.iload_n 1, 1) := by decide +kernel
theorem dX6_gives_166 : decode cX6_gives 166 = .ok (.iaload, 1) := by decide +kernel
theorem dX6_gives_167 : decode cX6_gives 167 = .ok (.iload 4, 2) := by decide +kernel
theorem dX6_gives_169 : decode cX6_gives 169 = .ok (.iload 5, 2) := by decide +kernel
theorem dX6_gives_171 : decode cX6_gives 171 = .ok (.isub, 1) := by decide +kernel
theorem dX6_gives_172 : decode cX6_gives 172 = .ok (.imul, 1) := by decide +kernel
theorem dX6_gives_173 : decode cX6_gives 173 = .ok (.iload 4, 2) := by decide +kernel
theorem dX6_gives_175 : decode cX6_gives 175 = .ok (.iload 6, 2) := by decide +kernel
theorem dX6_gives_177 : decode cX6_gives 177 = .ok (.isub, 1) := by decide +kernel
theorem dX6_gives_178 : decode cX6_gives 178 = .ok (.idiv, 1) := by decide +kernel
theorem dX6_gives_179 : decode cX6_gives 179 = .ok (.ireturn, 1) := by decide +kernel
theorem dX6_gives_180 : decode cX6_gives 180 = .ok (.iload 5, 2) := by decide +kernel
theorem dX6_gives_182 : decode cX6_gives 182 = .ok (.iload 6, 2) := by decide +kernel
theorem dX6_gives_184 : decode cX6_gives 184 = .ok (.if_icmp .ge 12, 3) := by decide +kernel
theorem dX6_gives_187 : decode cX6_gives 187 = .ok (.aload_n 0, 1) := by decide +kernel
theorem dX6_gives_188 : decode cX6_gives 188 = .ok (.getfield 69, 3) := by decide +kernel
theorem dX6_gives_191 : decode cX6_gives 191 = .ok (.iload_n 1, 1) := by decide +kernel
theorem dX6_gives_192 : decode cX6_gives 192 = .ok (.iaload, 1) := by decide +kernel
theorem dX6_gives_193 : decode cX6_gives 193 = .ok (.goto 4, 3) := by decide +kernel
theorem dX6_gives_196 : decode cX6_gives 196 = .ok (.iconst 0, 1) := by decide +kernel
theorem dX6_gives_197 : decode cX6_gives 197 = .ok (.ireturn, 1) := by decide +kernel
set_option maxRecDepth 20000 in
theorem ggX6_effectOn_X6_isEffect : GoodIn wsX6_effectOn wsX6_isEffect := goodIn_r _ [6, 7, 8, 9, 5, 10, 32, 33, 34, 35, 36, 37, 38, 39, 40, 41, 42, 43, 44, 45, 46, 47, 48, 49, 50, 51, 52, 53, 54, 55, 56, 57, 58, 59, 60, 61, 62, 63, 64, 65, 66, 67] (by decide +kernel) (by decide +kernel)
set_option maxRecDepth 20000 in
theorem gX6_effectOn_X6_isEffect : GoodIn wsX6_effectOn (wsV RX6 185 RX6 yX6_isEffect wsX6_isEffect) := goodIn_app (goodIn_of _ (by decide +kernel)) ggX6_effectOn_X6_isEffect
set_option maxRecDepth 20000 in
theorem ggX6_effectOn_X6_isChannel : GoodIn wsX6_effectOn wsX6_isChannel := goodIn_r _ [13, 14, 8, 9, 5, 10] (by decide +kernel) (by decide +kernel)
set_option maxRecDepth 20000 in
theorem gX6_effectOn_X6_isChannel : GoodIn wsX6_effectOn (va_wsS RX6 124 yX6_isChannel wsX6_isChannel) := goodIn_app (goodIn_of _ (by decide +kernel)) ggX6_effectOn_X6_isChannel
set_option maxRecDepth 20000 in
theorem ggX6_effectOn_X6_gives : GoodIn wsX6_effectOn wsX6_gives := goodIn_ca (goodIn_ca (goodIn_r _ [18, 19, 20, 21, 22, 23, 24, 25, 26, 27, 28, 29, 5, 30, 31, 32, 33, 34, 35, 36, 37, 38, 39, 40, 41, 42, 43, 44, 45, 46, 47, 48, 49, 50, 51, 52, 53, 54, 55, 56, 57, 58, 59, 60, 61, 62, 63, 64, 65, 66, 67] (by decide +kernel) (by decide +kernel)) (goodIn_sub (fun _ h => List.mem_cons_of_mem _ (List.mem_append_left _ (List.mem_append_right _ h))) (by decide +kernel))) (goodIn_sub (fun _ h => List.mem_cons_of_mem _ (List.mem_append_right _ h)) (by decide +kernel))
set_option maxRecDepth 20000 in
theorem gX6_effectOn_X6_gives : GoodIn wsX6_effectOn (wsV RX6 188 RX6 yX6_gives wsX6_gives) := goodIn_app (goodIn_of _ (by decide +kernel)) ggX6_effectOn_X6_gives
theorem dX6_effectOn_0 : decode cX6_effectOn 0 = .ok (.aload_n 0, 1) := by decide +kernel
theorem dX6_effectOn_1 : decode cX6_effectOn 1 = .ok (.aload_n 0, 1) := by decide +kernel
theorem dX6_effectOn_2 : decode cX6_effectOn 2 = .ok (.iload_n 1, 1) := by decide +kernel
theorem dX6_effectOn_3 : decode cX6_effectOn 3 = .ok (.invokevirtual 185, 3) := by decide +kernel
theorem dX6_effectOn_6 : decode cX6_effectOn 6 = .ok (.ifCond .eq 14, 3) := by decide +kernel
theorem dX6_effectOn_9 : decode cX6_effectOn 9 = .ok (.iload_n 2, 1) := by decide +kernel
theorem dX6_effectOn_10 : decode cX6_effectOn 10 = .ok (.invokestatic 124, 3) := by decide +kernel
theorem dX6_effectOn_13 : decode cX6_effectOn 13 = .ok (.ifCond .eq 7, 3) := by decide +kernel
theorem dX6_effectOn_16 : decode cX6_effectOn 16 = .ok (.iconst 0, 1) := by decide +kernel
theorem dX6_effectOn_17 : decode cX6_effectOn 17 = .ok (.goto 4, 3) := by decide +kernel
theorem dX6_effectOn_20 : decode cX6_effectOn 20 = .ok (.iconst 1, 1) := by decide +kernel
theorem dX6_effectOn_21 : decode cX6_effectOn 21 = .ok (.putfield 98, 3) := by decide +kernel
theorem dX6_effectOn_24 : decode cX6_effectOn 24 = .ok (.aload_n 0, 1) := by decide +kernel
theorem dX6_effectOn_25 : decode cX6_effectOn 25 = .ok (.getfield 98, 3) := by decide +kernel
theorem dX6_effectOn_28 : decode cX6_effectOn 28 = .ok (.ifCond .ne 12, 3) := by decide +kernel
theorem dX6_effectOn_31 : decode cX6_effectOn 31 = .ok (.aload_n 0, 1) := by decide +kernel
theorem dX6_effectOn_32 : decode cX6_effectOn 32 = .ok (.iload_n 1, 1) := by decide +kernel
theorem dX6_effectOn_33 : decode cX6_effectOn 33 = .ok (.iload_n 2, 1) := by decide +kernel
theorem dX6_effectOn_34 : decode cX6_effectOn 34 = .ok (.invokevirtual 188, 3) := by decide +kernel
theorem dX6_effectOn_37 : decode cX6_effectOn 37 = .ok (.goto 4, 3) := by decide +kernel
theorem dX6_effectOn_40 : decode cX6_effectOn 40 = .ok (.iconst (-1), 1) := by decide +kernel
theorem dX6_effectOn_41 : decode cX6_effectOn 41 = .ok (.ireturn, 1) := by decide +kernel
set_option maxRecDepth 20000 in
theorem ggX6_park_X6_isChannel : GoodIn wsX6_park wsX6_isChannel := goodIn_r _ [6, 7, 8, 9, 5, 10] (by decide +kernel) (by decide +kernel)
set_option maxRecDepth 20000 in
theorem gX6_park_X6_isChannel : GoodIn wsX6_park (va_wsS RX6 124 yX6_isChannel wsX6_isChannel) := goodIn_app (goodIn_of _ (by decide +kernel)) ggX6_park_X6_isChannel
set_option maxRecDepth 20000 in
theorem ggX6_park_X6_isLevel : GoodIn wsX6_park wsX6_isLevel := goodIn_r _ [13, 14, 8, 9, 5, 10] (by decide +kernel) (by decide +kernel)
set_option maxRecDepth 20000 in
theorem gX6_park_X6_isLevel : GoodIn wsX6_park (va_wsS RX6 128 yX6_isLevel wsX6_isLevel) := goodIn_app (goodIn_of _ (by decide +kernel)) ggX6_park_X6_isLevel
theorem dX6_park_0 : decode cX6_park 0 = .ok (.aload_n 0, 1) := by decide +kernel
theorem dX6_park_1 : decode cX6_park 1 = .ok (.iload_n 1, 1) := by decide +kernel
theorem dX6_park_2 : decode cX6_park 2 = .ok (.invokestatic 124, 3) := by decide +kernel
theorem dX6_park_5 : decode cX6_park 5 = .ok (.ifCond .ne 7, 3) := by decide +kernel
theorem dX6_park_8 : decode cX6_park 8 = .ok (.iconst 1, 1) := by decide +kernel
theorem dX6_park_9 : decode cX6_park 9 = .ok (.goto 15, 3) := by decide +kernel
theorem dX6_park_12 : decode cX6_park 12 = .ok (.iload_n 2, 1) := by decide +kernel
theorem dX6_park_13 : decode cX6_park 13 = .ok (.invokestatic 128, 3) := by decide +kernel
theorem dX6_park_16 : decode cX6_park 16 = .ok (.ifCond .ne 7, 3) := by decide +kernel
theorem dX6_park_19 : decode cX6_park 19 = .ok (.iconst 2, 1) := by decide +kernel
theorem dX6_park_20 : decode cX6_park 20 = .ok (.goto 4, 3) := by decide +kernel
theorem dX6_park_23 : decode cX6_park 23 = .ok (.iconst 0, 1) := by decide +kernel
theorem dX6_park_24 : decode cX6_park 24 = .ok (.putfield 98, 3) := by decide +kernel
theorem dX6_park_27 : decode cX6_park 27 = .ok (.aload_n 0, 1) := by decide +kernel
theorem dX6_park_28 : decode cX6_park 28 = .ok (.getfield 98, 3) := by decide +kernel
theorem dX6_park_31 : decode cX6_park 31 = .ok (.ifCond .le 5, 3) := by decide +kernel
theorem dX6_park_34 : decode cX6_park 34 = .ok (.iconst (-1), 1) := by decide +kernel
theorem dX6_park_35 : decode cX6_park 35 = .ok (.ireturn, 1) := by decide +kernel
theorem dX6_park_36 : decode cX6_park 36 = .ok (.aload_n 0, 1) := by decide +kernel
theorem dX6_park_37 : decode cX6_park 37 = .ok (.getfield 51, 3) := by decide +kernel
theorem dX6_park_40 : decode cX6_park 40 = .ok (.iload_n 1, 1) := by decide +kernel
theorem dX6_park_41 : decode cX6_park 41 = .ok (.iaload, 1) := by decide +kernel
theorem dX6_park_42 : decode cX6_park 42 = .ok (.istore_n 3, 1) := by decide +kernel
theorem dX6_park_43 : decode cX6_park 43 = .ok (.aload_n 0, 1) := by decide +kernel
theorem dX6_park_44 : decode cX6_park 44 = .ok (.getfield 51, 3) := by decide +kernel
theorem dX6_park_47 : decode cX6_park 47 = .ok (.iload_n 1, 1) := by decide +kernel
theorem dX6_park_48 : decode cX6_park 48 = .ok (.iload_n 2, 1) := by decide +kernel
theorem dX6_park_49 : decode cX6_park 49 = .ok (.iastore, 1) := by decide +kernel
theorem dX6_park_50 : decode cX6_park 50 = .ok (.iload_n 3, 1) := by decide +kernel
theorem dX6_park_51 : decode cX6_park 51 = .ok (.ireturn, 1) := by decide +kernel
set_option maxRecDepth 20000 in
theorem ggX6_unpark_X6_isChannel : GoodIn wsX6_unpark wsX6_isChannel := goodIn_r _ [6, 7, 8, 9, 5, 10] (by decide +kernel) (by decide +kernel)
set_option maxRecDepth 20000 in
theorem gX6_unpark_X6_isChannel : GoodIn wsX6_unpark (va_wsS RX6 124 yX6_isChannel wsX6_isChannel) := goodIn_app (goodIn_of _ (by decide +kernel)) ggX6_unpark_X6_isChannel
theorem dX6_unpark_0 : decode cX6_unpark 0 = .ok (.aload_n 0, 1) := by decide +kernel
theorem dX6_unpark_1 : decode cX6_unpark 1 = .ok (.iload_n 1, 1) := by decide +kernel
theorem dX6_unpark_2 : decode cX6_unpark 2 = .ok (.invokestatic 124, 3) := by decide +kernel
theorem dX6_unpark_5 : decode cX6_unpark 5 = .ok (.ifCond .ne 7, 3) := by decide +kernel
theorem dX6_unpark_8 : decode cX6_unpark 8 = .ok (.iconst 1, 1) := by decide +kernel
theorem dX6_unpark_9 : decode cX6_unpark 9 = .ok (.goto 18, 3) := by decide +kernel
theorem dX6_unpark_12 : decode cX6_unpark 12 = .ok (.aload_n 0, 1) := by decide +kernel
theorem dX6_unpark_13 : decode cX6_unpark 13 = .ok (.getfield 51, 3) := by decide +kernel
theorem dX6_unpark_16 : decode cX6_unpark 16 = .ok (.iload_n 1, 1) := by decide +kernel
theorem dX6_unpark_17 : decode cX6_unpark 17 = .ok (.iaload, 1) := by decide +kernel
theorem dX6_unpark_18 : decode cX6_unpark 18 = .ok (.iconst (-1), 1) := by decide +kernel
theorem dX6_unpark_19 : decode cX6_unpark 19 = .ok (.if_icmp .ne 7, 3) := by decide +kernel
theorem dX6_unpark_22 : decode cX6_unpark 22 = .ok (.iconst 2, 1) := by decide +kernel
theorem dX6_unpark_23 : decode cX6_unpark 23 = .ok (.goto 4, 3) := by decide +kernel
theorem dX6_unpark_26 : decode cX6_unpark 26 = .ok (.iconst 0, 1) := by decide +kernel
theorem dX6_unpark_27 : decode cX6_unpark 27 = .ok (.putfield 98, 3) := by decide +kernel
theorem dX6_unpark_30 : decode cX6_unpark 30 = .ok (.aload_n 0, 1) := by decide +kernel
theorem dX6_unpark_31 : decode cX6_unpark 31 = .ok (.getfield 98, 3) := by decide +kernel
theorem dX6_unpark_34 : decode cX6_unpark 34 = .ok (.ifCond .le 5, 3) := by decide +kernel
theorem dX6_unpark_37 : decode cX6_unpark 37 = .ok (.iconst (-1), 1) := by decide +kernel
theorem dX6_unpark_38 : decode cX6_unpark 38 = .ok (.ireturn, 1) := by decide +kernel
theorem dX6_unpark_39 : decode cX6_unpark 39 = .ok (.aload_n 0, 1) := by decide +kernel
theorem dX6_unpark_40 : decode cX6_unpark 40 = .ok (.getfield 51, 3) := by decide +kernel
theorem dX6_unpark_43 : decode cX6_unpark 43 = .ok (.iload_n 1, 1) := by decide +kernel
theorem dX6_unpark_44 : decode cX6_unpark 44 = .ok (.iaload, 1) := by decide +kernel
theorem dX6_unpark_45 : decode cX6_unpark 45 = .ok (.istore_n 2, 1) := by decide +kernel
theorem dX6_unpark_46 : decode cX6_unpark 46 = .ok (.aload_n 0, 1) := by decide +kernel
theorem dX6_unpark_47 : decode cX6_unpark 47 = .ok (.getfield 51, 3) := by decide +kernel
theorem dX6_unpark_50 : decode cX6_unpark 50 = .ok (.iload_n 1, 1) := by decide +kernel
theorem dX6_unpark_51 : decode cX6_unpark 51 = .ok (.iconst (-1), 1) := by decide +kernel
theorem dX6_unpark_52 : decode cX6_unpark 52 = .ok (.iastore, 1) := by decide +kernel
theorem dX6_unpark_53 : decode cX6_unpark 53 = .ok (.iload_n 2, 1) := by decide +kernel
theorem dX6_unpark_54 : decode cX6_unpark 54 = .ok (.ireturn, 1) := by decide +kernel
set_option maxRecDepth 20000 in
theorem ggX6_setMaster_X6_isLevel : GoodIn wsX6_setMaster wsX6_isLevel := goodIn_r _ [6, 7, 8, 9, 5, 10] (by decide +kernel) (by decide +kernel)
set_option maxRecDepth 20000 in
theorem gX6_setMaster_X6_isLevel : GoodIn wsX6_setMaster (va_wsS RX6 128 yX6_isLevel wsX6_isLevel) := goodIn_app (goodIn_of _ (by decide +kernel)) ggX6_setMaster_X6_isLevel
theorem dX6_setMaster_0 : decode cX6_setMaster 0 = .ok (.aload_n 0, 1) := by decide +kernel
theorem dX6_setMaster_1 : decode cX6_setMaster 1 = .ok (.iload_n 1, 1) := by decide +kernel
theorem dX6_setMaster_2 : decode cX6_setMaster 2 = .ok (.invokestatic 128, 3) := by decide +kernel
theorem dX6_setMaster_5 : decode cX6_setMaster 5 = .ok (.ifCond .eq 7, 3) := by decide +kernel
theorem dX6_setMaster_8 : decode cX6_setMaster 8 = .ok (.iconst 0, 1) := by decide +kernel
theorem dX6_setMaster_9 : decode cX6_setMaster 9 = .ok (.goto 4, 3) := by decide +kernel
theorem dX6_setMaster_12 : decode cX6_setMaster 12 = .ok (.iconst 1, 1) := by decide +kernel
theorem dX6_setMaster_13 : decode cX6_setMaster 13 = .ok (.putfield 98, 3) := by decide +kernel
theorem dX6_setMaster_16 : decode cX6_setMaster 16 = .ok (.aload_n 0, 1) := by decide +kernel
theorem dX6_setMaster_17 : decode cX6_setMaster 17 = .ok (.getfield 98, 3) := by decide +kernel
theorem dX6_setMaster_20 : decode cX6_setMaster 20 = .ok (.ifCond .le 5, 3) := by decide +kernel
theorem dX6_setMaster_23 : decode cX6_setMaster 23 = .ok (.iconst (-1), 1) := by decide +kernel
theorem dX6_setMaster_24 : decode cX6_setMaster 24 = .ok (.ireturn, 1) := by decide +kernel
theorem dX6_setMaster_25 : decode cX6_setMaster 25 = .ok (.aload_n 0, 1) := by decide +kernel
theorem dX6_setMaster_26 : decode cX6_setMaster 26 = .ok (.getfield 94, 3) := by decide +kernel
theorem dX6_setMaster_29 : decode cX6_setMaster 29 = .ok (.istore_n 2, 1) := by decide +kernel
theorem dX6_setMaster_30 : decode cX6_setMaster 30 = .ok (.aload_n 0, 1) := by decide +kernel
theorem dX6_setMaster_31 : decode cX6_setMaster 31 = .ok (.iload_n 1, 1) := by decide +kernel
theorem dX6_setMaster_32 : decode cX6_setMaster 32 = .ok (.putfield 94, 3) := by decide +kernel
theorem dX6_setMaster_35 : decode cX6_setMaster 35 = .ok (.iload_n 2, 1) := by decide +kernel
theorem dX6_setMaster_36 : decode cX6_setMaster 36 = .ok (.ireturn, 1) := by decide +kernel
set_option maxRecDepth 20000 in
theorem ggX6_levelOf_X6_base : GoodIn wsX6_levelOf wsX6_base := goodIn_ca (goodIn_ca (goodIn_r _ [12, 13, 14, 15, 16, 17, 18, 5, 19, 20, 21, 22, 11, 23, 24, 25, 26, 27, 28, 29, 30, 31, 32, 33, 34, 35, 47, 48, 49, 50, 51, 52, 53, 54, 55, 56, 57, 58, 59, 60, 61, 62, 63, 64, 65, 66, 67, 68, 69, 70, 71, 72, 73, 74, 75, 76, 77, 78, 79, 80, 81, 82] (by decide +kernel) (by decide +kernel)) (goodIn_sub (fun _ h => List.mem_cons_of_mem _ (List.mem_append_left _ (List.mem_append_right _ h))) (by decide +kernel))) (goodIn_sub (fun _ h => List.mem_cons_of_mem _ (List.mem_append_right _ h)) (by decide +kernel))
set_option maxRecDepth 20000 in
theorem gX6_levelOf_X6_base : GoodIn wsX6_levelOf (wsV RX6 175 RX6 yX6_base wsX6_base) := goodIn_app (goodIn_of _ (by decide +kernel)) ggX6_levelOf_X6_base
set_option maxRecDepth 20000 in
theorem ggX6_levelOf_X6_gives : GoodIn wsX6_levelOf wsX6_gives := goodIn_ca (goodIn_ca (goodIn_r _ [39, 40, 41, 42, 26, 43, 44, 45, 46, 31, 32, 33, 11, 34, 35, 47, 48, 49, 50, 51, 52, 53, 54, 55, 56, 57, 58, 59, 60, 61, 62, 63, 64, 65, 66, 67, 68, 69, 70, 71, 72, 73, 74, 75, 76, 77, 78, 79, 80, 81, 82] (by decide +kernel) (by decide +kernel)) (goodIn_sub (fun _ h => List.mem_cons_of_mem _ (List.mem_append_left _ (List.mem_append_right _ h))) (by decide +kernel))) (goodIn_sub (fun _ h => List.mem_cons_of_mem _ (List.mem_append_right _ h)) (by decide +kernel))
set_option maxRecDepth 20000 in
theorem gX6_levelOf_X6_gives : GoodIn wsX6_levelOf (wsV RX6 188 RX6 yX6_gives wsX6_gives) := goodIn_app (goodIn_of _ (by decide +kernel)) ggX6_levelOf_X6_gives
theorem dX6_levelOf_0 : decode cX6_levelOf 0 = .ok (.aload_n 0, 1) := by decide +kernel
theorem dX6_levelOf_1 : decode cX6_levelOf 1 = .ok (.getfield 51, 3) := by decide +kernel
theorem dX6_levelOf_4 : decode cX6_levelOf 4 = .ok (.iload_n 1, 1) := by decide +kernel
theorem dX6_levelOf_5 : decode cX6_levelOf 5 = .ok (.iaload, 1) := by decide +kernel
theorem dX6_levelOf_6 : decode cX6_levelOf 6 = .ok (.iconst (-1), 1) := by decide +kernel
theorem dX6_levelOf_7 : decode cX6_levelOf 7 = .ok (.if_icmp .eq 10, 3) := by decide +kernel
theorem dX6_levelOf_10 : decode cX6_levelOf 10 = .ok (.aload_n 0, 1) := by decide +kernel
theorem dX6_levelOf_11 : decode cX6_levelOf 11 = .ok (.getfield 51, 3) := by decide +kernel
theorem dX6_levelOf_14 : decode cX6_levelOf 14 = .ok (.iload_n 1, 1) := by decide +kernel
theorem dX6_levelOf_15 : decode cX6_levelOf 15 = .ok (.iaload, 1) := by decide +kernel
theorem dX6_levelOf_16 : decode cX6_levelOf 16 = .ok (.ireturn, 1) := by decide +kernel
theorem dX6_levelOf_17 : decode cX6_levelOf 17 = .ok (.aload_n 0, 1) := by decide +kernel
theorem dX6_levelOf_18 : decode cX6_levelOf 18 = .ok (.iload_n 1, 1) := by decide +kernel
theorem dX6_levelOf_19 : decode cX6_levelOf 19 = .ok (.invokevirtual 175, 3) := by decide +kernel
theorem dX6_levelOf_22 : decode cX6_levelOf 22 = .ok (.istore_n 2, 1) := by decide +kernel
theorem dX6_levelOf_23 : decode cX6_levelOf 23 = .ok (.iconst 0, 1) := by decide +kernel
theorem dX6_levelOf_24 : decode cX6_levelOf 24 = .ok (.istore_n 3, 1) := by decide +kernel
theorem dX6_levelOf_25 : decode cX6_levelOf 25 = .ok (.iload_n 3, 1) := by decide +kernel
theorem dX6_levelOf_26 : decode cX6_levelOf 26 = .ok (.aload_n 0, 1) := by decide +kernel
theorem dX6_levelOf_27 : decode cX6_levelOf 27 = .ok (.getfield 178, 3) := by decide +kernel
theorem dX6_levelOf_30 : decode cX6_levelOf 30 = .ok (.if_icmp .ge 18, 3) := by decide +kernel
theorem dX6_levelOf_33 : decode cX6_levelOf 33 = .ok (.iload_n 2, 1) := by decide +kernel
theorem dX6_levelOf_34 : decode cX6_levelOf 34 = .ok (.aload_n 0, 1) := by decide +kernel
theorem dX6_levelOf_35 : decode cX6_levelOf 35 = .ok (.iload_n 3, 1) := by decide +kernel
theorem dX6_levelOf_36 : decode cX6_levelOf 36 = .ok (.iload_n 1, 1) := by decide +kernel
theorem dX6_levelOf_37 : decode cX6_levelOf 37 = .ok (.invokevirtual 188, 3) := by decide +kernel
theorem dX6_levelOf_40 : decode cX6_levelOf 40 = .ok (.iadd, 1) := by decide +kernel
theorem dX6_levelOf_41 : decode cX6_levelOf 41 = .ok (.istore_n 2, 1) := by decide +kernel
theorem dX6_levelOf_42 : decode cX6_levelOf 42 = .ok (.iinc 3 1, 3) := by decide +kernel
theorem dX6_levelOf_45 : decode cX6_levelOf 45 = .ok (.goto (-20), 3) := by decide +kernel
theorem dX6_levelOf_48 : decode cX6_levelOf 48 = .ok (.sipush 255, 3) := by decide +kernel
theorem dX6_levelOf_51 : decode cX6_levelOf 51 = .ok (.iload_n 2, 1) := by decide +kernel
theorem dX6_levelOf_52 : decode cX6_levelOf 52 = .ok (.invokestatic 191, 3) := by decide +kernel
theorem dX6_levelOf_55 : decode cX6_levelOf 55 = .ok (.aload_n 0, 1) := by decide +kernel
theorem dX6_levelOf_56 : decode cX6_levelOf 56 = .ok (.getfield 94, 3) := by decide +kernel
theorem dX6_levelOf_59 : decode cX6_levelOf 59 = .ok (.imul, 1) := by decide +kernel
theorem dX6_levelOf_60 : decode cX6_levelOf 60 = .ok (.sipush 255, 3) := by decide +kernel
theorem dX6_levelOf_63 : decode cX6_levelOf 63 = .ok (.idiv, 1) := by decide +kernel
theorem dX6_levelOf_64 : decode cX6_levelOf 64 = .ok (.ireturn, 1) := by decide +kernel
set_option maxRecDepth 20000 in
theorem ggX6_level_X6_isChannel : GoodIn wsX6_level wsX6_isChannel := goodIn_r _ [5, 6, 7, 8, 4, 9] (by decide +kernel) (by decide +kernel)
set_option maxRecDepth 20000 in
theorem gX6_level_X6_isChannel : GoodIn wsX6_level (va_wsS RX6 124 yX6_isChannel wsX6_isChannel) := goodIn_app (goodIn_of _ (by decide +kernel)) ggX6_level_X6_isChannel
set_option maxRecDepth 20000 in
theorem ggX6_level_X6_levelOf : GoodIn wsX6_level wsX6_levelOf := goodIn_ca (goodIn_ca (goodIn_r _ [13, 14, 15, 16, 17, 18, 19, 20, 21, 22, 23, 4, 24, 25, 26, 27, 28, 29, 30, 31, 32, 33, 34, 35, 36, 37, 38, 39, 40, 41, 42, 43, 44, 45, 46, 47, 48, 49, 50, 51, 52, 53, 54, 55, 56, 57, 58, 59, 60, 61, 62, 63, 64, 65, 66, 67, 68, 69, 70, 71, 72, 73, 74, 75, 76, 77, 78, 79, 80, 81, 82, 83, 84, 85, 86, 87, 88, 89, 90, 91, 92, 93, 94] (by decide +kernel) (by decide +kernel)) (goodIn_sub (fun _ h => List.mem_cons_of_mem _ (List.mem_append_left _ (List.mem_append_right _ h))) (by decide +kernel))) (goodIn_sub (fun _ h => List.mem_cons_of_mem _ (List.mem_append_right _ h)) (by decide +kernel))
set_option maxRecDepth 20000 in
theorem gX6_level_X6_levelOf : GoodIn wsX6_level (wsV RX6 162 RX6 yX6_levelOf wsX6_levelOf) := goodIn_app (goodIn_of _ (by decide +kernel)) ggX6_level_X6_levelOf
theorem dX6_level_0 : decode cX6_level 0 = .ok (.aload_n 0, 1) := by decide +kernel
theorem dX6_level_1 : decode cX6_level 1 = .ok (.iload_n 1, 1) := by decide +kernel
theorem dX6_level_2 : decode cX6_level 2 = .ok (.invokestatic 124, 3) := by decide +kernel
theorem dX6_level_5 : decode cX6_level 5 = .ok (.ifCond .eq 7, 3) := by decide +kernel
theorem dX6_level_8 : decode cX6_level 8 = .ok (.iconst 0, 1) := by decide +kernel
theorem dX6_level_9 : decode cX6_level 9 = .ok (.goto 4, 3) := by decide +kernel
theorem dX6_level_12 : decode cX6_level 12 = .ok (.iconst 1, 1) := by decide +kernel
theorem dX6_level_13 : decode cX6_level 13 = .ok (.putfield 98, 3) := by decide +kernel
theorem dX6_level_16 : decode cX6_level 16 = .ok (.aload_n 0, 1) := by decide +kernel
theorem dX6_level_17 : decode cX6_level 17 = .ok (.getfield 98, 3) := by decide +kernel
theorem dX6_level_20 : decode cX6_level 20 = .ok (.ifCond .ne 11, 3) := by decide +kernel
theorem dX6_level_23 : decode cX6_level 23 = .ok (.aload_n 0, 1) := by decide +kernel
theorem dX6_level_24 : decode cX6_level 24 = .ok (.iload_n 1, 1) := by decide +kernel
theorem dX6_level_25 : decode cX6_level 25 = .ok (.invokevirtual 162, 3) := by decide +kernel
theorem dX6_level_28 : decode cX6_level 28 = .ok (.goto 4, 3) := by decide +kernel
theorem dX6_level_31 : decode cX6_level 31 = .ok (.iconst (-1), 1) := by decide +kernel
theorem dX6_level_32 : decode cX6_level 32 = .ok (.ireturn, 1) := by decide +kernel
set_option maxRecDepth 20000 in
theorem ggX6_levelAlone_X6_level : GoodIn wsX6_levelAlone wsX6_level := goodIn_ca (goodIn_ca (goodIn_r _ [5, 6, 7, 8, 4, 9, 10, 11, 12, 13, 14, 15, 16, 17, 18, 19, 20, 21, 22, 23, 24, 25, 26, 27, 28, 29, 30, 31, 32, 33, 34, 35, 36, 37, 38, 39, 40, 41, 42, 43, 44, 45, 46, 47, 48, 49, 50, 51, 52, 53, 54, 55, 56, 57, 58, 59, 60, 61, 62, 63, 64, 65, 66, 67, 68, 69, 70, 71, 72, 73, 74, 75, 76, 77, 78, 79, 80, 81, 82, 83, 84, 85, 86, 87, 88, 89, 90, 91, 92, 93, 94, 95, 96, 97, 98] (by decide +kernel) (by decide +kernel)) (goodIn_sub (fun _ h => List.mem_cons_of_mem _ (List.mem_append_left _ (List.mem_append_right _ h))) (by decide +kernel))) (goodIn_sub (fun _ h => List.mem_cons_of_mem _ (List.mem_append_right _ h)) (by decide +kernel))
set_option maxRecDepth 20000 in
theorem gX6_levelAlone_X6_level : GoodIn wsX6_levelAlone (wsV RX6 194 RX6 yX6_level wsX6_level) := goodIn_app (goodIn_of _ (by decide +kernel)) ggX6_levelAlone_X6_level
theorem dX6_levelAlone_0 : decode cX6_levelAlone 0 = .ok (.aload_n 0, 1) := by decide +kernel
theorem dX6_levelAlone_1 : decode cX6_levelAlone 1 = .ok (.iload_n 1, 1) := by decide +kernel
theorem dX6_levelAlone_2 : decode cX6_levelAlone 2 = .ok (.invokevirtual 194, 3) := by decide +kernel
theorem dX6_levelAlone_5 : decode cX6_levelAlone 5 = .ok (.ireturn, 1) := by decide +kernel
set_option maxRecDepth 20000 in
theorem ggX6_channelByLevel_X6_isChannel : GoodIn wsX6_channelByLevel wsX6_isChannel := goodIn_r _ [5, 6, 7, 8, 4, 9] (by decide +kernel) (by decide +kernel)
set_option maxRecDepth 20000 in
theorem gX6_channelByLevel_X6_isChannel : GoodIn wsX6_channelByLevel (va_wsS RX6 124 yX6_isChannel wsX6_isChannel) := goodIn_app (goodIn_of _ (by decide +kernel)) ggX6_channelByLevel_X6_isChannel
set_option maxRecDepth 20000 in
theorem ggX6_channelByLevel_X6_levelOf : GoodIn wsX6_channelByLevel wsX6_levelOf := goodIn_ca (goodIn_ca (goodIn_r _ [13, 14, 15, 16, 17, 18, 19, 20, 21, 22, 23, 4, 24, 25, 26, 27, 28, 29, 30, 31, 32, 33, 34, 35, 36, 37, 38, 39, 40, 41, 42, 43, 44, 45, 46, 47, 48, 49, 50, 51, 52, 53, 54, 55, 56, 57, 58, 59, 60, 61, 62, 63, 64, 65, 66, 67, 68, 69, 70, 71, 72, 73, 74, 75, 76, 77, 78, 79, 80, 81, 82, 83, 84, 85, 86, 87, 88, 89, 90, 91, 92, 93, 94] (by decide +kernel) (by decide +kernel)) (goodIn_sub (fun _ h => List.mem_cons_of_mem _ (List.mem_append_left _ (List.mem_append_right _ h))) (by decide +kernel))) (goodIn_sub (fun _ h => List.mem_cons_of_mem _ (List.mem_append_right _ h)) (by decide +kernel))
set_option maxRecDepth 20000 in
theorem gX6_channelByLevel_X6_levelOf : GoodIn wsX6_channelByLevel (wsV RX6 162 RX6 yX6_levelOf wsX6_levelOf) := goodIn_app (goodIn_of _ (by decide +kernel)) ggX6_channelByLevel_X6_levelOf
theorem dX6_channelByLevel_0 : decode cX6_channelByLevel 0 = .ok (.aload_n 0, 1) := by decide +kernel
theorem dX6_channelByLevel_1 : decode cX6_channelByLevel 1 = .ok (.iload_n 1, 1) := by decide +kernel
theorem dX6_channelByLevel_2 : decode cX6_channelByLevel 2 = .ok (.invokestatic 124, 3) := by decide +kernel
theorem dX6_channelByLevel_5 : decode cX6_channelByLevel 5 = .ok (.ifCond .eq 7, 3) := by decide +kernel
theorem dX6_channelByLevel_8 : decode cX6_channelByLevel 8 = .ok (.iconst 0, 1) := by decide +kernel
theorem dX6_channelByLevel_9 : decode cX6_channelByLevel 9 = .ok (.goto 4, 3) := by decide +kernel
theorem dX6_channelByLevel_12 : decode cX6_channelByLevel 12 = .ok (.iconst 1, 1) := by decide +kernel
theorem dX6_channelByLevel_13 : decode cX6_channelByLevel 13 = .ok (.putfield 98, 3) := by decide +kernel
theorem dX6_channelByLevel_16 : decode cX6_channelByLevel 16 = .ok (.iconst (-1), 1) := by decide +kernel
theorem dX6_channelByLevel_17 : decode cX6_channelByLevel 17 = .ok (.istore_n 2, 1) := by decide +kernel
theorem dX6_channelByLevel_18 : decode cX6_channelByLevel 18 = .ok (.iconst 0, 1) := by decide +kernel
theorem dX6_channelByLevel_19 : decode cX6_channelByLevel 19 = .ok (.istore_n 3, 1) := by decide +kernel
theorem dX6_channelByLevel_20 : decode cX6_channelByLevel 20 = .ok (.iload_n 3, 1) := by decide +kernel
theorem dX6_channelByLevel_21 : decode cX6_channelByLevel 21 = .ok (.bipush 12, 2) := by decide +kernel
theorem dX6_channelByLevel_23 : decode cX6_channelByLevel 23 = .ok (.if_icmp .ge 91, 3) := by decide +kernel
theorem dX6_channelByLevel_26 : decode cX6_channelByLevel 26 = .ok (.aload_n 0, 1) := by decide +kernel
theorem dX6_channelByLevel_27 : decode cX6_channelByLevel 27 = .ok (.getfield 98, 3) := by decide +kernel
theorem dX6_channelByLevel_30 : decode cX6_channelByLevel 30 = .ok (.ifCond .ne 84, 3) := by decide +kernel
theorem dX6_channelByLevel_33 : decode cX6_channelByLevel 33 = .ok (.iconst 0, 1) := by decide +kernel
theorem dX6_channelByLevel_34 : decode cX6_channelByLevel 34 = .ok (.istore 4, 2) := by decide +kernel
theorem dX6_channelByLevel_36 : decode cX6_channelByLevel 36 = .ok (.iconst 0, 1) := by decide +kernel
theorem dX6_channelByLevel_37 : decode cX6_channelByLevel 37 = .ok (.istore 5, 2) := by decide +kernel
theorem dX6_channelByLevel_39 : decode cX6_channelByLevel 39 = .ok (.iload 5, 2) := by decide +kernel
theorem dX6_channelByLevel_41 : decode cX6_channelByLevel 41 = .ok (.bipush 12, 2) := by decide +kernel
theorem dX6_channelByLevel_43 : decode cX6_channelByLevel 43 = .ok (.if_icmp .ge 53, 3) := by decide +kernel
theorem dX6_channelByLevel_46 : decode cX6_channelByLevel 46 = .ok (.iload 4, 2) := by decide +kernel
theorem dX6_channelByLevel_48 : decode cX6_channelByLevel 48 = .ok (.aload_n 0, 1) := by decide +kernel
theorem dX6_channelByLevel_49 : decode cX6_channelByLevel 49 = .ok (.iload 5, 2) := by decide +kernel
theorem dX6_channelByLevel_51 : decode cX6_channelByLevel 51 = .ok (.invokevirtual 162, 3) := by decide +kernel
theorem dX6_channelByLevel_54 : decode cX6_channelByLevel 54 = .ok (.aload_n 0, 1) := by decide +kernel
theorem dX6_channelByLevel_55 : decode cX6_channelByLevel 55 = .ok (.iload_n 3, 1) := by decide +kernel
theorem dX6_channelByLevel_56 : decode cX6_channelByLevel 56 = .ok (.invokevirtual 162, 3) := by decide +kernel
theorem dX6_channelByLevel_59 : decode cX6_channelByLevel 59 = .ok (.if_icmp .gt 23, 3) := by decide +kernel
theorem dX6_channelByLevel_62 : decode cX6_channelByLevel 62 = .ok (.aload_n 0, 1) := by decide +kernel
theorem dX6_channelByLevel_63 : decode cX6_channelByLevel 63 = .ok (.iload 5, 2) := by decide +kernel
theorem dX6_channelByLevel_65 : decode cX6_channelByLevel 65 = .ok (.invokevirtual 162, 3) := by decide +kernel
theorem dX6_channelByLevel_68 : decode cX6_channelByLevel 68 = .ok (.aload_n 0, 1) := by decide +kernel
theorem dX6_channelByLevel_69 : decode cX6_channelByLevel 69 = .ok (.iload_n 3, 1) := by decide +kernel
theorem dX6_channelByLevel_70 : decode cX6_channelByLevel 70 = .ok (.invokevirtual 162, 3) := by decide +kernel
theorem dX6_channelByLevel_73 : decode cX6_channelByLevel 73 = .ok (.if_icmp .ne 13, 3) := by decide +kernel
theorem dX6_channelByLevel_76 : decode cX6_channelByLevel 76 = .ok (.iload 5, 2) := by decide +kernel
theorem dX6_channelByLevel_78 : decode cX6_channelByLevel 78 = .ok (.iload_n 3, 1) := by decide +kernel
theorem dX6_channelByLevel_79 : decode cX6_channelByLevel 79 = .ok (.if_icmp .ge 7, 3) := by decide +kernel
theorem dX6_channelByLevel_82 : decode cX6_channelByLevel 82 = .ok (.iconst 1, 1) := by decide +kernel
theorem dX6_channelByLevel_83 : decode cX6_channelByLevel 83 = .ok (.goto 4, 3) := by decide +kernel
theorem dX6_channelByLevel_86 : decode cX6_channelByLevel 86 = .ok (.iconst 0, 1) := by decide +kernel
theorem dX6_channelByLevel_87 : decode cX6_channelByLevel 87 = .ok (.iadd, 1) := by decide +kernel
theorem dX6_channelByLevel_88 : decode cX6_channelByLevel 88 = .ok (.istore 4, 2) := by decide +kernel
theorem dX6_channelByLevel_90 : decode cX6_channelByLevel 90 = .ok (.iinc 5 1, 3) := by decide +kernel
theorem dX6_channelByLevel_93 : decode cX6_channelByLevel 93 = .ok (.goto (-54), 3) := by decide +kernel
theorem dX6_channelByLevel_96 : decode cX6_channelByLevel 96 = .ok (.iload 4, 2) := by decide +kernel
theorem dX6_channelByLevel_98 : decode cX6_channelByLevel 98 = .ok (.iload_n 1, 1) := by decide +kernel
theorem dX6_channelByLevel_99 : decode cX6_channelByLevel 99 = .ok (.if_icmp .ne 7, 3) := by decide +kernel
theorem dX6_channelByLevel_102 : decode cX6_channelByLevel 102 = .ok (.iload_n 3, 1) := by decide +kernel
theorem dX6_channelByLevel_103 : decode cX6_channelByLevel 103 = .ok (.goto 4, 3) := by decide +kernel
theorem dX6_channelByLevel_106 : decode cX6_channelByLevel 106 = .ok (.iload_n 2, 1) := by decide +kernel
theorem dX6_channelByLevel_107 : decode cX6_channelByLevel 107 = .ok (.istore_n 2, 1) := by decide +kernel
theorem dX6_channelByLevel_108 : decode cX6_channelByLevel 108 = .ok (.iinc 3 1, 3) := by decide +kernel
theorem dX6_channelByLevel_111 : decode cX6_channelByLevel 111 = .ok (.goto (-91), 3) := by decide +kernel
theorem dX6_channelByLevel_114 : decode cX6_channelByLevel 114 = .ok (.iload_n 2, 1) := by decide +kernel
theorem dX6_channelByLevel_115 : decode cX6_channelByLevel 115 = .ok (.ireturn, 1) := by decide +kernel
theorem dX6_energy_0 : decode cX6_energy 0 = .ok (.aload_n 0, 1) := by decide +kernel
theorem dX6_energy_1 : decode cX6_energy 1 = .ok (.iconst 0, 1) := by decide +kernel
theorem dX6_energy_2 : decode cX6_energy 2 = .ok (.putfield 98, 3) := by decide +kernel
theorem dX6_energy_5 : decode cX6_energy 5 = .ok (.aload_n 0, 1) := by decide +kernel
theorem dX6_energy_6 : decode cX6_energy 6 = .ok (.getfield 158, 3) := by decide +kernel
theorem dX6_energy_9 : decode cX6_energy 9 = .ok (.lreturn, 1) := by decide +kernel
set_option maxRecDepth 20000 in
theorem ggX6_litShare_X6_levelOf : GoodIn wsX6_litShare wsX6_levelOf := goodIn_ca (goodIn_ca (goodIn_r _ [7, 8, 9, 10, 11, 12, 13, 14, 15, 16, 17, 6, 18, 19, 20, 21, 22, 23, 24, 25, 26, 27, 28, 29, 30, 31, 32, 33, 34, 35, 36, 37, 38, 39, 40, 41, 42, 43, 44, 45, 46, 47, 48, 49, 50, 51, 52, 53, 54, 55, 56, 57, 58, 59, 60, 61, 62, 63, 64, 65, 66, 67, 68, 69, 70, 71, 72, 73, 74, 75, 76, 77, 78, 79, 80, 81, 82, 83, 84, 85, 86, 87, 88] (by decide +kernel) (by decide +kernel)) (goodIn_sub (fun _ h => List.mem_cons_of_mem _ (List.mem_append_left _ (List.mem_append_right _ h))) (by decide +kernel))) (goodIn_sub (fun _ h => List.mem_cons_of_mem _ (List.mem_append_right _ h)) (by decide +kernel))
set_option maxRecDepth 20000 in
theorem gX6_litShare_X6_levelOf : GoodIn wsX6_litShare (wsV RX6 162 RX6 yX6_levelOf wsX6_levelOf) := goodIn_app (goodIn_of _ (by decide +kernel)) ggX6_litShare_X6_levelOf
theorem dX6_litShare_0 : decode cX6_litShare 0 = .ok (.aload_n 0, 1) := by decide +kernel
theorem dX6_litShare_1 : decode cX6_litShare 1 = .ok (.iconst 0, 1) := by decide +kernel
theorem dX6_litShare_2 : decode cX6_litShare 2 = .ok (.putfield 98, 3) := by decide +kernel
theorem dX6_litShare_5 : decode cX6_litShare 5 = .ok (.iconst 0, 1) := by decide +kernel
theorem dX6_litShare_6 : decode cX6_litShare 6 = .ok (.istore_n 1, 1) := by decide +kernel
theorem dX6_litShare_7 : decode cX6_litShare 7 = .ok (.iconst 0, 1) := by decide +kernel
theorem dX6_litShare_8 : decode cX6_litShare 8 = .ok (.istore_n 2, 1) := by decide +kernel
theorem dX6_litShare_9 : decode cX6_litShare 9 = .ok (.iload_n 2, 1) := by decide +kernel
theorem dX6_litShare_10 : decode cX6_litShare 10 = .ok (.bipush 12, 2) := by decide +kernel
theorem dX6_litShare_12 : decode cX6_litShare 12 = .ok (.if_icmp .ge 25, 3) := by decide +kernel
theorem dX6_litShare_15 : decode cX6_litShare 15 = .ok (.iload_n 1, 1) := by decide +kernel
theorem dX6_litShare_16 : decode cX6_litShare 16 = .ok (.aload_n 0, 1) := by decide +kernel
theorem dX6_litShare_17 : decode cX6_litShare 17 = .ok (.iload_n 2, 1) := by decide +kernel
theorem dX6_litShare_18 : decode cX6_litShare 18 = .ok (.invokevirtual 162, 3) := by decide +kernel
theorem dX6_litShare_21 : decode cX6_litShare 21 = .ok (.ifCond .le 7, 3) := by decide +kernel
theorem dX6_litShare_24 : decode cX6_litShare 24 = .ok (.iconst 1, 1) := by decide +kernel
theorem dX6_litShare_25 : decode cX6_litShare 25 = .ok (.goto 4, 3) := by decide +kernel
theorem dX6_litShare_28 : decode cX6_litShare 28 = .ok (.iconst 0, 1) := by decide +kernel
theorem dX6_litShare_29 : decode cX6_litShare 29 = .ok (.iadd, 1) := by decide +kernel
theorem dX6_litShare_30 : decode cX6_litShare 30 = .ok (.istore_n 1, 1) := by decide +kernel
theorem dX6_litShare_31 : decode cX6_litShare 31 = .ok (.iinc 2 1, 3) := by decide +kernel
theorem dX6_litShare_34 : decode cX6_litShare 34 = .ok (.goto (-25), 3) := by decide +kernel
theorem dX6_litShare_37 : decode cX6_litShare 37 = .ok (.iload_n 1, 1) := by decide +kernel
theorem dX6_litShare_38 : decode cX6_litShare 38 = .ok (.i2f, 1) := by decide +kernel
theorem dX6_litShare_39 : decode cX6_litShare 39 = .ok (.ldc 197, 2) := by decide +kernel
theorem dX6_litShare_41 : decode cX6_litShare 41 = .ok (.fdiv, 1) := by decide +kernel
theorem dX6_litShare_42 : decode cX6_litShare 42 = .ok (.freturn, 1) := by decide +kernel
set_option maxRecDepth 20000 in
theorem ggX6_meanLevel_X6_levelOf : GoodIn wsX6_meanLevel wsX6_levelOf := goodIn_ca (goodIn_ca (goodIn_r _ [7, 1, 8, 9, 10, 11, 12, 13, 14, 15, 16, 6, 17, 18, 19, 20, 21, 22, 23, 24, 25, 26, 27, 28, 29, 30, 31, 32, 33, 34, 35, 36, 37, 38, 39, 40, 41, 42, 43, 44, 45, 46, 47, 48, 49, 50, 51, 52, 53, 54, 55, 56, 57, 58, 59, 60, 61, 62, 63, 64, 65, 66, 67, 68, 69, 70, 71, 72, 73, 74, 75, 76, 77, 78, 79, 80, 81, 82, 83, 84, 85, 86, 87] (by decide +kernel) (by decide +kernel)) (goodIn_sub (fun _ h => List.mem_cons_of_mem _ (List.mem_append_left _ (List.mem_append_right _ h))) (by decide +kernel))) (goodIn_sub (fun _ h => List.mem_cons_of_mem _ (List.mem_append_right _ h)) (by decide +kernel))
set_option maxRecDepth 20000 in
theorem gX6_meanLevel_X6_levelOf : GoodIn wsX6_meanLevel (wsV RX6 162 RX6 yX6_levelOf wsX6_levelOf) := goodIn_app (goodIn_of _ (by decide +kernel)) ggX6_meanLevel_X6_levelOf
theorem dX6_meanLevel_0 : decode cX6_meanLevel 0 = .ok (.iconst 0, 1) := by decide +kernel
theorem dX6_meanLevel_1 : decode cX6_meanLevel 1 = .ok (.istore_n 1, 1) := by decide +kernel
theorem dX6_meanLevel_2 : decode cX6_meanLevel 2 = .ok (.iconst 0, 1) := by decide +kernel
theorem dX6_meanLevel_3 : decode cX6_meanLevel 3 = .ok (.istore_n 2, 1) := by decide +kernel
theorem dX6_meanLevel_4 : decode cX6_meanLevel 4 = .ok (.iconst 0, 1) := by decide +kernel
theorem dX6_meanLevel_5 : decode cX6_meanLevel 5 = .ok (.istore_n 3, 1) := by decide +kernel
theorem dX6_meanLevel_6 : decode cX6_meanLevel 6 = .ok (.iload_n 3, 1) := by decide +kernel
theorem dX6_meanLevel_7 : decode cX6_meanLevel 7 = .ok (.bipush 12, 2) := by decide +kernel
theorem dX6_meanLevel_9 : decode cX6_meanLevel 9 = .ok (.if_icmp .ge 49, 3) := by decide +kernel
theorem dX6_meanLevel_12 : decode cX6_meanLevel 12 = .ok (.iload_n 1, 1) := by decide +kernel
theorem dX6_meanLevel_13 : decode cX6_meanLevel 13 = .ok (.aload_n 0, 1) := by decide +kernel
theorem dX6_meanLevel_14 : decode cX6_meanLevel 14 = .ok (.getfield 51, 3) := by decide +kernel
theorem dX6_meanLevel_17 : decode cX6_meanLevel 17 = .ok (.iload_n 3, 1) := by decide +kernel
theorem dX6_meanLevel_18 : decode cX6_meanLevel 18 = .ok (.iaload, 1) := by decide +kernel
theorem dX6_meanLevel_19 : decode cX6_meanLevel 19 = .ok (.iconst (-1), 1) := by decide +kernel
theorem dX6_meanLevel_20 : decode cX6_meanLevel 20 = .ok (.if_icmp .ne 7, 3) := by decide +kernel
theorem dX6_meanLevel_23 : decode cX6_meanLevel 23 = .ok (.iconst 1, 1) := by decide +kernel
theorem dX6_meanLevel_24 : decode cX6_meanLevel 24 = .ok (.goto 4, 3) := by decide +kernel
theorem dX6_meanLevel_27 : decode cX6_meanLevel 27 = .ok (.iconst 0, 1) := by decide +kernel
theorem dX6_meanLevel_28 : decode cX6_meanLevel 28 = .ok (.iadd, 1) := by decide +kernel
theorem dX6_meanLevel_29 : decode cX6_meanLevel 29 = .ok (.istore_n 1, 1) := by decide +kernel
theorem dX6_meanLevel_30 : decode cX6_meanLevel 30 = .ok (.iload_n 2, 1) := by decide +kernel
theorem dX6_meanLevel_31 : decode cX6_meanLevel 31 = .ok (.aload_n 0, 1) := by decide +kernel
theorem dX6_meanLevel_32 : decode cX6_meanLevel 32 = .ok (.getfield 51, 3) := by decide +kernel
theorem dX6_meanLevel_35 : decode cX6_meanLevel 35 = .ok (.iload_n 3, 1) := by decide +kernel
theorem dX6_meanLevel_36 : decode cX6_meanLevel 36 = .ok (.iaload, 1) := by decide +kernel
theorem dX6_meanLevel_37 : decode cX6_meanLevel 37 = .ok (.iconst (-1), 1) := by decide +kernel
theorem dX6_meanLevel_38 : decode cX6_meanLevel 38 = .ok (.if_icmp .ne 11, 3) := by decide +kernel
theorem dX6_meanLevel_41 : decode cX6_meanLevel 41 = .ok (.aload_n 0, 1) := by decide +kernel
theorem dX6_meanLevel_42 : decode cX6_meanLevel 42 = .ok (.iload_n 3, 1) := by decide +kernel
theorem dX6_meanLevel_43 : decode cX6_meanLevel 43 = .ok (.invokevirtual 162, 3) := by decide +kernel
theorem dX6_meanLevel_46 : decode cX6_meanLevel 46 = .ok (.goto 4, 3) := by decide +kernel
theorem dX6_meanLevel_49 : decode cX6_meanLevel 49 = .ok (.iconst 0, 1) := by decide +kernel
theorem dX6_meanLevel_50 : decode cX6_meanLevel 50 = .ok (.iadd, 1) := by decide +kernel
theorem dX6_meanLevel_51 : decode cX6_meanLevel 51 = .ok (.istore_n 2, 1) := by decide +kernel
theorem dX6_meanLevel_52 : decode cX6_meanLevel 52 = .ok (.iinc 3 1, 3) := by decide +kernel
theorem dX6_meanLevel_55 : decode cX6_meanLevel 55 = .ok (.goto (-49), 3) := by decide +kernel
theorem dX6_meanLevel_58 : decode cX6_meanLevel 58 = .ok (.aload_n 0, 1) := by decide +kernel
theorem dX6_meanLevel_59 : decode cX6_meanLevel 59 = .ok (.iload_n 1, 1) := by decide +kernel
theorem dX6_meanLevel_60 : decode cX6_meanLevel 60 = .ok (.ifCond .ne 7, 3) := by decide +kernel
theorem dX6_meanLevel_63 : decode cX6_meanLevel 63 = .ok (.iconst 1, 1) := by decide +kernel
theorem dX6_meanLevel_64 : decode cX6_meanLevel 64 = .ok (.goto 4, 3) := by decide +kernel
theorem dX6_meanLevel_67 : decode cX6_meanLevel 67 = .ok (.iconst 0, 1) := by decide +kernel
theorem dX6_meanLevel_68 : decode cX6_meanLevel 68 = .ok (.putfield 98, 3) := by decide +kernel
theorem dX6_meanLevel_71 : decode cX6_meanLevel 71 = .ok (.aload_n 0, 1) := by decide +kernel
theorem dX6_meanLevel_72 : decode cX6_meanLevel 72 = .ok (.getfield 98, 3) := by decide +kernel
theorem dX6_meanLevel_75 : decode cX6_meanLevel 75 = .ok (.ifCond .ne 11, 3) := by decide +kernel
theorem dX6_meanLevel_78 : decode cX6_meanLevel 78 = .ok (.iload_n 2, 1) := by decide +kernel
theorem dX6_meanLevel_79 : decode cX6_meanLevel 79 = .ok (.i2d, 1) := by decide +kernel
theorem dX6_meanLevel_80 : decode cX6_meanLevel 80 = .ok (.iload_n 1, 1) := by decide +kernel
theorem dX6_meanLevel_81 : decode cX6_meanLevel 81 = .ok (.i2d, 1) := by decide +kernel
theorem dX6_meanLevel_82 : decode cX6_meanLevel 82 = .ok (.ddiv, 1) := by decide +kernel
theorem dX6_meanLevel_83 : decode cX6_meanLevel 83 = .ok (.goto 4, 3) := by decide +kernel
theorem dX6_meanLevel_86 : decode cX6_meanLevel 86 = .ok (.dconst 0, 1) := by decide +kernel
theorem dX6_meanLevel_87 : decode cX6_meanLevel 87 = .ok (.dreturn, 1) := by decide +kernel
theorem dX6_isCall_0 : decode cX6_isCall 0 = .ok (.iload_n 0, 1) := by decide +kernel
theorem dX6_isCall_1 : decode cX6_isCall 1 = .ok (.bipush 103, 2) := by decide +kernel
theorem dX6_isCall_3 : decode cX6_isCall 3 = .ok (.if_icmp .eq 39, 3) := by decide +kernel
theorem dX6_isCall_6 : decode cX6_isCall 6 = .ok (.iload_n 0, 1) := by decide +kernel
theorem dX6_isCall_7 : decode cX6_isCall 7 = .ok (.bipush 98, 2) := by decide +kernel
theorem dX6_isCall_9 : decode cX6_isCall 9 = .ok (.if_icmp .eq 33, 3) := by decide +kernel
theorem dX6_isCall_12 : decode cX6_isCall 12 = .ok (.iload_n 0, 1) := by decide +kernel
theorem dX6_isCall_13 : decode cX6_isCall 13 = .ok (.bipush 116, 2) := by decide +kernel
theorem dX6_isCall_15 : decode cX6_isCall 15 = .ok (.if_icmp .eq 27, 3) := by decide +kernel
theorem dX6_isCall_18 : decode cX6_isCall 18 = .ok (.iload_n 0, 1) := by decide +kernel
theorem dX6_isCall_19 : decode cX6_isCall 19 = .ok (.bipush 102, 2) := by decide +kernel
theorem dX6_isCall_21 : decode cX6_isCall 21 = .ok (.if_icmp .eq 21, 3) := by decide +kernel
theorem dX6_isCall_24 : decode cX6_isCall 24 = .ok (.iload_n 0, 1) := by decide +kernel
theorem dX6_isCall_25 : decode cX6_isCall 25 = .ok (.bipush 109, 2) := by decide +kernel
theorem dX6_isCall_27 : decode cX6_isCall 27 = .ok (.if_icmp .eq 15, 3) := by decide +kernel
theorem dX6_isCall_30 : decode cX6_isCall 30 = .ok (.iload_n 0, 1) := by decide +kernel
theorem dX6_isCall_31 : decode cX6_isCall 31 = .ok (.bipush 112, 2) := by decide +kernel
theorem dX6_isCall_33 : decode cX6_isCall 33 = .ok (.if_icmp .eq 9, 3) := by decide +kernel
theorem dX6_isCall_36 : decode cX6_isCall 36 = .ok (.iload_n 0, 1) := by decide +kernel
theorem dX6_isCall_37 : decode cX6_isCall 37 = .ok (.bipush 119, 2) := by decide +kernel
theorem dX6_isCall_39 : decode cX6_isCall 39 = .ok (.if_icmp .ne 7, 3) := by decide +kernel
theorem dX6_isCall_42 : decode cX6_isCall 42 = .ok (.iconst 1, 1) := by decide +kernel
theorem dX6_isCall_43 : decode cX6_isCall 43 = .ok (.goto 4, 3) := by decide +kernel
theorem dX6_isCall_46 : decode cX6_isCall 46 = .ok (.iconst 0, 1) := by decide +kernel
theorem dX6_isCall_47 : decode cX6_isCall 47 = .ok (.ireturn, 1) := by decide +kernel
set_option maxRecDepth 20000 in
theorem ggX6_addStep_X6_isCall : GoodIn wsX6_addStep wsX6_isCall := goodIn_r _ [9] (by decide +kernel) (by decide +kernel)
set_option maxRecDepth 20000 in
theorem gX6_addStep_X6_isCall : GoodIn wsX6_addStep (va_wsS RX6 198 yX6_isCall wsX6_isCall) := goodIn_app (goodIn_of _ (by decide +kernel)) ggX6_addStep_X6_isCall
theorem dX6_addStep_0 : decode cX6_addStep 0 = .ok (.aload_n 0, 1) := by decide +kernel
theorem dX6_addStep_1 : decode cX6_addStep 1 = .ok (.iload_n 1, 1) := by decide +kernel
theorem dX6_addStep_2 : decode cX6_addStep 2 = .ok (.invokestatic 198, 3) := by decide +kernel
theorem dX6_addStep_5 : decode cX6_addStep 5 = .ok (.ifCond .ne 7, 3) := by decide +kernel
theorem dX6_addStep_8 : decode cX6_addStep 8 = .ok (.iconst 1, 1) := by decide +kernel
theorem dX6_addStep_9 : decode cX6_addStep 9 = .ok (.goto 17, 3) := by decide +kernel
theorem dX6_addStep_12 : decode cX6_addStep 12 = .ok (.aload_n 0, 1) := by decide +kernel
theorem dX6_addStep_13 : decode cX6_addStep 13 = .ok (.getfield 202, 3) := by decide +kernel
theorem dX6_addStep_16 : decode cX6_addStep 16 = .ok (.bipush 8, 2) := by decide +kernel
theorem dX6_addStep_18 : decode cX6_addStep 18 = .ok (.if_icmp .ne 7, 3) := by decide +kernel
theorem dX6_addStep_21 : decode cX6_addStep 21 = .ok (.iconst 2, 1) := by decide +kernel
theorem dX6_addStep_22 : decode cX6_addStep 22 = .ok (.goto 4, 3) := by decide +kernel
theorem dX6_addStep_25 : decode cX6_addStep 25 = .ok (.iconst 0, 1) := by decide +kernel
theorem dX6_addStep_26 : decode cX6_addStep 26 = .ok (.putfield 98, 3) := by decide +kernel
theorem dX6_addStep_29 : decode cX6_addStep 29 = .ok (.aload_n 0, 1) := by decide +kernel
theorem dX6_addStep_30 : decode cX6_addStep 30 = .ok (.getfield 98, 3) := by decide +kernel
theorem dX6_addStep_33 : decode cX6_addStep 33 = .ok (.ifCond .le 5, 3) := by decide +kernel
theorem dX6_addStep_36 : decode cX6_addStep 36 = .ok (.iconst (-1), 1) := by decide +kernel
theorem dX6_addStep_37 : decode cX6_addStep 37 = .ok (.ireturn, 1) := by decide +kernel
theorem dX6_addStep_38 : decode cX6_addStep 38 = .ok (.aload_n 0, 1) := by decide +kernel
theorem dX6_addStep_39 : decode cX6_addStep 39 = .ok (.getfield 81, 3) := by decide +kernel
theorem dX6_addStep_42 : decode cX6_addStep 42 = .ok (.aload_n 0, 1) := by decide +kernel
theorem dX6_addStep_43 : decode cX6_addStep 43 = .ok (.getfield 202, 3) := by decide +kernel
theorem dX6_addStep_46 : decode cX6_addStep 46 = .ok (.iload_n 1, 1) := by decide +kernel
theorem dX6_addStep_47 : decode cX6_addStep 47 = .ok (.castore, 1) := by decide +kernel
theorem dX6_addStep_48 : decode cX6_addStep 48 = .ok (.aload_n 0, 1) := by decide +kernel
theorem dX6_addStep_49 : decode cX6_addStep 49 = .ok (.getfield 84, 3) := by decide +kernel
theorem dX6_addStep_52 : decode cX6_addStep 52 = .ok (.aload_n 0, 1) := by decide +kernel
theorem dX6_addStep_53 : decode cX6_addStep 53 = .ok (.getfield 202, 3) := by decide +kernel
theorem dX6_addStep_56 : decode cX6_addStep 56 = .ok (.iload_n 2, 1) := by decide +kernel
theorem dX6_addStep_57 : decode cX6_addStep 57 = .ok (.iastore, 1) := by decide +kernel
theorem dX6_addStep_58 : decode cX6_addStep 58 = .ok (.aload_n 0, 1) := by decide +kernel
theorem dX6_addStep_59 : decode cX6_addStep 59 = .ok (.getfield 87, 3) := by decide +kernel
theorem dX6_addStep_62 : decode cX6_addStep 62 = .ok (.aload_n 0, 1) := by decide +kernel
theorem dX6_addStep_63 : decode cX6_addStep 63 = .ok (.getfield 202, 3) := by decide +kernel
theorem dX6_addStep_66 : decode cX6_addStep 66 = .ok (.iload_n 3, 1) := by decide +kernel
theorem dX6_addStep_67 : decode cX6_addStep 67 = .ok (.iastore, 1) := by decide +kernel
theorem dX6_addStep_68 : decode cX6_addStep 68 = .ok (.aload_n 0, 1) := by decide +kernel
theorem dX6_addStep_69 : decode cX6_addStep 69 = .ok (.dup, 1) := by decide +kernel
theorem dX6_addStep_70 : decode cX6_addStep 70 = .ok (.getfield 202, 3) := by decide +kernel
theorem dX6_addStep_73 : decode cX6_addStep 73 = .ok (.iconst 1, 1) := by decide +kernel
theorem dX6_addStep_74 : decode cX6_addStep 74 = .ok (.iadd, 1) := by decide +kernel
theorem dX6_addStep_75 : decode cX6_addStep 75 = .ok (.putfield 202, 3) := by decide +kernel
theorem dX6_addStep_78 : decode cX6_addStep 78 = .ok (.aload_n 0, 1) := by decide +kernel
theorem dX6_addStep_79 : decode cX6_addStep 79 = .ok (.getfield 202, 3) := by decide +kernel
theorem dX6_addStep_82 : decode cX6_addStep 82 = .ok (.ireturn, 1) := by decide +kernel
theorem dX6_clearMacro_0 : decode cX6_clearMacro 0 = .ok (.aload_n 0, 1) := by decide +kernel
theorem dX6_clearMacro_1 : decode cX6_clearMacro 1 = .ok (.iconst 0, 1) := by decide +kernel
theorem dX6_clearMacro_2 : decode cX6_clearMacro 2 = .ok (.putfield 98, 3) := by decide +kernel
theorem dX6_clearMacro_5 : decode cX6_clearMacro 5 = .ok (.aload_n 0, 1) := by decide +kernel
theorem dX6_clearMacro_6 : decode cX6_clearMacro 6 = .ok (.getfield 202, 3) := by decide +kernel
theorem dX6_clearMacro_9 : decode cX6_clearMacro 9 = .ok (.istore_n 1, 1) := by decide +kernel
theorem dX6_clearMacro_10 : decode cX6_clearMacro 10 = .ok (.aload_n 0, 1) := by decide +kernel
theorem dX6_clearMacro_11 : decode cX6_clearMacro 11 = .ok (.iconst 0, 1) := by decide +kernel
theorem dX6_clearMacro_12 : decode cX6_clearMacro 12 = .ok (.putfield 202, 3) := by decide +kernel
theorem dX6_clearMacro_15 : decode cX6_clearMacro 15 = .ok (.iload_n 1, 1) := by decide +kernel
theorem dX6_clearMacro_16 : decode cX6_clearMacro 16 = .ok (.ireturn, 1) := by decide +kernel
set_option maxRecDepth 20000 in
theorem ggX6_does_X6_go : GoodIn wsX6_does wsX6_go := goodIn_ca (goodIn_ca (goodIn_r _ [9, 10, 11, 12, 13, 14, 15, 8, 16, 4, 17, 18, 19, 20, 21, 22, 23, 24, 25, 26, 27, 28, 29, 30, 31, 32, 33, 34, 35, 36, 37, 38, 39, 40, 41, 42, 43, 44, 123, 124, 125, 126, 127, 128, 129, 130, 131, 132, 133, 134, 135, 136, 137, 138, 139, 140, 141, 142, 143, 144, 145, 146, 147, 148, 149, 150, 151, 152, 153, 154, 155, 156, 157, 158] (by decide +kernel) (by decide +kernel)) (goodIn_sub (fun _ h => List.mem_cons_of_mem _ (List.mem_append_left _ (List.mem_append_right _ h))) (by decide +kernel))) (goodIn_sub (fun _ h => List.mem_cons_of_mem _ (List.mem_append_right _ h)) (by decide +kernel))
set_option maxRecDepth 20000 in
theorem gX6_does_X6_go : GoodIn wsX6_does (wsV RX6 205 RX6 yX6_go wsX6_go) := goodIn_app (goodIn_of _ (by decide +kernel)) ggX6_does_X6_go
set_option maxRecDepth 20000 in
theorem ggX6_does_X6_back : GoodIn wsX6_does wsX6_back := goodIn_ca (goodIn_ca (goodIn_r _ [48, 10, 11, 12, 13, 14, 15, 8, 16, 4, 17, 18, 19, 20, 21, 22, 23, 24, 25, 26, 27, 28, 29, 30, 31, 32, 33, 34, 35, 36, 37, 38, 39, 40, 41, 42, 43, 44, 123, 124, 125, 126, 127, 128, 129, 130, 131, 132, 133, 134, 135, 136, 137, 138, 139, 140, 141, 142, 143, 144, 145, 146, 147, 148, 149, 150, 151, 152, 153, 154, 155, 156, 157, 158] (by decide +kernel) (by decide +kernel)) (goodIn_sub (fun _ h => List.mem_cons_of_mem _ (List.mem_append_left _ (List.mem_append_right _ h))) (by decide +kernel))) (goodIn_sub (fun _ h => List.mem_cons_of_mem _ (List.mem_append_right _ h)) (by decide +kernel))
set_option maxRecDepth 20000 in
theorem gX6_does_X6_back : GoodIn wsX6_does (wsV RX6 209 RX6 yX6_back wsX6_back) := goodIn_app (goodIn_of _ (by decide +kernel)) ggX6_does_X6_back
set_option maxRecDepth 20000 in
theorem ggX6_does_X6_goTo : GoodIn wsX6_does wsX6_goTo := goodIn_ca (goodIn_ca (goodIn_r _ [52, 22, 53, 54, 55, 8, 56, 10, 11, 13, 14, 15, 16, 4, 12, 17, 18, 19, 20, 21, 23, 24, 25, 26, 27, 28, 29, 30, 31, 32, 33, 34, 35, 36, 37, 38, 39, 40, 41, 42, 43, 44, 123, 124, 125, 126, 127, 128, 129, 130, 131, 132, 133, 134, 135, 136, 137, 138, 139, 140, 141, 142, 143, 144, 145, 146, 147, 148, 149, 150, 151, 152, 153, 154, 155, 156, 157, 158] (by decide +kernel) (by decide +kernel)) (goodIn_sub (fun _ h => List.mem_cons_of_mem _ (List.mem_append_left _ (List.mem_append_right _ h))) (by decide +kernel))) (goodIn_sub (fun _ h => List.mem_cons_of_mem _ (List.mem_append_right _ h)) (by decide +kernel))
set_option maxRecDepth 20000 in
theorem gX6_does_X6_goTo : GoodIn wsX6_does (wsV RX6 212 RX6 yX6_goTo wsX6_goTo) := goodIn_app (goodIn_of _ (by decide +kernel)) ggX6_does_X6_goTo
set_option maxRecDepth 20000 in
theorem ggX6_does_X6_setFader : GoodIn wsX6_does wsX6_setFader := goodIn_ca (goodIn_r _ [60, 4, 61, 23, 62, 63, 64, 8, 65, 66, 67, 68, 69, 70, 71, 72, 73, 74, 75, 76, 77, 78, 123, 124, 125, 126, 127, 128, 129, 130, 131, 132, 133, 134, 135, 136, 137, 138, 139, 140, 141, 142, 143, 144, 145, 146, 147, 148, 149, 150, 151, 152, 153, 154, 155, 156, 157, 158] (by decide +kernel) (by decide +kernel)) (goodIn_sub (fun _ h => List.mem_cons_of_mem _ (List.mem_append_left _ (List.mem_append_right _ h))) (by decide +kernel))
set_option maxRecDepth 20000 in
theorem gX6_does_X6_setFader : GoodIn wsX6_does (wsV RX6 215 RX6 yX6_setFader wsX6_setFader) := goodIn_app (goodIn_of _ (by decide +kernel)) ggX6_does_X6_setFader
set_option maxRecDepth 20000 in
theorem ggX6_does_X6_setMaster : GoodIn wsX6_does wsX6_setMaster := goodIn_r _ [82, 4, 83, 70, 71, 8, 72, 73, 67, 68, 69, 123, 124, 125, 126, 127, 128, 129, 130, 131, 132, 133, 134, 135, 136, 137, 138, 139, 140, 141, 142, 143, 144, 145, 146, 147, 148, 149, 150, 151, 152, 153, 154, 155, 156, 157, 158] (by decide +kernel) (by decide +kernel)
set_option maxRecDepth 20000 in
theorem gX6_does_X6_setMaster : GoodIn wsX6_does (wsV RX6 218 RX6 yX6_setMaster wsX6_setMaster) := goodIn_app (goodIn_of _ (by decide +kernel)) ggX6_does_X6_setMaster
set_option maxRecDepth 20000 in
theorem ggX6_does_X6_park : GoodIn wsX6_does wsX6_park := goodIn_ca (goodIn_r _ [87, 4, 88, 89, 90, 8, 91, 92, 67, 68, 69, 70, 71, 72, 73, 123, 124, 125, 126, 127, 128, 129, 130, 131, 132, 133, 134, 135, 136, 137, 138, 139, 140, 141, 142, 143, 144, 145, 146, 147, 148, 149, 150, 151, 152, 153, 154, 155, 156, 157, 158] (by decide +kernel) (by decide +kernel)) (goodIn_sub (fun _ h => List.mem_cons_of_mem _ (List.mem_append_left _ (List.mem_append_right _ h))) (by decide +kernel))
set_option maxRecDepth 20000 in
theorem gX6_does_X6_park : GoodIn wsX6_does (wsV RX6 221 RX6 yX6_park wsX6_park) := goodIn_app (goodIn_of _ (by decide +kernel)) ggX6_does_X6_park
set_option maxRecDepth 20000 in
theorem ggX6_does_X6_pass : GoodIn wsX6_does wsX6_pass := goodIn_ca (goodIn_ca (goodIn_r _ [96, 97, 4, 27, 22, 26, 28, 21, 25, 98, 67, 68, 8, 69, 99, 100, 101, 102, 88, 103, 104, 105, 43, 106, 83, 107, 108, 109, 110, 111, 23, 61, 66, 41, 42, 44, 31, 32, 33, 34, 29, 74, 75, 76, 77, 78, 112, 113, 114, 115, 116, 117, 118, 119, 120, 121, 122, 123, 124, 125, 126, 127, 128, 129, 130, 131, 132, 133, 134, 135, 136, 137, 138, 139, 140, 141, 142, 143, 144, 145, 146, 147, 148, 149, 150, 151, 152, 153, 154, 155, 156, 157, 158] (by decide +kernel) (by decide +kernel)) (goodIn_sub (fun _ h => List.mem_cons_of_mem _ (List.mem_append_left _ (List.mem_append_right _ h))) (by decide +kernel))) (goodIn_sub (fun _ h => List.mem_cons_of_mem _ (List.mem_append_right _ h)) (by decide +kernel))
set_option maxRecDepth 20000 in
theorem gX6_does_X6_pass : GoodIn wsX6_does (wsV RX6 224 RX6 yX6_pass wsX6_pass) := goodIn_app (goodIn_of _ (by decide +kernel)) ggX6_does_X6_pass
theorem dX6_does_0 : decode cX6_does 0 = .ok (.aload_n 0, 1) := by decide +kernel
theorem dX6_does_1 : decode cX6_does 1 = .ok (.getfield 84, 3) := by decide +kernel
theorem dX6_does_4 : decode cX6_does 4 = .ok (.iload_n 1, 1) := by decide +kernel
theorem dX6_does_5 : decode cX6_does 5 = .ok (.iaload, 1) := by decide +kernel
theorem dX6_does_6 : decode cX6_does 6 = .ok (.istore_n 2, 1) := by decide +kernel
theorem dX6_does_7 : decode cX6_does 7 = .ok (.aload_n 0, 1) := by decide +kernel
theorem dX6_does_8 : decode cX6_does 8 = .ok (.getfield 87, 3) := by decide +kernel
theorem dX6_does_11 : decode cX6_does 11 = .ok (.iload_n 1, 1) := by decide +kernel
theorem dX6_does_12 : decode cX6_does 12 = .ok (.iaload, 1) := by decide +kernel
theorem dX6_does_13 : decode cX6_does 13 = .ok (.istore_n 3, 1) := by decide +kernel
theorem dX6_does_14 : decode cX6_does 14 = .ok (.aload_n 0, 1) := by decide +kernel
theorem dX6_does_15 : decode cX6_does 15 = .ok (.getfield 81, 3) := by decide +kernel
theorem dX6_does_18 : decode cX6_does 18 = .ok (.iload_n 1, 1) := by decide +kernel
theorem dX6_does_19 : decode cX6_does 19 = .ok (.caload, 1) := by decide +kernel
theorem dX6_does_20 : decode cX6_does 20 = .ok (.tableswitch 244 98 116 #[112, 244, 244, 244, 153, 92, 244, 244, 244, 244, 244, 188, 244, 244, 209, 244, 244, 244, 132], 92) := by decide +kernel
theorem dX6_does_112 : decode cX6_does 112 = .ok (.aload_n 0, 1) := by decide +kernel
theorem dX6_does_113 : decode cX6_does 113 = .ok (.invokevirtual 205, 3) := by decide +kernel
theorem dX6_does_116 : decode cX6_does 116 = .ok (.pop, 1) := by decide +kernel
theorem dX6_does_117 : decode cX6_does 117 = .ok (.aload_n 0, 1) := by decide +kernel
theorem dX6_does_118 : decode cX6_does 118 = .ok (.getfield 98, 3) := by decide +kernel
theorem dX6_does_121 : decode cX6_does 121 = .ok (.ifCond .ne 8, 3) := by decide +kernel
theorem dX6_does_124 : decode cX6_does 124 = .ok (.bipush 110, 2) := by decide +kernel
theorem dX6_does_126 : decode cX6_does 126 = .ok (.goto 5, 3) := by decide +kernel
theorem dX6_does_129 : decode cX6_does 129 = .ok (.bipush 101, 2) := by decide +kernel
theorem dX6_does_131 : decode cX6_does 131 = .ok (.ireturn, 1) := by decide +kernel
theorem dX6_does_132 : decode cX6_does 132 = .ok (.aload_n 0, 1) := by decide +kernel
theorem dX6_does_133 : decode cX6_does 133 = .ok (.invokevirtual 209, 3) := by decide +kernel
theorem dX6_does_136 : decode cX6_does 136 = .ok (.pop, 1) := by decide +kernel
theorem dX6_does_137 : decode cX6_does 137 = .ok (.aload_n 0, 1) := by decide +kernel
theorem dX6_does_138 : decode cX6_does 138 = .ok (.getfield 98, 3) := by decide +kernel
theorem dX6_does_141 : decode cX6_does 141 = .ok (.ifCond .ne 8, 3) := by decide +kernel
theorem dX6_does_144 : decode cX6_does 144 = .ok (.bipush 110, 2) := by decide +kernel
theorem dX6_does_146 : decode cX6_does 146 = .ok (.goto 5, 3) := by decide +kernel
theorem dX6_does_149 : decode cX6_does 149 = .ok (.bipush 101, 2) := by decide +kernel
theorem dX6_does_151 : decode cX6_does 151 = .ok (.ireturn, 1) := by decide +kernel
theorem dX6_does_152 : decode cX6_does 152 = .ok (.aload_n 0, 1) := by decide +kernel
theorem dX6_does_153 : decode cX6_does 153 = .ok (.iload_n 2, 1) := by decide +kernel
theorem dX6_does_154 : decode cX6_does 154 = .ok (.invokevirtual 212, 3) := by decide +kernel
theorem dX6_does_157 : decode cX6_does 157 = .ok (.pop, 1) := by decide +kernel
theorem dX6_does_158 : decode cX6_does 158 = .ok (.aload_n 0, 1) := by decide +kernel
theorem dX6_does_159 : decode cX6_does 159 = .ok (.getfield 98, 3) := by decide +kernel
theorem dX6_does_162 : decode cX6_does 162 = .ok (.ifCond .ne 8, 3) := by decide +kernel
theorem dX6_does_165 : decode cX6_does 165 = .ok (.bipush 110, 2) := by decide +kernel
theorem dX6_does_167 : decode cX6_does 167 = .ok (.goto 5, 3) := by decide +kernel
theorem dX6_does_170 : decode cX6_does 170 = .ok (.bipush 101, 2) := by decide +kernel
theorem dX6_does_172 : decode cX6_does 172 = .ok (.ireturn, 1) := by decide +kernel
theorem dX6_does_173 : decode cX6_does 173 = .ok (.aload_n 0, 1) := by decide +kernel
theorem dX6_does_174 : decode cX6_does 174 = .ok (.iload_n 2, 1) := by decide +kernel
theorem dX6_does_175 : decode cX6_does 175 = .ok (.iload_n 3, 1) := by decide +kernel
theorem dX6_does_176 : decode cX6_does 176 = .ok (.invokevirtual 215, 3) := by decide +kernel
theorem dX6_does_179 : decode cX6_does 179 = .ok (.pop, 1) := by decide +kernel
theorem dX6_does_180 : decode cX6_does 180 = .ok (.aload_n 0, 1) := by decide +kernel
theorem dX6_does_181 : decode cX6_does 181 = .ok (.getfield 98, 3) := by decide +kernel
theorem dX6_does_184 : decode cX6_does 184 = .ok (.ifCond .ne 8, 3) := by decide +kernel
theorem dX6_does_187 : decode cX6_does 187 = .ok (.bipush 110, 2) := by decide +kernel
theorem dX6_does_189 : decode cX6_does 189 = .ok (.goto 18, 3) := by decide +kernel
theorem dX6_does_192 : decode cX6_does 192 = .ok (.aload_n 0, 1) := by decide +kernel
theorem dX6_does_193 : decode cX6_does 193 = .ok (.getfield 98, 3) := by decide +kernel
theorem dX6_does_196 : decode cX6_does 196 = .ok (.iconst 1, 1) := by decide +kernel
theorem dX6_does_197 : decode cX6_does 197 = .ok (.if_icmp .ne 8, 3) := by decide +kernel
theorem dX6_does_200 : decode cX6_does 200 = .ok (.bipush 105, 2) := by decide +kernel
theorem dX6_does_202 : decode cX6_does 202 = .ok (.goto 5, 3) := by decide +kernel
theorem dX6_does_205 : decode cX6_does 205 = .ok (.bipush 97, 2) := by decide +kernel
theorem dX6_does_207 : decode cX6_does 207 = .ok (.ireturn, 1) := by decide +kernel
theorem dX6_does_208 : decode cX6_does 208 = .ok (.aload_n 0, 1) := by decide +kernel
theorem dX6_does_209 : decode cX6_does 209 = .ok (.iload_n 2, 1) := by decide +kernel
theorem dX6_does_210 : decode cX6_does 210 = .ok (.invokevirtual 218, 3) := by decide +kernel
theorem dX6_does_213 : decode cX6_does 213 = .ok (.pop, 1) := by decide +kernel
theorem dX6_does_214 : decode cX6_does 214 = .ok (.aload_n 0, 1) := by decide +kernel
theorem dX6_does_215 : decode cX6_does 215 = .ok (.getfield 98, 3) := by decide +kernel
theorem dX6_does_218 : decode cX6_does 218 = .ok (.ifCond .ne 8, 3) := by decide +kernel
theorem dX6_does_221 : decode cX6_does 221 = .ok (.bipush 110, 2) := by decide +kernel
theorem dX6_does_223 : decode cX6_does 223 = .ok (.goto 5, 3) := by decide +kernel
theorem dX6_does_226 : decode cX6_does 226 = .ok (.bipush 97, 2) := by decide +kernel
theorem dX6_does_228 : decode cX6_does 228 = .ok (.ireturn, 1) := by decide +kernel
theorem dX6_does_229 : decode cX6_does 229 = .ok (.aload_n 0, 1) := by decide +kernel
theorem dX6_does_230 : decode cX6_does 230 = .ok (.iload_n 2, 1) := by decide +kernel
theorem dX6_does_231 : decode cX6_does 231 = .ok (.iload_n 3, 1) := by decide +kernel
theorem dX6_does_232 : decode cX6_does 232 = .ok (.invokevirtual 221, 3) := by decide +kernel
theorem dX6_does_235 : decode cX6_does 235 = .ok (.pop, 1) := by decide +kernel
theorem dX6_does_236 : decode cX6_does 236 = .ok (.aload_n 0, 1) := by decide +kernel
theorem dX6_does_237 : decode cX6_does 237 = .ok (.getfield 98, 3) := by decide +kernel
theorem dX6_does_240 : decode cX6_does 240 = .ok (.ifCond .ne 8, 3) := by decide +kernel
theorem dX6_does_243 : decode cX6_does 243 = .ok (.bipush 110, 2) := by decide +kernel
theorem dX6_does_245 : decode cX6_does 245 = .ok (.goto 18, 3) := by decide +kernel
theorem dX6_does_248 : decode cX6_does 248 = .ok (.aload_n 0, 1) := by decide +kernel
theorem dX6_does_249 : decode cX6_does 249 = .ok (.getfield 98, 3) := by decide +kernel
theorem dX6_does_252 : decode cX6_does 252 = .ok (.iconst 1, 1) := by decide +kernel
theorem dX6_does_253 : decode cX6_does 253 = .ok (.if_icmp .ne 8, 3) := by decide +kernel
theorem dX6_does_256 : decode cX6_does 256 = .ok (.bipush 105, 2) := by decide +kernel
theorem dX6_does_258 : decode cX6_does 258 = .ok (.goto 5, 3) := by decide +kernel
theorem dX6_does_261 : decode cX6_does 261 = .ok (.bipush 97, 2) := by decide +kernel
theorem dX6_does_263 : decode cX6_does 263 = .ok (.ireturn, 1) := by decide +kernel
theorem dX6_does_264 : decode cX6_does 264 = .ok (.aload_n 0, 1) := by decide +kernel
theorem dX6_does_265 : decode cX6_does 265 = .ok (.iload_n 2, 1) := by decide +kernel
theorem dX6_does_266 : decode cX6_does 266 = .ok (.invokevirtual 224, 3) := by decide +kernel
theorem dX6_does_269 : decode cX6_does 269 = .ok (.pop, 1) := by decide +kernel
theorem dX6_does_270 : decode cX6_does 270 = .ok (.aload_n 0, 1) := by decide +kernel
theorem dX6_does_271 : decode cX6_does 271 = .ok (.getfield 98, 3) := by decide +kernel
theorem dX6_does_274 : decode cX6_does 274 = .ok (.ifCond .ne 8, 3) := by decide +kernel
theorem dX6_does_277 : decode cX6_does 277 = .ok (.bipush 110, 2) := by decide +kernel
theorem dX6_does_279 : decode cX6_does 279 = .ok (.goto 5, 3) := by decide +kernel
theorem dX6_does_282 : decode cX6_does 282 = .ok (.bipush 97, 2) := by decide +kernel
theorem dX6_does_284 : decode cX6_does 284 = .ok (.ireturn, 1) := by decide +kernel
set_option maxRecDepth 20000 in
theorem ggX6_runMacro_X6_does : GoodIn wsX6_runMacro wsX6_does := goodIn_ca (goodIn_ca (goodIn_r _ [8, 9, 10, 11, 3, 12, 13, 14, 7, 15, 16, 17, 18, 19, 20, 21, 22, 23, 24, 25, 26, 27, 28, 29, 30, 31, 32, 33, 34, 35, 36, 37, 38, 39, 40, 41, 42, 43, 44, 45, 46, 47, 48, 49, 50, 51, 52, 53, 54, 55, 56, 57, 58, 59, 60, 61, 62, 63, 64, 65, 66, 67, 68, 69, 70, 71, 72, 73, 74, 75, 76, 77, 78, 79, 80, 81, 82, 83, 84, 85, 86, 87, 88, 89, 90, 91, 92, 93, 94, 95, 96, 97, 98, 99, 100, 101, 102, 103, 104, 105, 106, 107, 108, 109, 110, 111, 112, 113, 114, 115, 116, 117, 118, 119, 120, 121, 122, 123, 124, 125, 126, 127, 128, 129, 130, 131, 132, 133, 134, 135, 136, 137, 138, 139, 140, 141, 142, 143, 144, 145, 146, 147, 148, 149, 150, 151, 152, 153, 154, 155, 156, 157, 158, 159, 160, 161, 162, 163, 164] (by decide +kernel) (by decide +kernel)) (goodIn_sub (fun _ h => List.mem_cons_of_mem _ (List.mem_append_left _ (List.mem_append_right _ h))) (by decide +kernel))) (goodIn_sub (fun _ h => List.mem_cons_of_mem _ (List.mem_append_right _ h)) (by decide +kernel))
set_option maxRecDepth 20000 in
theorem gX6_runMacro_X6_does : GoodIn wsX6_runMacro (wsV RX6 227 RX6 yX6_does wsX6_does) := goodIn_app (goodIn_of _ (by decide +kernel)) ggX6_runMacro_X6_does
theorem dX6_runMacro_0 : decode cX6_runMacro 0 = .ok (.aload_n 0, 1) := by decide +kernel
theorem dX6_runMacro_1 : decode cX6_runMacro 1 = .ok (.bipush 110, 2) := by decide +kernel
theorem dX6_runMacro_3 : decode cX6_runMacro 3 = .ok (.putfield 90, 3) := by decide +kernel
theorem dX6_runMacro_6 : decode cX6_runMacro 6 = .ok (.iconst 0, 1) := by decide +kernel
theorem dX6_runMacro_7 : decode cX6_runMacro 7 = .ok (.istore_n 1, 1) := by decide +kernel
theorem dX6_runMacro_8 : decode cX6_runMacro 8 = .ok (.iload_n 1, 1) := by decide +kernel
theorem dX6_runMacro_9 : decode cX6_runMacro 9 = .ok (.aload_n 0, 1) := by decide +kernel
theorem dX6_runMacro_10 : decode cX6_runMacro 10 = .ok (.getfield 202, 3) := by decide +kernel
theorem dX6_runMacro_13 : decode cX6_runMacro 13 = .ok (.if_icmp .ge 41, 3) := by decide +kernel
theorem dX6_runMacro_16 : decode cX6_runMacro 16 = .ok (.aload_n 0, 1) := by decide +kernel
theorem dX6_runMacro_17 : decode cX6_runMacro 17 = .ok (.getfield 90, 3) := by decide +kernel
theorem dX6_runMacro_20 : decode cX6_runMacro 20 = .ok (.bipush 110, 2) := by decide +kernel
theorem dX6_runMacro_22 : decode cX6_runMacro 22 = .ok (.if_icmp .ne 32, 3) := by decide +kernel
theorem dX6_runMacro_25 : decode cX6_runMacro 25 = .ok (.aload_n 0, 1) := by decide +kernel
theorem dX6_runMacro_26 : decode cX6_runMacro 26 = .ok (.aload_n 0, 1) := by decide +kernel
theorem dX6_runMacro_27 : decode cX6_runMacro 27 = .ok (.iload_n 1, 1) := by decide +kernel
theorem dX6_runMacro_28 : decode cX6_runMacro 28 = .ok (.invokevirtual 227, 3) := by decide +kernel
theorem dX6_runMacro_31 : decode cX6_runMacro 31 = .ok (.putfield 90, 3) := by decide +kernel
theorem dX6_runMacro_34 : decode cX6_runMacro 34 = .ok (.iload_n 1, 1) := by decide +kernel
theorem dX6_runMacro_35 : decode cX6_runMacro 35 = .ok (.aload_n 0, 1) := by decide +kernel
theorem dX6_runMacro_36 : decode cX6_runMacro 36 = .ok (.getfield 90, 3) := by decide +kernel
theorem dX6_runMacro_39 : decode cX6_runMacro 39 = .ok (.bipush 110, 2) := by decide +kernel
theorem dX6_runMacro_41 : decode cX6_runMacro 41 = .ok (.if_icmp .ne 7, 3) := by decide +kernel
theorem dX6_runMacro_44 : decode cX6_runMacro 44 = .ok (.iconst 1, 1) := by decide +kernel
theorem dX6_runMacro_45 : decode cX6_runMacro 45 = .ok (.goto 4, 3) := by decide +kernel
theorem dX6_runMacro_48 : decode cX6_runMacro 48 = .ok (.iconst 0, 1) := by decide +kernel
theorem dX6_runMacro_49 : decode cX6_runMacro 49 = .ok (.iadd, 1) := by decide +kernel
theorem dX6_runMacro_50 : decode cX6_runMacro 50 = .ok (.istore_n 1, 1) := by decide +kernel
theorem dX6_runMacro_51 : decode cX6_runMacro 51 = .ok (.goto (-43), 3) := by decide +kernel
theorem dX6_runMacro_54 : decode cX6_runMacro 54 = .ok (.aload_n 0, 1) := by decide +kernel
theorem dX6_runMacro_55 : decode cX6_runMacro 55 = .ok (.iconst 0, 1) := by decide +kernel
theorem dX6_runMacro_56 : decode cX6_runMacro 56 = .ok (.putfield 98, 3) := by decide +kernel
theorem dX6_runMacro_59 : decode cX6_runMacro 59 = .ok (.iload_n 1, 1) := by decide +kernel
theorem dX6_runMacro_60 : decode cX6_runMacro 60 = .ok (.ireturn, 1) := by decide +kernel
theorem dX6_macroFault_0 : decode cX6_macroFault 0 = .ok (.aload_n 0, 1) := by decide +kernel
theorem dX6_macroFault_1 : decode cX6_macroFault 1 = .ok (.aload_n 0, 1) := by decide +kernel
theorem dX6_macroFault_2 : decode cX6_macroFault 2 = .ok (.getfield 90, 3) := by decide +kernel
theorem dX6_macroFault_5 : decode cX6_macroFault 5 = .ok (.bipush 32, 2) := by decide +kernel
theorem dX6_macroFault_7 : decode cX6_macroFault 7 = .ok (.if_icmp .ne 7, 3) := by decide +kernel
theorem dX6_macroFault_10 : decode cX6_macroFault 10 = .ok (.iconst 1, 1) := by decide +kernel
theorem dX6_macroFault_11 : decode cX6_macroFault 11 = .ok (.goto 4, 3) := by decide +kernel
theorem dX6_macroFault_14 : decode cX6_macroFault 14 = .ok (.iconst 0, 1) := by decide +kernel
theorem dX6_macroFault_15 : decode cX6_macroFault 15 = .ok (.putfield 98, 3) := by decide +kernel
theorem dX6_macroFault_18 : decode cX6_macroFault 18 = .ok (.aload_n 0, 1) := by decide +kernel
theorem dX6_macroFault_19 : decode cX6_macroFault 19 = .ok (.getfield 90, 3) := by decide +kernel
theorem dX6_macroFault_22 : decode cX6_macroFault 22 = .ok (.ireturn, 1) := by decide +kernel
