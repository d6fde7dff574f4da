theorem dL_isEnded_186 : decode cL_isEnded 186 = .ok (.bipush 6, 2) := by decide +kernel
theorem dL_isEnded_188 : decode cL_isEnded 188 = .ok (.iload 8, 2) := by decide +kernel
theorem dL_isEnded_190 : decode cL_isEnded 190 = .ok (.imul, 1) := by decide +kernel
theorem dL_isEnded_191 : decode cL_isEnded 191 = .ok (.iconst 3, 1) := by decide +kernel
theorem dL_isEnded_192 : decode cL_isEnded 192 = .ok (.iadd, 1) := by decide +kernel
theorem dL_isEnded_193 : decode cL_isEnded 193 = .ok (.iaload, 1) := by decide +kernel
theorem dL_isEnded_194 : decode cL_isEnded 194 = .ok (.if_icmp .le 7, 3) := by decide +kernel
theorem dL_isEnded_197 : decode cL_isEnded 197 = .ok (.iconst 1, 1) := by decide +kernel
theorem dL_isEnded_198 : decode cL_isEnded 198 = .ok (.goto 4, 3) := by decide +kernel
theorem dL_isEnded_201 : decode cL_isEnded 201 = .ok (.iconst 0, 1) := by decide +kernel
theorem dL_isEnded_202 : decode cL_isEnded 202 = .ok (.istore 9, 2) := by decide +kernel
theorem dL_isEnded_204 : decode cL_isEnded 204 = .ok (.iload 9, 2) := by decide +kernel
theorem dL_isEnded_206 : decode cL_isEnded 206 = .ok (.ifCond .eq 14, 3) := by decide +kernel
theorem dL_isEnded_209 : decode cL_isEnded 209 = .ok (.aload 4, 2) := by decide +kernel
theorem dL_isEnded_211 : decode cL_isEnded 211 = .ok (.iload 8, 2) := by decide +kernel
theorem dL_isEnded_213 : decode cL_isEnded 213 = .ok (.iaload, 1) := by decide +kernel
theorem dL_isEnded_214 : decode cL_isEnded 214 = .ok (.invokestatic 117, 3) := by decide +kernel
theorem dL_isEnded_217 : decode cL_isEnded 217 = .ok (.goto 4, 3) := by decide +kernel
theorem dL_isEnded_220 : decode cL_isEnded 220 = .ok (.iconst 0, 1) := by decide +kernel
theorem dL_isEnded_221 : decode cL_isEnded 221 = .ok (.istore 10, 2) := by decide +kernel
theorem dL_isEnded_223 : decode cL_isEnded 223 = .ok (.aload_n 0, 1) := by decide +kernel
theorem dL_isEnded_224 : decode cL_isEnded 224 = .ok (.aload_n 2, 1) := by decide +kernel
theorem dL_isEnded_225 : decode cL_isEnded 225 = .ok (.bipush 6, 2) := by decide +kernel
theorem dL_isEnded_227 : decode cL_isEnded 227 = .ok (.iaload, 1) := by decide +kernel
theorem dL_isEnded_228 : decode cL_isEnded 228 = .ok (.iload 8, 2) := by decide +kernel
theorem dL_isEnded_230 : decode cL_isEnded 230 = .ok (.invokevirtual 78, 3) := by decide +kernel
theorem dL_isEnded_233 : decode cL_isEnded 233 = .ok (.aload 4, 2) := by decide +kernel
theorem dL_isEnded_235 : decode cL_isEnded 235 = .ok (.iload 8, 2) := by decide +kernel
theorem dL_isEnded_237 : decode cL_isEnded 237 = .ok (.iaload, 1) := by decide +kernel
theorem dL_isEnded_238 : decode cL_isEnded 238 = .ok (.if_icmp .ne 65, 3) := by decide +kernel
theorem dL_isEnded_241 : decode cL_isEnded 241 = .ok (.aload_n 2, 1) := by decide +kernel
theorem dL_isEnded_242 : decode cL_isEnded 242 = .ok (.bipush 7, 2) := by decide +kernel
theorem dL_isEnded_244 : decode cL_isEnded 244 = .ok (.iaload, 1) := by decide +kernel
theorem dL_isEnded_245 : decode cL_isEnded 245 = .ok (.ifCond .le 37, 3) := by decide +kernel
theorem dL_isEnded_248 : decode cL_isEnded 248 = .ok (.aload_n 0, 1) := by decide +kernel
theorem dL_isEnded_249 : decode cL_isEnded 249 = .ok (.iload 8, 2) := by decide +kernel
theorem dL_isEnded_251 : decode cL_isEnded 251 = .ok (.invokevirtual 81, 3) := by decide +kernel
theorem dL_isEnded_254 : decode cL_isEnded 254 = .ok (.aload 5, 2) := by decide +kernel
theorem dL_isEnded_256 : decode cL_isEnded 256 = .ok (.iload 8, 2) := by decide +kernel
theorem dL_isEnded_258 : decode cL_isEnded 258 = .ok (.iaload, 1) := by decide +kernel
theorem dL_isEnded_259 : decode cL_isEnded 259 = .ok (.if_icmp .lt 44, 3) := by decide +kernel
theorem dL_isEnded_262 : decode cL_isEnded 262 = .ok (.aload_n 0, 1) := by decide +kernel
theorem dL_isEnded_263 : decode cL_isEnded 263 = .ok (.iload 8, 2) := by decide +kernel
theorem dL_isEnded_265 : decode cL_isEnded 265 = .ok (.invokevirtual 81, 3) := by decide +kernel
theorem dL_isEnded_268 : decode cL_isEnded 268 = .ok (.aload 5, 2) := by decide +kernel
theorem dL_isEnded_270 : decode cL_isEnded 270 = .ok (.iload 8, 2) := by decide +kernel
theorem dL_isEnded_272 : decode cL_isEnded 272 = .ok (.iaload, 1) := by decide +kernel
theorem dL_isEnded_273 : decode cL_isEnded 273 = .ok (.bipush 10, 2) := by decide +kernel
theorem dL_isEnded_275 : decode cL_isEnded 275 = .ok (.iadd, 1) := by decide +kernel
theorem dL_isEnded_276 : decode cL_isEnded 276 = .ok (.if_icmp .gt 27, 3) := by decide +kernel
theorem dL_isEnded_279 : decode cL_isEnded 279 = .ok (.goto 20, 3) := by decide +kernel
theorem dL_isEnded_282 : decode cL_isEnded 282 = .ok (.aload_n 0, 1) := by decide +kernel
theorem dL_isEnded_283 : decode cL_isEnded 283 = .ok (.iload 8, 2) := by decide +kernel
theorem dL_isEnded_285 : decode cL_isEnded 285 = .ok (.invokevirtual 81, 3) := by decide +kernel
theorem dL_isEnded_288 : decode cL_isEnded 288 = .ok (.aload 5, 2) := by decide +kernel
theorem dL_isEnded_290 : decode cL_isEnded 290 = .ok (.iload 8, 2) := by decide +kernel
theorem dL_isEnded_292 : decode cL_isEnded 292 = .ok (.iaload, 1) := by decide +kernel
theorem dL_isEnded_293 : decode cL_isEnded 293 = .ok (.iload 10, 2) := by decide +kernel
theorem dL_isEnded_295 : decode cL_isEnded 295 = .ok (.iadd, 1) := by decide +kernel
theorem dL_isEnded_296 : decode cL_isEnded 296 = .ok (.if_icmp .ne 7, 3) := by decide +kernel
theorem dL_isEnded_299 : decode cL_isEnded 299 = .ok (.iconst 1, 1) := by decide +kernel
theorem dL_isEnded_300 : decode cL_isEnded 300 = .ok (.goto 4, 3) := by decide +kernel
theorem dL_isEnded_303 : decode cL_isEnded 303 = .ok (.iconst 0, 1) := by decide +kernel
theorem dL_isEnded_304 : decode cL_isEnded 304 = .ok (.istore 7, 2) := by decide +kernel
theorem dL_isEnded_306 : decode cL_isEnded 306 = .ok (.iinc 8 1, 3) := by decide +kernel
theorem dL_isEnded_309 : decode cL_isEnded 309 = .ok (.goto (-159), 3) := by decide +kernel
theorem dL_isEnded_312 : decode cL_isEnded 312 = .ok (.aload_n 2, 1) := by decide +kernel
theorem dL_isEnded_313 : decode cL_isEnded 313 = .ok (.iconst 3, 1) := by decide +kernel
theorem dL_isEnded_314 : decode cL_isEnded 314 = .ok (.iconst 0, 1) := by decide +kernel
theorem dL_isEnded_315 : decode cL_isEnded 315 = .ok (.iastore, 1) := by decide +kernel
theorem dL_isEnded_316 : decode cL_isEnded 316 = .ok (.aload_n 2, 1) := by decide +kernel
theorem dL_isEnded_317 : decode cL_isEnded 317 = .ok (.bipush 6, 2) := by decide +kernel
theorem dL_isEnded_319 : decode cL_isEnded 319 = .ok (.dup2, 1) := by decide +kernel
theorem dL_isEnded_320 : decode cL_isEnded 320 = .ok (.iaload, 1) := by decide +kernel
theorem dL_isEnded_321 : decode cL_isEnded 321 = .ok (.iconst 1, 1) := by decide +kernel
theorem dL_isEnded_322 : decode cL_isEnded 322 = .ok (.iadd, 1) := by decide +kernel
theorem dL_isEnded_323 : decode cL_isEnded 323 = .ok (.iastore, 1) := by decide +kernel
theorem dL_isEnded_324 : decode cL_isEnded 324 = .ok (.iload 7, 2) := by decide +kernel
theorem dL_isEnded_326 : decode cL_isEnded 326 = .ok (.ifCond .eq 14, 3) := by decide +kernel
theorem dL_isEnded_329 : decode cL_isEnded 329 = .ok (.aload_n 0, 1) := by decide +kernel
theorem dL_isEnded_330 : decode cL_isEnded 330 = .ok (.invokevirtual 110, 3) := by decide +kernel
theorem dL_isEnded_333 : decode cL_isEnded 333 = .ok (.ifCond .ne 7, 3) := by decide +kernel
theorem dL_isEnded_336 : decode cL_isEnded 336 = .ok (.iconst 1, 1) := by decide +kernel
theorem dL_isEnded_337 : decode cL_isEnded 337 = .ok (.goto 4, 3) := by decide +kernel
theorem dL_isEnded_340 : decode cL_isEnded 340 = .ok (.iconst 0, 1) := by decide +kernel
theorem dL_isEnded_341 : decode cL_isEnded 341 = .ok (.ireturn, 1) := by decide +kernel
set_option maxRecDepth 20000 in
theorem ggL_isDone_L_part : GoodIn wsL_isDone wsL_part := goodIn_r _ [5, 6] (by decide +kernel) (by decide +kernel)
set_option maxRecDepth 20000 in
theorem gL_isDone_L_part : GoodIn wsL_isDone (va_wsS RL 127 yL_part wsL_part) := goodIn_app (goodIn_of _ (by decide +kernel)) ggL_isDone_L_part
set_option maxRecDepth 20000 in
theorem ggL_isDone_X5_setDraw : GoodIn wsL_isDone wsX5_setDraw := goodIn_r _ [373, 110, 374, 375, 376, 141, 377, 255, 378, 379, 380, 381, 382, 383, 384, 385, 386, 387, 410, 411, 412, 413] (by decide +kernel) (by decide +kernel)
set_option maxRecDepth 20000 in
theorem gL_isDone_X5_setDraw : GoodIn wsL_isDone (wsV RL 151 RX5 yX5_setDraw wsX5_setDraw) := goodIn_app (goodIn_of _ (by decide +kernel)) ggL_isDone_X5_setDraw
theorem dL_isDone_0 : decode cL_isDone 0 = .ok (.aload_n 1, 1) := by decide +kernel
theorem dL_isDone_1 : decode cL_isDone 1 = .ok (.iload_n 2, 1) := by decide +kernel
theorem dL_isDone_2 : decode cL_isDone 2 = .ok (.bipush 40, 2) := by decide +kernel
theorem dL_isDone_4 : decode cL_isDone 4 = .ok (.invokestatic 127, 3) := by decide +kernel
theorem dL_isDone_7 : decode cL_isDone 7 = .ok (.istore 6, 2) := by decide +kernel
theorem dL_isDone_9 : decode cL_isDone 9 = .ok (.aload_n 1, 1) := by decide +kernel
theorem dL_isDone_10 : decode cL_isDone 10 = .ok (.iload_n 2, 1) := by decide +kernel
theorem dL_isDone_11 : decode cL_isDone 11 = .ok (.iconst 1, 1) := by decide +kernel
theorem dL_isDone_12 : decode cL_isDone 12 = .ok (.iadd, 1) := by decide +kernel
theorem dL_isDone_13 : decode cL_isDone 13 = .ok (.sipush 6000, 3) := by decide +kernel
theorem dL_isDone_16 : decode cL_isDone 16 = .ok (.invokestatic 127, 3) := by decide +kernel
theorem dL_isDone_19 : decode cL_isDone 19 = .ok (.istore 7, 2) := by decide +kernel
theorem dL_isDone_21 : decode cL_isDone 21 = .ok (.aload_n 1, 1) := by decide +kernel
theorem dL_isDone_22 : decode cL_isDone 22 = .ok (.iload_n 2, 1) := by decide +kernel
theorem dL_isDone_23 : decode cL_isDone 23 = .ok (.iconst 2, 1) := by decide +kernel
theorem dL_isDone_24 : decode cL_isDone 24 = .ok (.iadd, 1) := by decide +kernel
theorem dL_isDone_25 : decode cL_isDone 25 = .ok (.sipush 7000, 3) := by decide +kernel
theorem dL_isDone_28 : decode cL_isDone 28 = .ok (.invokestatic 127, 3) := by decide +kernel
theorem dL_isDone_31 : decode cL_isDone 31 = .ok (.istore 8, 2) := by decide +kernel
theorem dL_isDone_33 : decode cL_isDone 33 = .ok (.aload_n 1, 1) := by decide +kernel
theorem dL_isDone_34 : decode cL_isDone 34 = .ok (.iload_n 2, 1) := by decide +kernel
theorem dL_isDone_35 : decode cL_isDone 35 = .ok (.iconst 3, 1) := by decide +kernel
theorem dL_isDone_36 : decode cL_isDone 36 = .ok (.iadd, 1) := by decide +kernel
theorem dL_isDone_37 : decode cL_isDone 37 = .ok (.sipush 8000, 3) := by decide +kernel
theorem dL_isDone_40 : decode cL_isDone 40 = .ok (.invokestatic 127, 3) := by decide +kernel
theorem dL_isDone_43 : decode cL_isDone 43 = .ok (.istore 9, 2) := by decide +kernel
theorem dL_isDone_45 : decode cL_isDone 45 = .ok (.iload 6, 2) := by decide +kernel
theorem dL_isDone_47 : decode cL_isDone 47 = .ok (.bipush 10, 2) := by decide +kernel
theorem dL_isDone_49 : decode cL_isDone 49 = .ok (.if_icmp .ge 10, 3) := by decide +kernel
theorem dL_isDone_52 : decode cL_isDone 52 = .ok (.aload 5, 2) := by decide +kernel
theorem dL_isDone_54 : decode cL_isDone 54 = .ok (.iconst 5, 1) := by decide +kernel
theorem dL_isDone_55 : decode cL_isDone 55 = .ok (.iaload, 1) := by decide +kernel
theorem dL_isDone_56 : decode cL_isDone 56 = .ok (.ifCond .eq 8, 3) := by decide +kernel
theorem dL_isDone_59 : decode cL_isDone 59 = .ok (.iload 6, 2) := by decide +kernel
theorem dL_isDone_61 : decode cL_isDone 61 = .ok (.ifCond .ne 41, 3) := by decide +kernel
theorem dL_isDone_64 : decode cL_isDone 64 = .ok (.aload_n 0, 1) := by decide +kernel
theorem dL_isDone_65 : decode cL_isDone 65 = .ok (.aload_n 3, 1) := by decide +kernel
theorem dL_isDone_66 : decode cL_isDone 66 = .ok (.aload 4, 2) := by decide +kernel
theorem dL_isDone_68 : decode cL_isDone 68 = .ok (.aload 5, 2) := by decide +kernel
theorem dL_isDone_70 : decode cL_isDone 70 = .ok (.iload 6, 2) := by decide +kernel
theorem dL_isDone_72 : decode cL_isDone 72 = .ok (.iconst 3, 1) := by decide +kernel
theorem dL_isDone_73 : decode cL_isDone 73 = .ok (.if_icmp .ge 7, 3) := by decide +kernel
theorem dL_isDone_76 : decode cL_isDone 76 = .ok (.iconst 0, 1) := by decide +kernel
theorem dL_isDone_77 : decode cL_isDone 77 = .ok (.goto 15, 3) := by decide +kernel
theorem dL_isDone_80 : decode cL_isDone 80 = .ok (.iload 6, 2) := by decide +kernel
theorem dL_isDone_82 : decode cL_isDone 82 = .ok (.bipush 7, 2) := by decide +kernel
theorem dL_isDone_84 : decode cL_isDone 84 = .ok (.if_icmp .ge 7, 3) := by decide +kernel
theorem dL_isDone_87 : decode cL_isDone 87 = .ok (.iconst 1, 1) := by decide +kernel
theorem dL_isDone_88 : decode cL_isDone 88 = .ok (.goto 4, 3) := by decide +kernel
theorem dL_isDone_91 : decode cL_isDone 91 = .ok (.iconst 2, 1) := by decide +kernel
theorem dL_isDone_92 : decode cL_isDone 92 = .ok (.iload 7, 2) := by decide +kernel
theorem dL_isDone_94 : decode cL_isDone 94 = .ok (.iload 8, 2) := by decide +kernel
theorem dL_isDone_96 : decode cL_isDone 96 = .ok (.iload 9, 2) := by decide +kernel
theorem dL_isDone_98 : decode cL_isDone 98 = .ok (.invokestatic 130, 3) := by decide +kernel
theorem dL_isDone_101 : decode cL_isDone 101 = .ok (.ireturn, 1) := by decide +kernel
theorem dL_isDone_102 : decode cL_isDone 102 = .ok (.iload 6, 2) := by decide +kernel
theorem dL_isDone_104 : decode cL_isDone 104 = .ok (.bipush 14, 2) := by decide +kernel
theorem dL_isDone_106 : decode cL_isDone 106 = .ok (.if_icmp .ge 32, 3) := by decide +kernel
theorem dL_isDone_109 : decode cL_isDone 109 = .ok (.aload_n 0, 1) := by decide +kernel
theorem dL_isDone_110 : decode cL_isDone 110 = .ok (.aload_n 3, 1) := by decide +kernel
theorem dL_isDone_111 : decode cL_isDone 111 = .ok (.aload 4, 2) := by decide +kernel
theorem dL_isDone_113 : decode cL_isDone 113 = .ok (.aload 5, 2) := by decide +kernel
theorem dL_isDone_115 : decode cL_isDone 115 = .ok (.iload 7, 2) := by decide +kernel
theorem dL_isDone_117 : decode cL_isDone 117 = .ok (.bipush 9, 2) := by decide +kernel
theorem dL_isDone_119 : decode cL_isDone 119 = .ok (.irem, 1) := by decide +kernel
theorem dL_isDone_120 : decode cL_isDone 120 = .ok (.ifCond .ne 8, 3) := by decide +kernel
theorem dL_isDone_123 : decode cL_isDone 123 = .ok (.bipush 10, 2) := by decide +kernel
theorem dL_isDone_125 : decode cL_isDone 125 = .ok (.goto 9, 3) := by decide +kernel
theorem dL_isDone_128 : decode cL_isDone 128 = .ok (.iconst 1, 1) := by decide +kernel
theorem dL_isDone_129 : decode cL_isDone 129 = .ok (.iload 7, 2) := by decide +kernel
theorem dL_isDone_131 : decode cL_isDone 131 = .ok (.iconst 3, 1) := by decide +kernel
theorem dL_isDone_132 : decode cL_isDone 132 = .ok (.irem, 1) := by decide +kernel
theorem dL_isDone_133 : decode cL_isDone 133 = .ok (.iadd, 1) := by decide +kernel
theorem dL_isDone_134 : decode cL_isDone 134 = .ok (.invokestatic 134, 3) := by decide +kernel
theorem dL_isDone_137 : decode cL_isDone 137 = .ok (.ireturn, 1) := by decide +kernel
theorem dL_isDone_138 : decode cL_isDone 138 = .ok (.iload 6, 2) := by decide +kernel
theorem dL_isDone_140 : decode cL_isDone 140 = .ok (.bipush 28, 2) := by decide +kernel
theorem dL_isDone_142 : decode cL_isDone 142 = .ok (.if_icmp .ge 71, 3) := by decide +kernel
theorem dL_isDone_145 : decode cL_isDone 145 = .ok (.iload 7, 2) := by decide +kernel
theorem dL_isDone_147 : decode cL_isDone 147 = .ok (.aload 5, 2) := by decide +kernel
theorem dL_isDone_149 : decode cL_isDone 149 = .ok (.iconst 2, 1) := by decide +kernel
theorem dL_isDone_150 : decode cL_isDone 150 = .ok (.iaload, 1) := by decide +kernel
theorem dL_isDone_151 : decode cL_isDone 151 = .ok (.iconst 1, 1) := by decide +kernel
theorem dL_isDone_152 : decode cL_isDone 152 = .ok (.iadd, 1) := by decide +kernel
theorem dL_isDone_153 : decode cL_isDone 153 = .ok (.irem, 1) := by decide +kernel
theorem dL_isDone_154 : decode cL_isDone 154 = .ok (.istore 10, 2) := by decide +kernel
theorem dL_isDone_156 : decode cL_isDone 156 = .ok (.aload_n 0, 1) := by decide +kernel
theorem dL_isDone_157 : decode cL_isDone 157 = .ok (.aload_n 3, 1) := by decide +kernel
theorem dL_isDone_158 : decode cL_isDone 158 = .ok (.aload 4, 2) := by decide +kernel
theorem dL_isDone_160 : decode cL_isDone 160 = .ok (.aload 5, 2) := by decide +kernel
theorem dL_isDone_162 : decode cL_isDone 162 = .ok (.iload 10, 2) := by decide +kernel
theorem dL_isDone_164 : decode cL_isDone 164 = .ok (.iload 8, 2) := by decide +kernel
theorem dL_isDone_166 : decode cL_isDone 166 = .ok (.iconst 3, 1) := by decide +kernel
theorem dL_isDone_167 : decode cL_isDone 167 = .ok (.irem, 1) := by decide +kernel
theorem dL_isDone_168 : decode cL_isDone 168 = .ok (.ifCond .le 32, 3) := by decide +kernel
theorem dL_isDone_171 : decode cL_isDone 171 = .ok (.iload 10, 2) := by decide +kernel
theorem dL_isDone_173 : decode cL_isDone 173 = .ok (.aload 5, 2) := by decide +kernel
theorem dL_isDone_175 : decode cL_isDone 175 = .ok (.iconst 2, 1) := by decide +kernel
theorem dL_isDone_176 : decode cL_isDone 176 = .ok (.iaload, 1) := by decide +kernel
theorem dL_isDone_177 : decode cL_isDone 177 = .ok (.if_icmp .ge 23, 3) := by decide +kernel
theorem dL_isDone_180 : decode cL_isDone 180 = .ok (.aload 4, 2) := by decide +kernel
theorem dL_isDone_182 : decode cL_isDone 182 = .ok (.bipush 6, 2) := by decide +kernel
theorem dL_isDone_184 : decode cL_isDone 184 = .ok (.iload 10, 2) := by decide +kernel
theorem dL_isDone_186 : decode cL_isDone 186 = .ok (.imul, 1) := by decide +kernel
theorem dL_isDone_187 : decode cL_isDone 187 = .ok (.iconst 1, 1) := by decide +kernel
theorem dL_isDone_188 : decode cL_isDone 188 = .ok (.iadd, 1) := by decide +kernel
theorem dL_isDone_189 : decode cL_isDone 189 = .ok (.iaload, 1) := by decide +kernel
theorem dL_isDone_190 : decode cL_isDone 190 = .ok (.iconst 1, 1) := by decide +kernel
theorem dL_isDone_191 : decode cL_isDone 191 = .ok (.iadd, 1) := by decide +kernel
theorem dL_isDone_192 : decode cL_isDone 192 = .ok (.aload 5, 2) := by decide +kernel
theorem dL_isDone_194 : decode cL_isDone 194 = .ok (.iconst 0, 1) := by decide +kernel
theorem dL_isDone_195 : decode cL_isDone 195 = .ok (.iaload, 1) := by decide +kernel
theorem dL_isDone_196 : decode cL_isDone 196 = .ok (.irem, 1) := by decide +kernel
theorem dL_isDone_197 : decode cL_isDone 197 = .ok (.goto 12, 3) := by decide +kernel
theorem dL_isDone_200 : decode cL_isDone 200 = .ok (.iload 9, 2) := by decide +kernel
theorem dL_isDone_202 : decode cL_isDone 202 = .ok (.aload 5, 2) := by decide +kernel
theorem dL_isDone_204 : decode cL_isDone 204 = .ok (.iconst 0, 1) := by decide +kernel
theorem dL_isDone_205 : decode cL_isDone 205 = .ok (.iaload, 1) := by decide +kernel
theorem dL_isDone_206 : decode cL_isDone 206 = .ok (.iconst 1, 1) := by decide +kernel
theorem dL_isDone_207 : decode cL_isDone 207 = .ok (.iadd, 1) := by decide +kernel
theorem dL_isDone_208 : decode cL_isDone 208 = .ok (.irem, 1) := by decide +kernel
theorem dL_isDone_209 : decode cL_isDone 209 = .ok (.invokestatic 138, 3) := by decide +kernel
theorem dL_isDone_212 : decode cL_isDone 212 = .ok (.ireturn, 1) := by decide +kernel
theorem dL_isDone_213 : decode cL_isDone 213 = .ok (.iload 6, 2) := by decide +kernel
theorem dL_isDone_215 : decode cL_isDone 215 = .ok (.bipush 34, 2) := by decide +kernel
theorem dL_isDone_217 : decode cL_isDone 217 = .ok (.if_icmp .ge 33, 3) := by decide +kernel
theorem dL_isDone_220 : decode cL_isDone 220 = .ok (.aload_n 0, 1) := by decide +kernel
theorem dL_isDone_221 : decode cL_isDone 221 = .ok (.aload 4, 2) := by decide +kernel
theorem dL_isDone_223 : decode cL_isDone 223 = .ok (.aload 5, 2) := by decide +kernel
theorem dL_isDone_225 : decode cL_isDone 225 = .ok (.iload 7, 2) := by decide +kernel
theorem dL_isDone_227 : decode cL_isDone 227 = .ok (.aload 5, 2) := by decide +kernel
theorem dL_isDone_229 : decode cL_isDone 229 = .ok (.iconst 2, 1) := by decide +kernel
theorem dL_isDone_230 : decode cL_isDone 230 = .ok (.iaload, 1) := by decide +kernel
theorem dL_isDone_231 : decode cL_isDone 231 = .ok (.iconst 1, 1) := by decide +kernel
theorem dL_isDone_232 : decode cL_isDone 232 = .ok (.iadd, 1) := by decide +kernel
theorem dL_isDone_233 : decode cL_isDone 233 = .ok (.irem, 1) := by decide +kernel
theorem dL_isDone_234 : decode cL_isDone 234 = .ok (.iload 6, 2) := by decide +kernel
theorem dL_isDone_236 : decode cL_isDone 236 = .ok (.bipush 30, 2) := by decide +kernel
theorem dL_isDone_238 : decode cL_isDone 238 = .ok (.if_icmp .le 7, 3) := by decide +kernel
theorem dL_isDone_241 : decode cL_isDone 241 = .ok (.iconst 1, 1) := by decide +kernel
theorem dL_isDone_242 : decode cL_isDone 242 = .ok (.goto 4, 3) := by decide +kernel
theorem dL_isDone_245 : decode cL_isDone 245 = .ok (.iconst 0, 1) := by decide +kernel
theorem dL_isDone_246 : decode cL_isDone 246 = .ok (.invokestatic 142, 3) := by decide +kernel
theorem dL_isDone_249 : decode cL_isDone 249 = .ok (.ireturn, 1) := by decide +kernel
theorem dL_isDone_250 : decode cL_isDone 250 = .ok (.iload 6, 2) := by decide +kernel
theorem dL_isDone_252 : decode cL_isDone 252 = .ok (.bipush 36, 2) := by decide +kernel
theorem dL_isDone_254 : decode cL_isDone 254 = .ok (.if_icmp .ge 86, 3) := by decide +kernel
theorem dL_isDone_257 : decode cL_isDone 257 = .ok (.iload 7, 2) := by decide +kernel
theorem dL_isDone_259 : decode cL_isDone 259 = .ok (.bipush 103, 2) := by decide +kernel
theorem dL_isDone_261 : decode cL_isDone 261 = .ok (.irem, 1) := by decide +kernel
theorem dL_isDone_262 : decode cL_isDone 262 = .ok (.ifCond .le 17, 3) := by decide +kernel
theorem dL_isDone_265 : decode cL_isDone 265 = .ok (.iload 7, 2) := by decide +kernel
theorem dL_isDone_267 : decode cL_isDone 267 = .ok (.bipush 103, 2) := by decide +kernel
theorem dL_isDone_269 : decode cL_isDone 269 = .ok (.irem, 1) := by decide +kernel
theorem dL_isDone_270 : decode cL_isDone 270 = .ok (.bipush 101, 2) := by decide +kernel
theorem dL_isDone_272 : decode cL_isDone 272 = .ok (.if_icmp .ge 7, 3) := by decide +kernel
theorem dL_isDone_275 : decode cL_isDone 275 = .ok (.iconst 1, 1) := by decide +kernel
theorem dL_isDone_276 : decode cL_isDone 276 = .ok (.goto 4, 3) := by decide +kernel
theorem dL_isDone_279 : decode cL_isDone 279 = .ok (.iconst 0, 1) := by decide +kernel
theorem dL_isDone_280 : decode cL_isDone 280 = .ok (.istore 10, 2) := by decide +kernel
theorem dL_isDone_282 : decode cL_isDone 282 = .ok (.aload 5, 2) := by decide +kernel
theorem dL_isDone_284 : decode cL_isDone 284 = .ok (.bipush 8, 2) := by decide +kernel
