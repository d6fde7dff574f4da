theorem dX6_pass_32 : decode cX6_pass 32 = .ok (.goto 4, 3) := by decide +kernel
theorem dX6_pass_35 : decode cX6_pass 35 = .ok (.iconst 0, 1) := by decide +kernel
theorem dX6_pass_36 : decode cX6_pass 36 = .ok (.istore 4, 2) := by decide +kernel
theorem dX6_pass_38 : decode cX6_pass 38 = .ok (.iload_n 3, 1) := by decide +kernel
theorem dX6_pass_39 : decode cX6_pass 39 = .ok (.ifCond .eq 22, 3) := by decide +kernel
theorem dX6_pass_42 : decode cX6_pass 42 = .ok (.aload_n 0, 1) := by decide +kernel
theorem dX6_pass_43 : decode cX6_pass 43 = .ok (.getfield 13, 3) := by decide +kernel
theorem dX6_pass_46 : decode cX6_pass 46 = .ok (.bipush 12, 2) := by decide +kernel
theorem dX6_pass_48 : decode cX6_pass 48 = .ok (.iload 4, 2) := by decide +kernel
theorem dX6_pass_50 : decode cX6_pass 50 = .ok (.imul, 1) := by decide +kernel
theorem dX6_pass_51 : decode cX6_pass 51 = .ok (.iload_n 2, 1) := by decide +kernel
theorem dX6_pass_52 : decode cX6_pass 52 = .ok (.iadd, 1) := by decide +kernel
theorem dX6_pass_53 : decode cX6_pass 53 = .ok (.iaload, 1) := by decide +kernel
theorem dX6_pass_54 : decode cX6_pass 54 = .ok (.ifCond .le 7, 3) := by decide +kernel
theorem dX6_pass_57 : decode cX6_pass 57 = .ok (.iconst 1, 1) := by decide +kernel
theorem dX6_pass_58 : decode cX6_pass 58 = .ok (.goto 4, 3) := by decide +kernel
theorem dX6_pass_61 : decode cX6_pass 61 = .ok (.iconst 0, 1) := by decide +kernel
theorem dX6_pass_62 : decode cX6_pass 62 = .ok (.istore 5, 2) := by decide +kernel
theorem dX6_pass_64 : decode cX6_pass 64 = .ok (.iload_n 3, 1) := by decide +kernel
theorem dX6_pass_65 : decode cX6_pass 65 = .ok (.ifCond .eq 56, 3) := by decide +kernel
theorem dX6_pass_68 : decode cX6_pass 68 = .ok (.aload_n 0, 1) := by decide +kernel
theorem dX6_pass_69 : decode cX6_pass 69 = .ok (.getfield 87, 3) := by decide +kernel
theorem dX6_pass_72 : decode cX6_pass 72 = .ok (.ifCond .eq 49, 3) := by decide +kernel
theorem dX6_pass_75 : decode cX6_pass 75 = .ok (.aload_n 0, 1) := by decide +kernel
theorem dX6_pass_76 : decode cX6_pass 76 = .ok (.getfield 38, 3) := by decide +kernel
theorem dX6_pass_79 : decode cX6_pass 79 = .ok (.iload_n 1, 1) := by decide +kernel
theorem dX6_pass_80 : decode cX6_pass 80 = .ok (.iaload, 1) := by decide +kernel
theorem dX6_pass_81 : decode cX6_pass 81 = .ok (.ifCond .ne 40, 3) := by decide +kernel
theorem dX6_pass_84 : decode cX6_pass 84 = .ok (.aload_n 0, 1) := by decide +kernel
theorem dX6_pass_85 : decode cX6_pass 85 = .ok (.getfield 48, 3) := by decide +kernel
theorem dX6_pass_88 : decode cX6_pass 88 = .ok (.iload_n 1, 1) := by decide +kernel
theorem dX6_pass_89 : decode cX6_pass 89 = .ok (.iaload, 1) := by decide +kernel
theorem dX6_pass_90 : decode cX6_pass 90 = .ok (.aload_n 0, 1) := by decide +kernel
theorem dX6_pass_91 : decode cX6_pass 91 = .ok (.getfield 104, 3) := by decide +kernel
theorem dX6_pass_94 : decode cX6_pass 94 = .ok (.if_icmp .gt 27, 3) := by decide +kernel
theorem dX6_pass_97 : decode cX6_pass 97 = .ok (.iload 5, 2) := by decide +kernel
theorem dX6_pass_99 : decode cX6_pass 99 = .ok (.ifCond .ne 18, 3) := by decide +kernel
theorem dX6_pass_102 : decode cX6_pass 102 = .ok (.aload_n 0, 1) := by decide +kernel
theorem dX6_pass_103 : decode cX6_pass 103 = .ok (.getfield 13, 3) := by decide +kernel
theorem dX6_pass_106 : decode cX6_pass 106 = .ok (.bipush 12, 2) := by decide +kernel
theorem dX6_pass_108 : decode cX6_pass 108 = .ok (.iload_n 2, 1) := by decide +kernel
theorem dX6_pass_109 : decode cX6_pass 109 = .ok (.imul, 1) := by decide +kernel
theorem dX6_pass_110 : decode cX6_pass 110 = .ok (.iload 4, 2) := by decide +kernel
theorem dX6_pass_112 : decode cX6_pass 112 = .ok (.iadd, 1) := by decide +kernel
theorem dX6_pass_113 : decode cX6_pass 113 = .ok (.iaload, 1) := by decide +kernel
theorem dX6_pass_114 : decode cX6_pass 114 = .ok (.ifCond .le 7, 3) := by decide +kernel
theorem dX6_pass_117 : decode cX6_pass 117 = .ok (.iconst 1, 1) := by decide +kernel
theorem dX6_pass_118 : decode cX6_pass 118 = .ok (.goto 4, 3) := by decide +kernel
theorem dX6_pass_121 : decode cX6_pass 121 = .ok (.iconst 0, 1) := by decide +kernel
theorem dX6_pass_122 : decode cX6_pass 122 = .ok (.istore 6, 2) := by decide +kernel
theorem dX6_pass_124 : decode cX6_pass 124 = .ok (.aload_n 0, 1) := by decide +kernel
theorem dX6_pass_125 : decode cX6_pass 125 = .ok (.iload_n 3, 1) := by decide +kernel
theorem dX6_pass_126 : decode cX6_pass 126 = .ok (.ifCond .ne 7, 3) := by decide +kernel
theorem dX6_pass_129 : decode cX6_pass 129 = .ok (.iconst 1, 1) := by decide +kernel
theorem dX6_pass_130 : decode cX6_pass 130 = .ok (.goto 13, 3) := by decide +kernel
theorem dX6_pass_133 : decode cX6_pass 133 = .ok (.iload 6, 2) := by decide +kernel
theorem dX6_pass_135 : decode cX6_pass 135 = .ok (.ifCond .eq 7, 3) := by decide +kernel
theorem dX6_pass_138 : decode cX6_pass 138 = .ok (.iconst 0, 1) := by decide +kernel
theorem dX6_pass_139 : decode cX6_pass 139 = .ok (.goto 4, 3) := by decide +kernel
theorem dX6_pass_142 : decode cX6_pass 142 = .ok (.iconst 2, 1) := by decide +kernel
theorem dX6_pass_143 : decode cX6_pass 143 = .ok (.invokevirtual 70, 3) := by decide +kernel
theorem dX6_pass_146 : decode cX6_pass 146 = .ok (.ifCond .eq 5, 3) := by decide +kernel
theorem dX6_pass_149 : decode cX6_pass 149 = .ok (.iconst 0, 1) := by decide +kernel
theorem dX6_pass_150 : decode cX6_pass 150 = .ok (.ireturn, 1) := by decide +kernel
theorem dX6_pass_151 : decode cX6_pass 151 = .ok (.aload_n 0, 1) := by decide +kernel
theorem dX6_pass_152 : decode cX6_pass 152 = .ok (.dup, 1) := by decide +kernel
theorem dX6_pass_153 : decode cX6_pass 153 = .ok (.getfield 98, 3) := by decide +kernel
theorem dX6_pass_156 : decode cX6_pass 156 = .ok (.iconst 1, 1) := by decide +kernel
theorem dX6_pass_157 : decode cX6_pass 157 = .ok (.iadd, 1) := by decide +kernel
theorem dX6_pass_158 : decode cX6_pass 158 = .ok (.putfield 98, 3) := by decide +kernel
theorem dX6_pass_161 : decode cX6_pass 161 = .ok (.aload_n 0, 1) := by decide +kernel
theorem dX6_pass_162 : decode cX6_pass 162 = .ok (.getfield 35, 3) := by decide +kernel
theorem dX6_pass_165 : decode cX6_pass 165 = .ok (.iload_n 1, 1) := by decide +kernel
theorem dX6_pass_166 : decode cX6_pass 166 = .ok (.aload_n 0, 1) := by decide +kernel
theorem dX6_pass_167 : decode cX6_pass 167 = .ok (.getfield 98, 3) := by decide +kernel
theorem dX6_pass_170 : decode cX6_pass 170 = .ok (.iastore, 1) := by decide +kernel
theorem dX6_pass_171 : decode cX6_pass 171 = .ok (.aload_n 0, 1) := by decide +kernel
theorem dX6_pass_172 : decode cX6_pass 172 = .ok (.getfield 23, 3) := by decide +kernel
theorem dX6_pass_175 : decode cX6_pass 175 = .ok (.iload_n 1, 1) := by decide +kernel
theorem dX6_pass_176 : decode cX6_pass 176 = .ok (.iload_n 2, 1) := by decide +kernel
theorem dX6_pass_177 : decode cX6_pass 177 = .ok (.iastore, 1) := by decide +kernel
theorem dX6_pass_178 : decode cX6_pass 178 = .ok (.iload 5, 2) := by decide +kernel
theorem dX6_pass_180 : decode cX6_pass 180 = .ok (.ifCond .ne 39, 3) := by decide +kernel
theorem dX6_pass_183 : decode cX6_pass 183 = .ok (.aload_n 0, 1) := by decide +kernel
theorem dX6_pass_184 : decode cX6_pass 184 = .ok (.getfield 29, 3) := by decide +kernel
theorem dX6_pass_187 : decode cX6_pass 187 = .ok (.iload_n 1, 1) := by decide +kernel
theorem dX6_pass_188 : decode cX6_pass 188 = .ok (.dup2, 1) := by decide +kernel
theorem dX6_pass_189 : decode cX6_pass 189 = .ok (.iaload, 1) := by decide +kernel
theorem dX6_pass_190 : decode cX6_pass 190 = .ok (.iload 4, 2) := by decide +kernel
theorem dX6_pass_192 : decode cX6_pass 192 = .ok (.ifCond .ne 7, 3) := by decide +kernel
theorem dX6_pass_195 : decode cX6_pass 195 = .ok (.iconst 1, 1) := by decide +kernel
theorem dX6_pass_196 : decode cX6_pass 196 = .ok (.goto 4, 3) := by decide +kernel
theorem dX6_pass_199 : decode cX6_pass 199 = .ok (.iconst 0, 1) := by decide +kernel
theorem dX6_pass_200 : decode cX6_pass 200 = .ok (.iadd, 1) := by decide +kernel
theorem dX6_pass_201 : decode cX6_pass 201 = .ok (.iastore, 1) := by decide +kernel
theorem dX6_pass_202 : decode cX6_pass 202 = .ok (.aload_n 0, 1) := by decide +kernel
theorem dX6_pass_203 : decode cX6_pass 203 = .ok (.getfield 32, 3) := by decide +kernel
theorem dX6_pass_206 : decode cX6_pass 206 = .ok (.iload_n 1, 1) := by decide +kernel
theorem dX6_pass_207 : decode cX6_pass 207 = .ok (.dup2, 1) := by decide +kernel
theorem dX6_pass_208 : decode cX6_pass 208 = .ok (.iaload, 1) := by decide +kernel
theorem dX6_pass_209 : decode cX6_pass 209 = .ok (.iconst 1, 1) := by decide +kernel
theorem dX6_pass_210 : decode cX6_pass 210 = .ok (.iload 4, 2) := by decide +kernel
theorem dX6_pass_212 : decode cX6_pass 212 = .ok (.ishl, 1) := by decide +kernel
theorem dX6_pass_213 : decode cX6_pass 213 = .ok (.iconst (-1), 1) := by decide +kernel
theorem dX6_pass_214 : decode cX6_pass 214 = .ok (.ixor, 1) := by decide +kernel
theorem dX6_pass_215 : decode cX6_pass 215 = .ok (.iand, 1) := by decide +kernel
theorem dX6_pass_216 : decode cX6_pass 216 = .ok (.iastore, 1) := by decide +kernel
theorem dX6_pass_217 : decode cX6_pass 217 = .ok (.iconst 3, 1) := by decide +kernel
theorem dX6_pass_218 : decode cX6_pass 218 = .ok (.ireturn, 1) := by decide +kernel
theorem dX6_pass_219 : decode cX6_pass 219 = .ok (.iload_n 2, 1) := by decide +kernel
theorem dX6_pass_220 : decode cX6_pass 220 = .ok (.ifCond .ne 9, 3) := by decide +kernel
theorem dX6_pass_223 : decode cX6_pass 223 = .ok (.aload_n 0, 1) := by decide +kernel
theorem dX6_pass_224 : decode cX6_pass 224 = .ok (.iload_n 1, 1) := by decide +kernel
theorem dX6_pass_225 : decode cX6_pass 225 = .ok (.invokevirtual 107, 3) := by decide +kernel
theorem dX6_pass_228 : decode cX6_pass 228 = .ok (.ireturn, 1) := by decide +kernel
theorem dX6_pass_229 : decode cX6_pass 229 = .ok (.aload_n 0, 1) := by decide +kernel
theorem dX6_pass_230 : decode cX6_pass 230 = .ok (.getfield 32, 3) := by decide +kernel
theorem dX6_pass_233 : decode cX6_pass 233 = .ok (.iload_n 1, 1) := by decide +kernel
theorem dX6_pass_234 : decode cX6_pass 234 = .ok (.dup2, 1) := by decide +kernel
theorem dX6_pass_235 : decode cX6_pass 235 = .ok (.iaload, 1) := by decide +kernel
theorem dX6_pass_236 : decode cX6_pass 236 = .ok (.aload_n 0, 1) := by decide +kernel
theorem dX6_pass_237 : decode cX6_pass 237 = .ok (.getfield 29, 3) := by decide +kernel
theorem dX6_pass_240 : decode cX6_pass 240 = .ok (.iload_n 1, 1) := by decide +kernel
theorem dX6_pass_241 : decode cX6_pass 241 = .ok (.iaload, 1) := by decide +kernel
theorem dX6_pass_242 : decode cX6_pass 242 = .ok (.ifCond .ne 21, 3) := by decide +kernel
theorem dX6_pass_245 : decode cX6_pass 245 = .ok (.aload_n 0, 1) := by decide +kernel
theorem dX6_pass_246 : decode cX6_pass 246 = .ok (.getfield 74, 3) := by decide +kernel
theorem dX6_pass_249 : decode cX6_pass 249 = .ok (.iload_n 2, 1) := by decide +kernel
theorem dX6_pass_250 : decode cX6_pass 250 = .ok (.ishr, 1) := by decide +kernel
theorem dX6_pass_251 : decode cX6_pass 251 = .ok (.iconst 1, 1) := by decide +kernel
theorem dX6_pass_252 : decode cX6_pass 252 = .ok (.iand, 1) := by decide +kernel
theorem dX6_pass_253 : decode cX6_pass 253 = .ok (.iconst 1, 1) := by decide +kernel
theorem dX6_pass_254 : decode cX6_pass 254 = .ok (.if_icmp .ne 9, 3) := by decide +kernel
theorem dX6_pass_257 : decode cX6_pass 257 = .ok (.iconst 1, 1) := by decide +kernel
theorem dX6_pass_258 : decode cX6_pass 258 = .ok (.iload_n 2, 1) := by decide +kernel
theorem dX6_pass_259 : decode cX6_pass 259 = .ok (.ishl, 1) := by decide +kernel
theorem dX6_pass_260 : decode cX6_pass 260 = .ok (.goto 4, 3) := by decide +kernel
theorem dX6_pass_263 : decode cX6_pass 263 = .ok (.iconst 0, 1) := by decide +kernel
theorem dX6_pass_264 : decode cX6_pass 264 = .ok (.ior, 1) := by decide +kernel
theorem dX6_pass_265 : decode cX6_pass 265 = .ok (.iastore, 1) := by decide +kernel
theorem dX6_pass_266 : decode cX6_pass 266 = .ok (.iconst 0, 1) := by decide +kernel
theorem dX6_pass_267 : decode cX6_pass 267 = .ok (.ireturn, 1) := by decide +kernel
set_option maxRecDepth 20000 in
theorem ggX6_idle_X6_isIn : GoodIn wsX6_idle wsX6_isIn := goodIn_r _ [5] (by decide +kernel) (by decide +kernel)
set_option maxRecDepth 20000 in
theorem gX6_idle_X6_isIn : GoodIn wsX6_idle (va_wsS RX6 60 yX6_isIn wsX6_isIn) := goodIn_app (goodIn_of _ (by decide +kernel)) ggX6_idle_X6_isIn
set_option maxRecDepth 20000 in
theorem ggX6_idle_X6_fails : GoodIn wsX6_idle wsX6_fails := goodIn_r _ [9, 10, 11, 12, 13, 14, 15, 16, 17, 18, 19, 20, 21, 22, 23, 24, 25, 26, 27, 28, 29, 30, 31, 32, 33, 34, 35, 36] (by decide +kernel) (by decide +kernel)
set_option maxRecDepth 20000 in
theorem gX6_idle_X6_fails : GoodIn wsX6_idle (wsV RX6 70 RX6 yX6_fails wsX6_fails) := goodIn_app (goodIn_of _ (by decide +kernel)) ggX6_idle_X6_fails
theorem dX6_idle_0 : decode cX6_idle 0 = .ok (.aload_n 0, 1) := by decide +kernel
theorem dX6_idle_1 : decode cX6_idle 1 = .ok (.iload_n 1, 1) := by decide +kernel
theorem dX6_idle_2 : decode cX6_idle 2 = .ok (.iconst 1, 1) := by decide +kernel
theorem dX6_idle_3 : decode cX6_idle 3 = .ok (.bipush 100, 2) := by decide +kernel
theorem dX6_idle_5 : decode cX6_idle 5 = .ok (.invokestatic 60, 3) := by decide +kernel
theorem dX6_idle_8 : decode cX6_idle 8 = .ok (.ifCond .eq 7, 3) := by decide +kernel
theorem dX6_idle_11 : decode cX6_idle 11 = .ok (.iconst 0, 1) := by decide +kernel
theorem dX6_idle_12 : decode cX6_idle 12 = .ok (.goto 4, 3) := by decide +kernel
theorem dX6_idle_15 : decode cX6_idle 15 = .ok (.iconst 1, 1) := by decide +kernel
theorem dX6_idle_16 : decode cX6_idle 16 = .ok (.invokevirtual 70, 3) := by decide +kernel
theorem dX6_idle_19 : decode cX6_idle 19 = .ok (.ifCond .eq 5, 3) := by decide +kernel
theorem dX6_idle_22 : decode cX6_idle 22 = .ok (.iconst 0, 1) := by decide +kernel
theorem dX6_idle_23 : decode cX6_idle 23 = .ok (.ireturn, 1) := by decide +kernel
theorem dX6_idle_24 : decode cX6_idle 24 = .ok (.aload_n 0, 1) := by decide +kernel
theorem dX6_idle_25 : decode cX6_idle 25 = .ok (.dup, 1) := by decide +kernel
theorem dX6_idle_26 : decode cX6_idle 26 = .ok (.getfield 104, 3) := by decide +kernel
theorem dX6_idle_29 : decode cX6_idle 29 = .ok (.iload_n 1, 1) := by decide +kernel
theorem dX6_idle_30 : decode cX6_idle 30 = .ok (.iadd, 1) := by decide +kernel
theorem dX6_idle_31 : decode cX6_idle 31 = .ok (.putfield 104, 3) := by decide +kernel
theorem dX6_idle_34 : decode cX6_idle 34 = .ok (.aload_n 0, 1) := by decide +kernel
theorem dX6_idle_35 : decode cX6_idle 35 = .ok (.getfield 104, 3) := by decide +kernel
theorem dX6_idle_38 : decode cX6_idle 38 = .ok (.ireturn, 1) := by decide +kernel
set_option maxRecDepth 20000 in
theorem ggX6_of_X6_isKart : GoodIn wsX6_of wsX6_isKart := goodIn_r _ [6, 7, 8, 9, 5, 10, 16, 17, 18, 19, 20, 21, 22, 23, 24, 25, 26, 27, 28, 29, 30, 31, 32, 33, 34, 35, 36, 37, 38, 39, 40, 41] (by decide +kernel) (by decide +kernel)
set_option maxRecDepth 20000 in
theorem gX6_of_X6_isKart : GoodIn wsX6_of (wsV RX6 101 RX6 yX6_isKart wsX6_isKart) := goodIn_app (goodIn_of _ (by decide +kernel)) ggX6_of_X6_isKart
set_option maxRecDepth 20000 in
theorem ggX6_of_X6_fails : GoodIn wsX6_of wsX6_fails := goodIn_r _ [14, 15, 16, 17, 18, 19, 20, 21, 22, 23, 24, 25, 26, 27, 28, 29, 30, 31, 32, 33, 34, 35, 36, 37, 38, 39, 40, 41] (by decide +kernel) (by decide +kernel)
set_option maxRecDepth 20000 in
theorem gX6_of_X6_fails : GoodIn wsX6_of (wsV RX6 70 RX6 yX6_fails wsX6_fails) := goodIn_app (goodIn_of _ (by decide +kernel)) ggX6_of_X6_fails
theorem dX6_of_0 : decode cX6_of 0 = .ok (.aload_n 0, 1) := by decide +kernel
theorem dX6_of_1 : decode cX6_of 1 = .ok (.aload_n 0, 1) := by decide +kernel
theorem dX6_of_2 : decode cX6_of 2 = .ok (.iload_n 2, 1) := by decide +kernel
theorem dX6_of_3 : decode cX6_of 3 = .ok (.invokevirtual 101, 3) := by decide +kernel
theorem dX6_of_6 : decode cX6_of 6 = .ok (.ifCond .ne 7, 3) := by decide +kernel
theorem dX6_of_9 : decode cX6_of 9 = .ok (.iconst 1, 1) := by decide +kernel
theorem dX6_of_10 : decode cX6_of 10 = .ok (.goto 15, 3) := by decide +kernel
theorem dX6_of_13 : decode cX6_of 13 = .ok (.aload_n 0, 1) := by decide +kernel
theorem dX6_of_14 : decode cX6_of 14 = .ok (.getfield 87, 3) := by decide +kernel
theorem dX6_of_17 : decode cX6_of 17 = .ok (.ifCond .eq 7, 3) := by decide +kernel
theorem dX6_of_20 : decode cX6_of 20 = .ok (.iconst 0, 1) := by decide +kernel
theorem dX6_of_21 : decode cX6_of 21 = .ok (.goto 4, 3) := by decide +kernel
theorem dX6_of_24 : decode cX6_of 24 = .ok (.iconst 2, 1) := by decide +kernel
theorem dX6_of_25 : decode cX6_of 25 = .ok (.invokevirtual 70, 3) := by decide +kernel
theorem dX6_of_28 : decode cX6_of 28 = .ok (.ifCond .eq 7, 3) := by decide +kernel
theorem dX6_of_31 : decode cX6_of 31 = .ok (.iconst 0, 1) := by decide +kernel
theorem dX6_of_32 : decode cX6_of 32 = .ok (.goto 6, 3) := by decide +kernel
theorem dX6_of_35 : decode cX6_of 35 = .ok (.aload_n 1, 1) := by decide +kernel
theorem dX6_of_36 : decode cX6_of 36 = .ok (.iload_n 2, 1) := by decide +kernel
theorem dX6_of_37 : decode cX6_of 37 = .ok (.iaload, 1) := by decide +kernel
theorem dX6_of_38 : decode cX6_of 38 = .ok (.ireturn, 1) := by decide +kernel
set_option maxRecDepth 20000 in
theorem ggX6_gateOf_X6_of : GoodIn wsX6_gateOf wsX6_of := goodIn_r _ [6, 7, 8, 9, 10, 5, 11, 12, 13, 14, 15, 16, 17, 18, 19, 20, 21, 22, 23, 24, 25, 26, 27, 28, 29, 30, 31, 32, 33, 34, 35, 36, 37, 38, 39, 40, 41, 42, 43, 44, 45, 46] (by decide +kernel) (by decide +kernel)
set_option maxRecDepth 20000 in
theorem gX6_gateOf_X6_of : GoodIn wsX6_gateOf (wsV RX6 110 RX6 yX6_of wsX6_of) := goodIn_app (goodIn_of _ (by decide +kernel)) ggX6_gateOf_X6_of
theorem dX6_gateOf_0 : decode cX6_gateOf 0 = .ok (.aload_n 0, 1) := by decide +kernel
theorem dX6_gateOf_1 : decode cX6_gateOf 1 = .ok (.aload_n 0, 1) := by decide +kernel
theorem dX6_gateOf_2 : decode cX6_gateOf 2 = .ok (.getfield 23, 3) := by decide +kernel
theorem dX6_gateOf_5 : decode cX6_gateOf 5 = .ok (.iload_n 1, 1) := by decide +kernel
theorem dX6_gateOf_6 : decode cX6_gateOf 6 = .ok (.invokevirtual 110, 3) := by decide +kernel
theorem dX6_gateOf_9 : decode cX6_gateOf 9 = .ok (.ireturn, 1) := by decide +kernel
set_option maxRecDepth 20000 in
theorem ggX6_lapsOf_X6_of : GoodIn wsX6_lapsOf wsX6_of := goodIn_r _ [8, 9, 10, 11, 12, 7, 13, 14, 15, 16, 17, 18, 19, 20, 21, 2, 22, 23, 24, 25, 26, 27, 28, 29, 30, 31, 32, 33, 34, 35, 36, 37, 38, 39, 40, 41, 42, 43, 44, 45, 46, 47] (by decide +kernel) (by decide +kernel)
set_option maxRecDepth 20000 in
theorem gX6_lapsOf_X6_of : GoodIn wsX6_lapsOf (wsV RX6 110 RX6 yX6_of wsX6_of) := goodIn_app (goodIn_of _ (by decide +kernel)) ggX6_lapsOf_X6_of
theorem dX6_lapsOf_0 : decode cX6_lapsOf 0 = .ok (.aload_n 0, 1) := by decide +kernel
theorem dX6_lapsOf_1 : decode cX6_lapsOf 1 = .ok (.aload_n 0, 1) := by decide +kernel
theorem dX6_lapsOf_2 : decode cX6_lapsOf 2 = .ok (.getfield 26, 3) := by decide +kernel
theorem dX6_lapsOf_5 : decode cX6_lapsOf 5 = .ok (.iload_n 1, 1) := by decide +kernel
theorem dX6_lapsOf_6 : decode cX6_lapsOf 6 = .ok (.invokevirtual 110, 3) := by decide +kernel
theorem dX6_lapsOf_9 : decode cX6_lapsOf 9 = .ok (.aload_n 0, 1) := by decide +kernel
theorem dX6_lapsOf_10 : decode cX6_lapsOf 10 = .ok (.getfield 57, 3) := by decide +kernel
theorem dX6_lapsOf_13 : decode cX6_lapsOf 13 = .ok (.ifCond .ne 12, 3) := by decide +kernel
theorem dX6_lapsOf_16 : decode cX6_lapsOf 16 = .ok (.aload_n 0, 1) := by decide +kernel
theorem dX6_lapsOf_17 : decode cX6_lapsOf 17 = .ok (.getfield 29, 3) := by decide +kernel
theorem dX6_lapsOf_20 : decode cX6_lapsOf 20 = .ok (.iload_n 1, 1) := by decide +kernel
theorem dX6_lapsOf_21 : decode cX6_lapsOf 21 = .ok (.iaload, 1) := by decide +kernel
theorem dX6_lapsOf_22 : decode cX6_lapsOf 22 = .ok (.goto 4, 3) := by decide +kernel
theorem dX6_lapsOf_25 : decode cX6_lapsOf 25 = .ok (.iconst 0, 1) := by decide +kernel
theorem dX6_lapsOf_26 : decode cX6_lapsOf 26 = .ok (.isub, 1) := by decide +kernel
theorem dX6_lapsOf_27 : decode cX6_lapsOf 27 = .ok (.ireturn, 1) := by decide +kernel
set_option maxRecDepth 20000 in
theorem ggX6_missing_X6_isKart : GoodIn wsX6_missing wsX6_isKart := goodIn_r _ [8, 9, 10, 11, 7, 12, 18, 19, 20, 21, 22, 23, 24, 25, 26, 27, 28, 29, 30, 31, 32, 33, 34, 35, 36, 37, 38, 39, 40, 41, 42, 43] (by decide +kernel) (by decide +kernel)
set_option maxRecDepth 20000 in
theorem gX6_missing_X6_isKart : GoodIn wsX6_missing (wsV RX6 101 RX6 yX6_isKart wsX6_isKart) := goodIn_app (goodIn_of _ (by decide +kernel)) ggX6_missing_X6_isKart
set_option maxRecDepth 20000 in
theorem ggX6_missing_X6_fails : GoodIn wsX6_missing wsX6_fails := goodIn_r _ [16, 17, 18, 19, 20, 21, 22, 23, 24, 25, 26, 27, 28, 29, 30, 31, 32, 33, 34, 35, 36, 37, 38, 39, 40, 41, 42, 43] (by decide +kernel) (by decide +kernel)
set_option maxRecDepth 20000 in
theorem gX6_missing_X6_fails : GoodIn wsX6_missing (wsV RX6 70 RX6 yX6_fails wsX6_fails) := goodIn_app (goodIn_of _ (by decide +kernel)) ggX6_missing_X6_fails
theorem dX6_missing_0 : decode cX6_missing 0 = .ok (.aload_n 0, 1) := by decide +kernel
theorem dX6_missing_1 : decode cX6_missing 1 = .ok (.aload_n 0, 1) := by decide +kernel
theorem dX6_missing_2 : decode cX6_missing 2 = .ok (.iload_n 1, 1) := by decide +kernel
theorem dX6_missing_3 : decode cX6_missing 3 = .ok (.invokevirtual 101, 3) := by decide +kernel
theorem dX6_missing_6 : decode cX6_missing 6 = .ok (.ifCond .ne 7, 3) := by decide +kernel
theorem dX6_missing_9 : decode cX6_missing 9 = .ok (.iconst 1, 1) := by decide +kernel
theorem dX6_missing_10 : decode cX6_missing 10 = .ok (.goto 15, 3) := by decide +kernel
theorem dX6_missing_13 : decode cX6_missing 13 = .ok (.aload_n 0, 1) := by decide +kernel
theorem dX6_missing_14 : decode cX6_missing 14 = .ok (.getfield 87, 3) := by decide +kernel
theorem dX6_missing_17 : decode cX6_missing 17 = .ok (.ifCond .eq 7, 3) := by decide +kernel
theorem dX6_missing_20 : decode cX6_missing 20 = .ok (.iconst 0, 1) := by decide +kernel
theorem dX6_missing_21 : decode cX6_missing 21 = .ok (.goto 4, 3) := by decide +kernel
theorem dX6_missing_24 : decode cX6_missing 24 = .ok (.iconst 2, 1) := by decide +kernel
theorem dX6_missing_25 : decode cX6_missing 25 = .ok (.invokevirtual 70, 3) := by decide +kernel
theorem dX6_missing_28 : decode cX6_missing 28 = .ok (.ifCond .eq 7, 3) := by decide +kernel
theorem dX6_missing_31 : decode cX6_missing 31 = .ok (.iconst 0, 1) := by decide +kernel
theorem dX6_missing_32 : decode cX6_missing 32 = .ok (.goto 16, 3) := by decide +kernel
theorem dX6_missing_35 : decode cX6_missing 35 = .ok (.aload_n 0, 1) := by decide +kernel
theorem dX6_missing_36 : decode cX6_missing 36 = .ok (.getfield 74, 3) := by decide +kernel
theorem dX6_missing_39 : decode cX6_missing 39 = .ok (.aload_n 0, 1) := by decide +kernel
theorem dX6_missing_40 : decode cX6_missing 40 = .ok (.getfield 32, 3) := by decide +kernel
theorem dX6_missing_43 : decode cX6_missing 43 = .ok (.iload_n 1, 1) := by decide +kernel
theorem dX6_missing_44 : decode cX6_missing 44 = .ok (.iaload, 1) := by decide +kernel
theorem dX6_missing_45 : decode cX6_missing 45 = .ok (.iconst (-1), 1) := by decide +kernel
theorem dX6_missing_46 : decode cX6_missing 46 = .ok (.ixor, 1) := by decide +kernel
theorem dX6_missing_47 : decode cX6_missing 47 = .ok (.iand, 1) := by decide +kernel
theorem dX6_missing_48 : decode cX6_missing 48 = .ok (.ireturn, 1) := by decide +kernel
theorem dX6_isAhead_0 : decode cX6_isAhead 0 = .ok (.aload_n 0, 1) := by decide +kernel
theorem dX6_isAhead_1 : decode cX6_isAhead 1 = .ok (.getfield 38, 3) := by decide +kernel
theorem dX6_isAhead_4 : decode cX6_isAhead 4 = .ok (.iload_n 1, 1) := by decide +kernel
theorem dX6_isAhead_5 : decode cX6_isAhead 5 = .ok (.iaload, 1) := by decide +kernel
theorem dX6_isAhead_6 : decode cX6_isAhead 6 = .ok (.ifCond .gt 12, 3) := by decide +kernel
theorem dX6_isAhead_9 : decode cX6_isAhead 9 = .ok (.aload_n 0, 1) := by decide +kernel
theorem dX6_isAhead_10 : decode cX6_isAhead 10 = .ok (.getfield 38, 3) := by decide +kernel
theorem dX6_isAhead_13 : decode cX6_isAhead 13 = .ok (.iload_n 2, 1) := by decide +kernel
theorem dX6_isAhead_14 : decode cX6_isAhead 14 = .ok (.iaload, 1) := by decide +kernel
theorem dX6_isAhead_15 : decode cX6_isAhead 15 = .ok (.ifCond .le 42, 3) := by decide +kernel
theorem dX6_isAhead_18 : decode cX6_isAhead 18 = .ok (.aload_n 0, 1) := by decide +kernel
theorem dX6_isAhead_19 : decode cX6_isAhead 19 = .ok (.getfield 38, 3) := by decide +kernel
theorem dX6_isAhead_22 : decode cX6_isAhead 22 = .ok (.iload_n 1, 1) := by decide +kernel
theorem dX6_isAhead_23 : decode cX6_isAhead 23 = .ok (.iaload, 1) := by decide +kernel
theorem dX6_isAhead_24 : decode cX6_isAhead 24 = .ok (.ifCond .le 31, 3) := by decide +kernel
theorem dX6_isAhead_27 : decode cX6_isAhead 27 = .ok (.aload_n 0, 1) := by decide +kernel
theorem dX6_isAhead_28 : decode cX6_isAhead 28 = .ok (.getfield 38, 3) := by decide +kernel
theorem dX6_isAhead_31 : decode cX6_isAhead 31 = .ok (.iload_n 2, 1) := by decide +kernel
theorem dX6_isAhead_32 : decode cX6_isAhead 32 = .ok (.iaload, 1) := by decide +kernel
theorem dX6_isAhead_33 : decode cX6_isAhead 33 = .ok (.ifCond .eq 18, 3) := by decide +kernel
theorem dX6_isAhead_36 : decode cX6_isAhead 36 = .ok (.aload_n 0, 1) := by decide +kernel
theorem dX6_isAhead_37 : decode cX6_isAhead 37 = .ok (.getfield 38, 3) := by decide +kernel
theorem dX6_isAhead_40 : decode cX6_isAhead 40 = .ok (.iload_n 1, 1) := by decide +kernel
theorem dX6_isAhead_41 : decode cX6_isAhead 41 = .ok (.iaload, 1) := by decide +kernel
theorem dX6_isAhead_42 : decode cX6_isAhead 42 = .ok (.aload_n 0, 1) := by decide +kernel
theorem dX6_isAhead_43 : decode cX6_isAhead 43 = .ok (.getfield 38, 3) := by decide +kernel
theorem dX6_isAhead_46 : decode cX6_isAhead 46 = .ok (.iload_n 2, 1) := by decide +kernel
theorem dX6_isAhead_47 : decode cX6_isAhead 47 = .ok (.iaload, 1) := by decide +kernel
theorem dX6_isAhead_48 : decode cX6_isAhead 48 = .ok (.if_icmp .ge 7, 3) := by decide +kernel
theorem dX6_isAhead_51 : decode cX6_isAhead 51 = .ok (.iconst 1, 1) := by decide +kernel
theorem dX6_isAhead_52 : decode cX6_isAhead 52 = .ok (.goto 4, 3) := by decide +kernel
theorem dX6_isAhead_55 : decode cX6_isAhead 55 = .ok (.iconst 0, 1) := by decide +kernel
theorem dX6_isAhead_56 : decode cX6_isAhead 56 = .ok (.ireturn, 1) := by decide +kernel
theorem dX6_isAhead_57 : decode cX6_isAhead 57 = .ok (.aload_n 0, 1) := by decide +kernel
theorem dX6_isAhead_58 : decode cX6_isAhead 58 = .ok (.getfield 26, 3) := by decide +kernel
theorem dX6_isAhead_61 : decode cX6_isAhead 61 = .ok (.iload_n 1, 1) := by decide +kernel
theorem dX6_isAhead_62 : decode cX6_isAhead 62 = .ok (.iaload, 1) := by decide +kernel
theorem dX6_isAhead_63 : decode cX6_isAhead 63 = .ok (.aload_n 0, 1) := by decide +kernel
theorem dX6_isAhead_64 : decode cX6_isAhead 64 = .ok (.getfield 29, 3) := by decide +kernel
theorem dX6_isAhead_67 : decode cX6_isAhead 67 = .ok (.iload_n 1, 1) := by decide +kernel
theorem dX6_isAhead_68 : decode cX6_isAhead 68 = .ok (.iaload, 1) := by decide +kernel
theorem dX6_isAhead_69 : decode cX6_isAhead 69 = .ok (.isub, 1) := by decide +kernel
theorem dX6_isAhead_70 : decode cX6_isAhead 70 = .ok (.istore_n 3, 1) := by decide +kernel
theorem dX6_isAhead_71 : decode cX6_isAhead 71 = .ok (.aload_n 0, 1) := by decide +kernel
theorem dX6_isAhead_72 : decode cX6_isAhead 72 = .ok (.getfield 26, 3) := by decide +kernel
theorem dX6_isAhead_75 : decode cX6_isAhead 75 = .ok (.iload_n 2, 1) := by decide +kernel
theorem dX6_isAhead_76 : decode cX6_isAhead 76 = .ok (.iaload, 1) := by decide +kernel
theorem dX6_isAhead_77 : decode cX6_isAhead 77 = .ok (.aload_n 0, 1) := by decide +kernel
theorem dX6_isAhead_78 : decode cX6_isAhead 78 = .ok (.getfield 29, 3) := by decide +kernel
theorem dX6_isAhead_81 : decode cX6_isAhead 81 = .ok (.iload_n 2, 1) := by decide +kernel
theorem dX6_isAhead_82 : decode cX6_isAhead 82 = .ok (.iaload, 1) := by decide +kernel
theorem dX6_isAhead_83 : decode cX6_isAhead 83 = .ok (.isub, 1) := by decide +kernel
theorem dX6_isAhead_84 : decode cX6_isAhead 84 = .ok (.istore 4, 2) := by decide +kernel
theorem dX6_isAhead_86 : decode cX6_isAhead 86 = .ok (.iload_n 3, 1) := by decide +kernel
theorem dX6_isAhead_87 : decode cX6_isAhead 87 = .ok (.iload 4, 2) := by decide +kernel
theorem dX6_isAhead_89 : decode cX6_isAhead 89 = .ok (.if_icmp .eq 15, 3) := by decide +kernel
theorem dX6_isAhead_92 : decode cX6_isAhead 92 = .ok (.iload_n 3, 1) := by decide +kernel
theorem dX6_isAhead_93 : decode cX6_isAhead 93 = .ok (.iload 4, 2) := by decide +kernel
theorem dX6_isAhead_95 : decode cX6_isAhead 95 = .ok (.if_icmp .le 7, 3) := by decide +kernel
theorem dX6_isAhead_98 : decode cX6_isAhead 98 = .ok (.iconst 1, 1) := by decide +kernel
theorem dX6_isAhead_99 : decode cX6_isAhead 99 = .ok (.goto 4, 3) := by decide +kernel
theorem dX6_isAhead_102 : decode cX6_isAhead 102 = .ok (.iconst 0, 1) := by decide +kernel
theorem dX6_isAhead_103 : decode cX6_isAhead 103 = .ok (.ireturn, 1) := by decide +kernel
theorem dX6_isAhead_104 : decode cX6_isAhead 104 = .ok (.aload_n 0, 1) := by decide +kernel
theorem dX6_isAhead_105 : decode cX6_isAhead 105 = .ok (.getfield 17, 3) := by decide +kernel
theorem dX6_isAhead_108 : decode cX6_isAhead 108 = .ok (.aload_n 0, 1) := by decide +kernel
theorem dX6_isAhead_109 : decode cX6_isAhead 109 = .ok (.getfield 23, 3) := by decide +kernel
theorem dX6_isAhead_112 : decode cX6_isAhead 112 = .ok (.iload_n 1, 1) := by decide +kernel
theorem dX6_isAhead_113 : decode cX6_isAhead 113 = .ok (.iaload, 1) := by decide +kernel
theorem dX6_isAhead_114 : decode cX6_isAhead 114 = .ok (.iaload, 1) := by decide +kernel
theorem dX6_isAhead_115 : decode cX6_isAhead 115 = .ok (.istore 5, 2) := by decide +kernel
theorem dX6_isAhead_117 : decode cX6_isAhead 117 = .ok (.aload_n 0, 1) := by decide +kernel
theorem dX6_isAhead_118 : decode cX6_isAhead 118 = .ok (.getfield 17, 3) := by decide +kernel
theorem dX6_isAhead_121 : decode cX6_isAhead 121 = .ok (.aload_n 0, 1) := by decide +kernel
theorem dX6_isAhead_122 : decode cX6_isAhead 122 = .ok (.getfield 23, 3) := by decide +kernel
theorem dX6_isAhead_125 : decode cX6_isAhead 125 = .ok (.iload_n 2, 1) := by decide +kernel
theorem dX6_isAhead_126 : decode cX6_isAhead 126 = .ok (.iaload, 1) := by decide +kernel
theorem dX6_isAhead_127 : decode cX6_isAhead 127 = .ok (.iaload, 1) := by decide +kernel
theorem dX6_isAhead_128 : decode cX6_isAhead 128 = .ok (.istore 6, 2) := by decide +kernel
theorem dX6_isAhead_130 : decode cX6_isAhead 130 = .ok (.iload 5, 2) := by decide +kernel
theorem dX6_isAhead_132 : decode cX6_isAhead 132 = .ok (.iload 6, 2) := by decide +kernel
theorem dX6_isAhead_134 : decode cX6_isAhead 134 = .ok (.if_icmp .eq 16, 3) := by decide +kernel
theorem dX6_isAhead_137 : decode cX6_isAhead 137 = .ok (.iload 5, 2) := by decide +kernel
theorem dX6_isAhead_139 : decode cX6_isAhead 139 = .ok (.iload 6, 2) := by decide +kernel
theorem dX6_isAhead_141 : decode cX6_isAhead 141 = .ok (.if_icmp .ge 7, 3) := by decide +kernel
theorem dX6_isAhead_144 : decode cX6_isAhead 144 = .ok (.iconst 1, 1) := by decide +kernel
theorem dX6_isAhead_145 : decode cX6_isAhead 145 = .ok (.goto 4, 3) := by decide +kernel
theorem dX6_isAhead_148 : decode cX6_isAhead 148 = .ok (.iconst 0, 1) := by decide +kernel
theorem dX6_isAhead_149 : decode cX6_isAhead 149 = .ok (.ireturn, 1) := by decide +kernel
theorem dX6_isAhead_150 : decode cX6_isAhead 150 = .ok (.aload_n 0, 1) := by decide +kernel
theorem dX6_isAhead_151 : decode cX6_isAhead 151 = .ok (.getfield 35, 3) := by decide +kernel
theorem dX6_isAhead_154 : decode cX6_isAhead 154 = .ok (.iload_n 1, 1) := by decide +kernel
theorem dX6_isAhead_155 : decode cX6_isAhead 155 = .ok (.iaload, 1) := by decide +kernel
theorem dX6_isAhead_156 : decode cX6_isAhead 156 = .ok (.aload_n 0, 1) := by decide +kernel
theorem dX6_isAhead_157 : decode cX6_isAhead 157 = .ok (.getfield 35, 3) := by decide +kernel
theorem dX6_isAhead_160 : decode cX6_isAhead 160 = .ok (.iload_n 2, 1) := by decide +kernel
theorem dX6_isAhead_161 : decode cX6_isAhead 161 = .ok (.iaload, 1) := by decide +kernel
theorem dX6_isAhead_162 : decode cX6_isAhead 162 = .ok (.if_icmp .lt 23, 3) := by decide +kernel
theorem dX6_isAhead_165 : decode cX6_isAhead 165 = .ok (.aload_n 0, 1) := by decide +kernel
theorem dX6_isAhead_166 : decode cX6_isAhead 166 = .ok (.getfield 35, 3) := by decide +kernel
theorem dX6_isAhead_169 : decode cX6_isAhead 169 = .ok (.iload_n 1, 1) := by decide +kernel
theorem dX6_isAhead_170 : decode cX6_isAhead 170 = .ok (.iaload, 1) := by decide +kernel
theorem dX6_isAhead_171 : decode cX6_isAhead 171 = .ok (.aload_n 0, 1) := by decide +kernel
theorem dX6_isAhead_172 : decode cX6_isAhead 172 = .ok (.getfield 35, 3) := by decide +kernel
theorem dX6_isAhead_175 : decode cX6_isAhead 175 = .ok (.iload_n 2, 1) := by decide +kernel
theorem dX6_isAhead_176 : decode cX6_isAhead 176 = .ok (.iaload, 1) := by decide +kernel
theorem dX6_isAhead_177 : decode cX6_isAhead 177 = .ok (.if_icmp .ne 12, 3) := by decide +kernel
theorem dX6_isAhead_180 : decode cX6_isAhead 180 = .ok (.iload_n 1, 1) := by decide +kernel
theorem dX6_isAhead_181 : decode cX6_isAhead 181 = .ok (.iload_n 2, 1) := by decide +kernel
theorem dX6_isAhead_182 : decode cX6_isAhead 182 = .ok (.if_icmp .ge 7, 3) := by decide +kernel
theorem dX6_isAhead_185 : decode cX6_isAhead 185 = .ok (.iconst 1, 1) := by decide +kernel
theorem dX6_isAhead_186 : decode cX6_isAhead 186 = .ok (.goto 4, 3) := by decide +kernel
theorem dX6_isAhead_189 : decode cX6_isAhead 189 = .ok (.iconst 0, 1) := by decide +kernel
theorem dX6_isAhead_190 : decode cX6_isAhead 190 = .ok (.ireturn, 1) := by decide +kernel
set_option maxRecDepth 20000 in
theorem ggX6_ranked_X6_isAhead : GoodIn wsX6_ranked wsX6_isAhead := goodIn_r _ [6, 7, 8, 9, 10, 11, 12, 13, 14, 15, 16, 17, 18, 19, 20, 21, 22, 23, 24, 25, 26, 27, 28, 29, 30, 31, 32, 33, 34, 35, 36, 37, 38] (by decide +kernel) (by decide +kernel)
set_option maxRecDepth 20000 in
theorem gX6_ranked_X6_isAhead : GoodIn wsX6_ranked (wsV RX6 114 RX6 yX6_isAhead wsX6_isAhead) := goodIn_app (goodIn_of _ (by decide +kernel)) ggX6_ranked_X6_isAhead
theorem dX6_ranked_0 : decode cX6_ranked 0 = .ok (.iconst 0, 1) := by decide +kernel
theorem dX6_ranked_1 : decode cX6_ranked 1 = .ok (.istore_n 2, 1) := by decide +kernel
theorem dX6_ranked_2 : decode cX6_ranked 2 = .ok (.iconst 0, 1) := by decide +kernel
theorem dX6_ranked_3 : decode cX6_ranked 3 = .ok (.istore_n 3, 1) := by decide +kernel
theorem dX6_ranked_4 : decode cX6_ranked 4 = .ok (.iload_n 3, 1) := by decide +kernel
theorem dX6_ranked_5 : decode cX6_ranked 5 = .ok (.aload_n 0, 1) := by decide +kernel
theorem dX6_ranked_6 : decode cX6_ranked 6 = .ok (.getfield 64, 3) := by decide +kernel
theorem dX6_ranked_9 : decode cX6_ranked 9 = .ok (.if_icmp .ge 31, 3) := by decide +kernel
theorem dX6_ranked_12 : decode cX6_ranked 12 = .ok (.iload_n 2, 1) := by decide +kernel
theorem dX6_ranked_13 : decode cX6_ranked 13 = .ok (.iload_n 3, 1) := by decide +kernel
theorem dX6_ranked_14 : decode cX6_ranked 14 = .ok (.iload_n 1, 1) := by decide +kernel
theorem dX6_ranked_15 : decode cX6_ranked 15 = .ok (.if_icmp .eq 16, 3) := by decide +kernel
theorem dX6_ranked_18 : decode cX6_ranked 18 = .ok (.aload_n 0, 1) := by decide +kernel
theorem dX6_ranked_19 : decode cX6_ranked 19 = .ok (.iload_n 3, 1) := by decide +kernel
theorem dX6_ranked_20 : decode cX6_ranked 20 = .ok (.iload_n 1, 1) := by decide +kernel
theorem dX6_ranked_21 : decode cX6_ranked 21 = .ok (.invokevirtual 114, 3) := by decide +kernel
theorem dX6_ranked_24 : decode cX6_ranked 24 = .ok (.ifCond .eq 7, 3) := by decide +kernel
theorem dX6_ranked_27 : decode cX6_ranked 27 = .ok (.iconst 1, 1) := by decide +kernel
theorem dX6_ranked_28 : decode cX6_ranked 28 = .ok (.goto 4, 3) := by decide +kernel
theorem dX6_ranked_31 : decode cX6_ranked 31 = .ok (.iconst 0, 1) := by decide +kernel
theorem dX6_ranked_32 : decode cX6_ranked 32 = .ok (.iadd, 1) := by decide +kernel
theorem dX6_ranked_33 : decode cX6_ranked 33 = .ok (.istore_n 2, 1) := by decide +kernel
theorem dX6_ranked_34 : decode cX6_ranked 34 = .ok (.iinc 3 1, 3) := by decide +kernel
theorem dX6_ranked_37 : decode cX6_ranked 37 = .ok (.goto (-33), 3) := by decide +kernel
theorem dX6_ranked_40 : decode cX6_ranked 40 = .ok (.iload_n 2, 1) := by decide +kernel
theorem dX6_ranked_41 : decode cX6_ranked 41 = .ok (.ireturn, 1) := by decide +kernel
set_option maxRecDepth 20000 in
theorem ggX6_rank_X6_isKart : GoodIn wsX6_rank wsX6_isKart := goodIn_r _ [6, 7, 8, 9, 5, 10, 30, 31, 32, 33, 34, 35, 36, 37, 38, 39, 40, 41, 42, 43, 44, 45, 46, 47, 48, 49, 50, 51, 52, 53, 54, 55] (by decide +kernel) (by decide +kernel)
set_option maxRecDepth 20000 in
theorem gX6_rank_X6_isKart : GoodIn wsX6_rank (wsV RX6 101 RX6 yX6_isKart wsX6_isKart) := goodIn_app (goodIn_of _ (by decide +kernel)) ggX6_rank_X6_isKart
set_option maxRecDepth 20000 in
theorem ggX6_rank_X6_fails : GoodIn wsX6_rank wsX6_fails := goodIn_r _ [14, 15, 30, 31, 32, 33, 34, 35, 36, 37, 38, 39, 40, 41, 42, 43, 44, 45, 46, 47, 48, 49, 50, 51, 52, 53, 54, 55] (by decide +kernel) (by decide +kernel)
set_option maxRecDepth 20000 in
theorem gX6_rank_X6_fails : GoodIn wsX6_rank (wsV RX6 70 RX6 yX6_fails wsX6_fails) := goodIn_app (goodIn_of _ (by decide +kernel)) ggX6_rank_X6_fails
set_option maxRecDepth 20000 in
theorem ggX6_rank_X6_ranked : GoodIn wsX6_rank wsX6_ranked := goodIn_r _ [19, 7, 20, 21, 22, 5, 23, 24, 25, 26, 27, 28, 29, 30, 31, 32, 33, 34, 35, 36, 37, 38, 39, 40, 41, 42, 43, 44, 45, 46, 47, 48, 49, 50, 51, 52, 53, 54, 55] (by decide +kernel) (by decide +kernel)
set_option maxRecDepth 20000 in
theorem gX6_rank_X6_ranked : GoodIn wsX6_rank (wsV RX6 118 RX6 yX6_ranked wsX6_ranked) := goodIn_app (goodIn_of _ (by decide +kernel)) ggX6_rank_X6_ranked
theorem dX6_rank_0 : decode cX6_rank 0 = .ok (.aload_n 0, 1) := by decide +kernel
theorem dX6_rank_1 : decode cX6_rank 1 = .ok (.aload_n 0, 1) := by decide +kernel
theorem dX6_rank_2 : decode cX6_rank 2 = .ok (.iload_n 1, 1) := by decide +kernel
theorem dX6_rank_3 : decode cX6_rank 3 = .ok (.invokevirtual 101, 3) := by decide +kernel
theorem dX6_rank_6 : decode cX6_rank 6 = .ok (.ifCond .ne 7, 3) := by decide +kernel
theorem dX6_rank_9 : decode cX6_rank 9 = .ok (.iconst 1, 1) := by decide +kernel
theorem dX6_rank_10 : decode cX6_rank 10 = .ok (.goto 15, 3) := by decide +kernel
theorem dX6_rank_13 : decode cX6_rank 13 = .ok (.aload_n 0, 1) := by decide +kernel
theorem dX6_rank_14 : decode cX6_rank 14 = .ok (.getfield 87, 3) := by decide +kernel
theorem dX6_rank_17 : decode cX6_rank 17 = .ok (.ifCond .eq 7, 3) := by decide +kernel
theorem dX6_rank_20 : decode cX6_rank 20 = .ok (.iconst 0, 1) := by decide +kernel
theorem dX6_rank_21 : decode cX6_rank 21 = .ok (.goto 4, 3) := by decide +kernel
theorem dX6_rank_24 : decode cX6_rank 24 = .ok (.iconst 2, 1) := by decide +kernel
theorem dX6_rank_25 : decode cX6_rank 25 = .ok (.invokevirtual 70, 3) := by decide +kernel
theorem dX6_rank_28 : decode cX6_rank 28 = .ok (.ifCond .eq 7, 3) := by decide +kernel
theorem dX6_rank_31 : decode cX6_rank 31 = .ok (.iconst 0, 1) := by decide +kernel
theorem dX6_rank_32 : decode cX6_rank 32 = .ok (.goto 8, 3) := by decide +kernel
theorem dX6_rank_35 : decode cX6_rank 35 = .ok (.aload_n 0, 1) := by decide +kernel
theorem dX6_rank_36 : decode cX6_rank 36 = .ok (.iload_n 1, 1) := by decide +kernel
theorem dX6_rank_37 : decode cX6_rank 37 = .ok (.invokevirtual 118, 3) := by decide +kernel
theorem dX6_rank_40 : decode cX6_rank 40 = .ok (.ireturn, 1) := by decide +kernel
set_option maxRecDepth 20000 in
theorem ggX6_rankByRecord_X6_isKart : GoodIn wsX6_rankByRecord wsX6_isKart := goodIn_r _ [6, 7, 8, 9, 5, 10, 30, 31, 32, 33, 34, 35, 36, 37, 38, 39, 40, 41, 42, 43, 44, 45, 46, 47, 48, 49, 50, 51, 52, 53, 54, 55] (by decide +kernel) (by decide +kernel)
set_option maxRecDepth 20000 in
theorem gX6_rankByRecord_X6_isKart : GoodIn wsX6_rankByRecord (wsV RX6 101 RX6 yX6_isKart wsX6_isKart) := goodIn_app (goodIn_of _ (by decide +kernel)) ggX6_rankByRecord_X6_isKart
set_option maxRecDepth 20000 in
theorem ggX6_rankByRecord_X6_fails : GoodIn wsX6_rankByRecord wsX6_fails := goodIn_r _ [14, 15, 30, 31, 32, 33, 34, 35, 36, 37, 38, 39, 40, 41, 42, 43, 44, 45, 46, 47, 48, 49, 50, 51, 52, 53, 54, 55] (by decide +kernel) (by decide +kernel)
set_option maxRecDepth 20000 in
theorem gX6_rankByRecord_X6_fails : GoodIn wsX6_rankByRecord (wsV RX6 70 RX6 yX6_fails wsX6_fails) := goodIn_app (goodIn_of _ (by decide +kernel)) ggX6_rankByRecord_X6_fails
set_option maxRecDepth 20000 in
theorem ggX6_rankByRecord_X6_ranked : GoodIn wsX6_rankByRecord wsX6_ranked := goodIn_r _ [19, 7, 20, 21, 22, 5, 23, 24, 25, 26, 27, 28, 29, 30, 31, 32, 33, 34, 35, 36, 37, 38, 39, 40, 41, 42, 43, 44, 45, 46, 47, 48, 49, 50, 51, 52, 53, 54, 55] (by decide +kernel) (by decide +kernel)
set_option maxRecDepth 20000 in
theorem gX6_rankByRecord_X6_ranked : GoodIn wsX6_rankByRecord (wsV RX6 118 RX6 yX6_ranked wsX6_ranked) := goodIn_app (goodIn_of _ (by decide +kernel)) ggX6_rankByRecord_X6_ranked
theorem dX6_rankByRecord_0 : decode cX6_rankByRecord 0 = .ok (.aload_n 0, 1) := by decide +kernel
theorem dX6_rankByRecord_1 : decode cX6_rankByRecord 1 = .ok (.aload_n 0, 1) := by decide +kernel
theorem dX6_rankByRecord_2 : decode cX6_rankByRecord 2 = .ok (.iload_n 1, 1) := by decide +kernel
theorem dX6_rankByRecord_3 : decode cX6_rankByRecord 3 = .ok (.invokevirtual 101, 3) := by decide +kernel
theorem dX6_rankByRecord_6 : decode cX6_rankByRecord 6 = .ok (.ifCond .ne 7, 3) := by decide +kernel
theorem dX6_rankByRecord_9 : decode cX6_rankByRecord 9 = .ok (.iconst 1, 1) := by decide +kernel
theorem dX6_rankByRecord_10 : decode cX6_rankByRecord 10 = .ok (.goto 15, 3) := by decide +kernel
theorem dX6_rankByRecord_13 : decode cX6_rankByRecord 13 = .ok (.aload_n 0, 1) := by decide +kernel
theorem dX6_rankByRecord_14 : decode cX6_rankByRecord 14 = .ok (.getfield 87, 3) := by decide +kernel
theorem dX6_rankByRecord_17 : decode cX6_rankByRecord 17 = .ok (.ifCond .eq 7, 3) := by decide +kernel
theorem dX6_rankByRecord_20 : decode cX6_rankByRecord 20 = .ok (.iconst 0, 1) := by decide +kernel
theorem dX6_rankByRecord_21 : decode cX6_rankByRecord 21 = .ok (.goto 4, 3) := by decide +kernel
theorem dX6_rankByRecord_24 : decode cX6_rankByRecord 24 = .ok (.iconst 2, 1) := by decide +kernel
theorem dX6_rankByRecord_25 : decode cX6_rankByRecord 25 = .ok (.invokevirtual 70, 3) := by decide +kernel
theorem dX6_rankByRecord_28 : decode cX6_rankByRecord 28 = .ok (.ifCond .eq 7, 3) := by decide +kernel
theorem dX6_rankByRecord_31 : decode cX6_rankByRecord 31 = .ok (.iconst 0, 1) := by decide +kernel
theorem dX6_rankByRecord_32 : decode cX6_rankByRecord 32 = .ok (.goto 8, 3) := by decide +kernel
theorem dX6_rankByRecord_35 : decode cX6_rankByRecord 35 = .ok (.aload_n 0, 1) := by decide +kernel
theorem dX6_rankByRecord_36 : decode cX6_rankByRecord 36 = .ok (.iload_n 1, 1) := by decide +kernel
theorem dX6_rankByRecord_37 : decode cX6_rankByRecord 37 = .ok (.invokevirtual 118, 3) := by decide +kernel
theorem dX6_rankByRecord_40 : decode cX6_rankByRecord 40 = .ok (.ireturn, 1) := by decide +kernel
theorem dX6_done_0 : decode cX6_done 0 = .ok (.aload_n 0, 1) := by decide +kernel
theorem dX6_done_1 : decode cX6_done 1 = .ok (.getfield 26, 3) := by decide +kernel
theorem dX6_done_4 : decode cX6_done 4 = .ok (.iload_n 1, 1) := by decide +kernel
theorem dX6_done_5 : decode cX6_done 5 = .ok (.iaload, 1) := by decide +kernel
theorem dX6_done_6 : decode cX6_done 6 = .ok (.aload_n 0, 1) := by decide +kernel
theorem dX6_done_7 : decode cX6_done 7 = .ok (.getfield 29, 3) := by decide +kernel
theorem dX6_done_10 : decode cX6_done 10 = .ok (.iload_n 1, 1) := by decide +kernel
theorem dX6_done_11 : decode cX6_done 11 = .ok (.iaload, 1) := by decide +kernel
theorem dX6_done_12 : decode cX6_done 12 = .ok (.isub, 1) := by decide +kernel
theorem dX6_done_13 : decode cX6_done 13 = .ok (.aload_n 0, 1) := by decide +kernel
theorem dX6_done_14 : decode cX6_done 14 = .ok (.getfield 17, 3) := by decide +kernel
theorem dX6_done_17 : decode cX6_done 17 = .ok (.iconst 0, 1) := by decide +kernel
theorem dX6_done_18 : decode cX6_done 18 = .ok (.iaload, 1) := by decide +kernel
theorem dX6_done_19 : decode cX6_done 19 = .ok (.imul, 1) := by decide +kernel
theorem dX6_done_20 : decode cX6_done 20 = .ok (.aload_n 0, 1) := by decide +kernel
theorem dX6_done_21 : decode cX6_done 21 = .ok (.getfield 23, 3) := by decide +kernel
theorem dX6_done_24 : decode cX6_done 24 = .ok (.iload_n 1, 1) := by decide +kernel
theorem dX6_done_25 : decode cX6_done 25 = .ok (.iaload, 1) := by decide +kernel
theorem dX6_done_26 : decode cX6_done 26 = .ok (.ifCond .ne 7, 3) := by decide +kernel
theorem dX6_done_29 : decode cX6_done 29 = .ok (.iconst 0, 1) := by decide +kernel
theorem dX6_done_30 : decode cX6_done 30 = .ok (.goto 21, 3) := by decide +kernel
theorem dX6_done_33 : decode cX6_done 33 = .ok (.aload_n 0, 1) := by decide +kernel
theorem dX6_done_34 : decode cX6_done 34 = .ok (.getfield 17, 3) := by decide +kernel
theorem dX6_done_37 : decode cX6_done 37 = .ok (.iconst 0, 1) := by decide +kernel
theorem dX6_done_38 : decode cX6_done 38 = .ok (.iaload, 1) := by decide +kernel
theorem dX6_done_39 : decode cX6_done 39 = .ok (.aload_n 0, 1) := by decide +kernel
theorem dX6_done_40 : decode cX6_done 40 = .ok (.getfield 17, 3) := by decide +kernel
theorem dX6_done_43 : decode cX6_done 43 = .ok (.aload_n 0, 1) := by decide +kernel
theorem dX6_done_44 : decode cX6_done 44 = .ok (.getfield 23, 3) := by decide +kernel
theorem dX6_done_47 : decode cX6_done 47 = .ok (.iload_n 1, 1) := by decide +kernel
theorem dX6_done_48 : decode cX6_done 48 = .ok (.iaload, 1) := by decide +kernel
theorem dX6_done_49 : decode cX6_done 49 = .ok (.iaload, 1) := by decide +kernel
theorem dX6_done_50 : decode cX6_done 50 = .ok (.isub, 1) := by decide +kernel
theorem dX6_done_51 : decode cX6_done 51 = .ok (.iadd, 1) := by decide +kernel
theorem dX6_done_52 : decode cX6_done 52 = .ok (.ireturn, 1) := by decide +kernel
set_option maxRecDepth 20000 in
theorem ggX6_atRank_X6_ranked : GoodIn wsX6_atRank wsX6_ranked := goodIn_r _ [6, 1, 7, 8, 9, 5, 10, 11, 12, 13, 14, 15, 16, 17, 18, 19, 20, 21, 22, 23, 24, 25, 26, 27, 28, 29, 30, 31, 32, 33, 34, 35, 36, 37, 38, 39, 40, 41, 42] (by decide +kernel) (by decide +kernel)
set_option maxRecDepth 20000 in
theorem gX6_atRank_X6_ranked : GoodIn wsX6_atRank (wsV RX6 118 RX6 yX6_ranked wsX6_ranked) := goodIn_app (goodIn_of _ (by decide +kernel)) ggX6_atRank_X6_ranked
theorem dX6_atRank_0 : decode cX6_atRank 0 = .ok (.iconst (-1), 1) := by decide +kernel
theorem dX6_atRank_1 : decode cX6_atRank 1 = .ok (.istore_n 2, 1) := by decide +kernel
theorem dX6_atRank_2 : decode cX6_atRank 2 = .ok (.iconst 0, 1) := by decide +kernel
theorem dX6_atRank_3 : decode cX6_atRank 3 = .ok (.istore_n 3, 1) := by decide +kernel
theorem dX6_atRank_4 : decode cX6_atRank 4 = .ok (.iload_n 3, 1) := by decide +kernel
theorem dX6_atRank_5 : decode cX6_atRank 5 = .ok (.aload_n 0, 1) := by decide +kernel
theorem dX6_atRank_6 : decode cX6_atRank 6 = .ok (.getfield 64, 3) := by decide +kernel
theorem dX6_atRank_9 : decode cX6_atRank 9 = .ok (.if_icmp .ge 24, 3) := by decide +kernel
theorem dX6_atRank_12 : decode cX6_atRank 12 = .ok (.aload_n 0, 1) := by decide +kernel
theorem dX6_atRank_13 : decode cX6_atRank 13 = .ok (.iload_n 3, 1) := by decide +kernel
theorem dX6_atRank_14 : decode cX6_atRank 14 = .ok (.invokevirtual 118, 3) := by decide +kernel
theorem dX6_atRank_17 : decode cX6_atRank 17 = .ok (.iload_n 1, 1) := by decide +kernel
theorem dX6_atRank_18 : decode cX6_atRank 18 = .ok (.if_icmp .ne 7, 3) := by decide +kernel
theorem dX6_atRank_21 : decode cX6_atRank 21 = .ok (.iload_n 3, 1) := by decide +kernel
theorem dX6_atRank_22 : decode cX6_atRank 22 = .ok (.goto 4, 3) := by decide +kernel
theorem dX6_atRank_25 : decode cX6_atRank 25 = .ok (.iload_n 2, 1) := by decide +kernel
theorem dX6_atRank_26 : decode cX6_atRank 26 = .ok (.istore_n 2, 1) := by decide +kernel
theorem dX6_atRank_27 : decode cX6_atRank 27 = .ok (.iinc 3 1, 3) := by decide +kernel
theorem dX6_atRank_30 : decode cX6_atRank 30 = .ok (.goto (-26), 3) := by decide +kernel
theorem dX6_atRank_33 : decode cX6_atRank 33 = .ok (.iload_n 2, 1) := by decide +kernel
theorem dX6_atRank_34 : decode cX6_atRank 34 = .ok (.ireturn, 1) := by decide +kernel
set_option maxRecDepth 20000 in
theorem ggX6_catchUp_X6_isKart : GoodIn wsX6_catchUp wsX6_isKart := goodIn_r _ [6, 7, 8, 9, 5, 10, 38, 39, 40, 41, 42, 43, 44, 45, 46, 47, 48, 49, 50, 51, 52, 53, 54, 55, 56, 57, 58, 59, 60, 61, 62, 63] (by decide +kernel) (by decide +kernel)
set_option maxRecDepth 20000 in
theorem gX6_catchUp_X6_isKart : GoodIn wsX6_catchUp (wsV RX6 101 RX6 yX6_isKart wsX6_isKart) := goodIn_app (goodIn_of _ (by decide +kernel)) ggX6_catchUp_X6_isKart
set_option maxRecDepth 20000 in
theorem ggX6_catchUp_X6_fails : GoodIn wsX6_catchUp wsX6_fails := goodIn_r _ [14, 15, 38, 39, 40, 41, 42, 43, 44, 45, 46, 47, 48, 49, 50, 51, 52, 53, 54, 55, 56, 57, 58, 59, 60, 61, 62, 63] (by decide +kernel) (by decide +kernel)
set_option maxRecDepth 20000 in
theorem gX6_catchUp_X6_fails : GoodIn wsX6_catchUp (wsV RX6 70 RX6 yX6_fails wsX6_fails) := goodIn_app (goodIn_of _ (by decide +kernel)) ggX6_catchUp_X6_fails
set_option maxRecDepth 20000 in
theorem ggX6_catchUp_X6_atRank : GoodIn wsX6_catchUp wsX6_atRank := goodIn_r _ [19, 7, 20, 21, 22, 5, 23, 24, 25, 26, 27, 28, 29, 30, 31, 32, 33, 38, 39, 40, 41, 42, 43, 44, 45, 46, 47, 48, 49, 50, 51, 52, 53, 54, 55, 56, 57, 58, 59, 60, 61, 62, 63] (by decide +kernel) (by decide +kernel)
set_option maxRecDepth 20000 in
theorem gX6_catchUp_X6_atRank : GoodIn wsX6_catchUp (wsV RX6 121 RX6 yX6_atRank wsX6_atRank) := goodIn_app (goodIn_of _ (by decide +kernel)) ggX6_catchUp_X6_atRank
set_option maxRecDepth 20000 in
theorem ggX6_catchUp_X6_done : GoodIn wsX6_catchUp wsX6_done := goodIn_r _ [37, 29, 30, 31, 32, 38, 39, 40, 41, 42, 43, 44, 45, 46, 47, 48, 49, 50, 51, 52, 53, 54, 55, 56, 57, 58, 59, 60, 61, 62, 63] (by decide +kernel) (by decide +kernel)
set_option maxRecDepth 20000 in
theorem gX6_catchUp_X6_done : GoodIn wsX6_catchUp (wsV RX6 124 RX6 yX6_done wsX6_done) := goodIn_app (goodIn_of _ (by decide +kernel)) ggX6_catchUp_X6_done
theorem dX6_catchUp_0 : decode cX6_catchUp 0 = .ok (.aload_n 0, 1) := by decide +kernel
theorem dX6_catchUp_1 : decode cX6_catchUp 1 = .ok (.aload_n 0, 1) := by decide +kernel
theorem dX6_catchUp_2 : decode cX6_catchUp 2 = .ok (.iload_n 1, 1) := by decide +kernel
theorem dX6_catchUp_3 : decode cX6_catchUp 3 = .ok (.invokevirtual 101, 3) := by decide +kernel
theorem dX6_catchUp_6 : decode cX6_catchUp 6 = .ok (.ifCond .ne 7, 3) := by decide +kernel
theorem dX6_catchUp_9 : decode cX6_catchUp 9 = .ok (.iconst 1, 1) := by decide +kernel
theorem dX6_catchUp_10 : decode cX6_catchUp 10 = .ok (.goto 15, 3) := by decide +kernel
theorem dX6_catchUp_13 : decode cX6_catchUp 13 = .ok (.aload_n 0, 1) := by decide +kernel
theorem dX6_catchUp_14 : decode cX6_catchUp 14 = .ok (.getfield 87, 3) := by decide +kernel
theorem dX6_catchUp_17 : decode cX6_catchUp 17 = .ok (.ifCond .eq 7, 3) := by decide +kernel
theorem dX6_catchUp_20 : decode cX6_catchUp 20 = .ok (.iconst 0, 1) := by decide +kernel
theorem dX6_catchUp_21 : decode cX6_catchUp 21 = .ok (.goto 4, 3) := by decide +kernel
theorem dX6_catchUp_24 : decode cX6_catchUp 24 = .ok (.iconst 2, 1) := by decide +kernel
theorem dX6_catchUp_25 : decode cX6_catchUp 25 = .ok (.invokevirtual 70, 3) := by decide +kernel
theorem dX6_catchUp_28 : decode cX6_catchUp 28 = .ok (.ifCond .eq 5, 3) := by decide +kernel
theorem dX6_catchUp_31 : decode cX6_catchUp 31 = .ok (.iconst 0, 1) := by decide +kernel
theorem dX6_catchUp_32 : decode cX6_catchUp 32 = .ok (.ireturn, 1) := by decide +kernel
theorem dX6_catchUp_33 : decode cX6_catchUp 33 = .ok (.aload_n 0, 1) := by decide +kernel
theorem dX6_catchUp_34 : decode cX6_catchUp 34 = .ok (.aload_n 0, 1) := by decide +kernel
theorem dX6_catchUp_35 : decode cX6_catchUp 35 = .ok (.iconst 0, 1) := by decide +kernel
theorem dX6_catchUp_36 : decode cX6_catchUp 36 = .ok (.invokevirtual 121, 3) := by decide +kernel
theorem dX6_catchUp_39 : decode cX6_catchUp 39 = .ok (.invokevirtual 124, 3) := by decide +kernel
theorem dX6_catchUp_42 : decode cX6_catchUp 42 = .ok (.aload_n 0, 1) := by decide +kernel
theorem dX6_catchUp_43 : decode cX6_catchUp 43 = .ok (.iload_n 1, 1) := by decide +kernel
theorem dX6_catchUp_44 : decode cX6_catchUp 44 = .ok (.invokevirtual 124, 3) := by decide +kernel
theorem dX6_catchUp_47 : decode cX6_catchUp 47 = .ok (.isub, 1) := by decide +kernel
theorem dX6_catchUp_48 : decode cX6_catchUp 48 = .ok (.istore_n 2, 1) := by decide +kernel
theorem dX6_catchUp_49 : decode cX6_catchUp 49 = .ok (.iload_n 2, 1) := by decide +kernel
theorem dX6_catchUp_50 : decode cX6_catchUp 50 = .ok (.ifCond .ge 7, 3) := by decide +kernel
theorem dX6_catchUp_53 : decode cX6_catchUp 53 = .ok (.iconst 0, 1) := by decide +kernel
theorem dX6_catchUp_54 : decode cX6_catchUp 54 = .ok (.goto 21, 3) := by decide +kernel
theorem dX6_catchUp_57 : decode cX6_catchUp 57 = .ok (.iload_n 2, 1) := by decide +kernel
theorem dX6_catchUp_58 : decode cX6_catchUp 58 = .ok (.bipush 10, 2) := by decide +kernel
theorem dX6_catchUp_60 : decode cX6_catchUp 60 = .ok (.idiv, 1) := by decide +kernel
theorem dX6_catchUp_61 : decode cX6_catchUp 61 = .ok (.bipush 25, 2) := by decide +kernel
theorem dX6_catchUp_63 : decode cX6_catchUp 63 = .ok (.if_icmp .le 8, 3) := by decide +kernel
theorem dX6_catchUp_66 : decode cX6_catchUp 66 = .ok (.bipush 25, 2) := by decide +kernel
theorem dX6_catchUp_68 : decode cX6_catchUp 68 = .ok (.goto 7, 3) := by decide +kernel
theorem dX6_catchUp_71 : decode cX6_catchUp 71 = .ok (.iload_n 2, 1) := by decide +kernel
theorem dX6_catchUp_72 : decode cX6_catchUp 72 = .ok (.bipush 10, 2) := by decide +kernel
theorem dX6_catchUp_74 : decode cX6_catchUp 74 = .ok (.idiv, 1) := by decide +kernel
theorem dX6_catchUp_75 : decode cX6_catchUp 75 = .ok (.ireturn, 1) := by decide +kernel
theorem dX6_setDraw_0 : decode cX6_setDraw 0 = .ok (.aload_n 0, 1) := by decide +kernel
theorem dX6_setDraw_1 : decode cX6_setDraw 1 = .ok (.iconst 0, 1) := by decide +kernel
theorem dX6_setDraw_2 : decode cX6_setDraw 2 = .ok (.putfield 57, 3) := by decide +kernel
theorem dX6_setDraw_5 : decode cX6_setDraw 5 = .ok (.aload_n 0, 1) := by decide +kernel
theorem dX6_setDraw_6 : decode cX6_setDraw 6 = .ok (.iload_n 1, 1) := by decide +kernel
theorem dX6_setDraw_7 : decode cX6_setDraw 7 = .ok (.putfield 127, 3) := by decide +kernel
theorem dX6_setDraw_10 : decode cX6_setDraw 10 = .ok (.return_, 1) := by decide +kernel
theorem dX6_drawn_0 : decode cX6_drawn 0 = .ok (.iload_n 0, 1) := by decide +kernel
theorem dX6_drawn_1 : decode cX6_drawn 1 = .ok (.ifCond .ne 23, 3) := by decide +kernel
theorem dX6_drawn_4 : decode cX6_drawn 4 = .ok (.iload_n 1, 1) := by decide +kernel
theorem dX6_drawn_5 : decode cX6_drawn 5 = .ok (.iconst 2, 1) := by decide +kernel
theorem dX6_drawn_6 : decode cX6_drawn 6 = .ok (.if_icmp .ge 7, 3) := by decide +kernel
theorem dX6_drawn_9 : decode cX6_drawn 9 = .ok (.iconst 2, 1) := by decide +kernel
theorem dX6_drawn_10 : decode cX6_drawn 10 = .ok (.goto 13, 3) := by decide +kernel
theorem dX6_drawn_13 : decode cX6_drawn 13 = .ok (.iload_n 1, 1) := by decide +kernel
theorem dX6_drawn_14 : decode cX6_drawn 14 = .ok (.iconst 2, 1) := by decide +kernel
theorem dX6_drawn_15 : decode cX6_drawn 15 = .ok (.if_icmp .ne 7, 3) := by decide +kernel
theorem dX6_drawn_18 : decode cX6_drawn 18 = .ok (.iconst 1, 1) := by decide +kernel
theorem dX6_drawn_19 : decode cX6_drawn 19 = .ok (.goto 4, 3) := by decide +kernel
theorem dX6_drawn_22 : decode cX6_drawn 22 = .ok (.iconst 0, 1) := by decide +kernel
theorem dX6_drawn_23 : decode cX6_drawn 23 = .ok (.ireturn, 1) := by decide +kernel
theorem dX6_drawn_24 : decode cX6_drawn 24 = .ok (.iload_n 0, 1) := by decide +kernel
theorem dX6_drawn_25 : decode cX6_drawn 25 = .ok (.iconst 3, 1) := by decide +kernel
theorem dX6_drawn_26 : decode cX6_drawn 26 = .ok (.if_icmp .ge 23, 3) := by decide +kernel
theorem dX6_drawn_29 : decode cX6_drawn 29 = .ok (.iload_n 1, 1) := by decide +kernel
theorem dX6_drawn_30 : decode cX6_drawn 30 = .ok (.iconst 1, 1) := by decide +kernel
theorem dX6_drawn_31 : decode cX6_drawn 31 = .ok (.if_icmp .ne 7, 3) := by decide +kernel
theorem dX6_drawn_34 : decode cX6_drawn 34 = .ok (.iconst 2, 1) := by decide +kernel
theorem dX6_drawn_35 : decode cX6_drawn 35 = .ok (.goto 13, 3) := by decide +kernel
theorem dX6_drawn_38 : decode cX6_drawn 38 = .ok (.iload_n 1, 1) := by decide +kernel
theorem dX6_drawn_39 : decode cX6_drawn 39 = .ok (.iconst 2, 1) := by decide +kernel
theorem dX6_drawn_40 : decode cX6_drawn 40 = .ok (.if_icmp .ne 7, 3) := by decide +kernel
theorem dX6_drawn_43 : decode cX6_drawn 43 = .ok (.iconst 0, 1) := by decide +kernel
theorem dX6_drawn_44 : decode cX6_drawn 44 = .ok (.goto 4, 3) := by decide +kernel
theorem dX6_drawn_47 : decode cX6_drawn 47 = .ok (.iconst 1, 1) := by decide +kernel
theorem dX6_drawn_48 : decode cX6_drawn 48 = .ok (.ireturn, 1) := by decide +kernel
theorem dX6_drawn_49 : decode cX6_drawn 49 = .ok (.iload_n 1, 1) := by decide +kernel
theorem dX6_drawn_50 : decode cX6_drawn 50 = .ok (.iconst 1, 1) := by decide +kernel
theorem dX6_drawn_51 : decode cX6_drawn 51 = .ok (.if_icmp .ne 7, 3) := by decide +kernel
theorem dX6_drawn_54 : decode cX6_drawn 54 = .ok (.iconst 0, 1) := by decide +kernel
theorem dX6_drawn_55 : decode cX6_drawn 55 = .ok (.goto 13, 3) := by decide +kernel
theorem dX6_drawn_58 : decode cX6_drawn 58 = .ok (.iload_n 1, 1) := by decide +kernel
theorem dX6_drawn_59 : decode cX6_drawn 59 = .ok (.iconst 2, 1) := by decide +kernel
theorem dX6_drawn_60 : decode cX6_drawn 60 = .ok (.if_icmp .ne 7, 3) := by decide +kernel
theorem dX6_drawn_63 : decode cX6_drawn 63 = .ok (.iconst 1, 1) := by decide +kernel
theorem dX6_drawn_64 : decode cX6_drawn 64 = .ok (.goto 4, 3) := by decide +kernel
theorem dX6_drawn_67 : decode cX6_drawn 67 = .ok (.iconst 3, 1) := by decide +kernel
theorem dX6_drawn_68 : decode cX6_drawn 68 = .ok (.ireturn, 1) := by decide +kernel
set_option maxRecDepth 20000 in
theorem ggX6_draw_X6_isKart : GoodIn wsX6_draw wsX6_isKart := goodIn_r _ [10, 11, 12, 13, 9, 14, 36, 37, 38, 39, 40, 41, 42, 43, 44, 45, 46, 47, 48, 49, 50, 51, 52, 53, 54, 55, 56, 57, 58, 59, 60, 61] (by decide +kernel) (by decide +kernel)
set_option maxRecDepth 20000 in
theorem gX6_draw_X6_isKart : GoodIn wsX6_draw (wsV RX6 101 RX6 yX6_isKart wsX6_isKart) := goodIn_app (goodIn_of _ (by decide +kernel)) ggX6_draw_X6_isKart
set_option maxRecDepth 20000 in
theorem ggX6_draw_X6_fails : GoodIn wsX6_draw wsX6_fails := goodIn_r _ [18, 19, 36, 37, 38, 39, 40, 41, 42, 43, 44, 45, 46, 47, 48, 49, 50, 51, 52, 53, 54, 55, 56, 57, 58, 59, 60, 61] (by decide +kernel) (by decide +kernel)
set_option maxRecDepth 20000 in
theorem gX6_draw_X6_fails : GoodIn wsX6_draw (wsV RX6 70 RX6 yX6_fails wsX6_fails) := goodIn_app (goodIn_of _ (by decide +kernel)) ggX6_draw_X6_fails
set_option maxRecDepth 20000 in
theorem ggX6_draw_X6_ranked : GoodIn wsX6_draw wsX6_ranked := goodIn_r _ [23, 11, 24, 25, 26, 9, 27, 2, 28, 29, 30, 31, 32, 36, 37, 38, 39, 40, 41, 42, 43, 44, 45, 46, 47, 48, 49, 50, 51, 52, 53, 54, 55, 56, 57, 58, 59, 60, 61] (by decide +kernel) (by decide +kernel)
set_option maxRecDepth 20000 in
theorem gX6_draw_X6_ranked : GoodIn wsX6_draw (wsV RX6 118 RX6 yX6_ranked wsX6_ranked) := goodIn_app (goodIn_of _ (by decide +kernel)) ggX6_draw_X6_ranked
set_option maxRecDepth 20000 in
theorem ggX6_draw_X6_drawn : GoodIn wsX6_draw wsX6_drawn := goodIn_r _ [35] (by decide +kernel) (by decide +kernel)
set_option maxRecDepth 20000 in
theorem gX6_draw_X6_drawn : GoodIn wsX6_draw (va_wsS RX6 131 yX6_drawn wsX6_drawn) := goodIn_app (goodIn_of _ (by decide +kernel)) ggX6_draw_X6_drawn
theorem dX6_draw_0 : decode cX6_draw 0 = .ok (.aload_n 0, 1) := by decide +kernel
theorem dX6_draw_1 : decode cX6_draw 1 = .ok (.iload_n 1, 1) := by decide +kernel
theorem dX6_draw_2 : decode cX6_draw 2 = .ok (.invokevirtual 101, 3) := by decide +kernel
theorem dX6_draw_5 : decode cX6_draw 5 = .ok (.istore_n 2, 1) := by decide +kernel
theorem dX6_draw_6 : decode cX6_draw 6 = .ok (.aload_n 0, 1) := by decide +kernel
theorem dX6_draw_7 : decode cX6_draw 7 = .ok (.iload_n 2, 1) := by decide +kernel
theorem dX6_draw_8 : decode cX6_draw 8 = .ok (.ifCond .ne 7, 3) := by decide +kernel
theorem dX6_draw_11 : decode cX6_draw 11 = .ok (.iconst 1, 1) := by decide +kernel
theorem dX6_draw_12 : decode cX6_draw 12 = .ok (.goto 34, 3) := by decide +kernel
theorem dX6_draw_15 : decode cX6_draw 15 = .ok (.aload_n 0, 1) := by decide +kernel
theorem dX6_draw_16 : decode cX6_draw 16 = .ok (.getfield 87, 3) := by decide +kernel
theorem dX6_draw_19 : decode cX6_draw 19 = .ok (.ifCond .eq 22, 3) := by decide +kernel
theorem dX6_draw_22 : decode cX6_draw 22 = .ok (.aload_n 0, 1) := by decide +kernel
theorem dX6_draw_23 : decode cX6_draw 23 = .ok (.getfield 38, 3) := by decide +kernel
theorem dX6_draw_26 : decode cX6_draw 26 = .ok (.iload_n 1, 1) := by decide +kernel
theorem dX6_draw_27 : decode cX6_draw 27 = .ok (.iaload, 1) := by decide +kernel
theorem dX6_draw_28 : decode cX6_draw 28 = .ok (.ifCond .gt 13, 3) := by decide +kernel
theorem dX6_draw_31 : decode cX6_draw 31 = .ok (.aload_n 0, 1) := by decide +kernel
theorem dX6_draw_32 : decode cX6_draw 32 = .ok (.getfield 41, 3) := by decide +kernel
theorem dX6_draw_35 : decode cX6_draw 35 = .ok (.iload_n 1, 1) := by decide +kernel
theorem dX6_draw_36 : decode cX6_draw 36 = .ok (.iaload, 1) := by decide +kernel
theorem dX6_draw_37 : decode cX6_draw 37 = .ok (.iconst (-1), 1) := by decide +kernel
theorem dX6_draw_38 : decode cX6_draw 38 = .ok (.if_icmp .eq 7, 3) := by decide +kernel
theorem dX6_draw_41 : decode cX6_draw 41 = .ok (.iconst 2, 1) := by decide +kernel
theorem dX6_draw_42 : decode cX6_draw 42 = .ok (.goto 4, 3) := by decide +kernel
theorem dX6_draw_45 : decode cX6_draw 45 = .ok (.iconst 0, 1) := by decide +kernel
theorem dX6_draw_46 : decode cX6_draw 46 = .ok (.invokevirtual 70, 3) := by decide +kernel
theorem dX6_draw_49 : decode cX6_draw 49 = .ok (.ifCond .eq 5, 3) := by decide +kernel
theorem dX6_draw_52 : decode cX6_draw 52 = .ok (.iconst 0, 1) := by decide +kernel
theorem dX6_draw_53 : decode cX6_draw 53 = .ok (.ireturn, 1) := by decide +kernel
theorem dX6_draw_54 : decode cX6_draw 54 = .ok (.aload_n 0, 1) := by decide +kernel
theorem dX6_draw_55 : decode cX6_draw 55 = .ok (.aload_n 0, 1) := by decide +kernel
theorem dX6_draw_56 : decode cX6_draw 56 = .ok (.getfield 127, 3) := by decide +kernel
theorem dX6_draw_59 : decode cX6_draw 59 = .ok (.ldc 130, 2) := by decide +kernel
theorem dX6_draw_61 : decode cX6_draw 61 = .ok (.imul, 1) := by decide +kernel
theorem dX6_draw_62 : decode cX6_draw 62 = .ok (.sipush 12345, 3) := by decide +kernel
theorem dX6_draw_65 : decode cX6_draw 65 = .ok (.iadd, 1) := by decide +kernel
theorem dX6_draw_66 : decode cX6_draw 66 = .ok (.putfield 127, 3) := by decide +kernel
theorem dX6_draw_69 : decode cX6_draw 69 = .ok (.aload_n 0, 1) := by decide +kernel
theorem dX6_draw_70 : decode cX6_draw 70 = .ok (.getfield 41, 3) := by decide +kernel
theorem dX6_draw_73 : decode cX6_draw 73 = .ok (.iload_n 1, 1) := by decide +kernel
theorem dX6_draw_74 : decode cX6_draw 74 = .ok (.aload_n 0, 1) := by decide +kernel
theorem dX6_draw_75 : decode cX6_draw 75 = .ok (.iload_n 1, 1) := by decide +kernel
theorem dX6_draw_76 : decode cX6_draw 76 = .ok (.invokevirtual 118, 3) := by decide +kernel
theorem dX6_draw_79 : decode cX6_draw 79 = .ok (.aload_n 0, 1) := by decide +kernel
theorem dX6_draw_80 : decode cX6_draw 80 = .ok (.getfield 127, 3) := by decide +kernel
theorem dX6_draw_83 : decode cX6_draw 83 = .ok (.bipush 16, 2) := by decide +kernel
theorem dX6_draw_85 : decode cX6_draw 85 = .ok (.iushr, 1) := by decide +kernel
theorem dX6_draw_86 : decode cX6_draw 86 = .ok (.iconst 4, 1) := by decide +kernel
theorem dX6_draw_87 : decode cX6_draw 87 = .ok (.irem, 1) := by decide +kernel
theorem dX6_draw_88 : decode cX6_draw 88 = .ok (.invokestatic 131, 3) := by decide +kernel
theorem dX6_draw_91 : decode cX6_draw 91 = .ok (.iastore, 1) := by decide +kernel
theorem dX6_draw_92 : decode cX6_draw 92 = .ok (.aload_n 0, 1) := by decide +kernel
theorem dX6_draw_93 : decode cX6_draw 93 = .ok (.getfield 41, 3) := by decide +kernel
theorem dX6_draw_96 : decode cX6_draw 96 = .ok (.iload_n 1, 1) := by decide +kernel
theorem dX6_draw_97 : decode cX6_draw 97 = .ok (.iaload, 1) := by decide +kernel
theorem dX6_draw_98 : decode cX6_draw 98 = .ok (.ireturn, 1) := by decide +kernel
theorem dX6_hits_0 : decode cX6_hits 0 = .ok (.aload_n 0, 1) := by decide +kernel
theorem dX6_hits_1 : decode cX6_hits 1 = .ok (.getfield 38, 3) := by decide +kernel
theorem dX6_hits_4 : decode cX6_hits 4 = .ok (.iload_n 1, 1) := by decide +kernel
theorem dX6_hits_5 : decode cX6_hits 5 = .ok (.iaload, 1) := by decide +kernel
theorem dX6_hits_6 : decode cX6_hits 6 = .ok (.ifCond .le 5, 3) := by decide +kernel
theorem dX6_hits_9 : decode cX6_hits 9 = .ok (.iconst 0, 1) := by decide +kernel
theorem dX6_hits_10 : decode cX6_hits 10 = .ok (.ireturn, 1) := by decide +kernel
theorem dX6_hits_11 : decode cX6_hits 11 = .ok (.aload_n 0, 1) := by decide +kernel
theorem dX6_hits_12 : decode cX6_hits 12 = .ok (.getfield 44, 3) := by decide +kernel
theorem dX6_hits_15 : decode cX6_hits 15 = .ok (.iload_n 1, 1) := by decide +kernel
theorem dX6_hits_16 : decode cX6_hits 16 = .ok (.baload, 1) := by decide +kernel
theorem dX6_hits_17 : decode cX6_hits 17 = .ok (.ifCond .eq 12, 3) := by decide +kernel
theorem dX6_hits_20 : decode cX6_hits 20 = .ok (.aload_n 0, 1) := by decide +kernel
theorem dX6_hits_21 : decode cX6_hits 21 = .ok (.getfield 44, 3) := by decide +kernel
theorem dX6_hits_24 : decode cX6_hits 24 = .ok (.iload_n 1, 1) := by decide +kernel
theorem dX6_hits_25 : decode cX6_hits 25 = .ok (.iconst 0, 1) := by decide +kernel
theorem dX6_hits_26 : decode cX6_hits 26 = .ok (.bastore, 1) := by decide +kernel
theorem dX6_hits_27 : decode cX6_hits 27 = .ok (.iconst 0, 1) := by decide +kernel
theorem dX6_hits_28 : decode cX6_hits 28 = .ok (.ireturn, 1) := by decide +kernel
theorem dX6_hits_29 : decode cX6_hits 29 = .ok (.aload_n 0, 1) := by decide +kernel
theorem dX6_hits_30 : decode cX6_hits 30 = .ok (.getfield 48, 3) := by decide +kernel
theorem dX6_hits_33 : decode cX6_hits 33 = .ok (.iload_n 1, 1) := by decide +kernel
theorem dX6_hits_34 : decode cX6_hits 34 = .ok (.aload_n 0, 1) := by decide +kernel
theorem dX6_hits_35 : decode cX6_hits 35 = .ok (.getfield 48, 3) := by decide +kernel
theorem dX6_hits_38 : decode cX6_hits 38 = .ok (.iload_n 1, 1) := by decide +kernel
theorem dX6_hits_39 : decode cX6_hits 39 = .ok (.iaload, 1) := by decide +kernel
theorem dX6_hits_40 : decode cX6_hits 40 = .ok (.aload_n 0, 1) := by decide +kernel
theorem dX6_hits_41 : decode cX6_hits 41 = .ok (.getfield 104, 3) := by decide +kernel
theorem dX6_hits_44 : decode cX6_hits 44 = .ok (.iload_n 2, 1) := by decide +kernel
theorem dX6_hits_45 : decode cX6_hits 45 = .ok (.iadd, 1) := by decide +kernel
theorem dX6_hits_46 : decode cX6_hits 46 = .ok (.if_icmp .le 12, 3) := by decide +kernel
theorem dX6_hits_49 : decode cX6_hits 49 = .ok (.aload_n 0, 1) := by decide +kernel
theorem dX6_hits_50 : decode cX6_hits 50 = .ok (.getfield 48, 3) := by decide +kernel
theorem dX6_hits_53 : decode cX6_hits 53 = .ok (.iload_n 1, 1) := by decide +kernel
theorem dX6_hits_54 : decode cX6_hits 54 = .ok (.iaload, 1) := by decide +kernel
theorem dX6_hits_55 : decode cX6_hits 55 = .ok (.goto 9, 3) := by decide +kernel
