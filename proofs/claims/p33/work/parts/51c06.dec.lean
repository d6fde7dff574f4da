theorem dL_isCup_496 : decode cL_isCup 496 = .ok (.aload_n 2, 1) := by decide +kernel
theorem dL_isCup_497 : decode cL_isCup 497 = .ok (.iconst 2, 1) := by decide +kernel
theorem dL_isCup_498 : decode cL_isCup 498 = .ok (.iaload, 1) := by decide +kernel
theorem dL_isCup_499 : decode cL_isCup 499 = .ok (.imul, 1) := by decide +kernel
theorem dL_isCup_500 : decode cL_isCup 500 = .ok (.iconst 1, 1) := by decide +kernel
theorem dL_isCup_501 : decode cL_isCup 501 = .ok (.isub, 1) := by decide +kernel
theorem dL_isCup_502 : decode cL_isCup 502 = .ok (.if_icmp .ne 38, 3) := by decide +kernel
theorem dL_isCup_505 : decode cL_isCup 505 = .ok (.aload_n 0, 1) := by decide +kernel
theorem dL_isCup_506 : decode cL_isCup 506 = .ok (.bipush 13, 2) := by decide +kernel
theorem dL_isCup_508 : decode cL_isCup 508 = .ok (.aload_n 0, 1) := by decide +kernel
theorem dL_isCup_509 : decode cL_isCup 509 = .ok (.invokevirtual 120, 3) := by decide +kernel
theorem dL_isCup_512 : decode cL_isCup 512 = .ok (.iconst 0, 1) := by decide +kernel
theorem dL_isCup_513 : decode cL_isCup 513 = .ok (.invokestatic 100, 3) := by decide +kernel
theorem dL_isCup_516 : decode cL_isCup 516 = .ok (.sipush (-3000), 3) := by decide +kernel
theorem dL_isCup_519 : decode cL_isCup 519 = .ok (.if_icmp .ne 21, 3) := by decide +kernel
theorem dL_isCup_522 : decode cL_isCup 522 = .ok (.aload_n 0, 1) := by decide +kernel
theorem dL_isCup_523 : decode cL_isCup 523 = .ok (.bipush 13, 2) := by decide +kernel
theorem dL_isCup_525 : decode cL_isCup 525 = .ok (.iconst (-1), 1) := by decide +kernel
theorem dL_isCup_526 : decode cL_isCup 526 = .ok (.iconst 0, 1) := by decide +kernel
theorem dL_isCup_527 : decode cL_isCup 527 = .ok (.invokestatic 100, 3) := by decide +kernel
theorem dL_isCup_530 : decode cL_isCup 530 = .ok (.sipush (-3000), 3) := by decide +kernel
theorem dL_isCup_533 : decode cL_isCup 533 = .ok (.if_icmp .ne 7, 3) := by decide +kernel
theorem dL_isCup_536 : decode cL_isCup 536 = .ok (.iconst 1, 1) := by decide +kernel
theorem dL_isCup_537 : decode cL_isCup 537 = .ok (.goto 4, 3) := by decide +kernel
theorem dL_isCup_540 : decode cL_isCup 540 = .ok (.iconst 0, 1) := by decide +kernel
theorem dL_isCup_541 : decode cL_isCup 541 = .ok (.ireturn, 1) := by decide +kernel
set_option maxRecDepth 20000 in
theorem ggL_isLaid_X5_gates : GoodIn wsL_isLaid wsX5_gates := goodIn_r _ [5, 6, 7, 8, 9, 10, 11, 12, 310, 311, 312, 313, 314, 315, 316, 317, 318, 319, 320, 321, 322, 323] (by decide +kernel) (by decide +kernel)
set_option maxRecDepth 20000 in
theorem gL_isLaid_X5_gates : GoodIn wsL_isLaid (wsV RL 94 RX5 yX5_gates wsX5_gates) := goodIn_app (goodIn_of _ (by decide +kernel)) ggL_isLaid_X5_gates
set_option maxRecDepth 20000 in
theorem ggL_isLaid_L_does : GoodIn wsL_isLaid wsL_does := goodIn_ca (goodIn_ca (goodIn_ca (goodIn_r _ [16, 17, 18, 19, 20, 21, 22, 4, 23, 24, 25, 6, 26, 27, 28, 29, 30, 31, 32, 33, 34, 35, 36, 37, 38, 39, 40, 10, 41, 12, 42, 43, 44, 45, 46, 47, 48, 49, 50, 51, 52, 53, 54, 55, 56, 57, 58, 59, 7, 8, 9, 11, 60, 61, 62, 63, 64, 65, 66, 67, 68, 69, 70, 71, 72, 73, 74, 75, 76, 77, 78, 79, 80, 81, 82, 83, 84, 85, 86, 87, 88, 89, 90, 91, 92, 93, 94, 95, 96, 97, 98, 99, 100, 101, 102, 103, 104, 105, 106, 107, 108, 109, 110, 111, 112, 113, 114, 115, 116, 117, 118, 119, 120, 121, 122, 123, 124, 125, 126, 127, 128, 129, 130, 131, 132, 133, 134, 135, 136, 137, 138, 139, 140, 141, 142, 143, 144, 145, 146, 147, 148, 149, 150, 151, 152, 153, 154, 155, 156, 157, 158, 159, 160, 161, 162, 163, 164, 165, 166, 167, 168, 169, 170, 171, 172, 173, 174, 175, 176, 177, 178, 179, 180, 181, 182, 183, 184, 185, 186, 187, 188, 189, 190, 191, 192, 193, 194, 195, 196, 197, 198, 199, 200, 201, 202, 203, 204, 205, 206, 207, 208, 209, 210, 211, 212, 213, 214, 215, 216, 217, 218, 219, 220, 221, 222, 223, 224, 225, 226, 227, 228, 229, 230, 231, 232, 233, 234, 235, 236, 237, 238, 239, 240, 241, 242, 243, 244, 245, 246, 247, 248, 249, 250, 251, 252, 253, 254, 255, 256, 257, 258, 259, 260, 261, 262, 263, 264, 265, 266, 267, 268, 269, 270, 271, 272, 273, 274, 275, 276, 277, 278, 279, 280, 281, 282, 283, 284, 285, 286, 287, 288, 289, 290, 291, 292, 293, 294, 295, 296, 297, 298, 299, 300, 301, 302, 303, 304, 305, 306, 310, 311, 312, 313, 314, 315, 316, 317, 318, 319, 324, 325, 326, 327, 320, 321, 322, 323, 328, 329, 330, 331, 332, 333, 334, 335, 336, 337, 338, 339, 340, 341, 342, 343, 344, 345] (by decide +kernel) (by decide +kernel)) (goodIn_sub (fun _ h => List.mem_cons_of_mem _ (List.mem_append_left _ (List.mem_append_left _ (List.mem_append_right _ h)))) (by decide +kernel))) (goodIn_sub (fun _ h => List.mem_cons_of_mem _ (List.mem_append_left _ (List.mem_append_right _ h))) (by decide +kernel))) (goodIn_sub (fun _ h => List.mem_cons_of_mem _ (List.mem_append_right _ h)) (by decide +kernel))
set_option maxRecDepth 20000 in
theorem gL_isLaid_L_does : GoodIn wsL_isLaid (va_wsS RL 123 yL_does wsL_does) := goodIn_app (goodIn_of _ (by decide +kernel)) ggL_isLaid_L_does
set_option maxRecDepth 20000 in
theorem ggL_isLaid_L_way : GoodIn wsL_isLaid wsL_way := goodIn_r _ [309] (by decide +kernel) (by decide +kernel)
set_option maxRecDepth 20000 in
theorem gL_isLaid_L_way : GoodIn wsL_isLaid (va_wsS RL 106 yL_way wsL_way) := goodIn_app (goodIn_of _ (by decide +kernel)) ggL_isLaid_L_way
theorem dL_isLaid_0 : decode cL_isLaid 0 = .ok (.iload 4, 2) := by decide +kernel
theorem dL_isLaid_2 : decode cL_isLaid 2 = .ok (.ifCond .ne 109, 3) := by decide +kernel
theorem dL_isLaid_5 : decode cL_isLaid 5 = .ok (.aload_n 3, 1) := by decide +kernel
theorem dL_isLaid_6 : decode cL_isLaid 6 = .ok (.iconst 0, 1) := by decide +kernel
theorem dL_isLaid_7 : decode cL_isLaid 7 = .ok (.iaload, 1) := by decide +kernel
theorem dL_isLaid_8 : decode cL_isLaid 8 = .ok (.iconst 5, 1) := by decide +kernel
theorem dL_isLaid_9 : decode cL_isLaid 9 = .ok (.if_icmp .ne 23, 3) := by decide +kernel
theorem dL_isLaid_12 : decode cL_isLaid 12 = .ok (.aload_n 3, 1) := by decide +kernel
theorem dL_isLaid_13 : decode cL_isLaid 13 = .ok (.iconst 5, 1) := by decide +kernel
theorem dL_isLaid_14 : decode cL_isLaid 14 = .ok (.iaload, 1) := by decide +kernel
theorem dL_isLaid_15 : decode cL_isLaid 15 = .ok (.ifCond .ne 17, 3) := by decide +kernel
theorem dL_isLaid_18 : decode cL_isLaid 18 = .ok (.aload_n 0, 1) := by decide +kernel
theorem dL_isLaid_19 : decode cL_isLaid 19 = .ok (.invokevirtual 94, 3) := by decide +kernel
theorem dL_isLaid_22 : decode cL_isLaid 22 = .ok (.iconst 5, 1) := by decide +kernel
theorem dL_isLaid_23 : decode cL_isLaid 23 = .ok (.if_icmp .ne 7, 3) := by decide +kernel
theorem dL_isLaid_26 : decode cL_isLaid 26 = .ok (.iconst 1, 1) := by decide +kernel
theorem dL_isLaid_27 : decode cL_isLaid 27 = .ok (.goto 4, 3) := by decide +kernel
theorem dL_isLaid_30 : decode cL_isLaid 30 = .ok (.iconst 0, 1) := by decide +kernel
theorem dL_isLaid_31 : decode cL_isLaid 31 = .ok (.ireturn, 1) := by decide +kernel
theorem dL_isLaid_32 : decode cL_isLaid 32 = .ok (.aload_n 3, 1) := by decide +kernel
theorem dL_isLaid_33 : decode cL_isLaid 33 = .ok (.iconst 5, 1) := by decide +kernel
theorem dL_isLaid_34 : decode cL_isLaid 34 = .ok (.iaload, 1) := by decide +kernel
theorem dL_isLaid_35 : decode cL_isLaid 35 = .ok (.ifCond .le 8, 3) := by decide +kernel
theorem dL_isLaid_38 : decode cL_isLaid 38 = .ok (.bipush (-10), 2) := by decide +kernel
theorem dL_isLaid_40 : decode cL_isLaid 40 = .ok (.goto 6, 3) := by decide +kernel
theorem dL_isLaid_43 : decode cL_isLaid 43 = .ok (.aload_n 3, 1) := by decide +kernel
theorem dL_isLaid_44 : decode cL_isLaid 44 = .ok (.iconst 0, 1) := by decide +kernel
theorem dL_isLaid_45 : decode cL_isLaid 45 = .ok (.iaload, 1) := by decide +kernel
theorem dL_isLaid_46 : decode cL_isLaid 46 = .ok (.istore 8, 2) := by decide +kernel
theorem dL_isLaid_48 : decode cL_isLaid 48 = .ok (.iload 8, 2) := by decide +kernel
theorem dL_isLaid_50 : decode cL_isLaid 50 = .ok (.ifCond .lt 31, 3) := by decide +kernel
theorem dL_isLaid_53 : decode cL_isLaid 53 = .ok (.aload_n 3, 1) := by decide +kernel
theorem dL_isLaid_54 : decode cL_isLaid 54 = .ok (.iconst 1, 1) := by decide +kernel
theorem dL_isLaid_55 : decode cL_isLaid 55 = .ok (.dup2, 1) := by decide +kernel
theorem dL_isLaid_56 : decode cL_isLaid 56 = .ok (.iaload, 1) := by decide +kernel
theorem dL_isLaid_57 : decode cL_isLaid 57 = .ok (.iload 5, 2) := by decide +kernel
theorem dL_isLaid_59 : decode cL_isLaid 59 = .ok (.iconst 3, 1) := by decide +kernel
theorem dL_isLaid_60 : decode cL_isLaid 60 = .ok (.irem, 1) := by decide +kernel
theorem dL_isLaid_61 : decode cL_isLaid 61 = .ok (.ifCond .le 10, 3) := by decide +kernel
theorem dL_isLaid_64 : decode cL_isLaid 64 = .ok (.iconst 1, 1) := by decide +kernel
theorem dL_isLaid_65 : decode cL_isLaid 65 = .ok (.iload 8, 2) := by decide +kernel
theorem dL_isLaid_67 : decode cL_isLaid 67 = .ok (.ishl, 1) := by decide +kernel
theorem dL_isLaid_68 : decode cL_isLaid 68 = .ok (.goto 4, 3) := by decide +kernel
theorem dL_isLaid_71 : decode cL_isLaid 71 = .ok (.iconst 0, 1) := by decide +kernel
theorem dL_isLaid_72 : decode cL_isLaid 72 = .ok (.ior, 1) := by decide +kernel
theorem dL_isLaid_73 : decode cL_isLaid 73 = .ok (.iastore, 1) := by decide +kernel
theorem dL_isLaid_74 : decode cL_isLaid 74 = .ok (.aload_n 3, 1) := by decide +kernel
theorem dL_isLaid_75 : decode cL_isLaid 75 = .ok (.iconst 0, 1) := by decide +kernel
theorem dL_isLaid_76 : decode cL_isLaid 76 = .ok (.dup2, 1) := by decide +kernel
theorem dL_isLaid_77 : decode cL_isLaid 77 = .ok (.iaload, 1) := by decide +kernel
theorem dL_isLaid_78 : decode cL_isLaid 78 = .ok (.iconst 1, 1) := by decide +kernel
theorem dL_isLaid_79 : decode cL_isLaid 79 = .ok (.iadd, 1) := by decide +kernel
theorem dL_isLaid_80 : decode cL_isLaid 80 = .ok (.iastore, 1) := by decide +kernel
theorem dL_isLaid_81 : decode cL_isLaid 81 = .ok (.aload_n 0, 1) := by decide +kernel
theorem dL_isLaid_82 : decode cL_isLaid 82 = .ok (.iconst 0, 1) := by decide +kernel
theorem dL_isLaid_83 : decode cL_isLaid 83 = .ok (.iload 5, 2) := by decide +kernel
theorem dL_isLaid_85 : decode cL_isLaid 85 = .ok (.iconst 3, 1) := by decide +kernel
theorem dL_isLaid_86 : decode cL_isLaid 86 = .ok (.irem, 1) := by decide +kernel
theorem dL_isLaid_87 : decode cL_isLaid 87 = .ok (.ifCond .le 7, 3) := by decide +kernel
theorem dL_isLaid_90 : decode cL_isLaid 90 = .ok (.iconst 1, 1) := by decide +kernel
theorem dL_isLaid_91 : decode cL_isLaid 91 = .ok (.goto 4, 3) := by decide +kernel
theorem dL_isLaid_94 : decode cL_isLaid 94 = .ok (.iconst 0, 1) := by decide +kernel
theorem dL_isLaid_95 : decode cL_isLaid 95 = .ok (.iconst 0, 1) := by decide +kernel
theorem dL_isLaid_96 : decode cL_isLaid 96 = .ok (.iconst 0, 1) := by decide +kernel
theorem dL_isLaid_97 : decode cL_isLaid 97 = .ok (.invokestatic 123, 3) := by decide +kernel
theorem dL_isLaid_100 : decode cL_isLaid 100 = .ok (.iload 8, 2) := by decide +kernel
theorem dL_isLaid_102 : decode cL_isLaid 102 = .ok (.if_icmp .ne 7, 3) := by decide +kernel
theorem dL_isLaid_105 : decode cL_isLaid 105 = .ok (.iconst 1, 1) := by decide +kernel
theorem dL_isLaid_106 : decode cL_isLaid 106 = .ok (.goto 4, 3) := by decide +kernel
theorem dL_isLaid_109 : decode cL_isLaid 109 = .ok (.iconst 0, 1) := by decide +kernel
theorem dL_isLaid_110 : decode cL_isLaid 110 = .ok (.ireturn, 1) := by decide +kernel
theorem dL_isLaid_111 : decode cL_isLaid 111 = .ok (.iload 4, 2) := by decide +kernel
theorem dL_isLaid_113 : decode cL_isLaid 113 = .ok (.iconst 1, 1) := by decide +kernel
theorem dL_isLaid_114 : decode cL_isLaid 114 = .ok (.if_icmp .ne 206, 3) := by decide +kernel
theorem dL_isLaid_117 : decode cL_isLaid 117 = .ok (.iload 5, 2) := by decide +kernel
theorem dL_isLaid_119 : decode cL_isLaid 119 = .ok (.aload_n 3, 1) := by decide +kernel
theorem dL_isLaid_120 : decode cL_isLaid 120 = .ok (.iconst 0, 1) := by decide +kernel
theorem dL_isLaid_121 : decode cL_isLaid 121 = .ok (.iaload, 1) := by decide +kernel
theorem dL_isLaid_122 : decode cL_isLaid 122 = .ok (.iconst 1, 1) := by decide +kernel
theorem dL_isLaid_123 : decode cL_isLaid 123 = .ok (.iadd, 1) := by decide +kernel
theorem dL_isLaid_124 : decode cL_isLaid 124 = .ok (.irem, 1) := by decide +kernel
theorem dL_isLaid_125 : decode cL_isLaid 125 = .ok (.istore 8, 2) := by decide +kernel
theorem dL_isLaid_127 : decode cL_isLaid 127 = .ok (.iload 7, 2) := by decide +kernel
theorem dL_isLaid_129 : decode cL_isLaid 129 = .ok (.iconst 3, 1) := by decide +kernel
theorem dL_isLaid_130 : decode cL_isLaid 130 = .ok (.irem, 1) := by decide +kernel
theorem dL_isLaid_131 : decode cL_isLaid 131 = .ok (.ifCond .ne 7, 3) := by decide +kernel
theorem dL_isLaid_134 : decode cL_isLaid 134 = .ok (.iconst 0, 1) := by decide +kernel
theorem dL_isLaid_135 : decode cL_isLaid 135 = .ok (.goto 11, 3) := by decide +kernel
theorem dL_isLaid_138 : decode cL_isLaid 138 = .ok (.iload 6, 2) := by decide +kernel
theorem dL_isLaid_140 : decode cL_isLaid 140 = .ok (.aload_n 3, 1) := by decide +kernel
theorem dL_isLaid_141 : decode cL_isLaid 141 = .ok (.iconst 0, 1) := by decide +kernel
theorem dL_isLaid_142 : decode cL_isLaid 142 = .ok (.iaload, 1) := by decide +kernel
theorem dL_isLaid_143 : decode cL_isLaid 143 = .ok (.iconst 1, 1) := by decide +kernel
theorem dL_isLaid_144 : decode cL_isLaid 144 = .ok (.iadd, 1) := by decide +kernel
theorem dL_isLaid_145 : decode cL_isLaid 145 = .ok (.irem, 1) := by decide +kernel
theorem dL_isLaid_146 : decode cL_isLaid 146 = .ok (.istore 9, 2) := by decide +kernel
theorem dL_isLaid_148 : decode cL_isLaid 148 = .ok (.iload 7, 2) := by decide +kernel
theorem dL_isLaid_150 : decode cL_isLaid 150 = .ok (.bipush 103, 2) := by decide +kernel
theorem dL_isLaid_152 : decode cL_isLaid 152 = .ok (.irem, 1) := by decide +kernel
theorem dL_isLaid_153 : decode cL_isLaid 153 = .ok (.istore 10, 2) := by decide +kernel
theorem dL_isLaid_155 : decode cL_isLaid 155 = .ok (.iload 8, 2) := by decide +kernel
theorem dL_isLaid_157 : decode cL_isLaid 157 = .ok (.aload_n 3, 1) := by decide +kernel
theorem dL_isLaid_158 : decode cL_isLaid 158 = .ok (.iconst 0, 1) := by decide +kernel
theorem dL_isLaid_159 : decode cL_isLaid 159 = .ok (.iaload, 1) := by decide +kernel
theorem dL_isLaid_160 : decode cL_isLaid 160 = .ok (.if_icmp .ge 15, 3) := by decide +kernel
theorem dL_isLaid_163 : decode cL_isLaid 163 = .ok (.iload 9, 2) := by decide +kernel
theorem dL_isLaid_165 : decode cL_isLaid 165 = .ok (.aload_n 3, 1) := by decide +kernel
theorem dL_isLaid_166 : decode cL_isLaid 166 = .ok (.iconst 0, 1) := by decide +kernel
theorem dL_isLaid_167 : decode cL_isLaid 167 = .ok (.iaload, 1) := by decide +kernel
theorem dL_isLaid_168 : decode cL_isLaid 168 = .ok (.if_icmp .ge 7, 3) := by decide +kernel
theorem dL_isLaid_171 : decode cL_isLaid 171 = .ok (.iconst 1, 1) := by decide +kernel
theorem dL_isLaid_172 : decode cL_isLaid 172 = .ok (.goto 4, 3) := by decide +kernel
theorem dL_isLaid_175 : decode cL_isLaid 175 = .ok (.iconst 0, 1) := by decide +kernel
theorem dL_isLaid_176 : decode cL_isLaid 176 = .ok (.istore 11, 2) := by decide +kernel
theorem dL_isLaid_178 : decode cL_isLaid 178 = .ok (.iload 9, 2) := by decide +kernel
theorem dL_isLaid_180 : decode cL_isLaid 180 = .ok (.iload 8, 2) := by decide +kernel
theorem dL_isLaid_182 : decode cL_isLaid 182 = .ok (.if_icmp .gt 13, 3) := by decide +kernel
theorem dL_isLaid_185 : decode cL_isLaid 185 = .ok (.iload 9, 2) := by decide +kernel
theorem dL_isLaid_187 : decode cL_isLaid 187 = .ok (.ifCond .ne 24, 3) := by decide +kernel
theorem dL_isLaid_190 : decode cL_isLaid 190 = .ok (.iload 8, 2) := by decide +kernel
theorem dL_isLaid_192 : decode cL_isLaid 192 = .ok (.ifCond .le 19, 3) := by decide +kernel
theorem dL_isLaid_195 : decode cL_isLaid 195 = .ok (.iload 10, 2) := by decide +kernel
theorem dL_isLaid_197 : decode cL_isLaid 197 = .ok (.ifCond .le 14, 3) := by decide +kernel
theorem dL_isLaid_200 : decode cL_isLaid 200 = .ok (.iload 10, 2) := by decide +kernel
theorem dL_isLaid_202 : decode cL_isLaid 202 = .ok (.bipush 101, 2) := by decide +kernel
theorem dL_isLaid_204 : decode cL_isLaid 204 = .ok (.if_icmp .ge 7, 3) := by decide +kernel
theorem dL_isLaid_207 : decode cL_isLaid 207 = .ok (.iconst 1, 1) := by decide +kernel
theorem dL_isLaid_208 : decode cL_isLaid 208 = .ok (.goto 4, 3) := by decide +kernel
theorem dL_isLaid_211 : decode cL_isLaid 211 = .ok (.iconst 0, 1) := by decide +kernel
theorem dL_isLaid_212 : decode cL_isLaid 212 = .ok (.istore 12, 2) := by decide +kernel
theorem dL_isLaid_214 : decode cL_isLaid 214 = .ok (.iload 11, 2) := by decide +kernel
theorem dL_isLaid_216 : decode cL_isLaid 216 = .ok (.ifCond .ne 8, 3) := by decide +kernel
theorem dL_isLaid_219 : decode cL_isLaid 219 = .ok (.bipush (-30), 2) := by decide +kernel
theorem dL_isLaid_221 : decode cL_isLaid 221 = .ok (.goto 47, 3) := by decide +kernel
theorem dL_isLaid_224 : decode cL_isLaid 224 = .ok (.iload 12, 2) := by decide +kernel
theorem dL_isLaid_226 : decode cL_isLaid 226 = .ok (.ifCond .ne 8, 3) := by decide +kernel
theorem dL_isLaid_229 : decode cL_isLaid 229 = .ok (.bipush (-20), 2) := by decide +kernel
theorem dL_isLaid_231 : decode cL_isLaid 231 = .ok (.goto 37, 3) := by decide +kernel
theorem dL_isLaid_234 : decode cL_isLaid 234 = .ok (.aload_n 3, 1) := by decide +kernel
theorem dL_isLaid_235 : decode cL_isLaid 235 = .ok (.iconst 5, 1) := by decide +kernel
theorem dL_isLaid_236 : decode cL_isLaid 236 = .ok (.iaload, 1) := by decide +kernel
theorem dL_isLaid_237 : decode cL_isLaid 237 = .ok (.ifCond .le 8, 3) := by decide +kernel
theorem dL_isLaid_240 : decode cL_isLaid 240 = .ok (.bipush (-10), 2) := by decide +kernel
theorem dL_isLaid_242 : decode cL_isLaid 242 = .ok (.goto 26, 3) := by decide +kernel
theorem dL_isLaid_245 : decode cL_isLaid 245 = .ok (.aload_n 1, 1) := by decide +kernel
theorem dL_isLaid_246 : decode cL_isLaid 246 = .ok (.iload 8, 2) := by decide +kernel
theorem dL_isLaid_248 : decode cL_isLaid 248 = .ok (.iload 9, 2) := by decide +kernel
theorem dL_isLaid_250 : decode cL_isLaid 250 = .ok (.invokestatic 106, 3) := by decide +kernel
theorem dL_isLaid_253 : decode cL_isLaid 253 = .ok (.ifCond .ne 7, 3) := by decide +kernel
theorem dL_isLaid_256 : decode cL_isLaid 256 = .ok (.iconst (-1), 1) := by decide +kernel
theorem dL_isLaid_257 : decode cL_isLaid 257 = .ok (.goto 11, 3) := by decide +kernel
theorem dL_isLaid_260 : decode cL_isLaid 260 = .ok (.aload_n 1, 1) := by decide +kernel
theorem dL_isLaid_261 : decode cL_isLaid 261 = .ok (.iload 8, 2) := by decide +kernel
theorem dL_isLaid_263 : decode cL_isLaid 263 = .ok (.iload 9, 2) := by decide +kernel
theorem dL_isLaid_265 : decode cL_isLaid 265 = .ok (.invokestatic 106, 3) := by decide +kernel
theorem dL_isLaid_268 : decode cL_isLaid 268 = .ok (.istore 13, 2) := by decide +kernel
theorem dL_isLaid_270 : decode cL_isLaid 270 = .ok (.iload 11, 2) := by decide +kernel
theorem dL_isLaid_272 : decode cL_isLaid 272 = .ok (.ifCond .eq 26, 3) := by decide +kernel
theorem dL_isLaid_275 : decode cL_isLaid 275 = .ok (.iload 12, 2) := by decide +kernel
theorem dL_isLaid_277 : decode cL_isLaid 277 = .ok (.ifCond .eq 21, 3) := by decide +kernel
theorem dL_isLaid_280 : decode cL_isLaid 280 = .ok (.aload_n 3, 1) := by decide +kernel
theorem dL_isLaid_281 : decode cL_isLaid 281 = .ok (.iconst 5, 1) := by decide +kernel
theorem dL_isLaid_282 : decode cL_isLaid 282 = .ok (.iaload, 1) := by decide +kernel
theorem dL_isLaid_283 : decode cL_isLaid 283 = .ok (.ifCond .ne 15, 3) := by decide +kernel
theorem dL_isLaid_286 : decode cL_isLaid 286 = .ok (.aload_n 1, 1) := by decide +kernel
theorem dL_isLaid_287 : decode cL_isLaid 287 = .ok (.bipush 12, 2) := by decide +kernel
theorem dL_isLaid_289 : decode cL_isLaid 289 = .ok (.iload 8, 2) := by decide +kernel
theorem dL_isLaid_291 : decode cL_isLaid 291 = .ok (.imul, 1) := by decide +kernel
theorem dL_isLaid_292 : decode cL_isLaid 292 = .ok (.iload 9, 2) := by decide +kernel
theorem dL_isLaid_294 : decode cL_isLaid 294 = .ok (.iadd, 1) := by decide +kernel
theorem dL_isLaid_295 : decode cL_isLaid 295 = .ok (.iload 10, 2) := by decide +kernel
theorem dL_isLaid_297 : decode cL_isLaid 297 = .ok (.iastore, 1) := by decide +kernel
theorem dL_isLaid_298 : decode cL_isLaid 298 = .ok (.aload_n 0, 1) := by decide +kernel
theorem dL_isLaid_299 : decode cL_isLaid 299 = .ok (.iconst 1, 1) := by decide +kernel
theorem dL_isLaid_300 : decode cL_isLaid 300 = .ok (.iload 8, 2) := by decide +kernel
theorem dL_isLaid_302 : decode cL_isLaid 302 = .ok (.iload 9, 2) := by decide +kernel
theorem dL_isLaid_304 : decode cL_isLaid 304 = .ok (.iload 10, 2) := by decide +kernel
theorem dL_isLaid_306 : decode cL_isLaid 306 = .ok (.invokestatic 123, 3) := by decide +kernel
theorem dL_isLaid_309 : decode cL_isLaid 309 = .ok (.iload 13, 2) := by decide +kernel
theorem dL_isLaid_311 : decode cL_isLaid 311 = .ok (.if_icmp .ne 7, 3) := by decide +kernel
theorem dL_isLaid_314 : decode cL_isLaid 314 = .ok (.iconst 1, 1) := by decide +kernel
theorem dL_isLaid_315 : decode cL_isLaid 315 = .ok (.goto 4, 3) := by decide +kernel
theorem dL_isLaid_318 : decode cL_isLaid 318 = .ok (.iconst 0, 1) := by decide +kernel
theorem dL_isLaid_319 : decode cL_isLaid 319 = .ok (.ireturn, 1) := by decide +kernel
theorem dL_isLaid_320 : decode cL_isLaid 320 = .ok (.iload 5, 2) := by decide +kernel
theorem dL_isLaid_322 : decode cL_isLaid 322 = .ok (.iconst 5, 1) := by decide +kernel
theorem dL_isLaid_323 : decode cL_isLaid 323 = .ok (.irem, 1) := by decide +kernel
theorem dL_isLaid_324 : decode cL_isLaid 324 = .ok (.istore 8, 2) := by decide +kernel
theorem dL_isLaid_326 : decode cL_isLaid 326 = .ok (.iload 8, 2) := by decide +kernel
theorem dL_isLaid_328 : decode cL_isLaid 328 = .ok (.iconst 4, 1) := by decide +kernel
theorem dL_isLaid_329 : decode cL_isLaid 329 = .ok (.if_icmp .ne 8, 3) := by decide +kernel
theorem dL_isLaid_332 : decode cL_isLaid 332 = .ok (.bipush (-30), 2) := by decide +kernel
theorem dL_isLaid_334 : decode cL_isLaid 334 = .ok (.goto 25, 3) := by decide +kernel
theorem dL_isLaid_337 : decode cL_isLaid 337 = .ok (.aload_n 3, 1) := by decide +kernel
theorem dL_isLaid_338 : decode cL_isLaid 338 = .ok (.iconst 5, 1) := by decide +kernel
theorem dL_isLaid_339 : decode cL_isLaid 339 = .ok (.iaload, 1) := by decide +kernel
theorem dL_isLaid_340 : decode cL_isLaid 340 = .ok (.ifCond .gt 11, 3) := by decide +kernel
theorem dL_isLaid_343 : decode cL_isLaid 343 = .ok (.aload_n 3, 1) := by decide +kernel
theorem dL_isLaid_344 : decode cL_isLaid 344 = .ok (.iconst 2, 1) := by decide +kernel
theorem dL_isLaid_345 : decode cL_isLaid 345 = .ok (.iaload, 1) := by decide +kernel
theorem dL_isLaid_346 : decode cL_isLaid 346 = .ok (.bipush 6, 2) := by decide +kernel
theorem dL_isLaid_348 : decode cL_isLaid 348 = .ok (.if_icmp .ne 8, 3) := by decide +kernel
theorem dL_isLaid_351 : decode cL_isLaid 351 = .ok (.bipush (-10), 2) := by decide +kernel
theorem dL_isLaid_353 : decode cL_isLaid 353 = .ok (.goto 6, 3) := by decide +kernel
theorem dL_isLaid_356 : decode cL_isLaid 356 = .ok (.aload_n 3, 1) := by decide +kernel
theorem dL_isLaid_357 : decode cL_isLaid 357 = .ok (.iconst 2, 1) := by decide +kernel
theorem dL_isLaid_358 : decode cL_isLaid 358 = .ok (.iaload, 1) := by decide +kernel
theorem dL_isLaid_359 : decode cL_isLaid 359 = .ok (.istore 9, 2) := by decide +kernel
theorem dL_isLaid_361 : decode cL_isLaid 361 = .ok (.iload 9, 2) := by decide +kernel
theorem dL_isLaid_363 : decode cL_isLaid 363 = .ok (.ifCond .lt 19, 3) := by decide +kernel
theorem dL_isLaid_366 : decode cL_isLaid 366 = .ok (.aload_n 2, 1) := by decide +kernel
theorem dL_isLaid_367 : decode cL_isLaid 367 = .ok (.bipush 6, 2) := by decide +kernel
theorem dL_isLaid_369 : decode cL_isLaid 369 = .ok (.iload 9, 2) := by decide +kernel
theorem dL_isLaid_371 : decode cL_isLaid 371 = .ok (.imul, 1) := by decide +kernel
theorem dL_isLaid_372 : decode cL_isLaid 372 = .ok (.iload 8, 2) := by decide +kernel
theorem dL_isLaid_374 : decode cL_isLaid 374 = .ok (.iastore, 1) := by decide +kernel
theorem dL_isLaid_375 : decode cL_isLaid 375 = .ok (.aload_n 3, 1) := by decide +kernel
theorem dL_isLaid_376 : decode cL_isLaid 376 = .ok (.iconst 2, 1) := by decide +kernel
theorem dL_isLaid_377 : decode cL_isLaid 377 = .ok (.dup2, 1) := by decide +kernel
theorem dL_isLaid_378 : decode cL_isLaid 378 = .ok (.iaload, 1) := by decide +kernel
theorem dL_isLaid_379 : decode cL_isLaid 379 = .ok (.iconst 1, 1) := by decide +kernel
theorem dL_isLaid_380 : decode cL_isLaid 380 = .ok (.iadd, 1) := by decide +kernel
theorem dL_isLaid_381 : decode cL_isLaid 381 = .ok (.iastore, 1) := by decide +kernel
theorem dL_isLaid_382 : decode cL_isLaid 382 = .ok (.aload_n 0, 1) := by decide +kernel
theorem dL_isLaid_383 : decode cL_isLaid 383 = .ok (.iconst 2, 1) := by decide +kernel
theorem dL_isLaid_384 : decode cL_isLaid 384 = .ok (.iload 8, 2) := by decide +kernel
theorem dL_isLaid_386 : decode cL_isLaid 386 = .ok (.iconst 0, 1) := by decide +kernel
theorem dL_isLaid_387 : decode cL_isLaid 387 = .ok (.iconst 0, 1) := by decide +kernel
theorem dL_isLaid_388 : decode cL_isLaid 388 = .ok (.invokestatic 123, 3) := by decide +kernel
theorem dL_isLaid_391 : decode cL_isLaid 391 = .ok (.iload 9, 2) := by decide +kernel
theorem dL_isLaid_393 : decode cL_isLaid 393 = .ok (.if_icmp .ne 7, 3) := by decide +kernel
theorem dL_isLaid_396 : decode cL_isLaid 396 = .ok (.iconst 1, 1) := by decide +kernel
theorem dL_isLaid_397 : decode cL_isLaid 397 = .ok (.goto 4, 3) := by decide +kernel
theorem dL_isLaid_400 : decode cL_isLaid 400 = .ok (.iconst 0, 1) := by decide +kernel
