theorem dL_isLaid_401 : decode cL_isLaid 401 = .ok (.ireturn, 1) := by decide +kernel
set_option maxRecDepth 20000 in
theorem ggL_isStarted_L_way : GoodIn wsL_isStarted wsL_way := goodIn_r _ [4] (by decide +kernel) (by decide +kernel)
set_option maxRecDepth 20000 in
theorem gL_isStarted_L_way : GoodIn wsL_isStarted (va_wsS RL 106 yL_way wsL_way) := goodIn_app (goodIn_of _ (by decide +kernel)) ggL_isStarted_L_way
set_option maxRecDepth 20000 in
theorem ggL_isStarted_L_does : GoodIn wsL_isStarted wsL_does := goodIn_ca (goodIn_ca (goodIn_ca (goodIn_r _ [7, 8, 9, 10, 11, 12, 13, 14, 15, 16, 17, 18, 19, 20, 21, 22, 23, 24, 25, 26, 27, 28, 29, 30, 31, 32, 33, 34, 35, 36, 37, 38, 39, 40, 41, 42, 43, 44, 45, 46, 47, 48, 49, 50, 51, 52, 53, 54, 55, 56, 57, 58, 59, 60, 61, 62, 63, 64, 65, 66, 67, 68, 69, 70, 71, 72, 73, 74, 75, 76, 77, 78, 79, 80, 81, 82, 83, 84, 85, 86, 87, 88, 89, 90, 91, 92, 93, 94, 95, 96, 97, 98, 99, 100, 101, 102, 103, 104, 105, 106, 107, 108, 109, 110, 111, 112, 113, 114, 115, 116, 117, 118, 119, 120, 121, 122, 123, 124, 125, 126, 127, 128, 129, 130, 131, 132, 133, 134, 135, 136, 137, 138, 139, 140, 141, 142, 143, 144, 145, 146, 147, 148, 149, 150, 151, 152, 153, 154, 155, 156, 157, 158, 159, 160, 161, 162, 163, 164, 165, 166, 167, 168, 169, 170, 171, 172, 173, 174, 175, 176, 177, 178, 179, 180, 181, 182, 183, 184, 185, 186, 187, 188, 189, 190, 191, 192, 193, 194, 195, 196, 197, 198, 199, 200, 201, 202, 203, 204, 205, 206, 207, 208, 209, 210, 211, 212, 213, 214, 215, 216, 217, 218, 219, 220, 221, 222, 223, 224, 225, 226, 227, 228, 229, 230, 231, 232, 233, 234, 235, 236, 237, 238, 239, 240, 241, 242, 243, 244, 245, 246, 247, 248, 249, 250, 251, 252, 253, 254, 255, 256, 257, 258, 259, 260, 261, 262, 263, 264, 265, 266, 267, 268, 269, 270, 271, 272, 273, 274, 275, 276, 277, 278, 279, 280, 281, 282, 283, 284, 285, 286, 287, 288, 289, 290, 291, 292, 293, 294, 295, 296, 297, 298, 299, 300, 301, 302, 303, 304, 305, 306, 307, 308, 309, 310, 311, 312, 313, 314, 315, 316, 317, 318, 319, 320, 321, 322, 323, 324, 325, 326, 327, 328, 329, 330, 331, 332, 333, 334, 335, 336, 337, 338, 339, 340, 341] (by decide +kernel) (by decide +kernel)) (goodIn_sub (fun _ h => List.mem_cons_of_mem _ (List.mem_append_left _ (List.mem_append_left _ (List.mem_append_right _ h)))) (by decide +kernel))) (goodIn_sub (fun _ h => List.mem_cons_of_mem _ (List.mem_append_left _ (List.mem_append_right _ h))) (by decide +kernel))) (goodIn_sub (fun _ h => List.mem_cons_of_mem _ (List.mem_append_right _ h)) (by decide +kernel))
set_option maxRecDepth 20000 in
theorem gL_isStarted_L_does : GoodIn wsL_isStarted (va_wsS RL 123 yL_does wsL_does) := goodIn_app (goodIn_of _ (by decide +kernel)) ggL_isStarted_L_does
theorem dL_isStarted_0 : decode cL_isStarted 0 = .ok (.aload_n 3, 1) := by decide +kernel
theorem dL_isStarted_1 : decode cL_isStarted 1 = .ok (.iconst 3, 1) := by decide +kernel
theorem dL_isStarted_2 : decode cL_isStarted 2 = .ok (.iaload, 1) := by decide +kernel
theorem dL_isStarted_3 : decode cL_isStarted 3 = .ok (.ifCond .ne 21, 3) := by decide +kernel
theorem dL_isStarted_6 : decode cL_isStarted 6 = .ok (.aload_n 3, 1) := by decide +kernel
theorem dL_isStarted_7 : decode cL_isStarted 7 = .ok (.iconst 5, 1) := by decide +kernel
theorem dL_isStarted_8 : decode cL_isStarted 8 = .ok (.iaload, 1) := by decide +kernel
theorem dL_isStarted_9 : decode cL_isStarted 9 = .ok (.bipush 8, 2) := by decide +kernel
theorem dL_isStarted_11 : decode cL_isStarted 11 = .ok (.if_icmp .ge 13, 3) := by decide +kernel
theorem dL_isStarted_14 : decode cL_isStarted 14 = .ok (.aload_n 3, 1) := by decide +kernel
theorem dL_isStarted_15 : decode cL_isStarted 15 = .ok (.iconst 2, 1) := by decide +kernel
theorem dL_isStarted_16 : decode cL_isStarted 16 = .ok (.iaload, 1) := by decide +kernel
theorem dL_isStarted_17 : decode cL_isStarted 17 = .ok (.ifCond .le 7, 3) := by decide +kernel
theorem dL_isStarted_20 : decode cL_isStarted 20 = .ok (.iconst 1, 1) := by decide +kernel
theorem dL_isStarted_21 : decode cL_isStarted 21 = .ok (.goto 4, 3) := by decide +kernel
theorem dL_isStarted_24 : decode cL_isStarted 24 = .ok (.iconst 0, 1) := by decide +kernel
theorem dL_isStarted_25 : decode cL_isStarted 25 = .ok (.istore 5, 2) := by decide +kernel
theorem dL_isStarted_27 : decode cL_isStarted 27 = .ok (.iconst 0, 1) := by decide +kernel
theorem dL_isStarted_28 : decode cL_isStarted 28 = .ok (.istore 6, 2) := by decide +kernel
theorem dL_isStarted_30 : decode cL_isStarted 30 = .ok (.iload 6, 2) := by decide +kernel
theorem dL_isStarted_32 : decode cL_isStarted 32 = .ok (.aload_n 3, 1) := by decide +kernel
theorem dL_isStarted_33 : decode cL_isStarted 33 = .ok (.iconst 0, 1) := by decide +kernel
theorem dL_isStarted_34 : decode cL_isStarted 34 = .ok (.iaload, 1) := by decide +kernel
theorem dL_isStarted_35 : decode cL_isStarted 35 = .ok (.if_icmp .ge 69, 3) := by decide +kernel
theorem dL_isStarted_38 : decode cL_isStarted 38 = .ok (.iconst 0, 1) := by decide +kernel
theorem dL_isStarted_39 : decode cL_isStarted 39 = .ok (.istore 7, 2) := by decide +kernel
theorem dL_isStarted_41 : decode cL_isStarted 41 = .ok (.iconst 0, 1) := by decide +kernel
theorem dL_isStarted_42 : decode cL_isStarted 42 = .ok (.istore 8, 2) := by decide +kernel
theorem dL_isStarted_44 : decode cL_isStarted 44 = .ok (.iload 8, 2) := by decide +kernel
theorem dL_isStarted_46 : decode cL_isStarted 46 = .ok (.aload_n 3, 1) := by decide +kernel
theorem dL_isStarted_47 : decode cL_isStarted 47 = .ok (.iconst 0, 1) := by decide +kernel
theorem dL_isStarted_48 : decode cL_isStarted 48 = .ok (.iaload, 1) := by decide +kernel
theorem dL_isStarted_49 : decode cL_isStarted 49 = .ok (.if_icmp .ge 32, 3) := by decide +kernel
theorem dL_isStarted_52 : decode cL_isStarted 52 = .ok (.iload 7, 2) := by decide +kernel
theorem dL_isStarted_54 : decode cL_isStarted 54 = .ok (.ifCond .ne 14, 3) := by decide +kernel
theorem dL_isStarted_57 : decode cL_isStarted 57 = .ok (.aload_n 1, 1) := by decide +kernel
theorem dL_isStarted_58 : decode cL_isStarted 58 = .ok (.iload 6, 2) := by decide +kernel
theorem dL_isStarted_60 : decode cL_isStarted 60 = .ok (.iload 8, 2) := by decide +kernel
theorem dL_isStarted_62 : decode cL_isStarted 62 = .ok (.invokestatic 106, 3) := by decide +kernel
theorem dL_isStarted_65 : decode cL_isStarted 65 = .ok (.ifCond .le 7, 3) := by decide +kernel
theorem dL_isStarted_68 : decode cL_isStarted 68 = .ok (.iconst 1, 1) := by decide +kernel
theorem dL_isStarted_69 : decode cL_isStarted 69 = .ok (.goto 4, 3) := by decide +kernel
theorem dL_isStarted_72 : decode cL_isStarted 72 = .ok (.iconst 0, 1) := by decide +kernel
theorem dL_isStarted_73 : decode cL_isStarted 73 = .ok (.istore 7, 2) := by decide +kernel
theorem dL_isStarted_75 : decode cL_isStarted 75 = .ok (.iinc 8 1, 3) := by decide +kernel
theorem dL_isStarted_78 : decode cL_isStarted 78 = .ok (.goto (-34), 3) := by decide +kernel
theorem dL_isStarted_81 : decode cL_isStarted 81 = .ok (.iload 5, 2) := by decide +kernel
theorem dL_isStarted_83 : decode cL_isStarted 83 = .ok (.ifCond .eq 12, 3) := by decide +kernel
theorem dL_isStarted_86 : decode cL_isStarted 86 = .ok (.iload 7, 2) := by decide +kernel
theorem dL_isStarted_88 : decode cL_isStarted 88 = .ok (.ifCond .eq 7, 3) := by decide +kernel
theorem dL_isStarted_91 : decode cL_isStarted 91 = .ok (.iconst 1, 1) := by decide +kernel
theorem dL_isStarted_92 : decode cL_isStarted 92 = .ok (.goto 4, 3) := by decide +kernel
theorem dL_isStarted_95 : decode cL_isStarted 95 = .ok (.iconst 0, 1) := by decide +kernel
theorem dL_isStarted_96 : decode cL_isStarted 96 = .ok (.istore 5, 2) := by decide +kernel
theorem dL_isStarted_98 : decode cL_isStarted 98 = .ok (.iinc 6 1, 3) := by decide +kernel
theorem dL_isStarted_101 : decode cL_isStarted 101 = .ok (.goto (-71), 3) := by decide +kernel
theorem dL_isStarted_104 : decode cL_isStarted 104 = .ok (.iload 4, 2) := by decide +kernel
theorem dL_isStarted_106 : decode cL_isStarted 106 = .ok (.iconst 1, 1) := by decide +kernel
theorem dL_isStarted_107 : decode cL_isStarted 107 = .ok (.if_icmp .lt 10, 3) := by decide +kernel
theorem dL_isStarted_110 : decode cL_isStarted 110 = .ok (.iload 4, 2) := by decide +kernel
theorem dL_isStarted_112 : decode cL_isStarted 112 = .ok (.bipush 9, 2) := by decide +kernel
theorem dL_isStarted_114 : decode cL_isStarted 114 = .ok (.if_icmp .le 8, 3) := by decide +kernel
theorem dL_isStarted_117 : decode cL_isStarted 117 = .ok (.bipush (-20), 2) := by decide +kernel
theorem dL_isStarted_119 : decode cL_isStarted 119 = .ok (.goto 16, 3) := by decide +kernel
theorem dL_isStarted_122 : decode cL_isStarted 122 = .ok (.iload 5, 2) := by decide +kernel
theorem dL_isStarted_124 : decode cL_isStarted 124 = .ok (.ifCond .eq 9, 3) := by decide +kernel
theorem dL_isStarted_127 : decode cL_isStarted 127 = .ok (.aload_n 3, 1) := by decide +kernel
theorem dL_isStarted_128 : decode cL_isStarted 128 = .ok (.iconst 5, 1) := by decide +kernel
theorem dL_isStarted_129 : decode cL_isStarted 129 = .ok (.iaload, 1) := by decide +kernel
theorem dL_isStarted_130 : decode cL_isStarted 130 = .ok (.goto 5, 3) := by decide +kernel
theorem dL_isStarted_133 : decode cL_isStarted 133 = .ok (.bipush (-10), 2) := by decide +kernel
theorem dL_isStarted_135 : decode cL_isStarted 135 = .ok (.istore 6, 2) := by decide +kernel
theorem dL_isStarted_137 : decode cL_isStarted 137 = .ok (.iload 6, 2) := by decide +kernel
theorem dL_isStarted_139 : decode cL_isStarted 139 = .ok (.ifCond .lt 55, 3) := by decide +kernel
theorem dL_isStarted_142 : decode cL_isStarted 142 = .ok (.aload_n 3, 1) := by decide +kernel
theorem dL_isStarted_143 : decode cL_isStarted 143 = .ok (.iconst 3, 1) := by decide +kernel
theorem dL_isStarted_144 : decode cL_isStarted 144 = .ok (.iconst 1, 1) := by decide +kernel
theorem dL_isStarted_145 : decode cL_isStarted 145 = .ok (.iastore, 1) := by decide +kernel
theorem dL_isStarted_146 : decode cL_isStarted 146 = .ok (.aload_n 3, 1) := by decide +kernel
theorem dL_isStarted_147 : decode cL_isStarted 147 = .ok (.iconst 4, 1) := by decide +kernel
theorem dL_isStarted_148 : decode cL_isStarted 148 = .ok (.iload 4, 2) := by decide +kernel
theorem dL_isStarted_150 : decode cL_isStarted 150 = .ok (.iastore, 1) := by decide +kernel
theorem dL_isStarted_151 : decode cL_isStarted 151 = .ok (.aload_n 3, 1) := by decide +kernel
theorem dL_isStarted_152 : decode cL_isStarted 152 = .ok (.iconst 5, 1) := by decide +kernel
theorem dL_isStarted_153 : decode cL_isStarted 153 = .ok (.dup2, 1) := by decide +kernel
theorem dL_isStarted_154 : decode cL_isStarted 154 = .ok (.iaload, 1) := by decide +kernel
theorem dL_isStarted_155 : decode cL_isStarted 155 = .ok (.iconst 1, 1) := by decide +kernel
theorem dL_isStarted_156 : decode cL_isStarted 156 = .ok (.iadd, 1) := by decide +kernel
theorem dL_isStarted_157 : decode cL_isStarted 157 = .ok (.iastore, 1) := by decide +kernel
theorem dL_isStarted_158 : decode cL_isStarted 158 = .ok (.iconst 0, 1) := by decide +kernel
theorem dL_isStarted_159 : decode cL_isStarted 159 = .ok (.istore 7, 2) := by decide +kernel
theorem dL_isStarted_161 : decode cL_isStarted 161 = .ok (.iload 7, 2) := by decide +kernel
theorem dL_isStarted_163 : decode cL_isStarted 163 = .ok (.bipush 36, 2) := by decide +kernel
theorem dL_isStarted_165 : decode cL_isStarted 165 = .ok (.if_icmp .ge 29, 3) := by decide +kernel
theorem dL_isStarted_168 : decode cL_isStarted 168 = .ok (.aload_n 2, 1) := by decide +kernel
theorem dL_isStarted_169 : decode cL_isStarted 169 = .ok (.iload 7, 2) := by decide +kernel
theorem dL_isStarted_171 : decode cL_isStarted 171 = .ok (.iload 7, 2) := by decide +kernel
theorem dL_isStarted_173 : decode cL_isStarted 173 = .ok (.bipush 6, 2) := by decide +kernel
theorem dL_isStarted_175 : decode cL_isStarted 175 = .ok (.irem, 1) := by decide +kernel
theorem dL_isStarted_176 : decode cL_isStarted 176 = .ok (.ifCond .ne 10, 3) := by decide +kernel
theorem dL_isStarted_179 : decode cL_isStarted 179 = .ok (.aload_n 2, 1) := by decide +kernel
theorem dL_isStarted_180 : decode cL_isStarted 180 = .ok (.iload 7, 2) := by decide +kernel
theorem dL_isStarted_182 : decode cL_isStarted 182 = .ok (.iaload, 1) := by decide +kernel
theorem dL_isStarted_183 : decode cL_isStarted 183 = .ok (.goto 4, 3) := by decide +kernel
theorem dL_isStarted_186 : decode cL_isStarted 186 = .ok (.iconst 0, 1) := by decide +kernel
theorem dL_isStarted_187 : decode cL_isStarted 187 = .ok (.iastore, 1) := by decide +kernel
theorem dL_isStarted_188 : decode cL_isStarted 188 = .ok (.iinc 7 1, 3) := by decide +kernel
theorem dL_isStarted_191 : decode cL_isStarted 191 = .ok (.goto (-30), 3) := by decide +kernel
theorem dL_isStarted_194 : decode cL_isStarted 194 = .ok (.aload_n 0, 1) := by decide +kernel
theorem dL_isStarted_195 : decode cL_isStarted 195 = .ok (.iconst 3, 1) := by decide +kernel
theorem dL_isStarted_196 : decode cL_isStarted 196 = .ok (.iload 4, 2) := by decide +kernel
theorem dL_isStarted_198 : decode cL_isStarted 198 = .ok (.iconst 0, 1) := by decide +kernel
theorem dL_isStarted_199 : decode cL_isStarted 199 = .ok (.iconst 0, 1) := by decide +kernel
theorem dL_isStarted_200 : decode cL_isStarted 200 = .ok (.invokestatic 123, 3) := by decide +kernel
theorem dL_isStarted_203 : decode cL_isStarted 203 = .ok (.iload 6, 2) := by decide +kernel
theorem dL_isStarted_205 : decode cL_isStarted 205 = .ok (.if_icmp .ne 7, 3) := by decide +kernel
theorem dL_isStarted_208 : decode cL_isStarted 208 = .ok (.iconst 1, 1) := by decide +kernel
theorem dL_isStarted_209 : decode cL_isStarted 209 = .ok (.goto 4, 3) := by decide +kernel
theorem dL_isStarted_212 : decode cL_isStarted 212 = .ok (.iconst 0, 1) := by decide +kernel
theorem dL_isStarted_213 : decode cL_isStarted 213 = .ok (.ireturn, 1) := by decide +kernel
set_option maxRecDepth 20000 in
theorem ggL_isPassed_L_way : GoodIn wsL_isPassed wsL_way := goodIn_r _ [4] (by decide +kernel) (by decide +kernel)
set_option maxRecDepth 20000 in
theorem gL_isPassed_L_way : GoodIn wsL_isPassed (va_wsS RL 106 yL_way wsL_way) := goodIn_app (goodIn_of _ (by decide +kernel)) ggL_isPassed_L_way
set_option maxRecDepth 20000 in
theorem ggL_isPassed_X5_stunned : GoodIn wsL_isPassed wsX5_stunned := goodIn_ca (goodIn_r _ [9, 10, 11, 12, 13, 14, 15, 8, 16, 17, 18, 19, 20, 21, 22, 23, 24, 25, 26, 27, 28, 29, 310, 311, 312, 313, 314, 315, 316, 317, 318, 319, 320, 321, 322, 323] (by decide +kernel) (by decide +kernel)) (goodIn_sub (fun _ h => List.mem_cons_of_mem _ (List.mem_append_left _ (List.mem_append_left _ (List.mem_append_right _ h)))) (by decide +kernel))
set_option maxRecDepth 20000 in
theorem gL_isPassed_X5_stunned : GoodIn wsL_isPassed (wsV RL 75 RX5 yX5_stunned wsX5_stunned) := goodIn_app (goodIn_of _ (by decide +kernel)) ggL_isPassed_X5_stunned
set_option maxRecDepth 20000 in
theorem ggL_isPassed_L_does : GoodIn wsL_isPassed wsL_does := goodIn_ca (goodIn_ca (goodIn_ca (goodIn_r _ [32, 33, 34, 35, 36, 37, 38, 8, 39, 40, 41, 42, 43, 44, 45, 46, 10, 47, 48, 49, 50, 51, 52, 53, 54, 55, 56, 57, 58, 59, 60, 61, 62, 63, 64, 65, 66, 67, 68, 69, 70, 71, 72, 73, 74, 75, 17, 18, 76, 77, 78, 79, 80, 81, 82, 83, 84, 85, 86, 87, 88, 89, 90, 91, 92, 93, 94, 95, 96, 97, 98, 28, 99, 100, 101, 102, 103, 104, 105, 106, 107, 108, 19, 109, 110, 111, 112, 113, 114, 115, 116, 117, 118, 119, 11, 120, 121, 122, 123, 124, 125, 126, 127, 128, 129, 130, 131, 132, 133, 134, 135, 136, 137, 138, 139, 140, 141, 142, 143, 144, 145, 146, 147, 148, 149, 23, 150, 151, 152, 25, 153, 154, 155, 156, 12, 13, 14, 15, 16, 157, 158, 159, 160, 161, 162, 163, 164, 165, 166, 167, 168, 20, 21, 22, 24, 26, 27, 29, 169, 170, 171, 172, 173, 174, 175, 176, 177, 178, 179, 180, 181, 182, 183, 184, 185, 186, 187, 188, 189, 190, 191, 192, 193, 194, 195, 196, 197, 198, 199, 200, 201, 202, 203, 204, 205, 206, 207, 208, 209, 210, 211, 212, 213, 214, 215, 216, 217, 218, 219, 220, 221, 222, 223, 224, 225, 226, 227, 228, 229, 230, 231, 232, 233, 234, 235, 236, 237, 238, 239, 240, 241, 242, 243, 244, 245, 246, 247, 248, 249, 250, 251, 252, 253, 254, 255, 256, 257, 258, 259, 260, 261, 262, 263, 264, 265, 266, 267, 268, 269, 270, 271, 272, 273, 274, 275, 276, 277, 278, 279, 280, 281, 282, 283, 284, 285, 286, 287, 288, 289, 290, 291, 292, 293, 294, 295, 296, 297, 298, 299, 300, 301, 302, 303, 304, 305, 306, 307, 308, 309, 310, 311, 312, 313, 314, 315, 316, 317, 318, 319, 324, 325, 326, 327, 328, 329, 330, 331, 332, 333, 334, 335, 336, 337, 338, 339, 340, 341, 342, 343, 344, 345, 320, 321, 322, 323] (by decide +kernel) (by decide +kernel)) (goodIn_sub (fun _ h => List.mem_cons_of_mem _ (List.mem_append_left _ (List.mem_append_right _ h))) (by decide +kernel))) (goodIn_sub (fun _ h => List.mem_cons_of_mem _ (List.mem_append_right _ h)) (by decide +kernel))) (goodIn_sub (fun _ h => List.mem_cons_of_mem _ (List.mem_append_left _ (List.mem_append_left _ (List.mem_append_right _ h)))) (by decide +kernel))
set_option maxRecDepth 20000 in
theorem gL_isPassed_L_does : GoodIn wsL_isPassed (va_wsS RL 123 yL_does wsL_does) := goodIn_app (goodIn_of _ (by decide +kernel)) ggL_isPassed_L_does
theorem dL_isPassed_0 : decode cL_isPassed 0 = .ok (.iload 4, 2) := by decide +kernel
theorem dL_isPassed_2 : decode cL_isPassed 2 = .ok (.aload_n 3, 1) := by decide +kernel
theorem dL_isPassed_3 : decode cL_isPassed 3 = .ok (.iconst 2, 1) := by decide +kernel
theorem dL_isPassed_4 : decode cL_isPassed 4 = .ok (.iaload, 1) := by decide +kernel
theorem dL_isPassed_5 : decode cL_isPassed 5 = .ok (.if_icmp .ge 15, 3) := by decide +kernel
theorem dL_isPassed_8 : decode cL_isPassed 8 = .ok (.iload 5, 2) := by decide +kernel
theorem dL_isPassed_10 : decode cL_isPassed 10 = .ok (.aload_n 3, 1) := by decide +kernel
theorem dL_isPassed_11 : decode cL_isPassed 11 = .ok (.iconst 0, 1) := by decide +kernel
theorem dL_isPassed_12 : decode cL_isPassed 12 = .ok (.iaload, 1) := by decide +kernel
theorem dL_isPassed_13 : decode cL_isPassed 13 = .ok (.if_icmp .ge 7, 3) := by decide +kernel
theorem dL_isPassed_16 : decode cL_isPassed 16 = .ok (.iconst 1, 1) := by decide +kernel
theorem dL_isPassed_17 : decode cL_isPassed 17 = .ok (.goto 4, 3) := by decide +kernel
theorem dL_isPassed_20 : decode cL_isPassed 20 = .ok (.iconst 0, 1) := by decide +kernel
theorem dL_isPassed_21 : decode cL_isPassed 21 = .ok (.istore 6, 2) := by decide +kernel
theorem dL_isPassed_23 : decode cL_isPassed 23 = .ok (.iload 6, 2) := by decide +kernel
theorem dL_isPassed_25 : decode cL_isPassed 25 = .ok (.ifCond .eq 11, 3) := by decide +kernel
theorem dL_isPassed_28 : decode cL_isPassed 28 = .ok (.bipush 6, 2) := by decide +kernel
theorem dL_isPassed_30 : decode cL_isPassed 30 = .ok (.iload 4, 2) := by decide +kernel
theorem dL_isPassed_32 : decode cL_isPassed 32 = .ok (.imul, 1) := by decide +kernel
theorem dL_isPassed_33 : decode cL_isPassed 33 = .ok (.goto 4, 3) := by decide +kernel
theorem dL_isPassed_36 : decode cL_isPassed 36 = .ok (.iconst 0, 1) := by decide +kernel
theorem dL_isPassed_37 : decode cL_isPassed 37 = .ok (.istore 7, 2) := by decide +kernel
theorem dL_isPassed_39 : decode cL_isPassed 39 = .ok (.iload 6, 2) := by decide +kernel
theorem dL_isPassed_41 : decode cL_isPassed 41 = .ok (.ifCond .eq 12, 3) := by decide +kernel
theorem dL_isPassed_44 : decode cL_isPassed 44 = .ok (.aload_n 2, 1) := by decide +kernel
theorem dL_isPassed_45 : decode cL_isPassed 45 = .ok (.iload 7, 2) := by decide +kernel
theorem dL_isPassed_47 : decode cL_isPassed 47 = .ok (.iconst 1, 1) := by decide +kernel
theorem dL_isPassed_48 : decode cL_isPassed 48 = .ok (.iadd, 1) := by decide +kernel
theorem dL_isPassed_49 : decode cL_isPassed 49 = .ok (.iaload, 1) := by decide +kernel
theorem dL_isPassed_50 : decode cL_isPassed 50 = .ok (.goto 4, 3) := by decide +kernel
theorem dL_isPassed_53 : decode cL_isPassed 53 = .ok (.iconst 0, 1) := by decide +kernel
theorem dL_isPassed_54 : decode cL_isPassed 54 = .ok (.istore 8, 2) := by decide +kernel
theorem dL_isPassed_56 : decode cL_isPassed 56 = .ok (.iload 6, 2) := by decide +kernel
theorem dL_isPassed_58 : decode cL_isPassed 58 = .ok (.ifCond .eq 18, 3) := by decide +kernel
theorem dL_isPassed_61 : decode cL_isPassed 61 = .ok (.aload_n 1, 1) := by decide +kernel
theorem dL_isPassed_62 : decode cL_isPassed 62 = .ok (.iload 8, 2) := by decide +kernel
theorem dL_isPassed_64 : decode cL_isPassed 64 = .ok (.iload 5, 2) := by decide +kernel
theorem dL_isPassed_66 : decode cL_isPassed 66 = .ok (.invokestatic 106, 3) := by decide +kernel
theorem dL_isPassed_69 : decode cL_isPassed 69 = .ok (.ifCond .le 7, 3) := by decide +kernel
theorem dL_isPassed_72 : decode cL_isPassed 72 = .ok (.iconst 1, 1) := by decide +kernel
theorem dL_isPassed_73 : decode cL_isPassed 73 = .ok (.goto 4, 3) := by decide +kernel
theorem dL_isPassed_76 : decode cL_isPassed 76 = .ok (.iconst 0, 1) := by decide +kernel
theorem dL_isPassed_77 : decode cL_isPassed 77 = .ok (.istore 9, 2) := by decide +kernel
theorem dL_isPassed_79 : decode cL_isPassed 79 = .ok (.iload 6, 2) := by decide +kernel
theorem dL_isPassed_81 : decode cL_isPassed 81 = .ok (.ifCond .eq 48, 3) := by decide +kernel
theorem dL_isPassed_84 : decode cL_isPassed 84 = .ok (.aload_n 3, 1) := by decide +kernel
theorem dL_isPassed_85 : decode cL_isPassed 85 = .ok (.iconst 3, 1) := by decide +kernel
theorem dL_isPassed_86 : decode cL_isPassed 86 = .ok (.iaload, 1) := by decide +kernel
theorem dL_isPassed_87 : decode cL_isPassed 87 = .ok (.iconst 1, 1) := by decide +kernel
theorem dL_isPassed_88 : decode cL_isPassed 88 = .ok (.if_icmp .ne 41, 3) := by decide +kernel
theorem dL_isPassed_91 : decode cL_isPassed 91 = .ok (.aload_n 2, 1) := by decide +kernel
theorem dL_isPassed_92 : decode cL_isPassed 92 = .ok (.iload 7, 2) := by decide +kernel
theorem dL_isPassed_94 : decode cL_isPassed 94 = .ok (.iconst 5, 1) := by decide +kernel
theorem dL_isPassed_95 : decode cL_isPassed 95 = .ok (.iadd, 1) := by decide +kernel
theorem dL_isPassed_96 : decode cL_isPassed 96 = .ok (.iaload, 1) := by decide +kernel
theorem dL_isPassed_97 : decode cL_isPassed 97 = .ok (.ifCond .ne 32, 3) := by decide +kernel
theorem dL_isPassed_100 : decode cL_isPassed 100 = .ok (.aload_n 0, 1) := by decide +kernel
theorem dL_isPassed_101 : decode cL_isPassed 101 = .ok (.iload 4, 2) := by decide +kernel
theorem dL_isPassed_103 : decode cL_isPassed 103 = .ok (.invokevirtual 75, 3) := by decide +kernel
theorem dL_isPassed_106 : decode cL_isPassed 106 = .ok (.ifCond .ne 23, 3) := by decide +kernel
theorem dL_isPassed_109 : decode cL_isPassed 109 = .ok (.iload 9, 2) := by decide +kernel
theorem dL_isPassed_111 : decode cL_isPassed 111 = .ok (.ifCond .ne 14, 3) := by decide +kernel
theorem dL_isPassed_114 : decode cL_isPassed 114 = .ok (.aload_n 1, 1) := by decide +kernel
theorem dL_isPassed_115 : decode cL_isPassed 115 = .ok (.iload 5, 2) := by decide +kernel
theorem dL_isPassed_117 : decode cL_isPassed 117 = .ok (.iload 8, 2) := by decide +kernel
theorem dL_isPassed_119 : decode cL_isPassed 119 = .ok (.invokestatic 106, 3) := by decide +kernel
theorem dL_isPassed_122 : decode cL_isPassed 122 = .ok (.ifCond .le 7, 3) := by decide +kernel
theorem dL_isPassed_125 : decode cL_isPassed 125 = .ok (.iconst 1, 1) := by decide +kernel
theorem dL_isPassed_126 : decode cL_isPassed 126 = .ok (.goto 4, 3) := by decide +kernel
theorem dL_isPassed_129 : decode cL_isPassed 129 = .ok (.iconst 0, 1) := by decide +kernel
theorem dL_isPassed_130 : decode cL_isPassed 130 = .ok (.istore 10, 2) := by decide +kernel
theorem dL_isPassed_132 : decode cL_isPassed 132 = .ok (.aload_n 0, 1) := by decide +kernel
theorem dL_isPassed_133 : decode cL_isPassed 133 = .ok (.iconst 4, 1) := by decide +kernel
theorem dL_isPassed_134 : decode cL_isPassed 134 = .ok (.iload 4, 2) := by decide +kernel
theorem dL_isPassed_136 : decode cL_isPassed 136 = .ok (.iload 5, 2) := by decide +kernel
theorem dL_isPassed_138 : decode cL_isPassed 138 = .ok (.iconst 0, 1) := by decide +kernel
theorem dL_isPassed_139 : decode cL_isPassed 139 = .ok (.invokestatic 123, 3) := by decide +kernel
theorem dL_isPassed_142 : decode cL_isPassed 142 = .ok (.istore 11, 2) := by decide +kernel
theorem dL_isPassed_144 : decode cL_isPassed 144 = .ok (.iload 10, 2) := by decide +kernel
theorem dL_isPassed_146 : decode cL_isPassed 146 = .ok (.ifCond .ne 26, 3) := by decide +kernel
theorem dL_isPassed_149 : decode cL_isPassed 149 = .ok (.iload 11, 2) := by decide +kernel
theorem dL_isPassed_151 : decode cL_isPassed 151 = .ok (.iload 6, 2) := by decide +kernel
theorem dL_isPassed_153 : decode cL_isPassed 153 = .ok (.ifCond .eq 8, 3) := by decide +kernel
theorem dL_isPassed_156 : decode cL_isPassed 156 = .ok (.bipush (-10), 2) := by decide +kernel
theorem dL_isPassed_158 : decode cL_isPassed 158 = .ok (.goto 5, 3) := by decide +kernel
theorem dL_isPassed_161 : decode cL_isPassed 161 = .ok (.bipush (-30), 2) := by decide +kernel
theorem dL_isPassed_163 : decode cL_isPassed 163 = .ok (.if_icmp .ne 7, 3) := by decide +kernel
theorem dL_isPassed_166 : decode cL_isPassed 166 = .ok (.iconst 1, 1) := by decide +kernel
theorem dL_isPassed_167 : decode cL_isPassed 167 = .ok (.goto 4, 3) := by decide +kernel
theorem dL_isPassed_170 : decode cL_isPassed 170 = .ok (.iconst 0, 1) := by decide +kernel
theorem dL_isPassed_171 : decode cL_isPassed 171 = .ok (.ireturn, 1) := by decide +kernel
theorem dL_isPassed_172 : decode cL_isPassed 172 = .ok (.aload_n 2, 1) := by decide +kernel
theorem dL_isPassed_173 : decode cL_isPassed 173 = .ok (.iload 7, 2) := by decide +kernel
theorem dL_isPassed_175 : decode cL_isPassed 175 = .ok (.iconst 1, 1) := by decide +kernel
theorem dL_isPassed_176 : decode cL_isPassed 176 = .ok (.iadd, 1) := by decide +kernel
theorem dL_isPassed_177 : decode cL_isPassed 177 = .ok (.iload 5, 2) := by decide +kernel
theorem dL_isPassed_179 : decode cL_isPassed 179 = .ok (.iastore, 1) := by decide +kernel
theorem dL_isPassed_180 : decode cL_isPassed 180 = .ok (.iload 9, 2) := by decide +kernel
theorem dL_isPassed_182 : decode cL_isPassed 182 = .ok (.ifCond .ne 49, 3) := by decide +kernel
theorem dL_isPassed_185 : decode cL_isPassed 185 = .ok (.aload_n 2, 1) := by decide +kernel
theorem dL_isPassed_186 : decode cL_isPassed 186 = .ok (.iload 7, 2) := by decide +kernel
theorem dL_isPassed_188 : decode cL_isPassed 188 = .ok (.iconst 3, 1) := by decide +kernel
theorem dL_isPassed_189 : decode cL_isPassed 189 = .ok (.iadd, 1) := by decide +kernel
theorem dL_isPassed_190 : decode cL_isPassed 190 = .ok (.dup2, 1) := by decide +kernel
theorem dL_isPassed_191 : decode cL_isPassed 191 = .ok (.iaload, 1) := by decide +kernel
theorem dL_isPassed_192 : decode cL_isPassed 192 = .ok (.iload 8, 2) := by decide +kernel
theorem dL_isPassed_194 : decode cL_isPassed 194 = .ok (.ifCond .ne 7, 3) := by decide +kernel
theorem dL_isPassed_197 : decode cL_isPassed 197 = .ok (.iconst 1, 1) := by decide +kernel
theorem dL_isPassed_198 : decode cL_isPassed 198 = .ok (.goto 4, 3) := by decide +kernel
theorem dL_isPassed_201 : decode cL_isPassed 201 = .ok (.iconst 0, 1) := by decide +kernel
theorem dL_isPassed_202 : decode cL_isPassed 202 = .ok (.iadd, 1) := by decide +kernel
theorem dL_isPassed_203 : decode cL_isPassed 203 = .ok (.iastore, 1) := by decide +kernel
theorem dL_isPassed_204 : decode cL_isPassed 204 = .ok (.aload_n 2, 1) := by decide +kernel
theorem dL_isPassed_205 : decode cL_isPassed 205 = .ok (.iload 7, 2) := by decide +kernel
theorem dL_isPassed_207 : decode cL_isPassed 207 = .ok (.iconst 4, 1) := by decide +kernel
theorem dL_isPassed_208 : decode cL_isPassed 208 = .ok (.iadd, 1) := by decide +kernel
theorem dL_isPassed_209 : decode cL_isPassed 209 = .ok (.dup2, 1) := by decide +kernel
theorem dL_isPassed_210 : decode cL_isPassed 210 = .ok (.iaload, 1) := by decide +kernel
theorem dL_isPassed_211 : decode cL_isPassed 211 = .ok (.iconst 1, 1) := by decide +kernel
theorem dL_isPassed_212 : decode cL_isPassed 212 = .ok (.iload 8, 2) := by decide +kernel
theorem dL_isPassed_214 : decode cL_isPassed 214 = .ok (.ishl, 1) := by decide +kernel
theorem dL_isPassed_215 : decode cL_isPassed 215 = .ok (.iconst (-1), 1) := by decide +kernel
theorem dL_isPassed_216 : decode cL_isPassed 216 = .ok (.ixor, 1) := by decide +kernel
theorem dL_isPassed_217 : decode cL_isPassed 217 = .ok (.iand, 1) := by decide +kernel
theorem dL_isPassed_218 : decode cL_isPassed 218 = .ok (.iastore, 1) := by decide +kernel
theorem dL_isPassed_219 : decode cL_isPassed 219 = .ok (.iload 11, 2) := by decide +kernel
theorem dL_isPassed_221 : decode cL_isPassed 221 = .ok (.iconst 3, 1) := by decide +kernel
theorem dL_isPassed_222 : decode cL_isPassed 222 = .ok (.if_icmp .ne 7, 3) := by decide +kernel
theorem dL_isPassed_225 : decode cL_isPassed 225 = .ok (.iconst 1, 1) := by decide +kernel
theorem dL_isPassed_226 : decode cL_isPassed 226 = .ok (.goto 4, 3) := by decide +kernel
theorem dL_isPassed_229 : decode cL_isPassed 229 = .ok (.iconst 0, 1) := by decide +kernel
theorem dL_isPassed_230 : decode cL_isPassed 230 = .ok (.ireturn, 1) := by decide +kernel
theorem dL_isPassed_231 : decode cL_isPassed 231 = .ok (.iload 5, 2) := by decide +kernel
theorem dL_isPassed_233 : decode cL_isPassed 233 = .ok (.ifCond .le 40, 3) := by decide +kernel
theorem dL_isPassed_236 : decode cL_isPassed 236 = .ok (.aload_n 2, 1) := by decide +kernel
theorem dL_isPassed_237 : decode cL_isPassed 237 = .ok (.iload 7, 2) := by decide +kernel
theorem dL_isPassed_239 : decode cL_isPassed 239 = .ok (.iconst 4, 1) := by decide +kernel
theorem dL_isPassed_240 : decode cL_isPassed 240 = .ok (.iadd, 1) := by decide +kernel
theorem dL_isPassed_241 : decode cL_isPassed 241 = .ok (.dup2, 1) := by decide +kernel
theorem dL_isPassed_242 : decode cL_isPassed 242 = .ok (.iaload, 1) := by decide +kernel
theorem dL_isPassed_243 : decode cL_isPassed 243 = .ok (.aload_n 2, 1) := by decide +kernel
theorem dL_isPassed_244 : decode cL_isPassed 244 = .ok (.iload 7, 2) := by decide +kernel
theorem dL_isPassed_246 : decode cL_isPassed 246 = .ok (.iconst 3, 1) := by decide +kernel
theorem dL_isPassed_247 : decode cL_isPassed 247 = .ok (.iadd, 1) := by decide +kernel
theorem dL_isPassed_248 : decode cL_isPassed 248 = .ok (.iaload, 1) := by decide +kernel
theorem dL_isPassed_249 : decode cL_isPassed 249 = .ok (.ifCond .ne 10, 3) := by decide +kernel
theorem dL_isPassed_252 : decode cL_isPassed 252 = .ok (.iconst 1, 1) := by decide +kernel
theorem dL_isPassed_253 : decode cL_isPassed 253 = .ok (.iload 5, 2) := by decide +kernel
theorem dL_isPassed_255 : decode cL_isPassed 255 = .ok (.ishl, 1) := by decide +kernel
theorem dL_isPassed_256 : decode cL_isPassed 256 = .ok (.goto 4, 3) := by decide +kernel
theorem dL_isPassed_259 : decode cL_isPassed 259 = .ok (.iconst 0, 1) := by decide +kernel
theorem dL_isPassed_260 : decode cL_isPassed 260 = .ok (.ior, 1) := by decide +kernel
theorem dL_isPassed_261 : decode cL_isPassed 261 = .ok (.iastore, 1) := by decide +kernel
theorem dL_isPassed_262 : decode cL_isPassed 262 = .ok (.iload 11, 2) := by decide +kernel
theorem dL_isPassed_264 : decode cL_isPassed 264 = .ok (.ifCond .ne 7, 3) := by decide +kernel
theorem dL_isPassed_267 : decode cL_isPassed 267 = .ok (.iconst 1, 1) := by decide +kernel
theorem dL_isPassed_268 : decode cL_isPassed 268 = .ok (.goto 4, 3) := by decide +kernel
theorem dL_isPassed_271 : decode cL_isPassed 271 = .ok (.iconst 0, 1) := by decide +kernel
theorem dL_isPassed_272 : decode cL_isPassed 272 = .ok (.ireturn, 1) := by decide +kernel
theorem dL_isPassed_273 : decode cL_isPassed 273 = .ok (.aload_n 3, 1) := by decide +kernel
theorem dL_isPassed_274 : decode cL_isPassed 274 = .ok (.iconst 1, 1) := by decide +kernel
theorem dL_isPassed_275 : decode cL_isPassed 275 = .ok (.iaload, 1) := by decide +kernel
theorem dL_isPassed_276 : decode cL_isPassed 276 = .ok (.aload_n 2, 1) := by decide +kernel
theorem dL_isPassed_277 : decode cL_isPassed 277 = .ok (.iload 7, 2) := by decide +kernel
theorem dL_isPassed_279 : decode cL_isPassed 279 = .ok (.iconst 4, 1) := by decide +kernel
theorem dL_isPassed_280 : decode cL_isPassed 280 = .ok (.iadd, 1) := by decide +kernel
theorem dL_isPassed_281 : decode cL_isPassed 281 = .ok (.iaload, 1) := by decide +kernel
theorem dL_isPassed_282 : decode cL_isPassed 282 = .ok (.iconst (-1), 1) := by decide +kernel
theorem dL_isPassed_283 : decode cL_isPassed 283 = .ok (.ixor, 1) := by decide +kernel
theorem dL_isPassed_284 : decode cL_isPassed 284 = .ok (.iand, 1) := by decide +kernel
theorem dL_isPassed_285 : decode cL_isPassed 285 = .ok (.ifCond .ne 7, 3) := by decide +kernel
theorem dL_isPassed_288 : decode cL_isPassed 288 = .ok (.iconst 1, 1) := by decide +kernel
theorem dL_isPassed_289 : decode cL_isPassed 289 = .ok (.goto 4, 3) := by decide +kernel
theorem dL_isPassed_292 : decode cL_isPassed 292 = .ok (.iconst 0, 1) := by decide +kernel
theorem dL_isPassed_293 : decode cL_isPassed 293 = .ok (.istore 12, 2) := by decide +kernel
theorem dL_isPassed_295 : decode cL_isPassed 295 = .ok (.aload_n 2, 1) := by decide +kernel
theorem dL_isPassed_296 : decode cL_isPassed 296 = .ok (.iload 7, 2) := by decide +kernel
theorem dL_isPassed_298 : decode cL_isPassed 298 = .ok (.iconst 4, 1) := by decide +kernel
theorem dL_isPassed_299 : decode cL_isPassed 299 = .ok (.iadd, 1) := by decide +kernel
theorem dL_isPassed_300 : decode cL_isPassed 300 = .ok (.iconst 0, 1) := by decide +kernel
theorem dL_isPassed_301 : decode cL_isPassed 301 = .ok (.iastore, 1) := by decide +kernel
theorem dL_isPassed_302 : decode cL_isPassed 302 = .ok (.aload_n 2, 1) := by decide +kernel
theorem dL_isPassed_303 : decode cL_isPassed 303 = .ok (.iload 7, 2) := by decide +kernel
theorem dL_isPassed_305 : decode cL_isPassed 305 = .ok (.iconst 3, 1) := by decide +kernel
theorem dL_isPassed_306 : decode cL_isPassed 306 = .ok (.iadd, 1) := by decide +kernel
theorem dL_isPassed_307 : decode cL_isPassed 307 = .ok (.iaload, 1) := by decide +kernel
theorem dL_isPassed_308 : decode cL_isPassed 308 = .ok (.ifCond .le 25, 3) := by decide +kernel
theorem dL_isPassed_311 : decode cL_isPassed 311 = .ok (.aload_n 2, 1) := by decide +kernel
theorem dL_isPassed_312 : decode cL_isPassed 312 = .ok (.iload 7, 2) := by decide +kernel
theorem dL_isPassed_314 : decode cL_isPassed 314 = .ok (.iconst 3, 1) := by decide +kernel
theorem dL_isPassed_315 : decode cL_isPassed 315 = .ok (.iadd, 1) := by decide +kernel
