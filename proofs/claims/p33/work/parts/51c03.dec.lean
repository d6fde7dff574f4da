theorem dL_part_0 : decode cL_part 0 = .ok (.iload_n 1, 1) := by decide +kernel
theorem dL_part_1 : decode cL_part 1 = .ok (.aload_n 0, 1) := by decide +kernel
theorem dL_part_2 : decode cL_part 2 = .ok (.arraylength, 1) := by decide +kernel
theorem dL_part_3 : decode cL_part 3 = .ok (.if_icmp .ge 9, 3) := by decide +kernel
theorem dL_part_6 : decode cL_part 6 = .ok (.aload_n 0, 1) := by decide +kernel
theorem dL_part_7 : decode cL_part 7 = .ok (.iload_n 1, 1) := by decide +kernel
theorem dL_part_8 : decode cL_part 8 = .ok (.iaload, 1) := by decide +kernel
theorem dL_part_9 : decode cL_part 9 = .ok (.goto 16, 3) := by decide +kernel
theorem dL_part_12 : decode cL_part 12 = .ok (.sipush 331, 3) := by decide +kernel
theorem dL_part_15 : decode cL_part 15 = .ok (.iload_n 1, 1) := by decide +kernel
theorem dL_part_16 : decode cL_part 16 = .ok (.imul, 1) := by decide +kernel
theorem dL_part_17 : decode cL_part 17 = .ok (.sipush 197, 3) := by decide +kernel
theorem dL_part_20 : decode cL_part 20 = .ok (.iload_n 1, 1) := by decide +kernel
theorem dL_part_21 : decode cL_part 21 = .ok (.imul, 1) := by decide +kernel
theorem dL_part_22 : decode cL_part 22 = .ok (.iload_n 1, 1) := by decide +kernel
theorem dL_part_23 : decode cL_part 23 = .ok (.imul, 1) := by decide +kernel
theorem dL_part_24 : decode cL_part 24 = .ok (.iadd, 1) := by decide +kernel
theorem dL_part_25 : decode cL_part 25 = .ok (.istore_n 3, 1) := by decide +kernel
theorem dL_part_26 : decode cL_part 26 = .ok (.iload_n 3, 1) := by decide +kernel
theorem dL_part_27 : decode cL_part 27 = .ok (.ldc 7, 2) := by decide +kernel
theorem dL_part_29 : decode cL_part 29 = .ok (.iand, 1) := by decide +kernel
theorem dL_part_30 : decode cL_part 30 = .ok (.iload_n 2, 1) := by decide +kernel
theorem dL_part_31 : decode cL_part 31 = .ok (.irem, 1) := by decide +kernel
theorem dL_part_32 : decode cL_part 32 = .ok (.ireturn, 1) := by decide +kernel
set_option maxRecDepth 20000 in
theorem ggL_does_X5_addGate : GoodIn wsL_does wsX5_addGate := goodIn_ca (goodIn_r _ [8, 9, 10, 11, 12, 13, 14, 7, 15, 16, 17, 18, 19, 20, 21, 22, 23, 24, 25, 26, 27, 28, 29, 30, 31, 32, 33, 34, 35, 299, 300, 301, 302, 303, 304, 305, 306, 307, 308, 309, 310, 311, 312, 313, 314, 315, 316] (by decide +kernel) (by decide +kernel)) (goodIn_sub (fun _ h => List.mem_cons_of_mem _ (List.mem_append_left _ (List.mem_append_left _ (List.mem_append_right _ h)))) (by decide +kernel))
set_option maxRecDepth 20000 in
theorem gL_does_X5_addGate : GoodIn wsL_does (wsV RL 8 RX5 yX5_addGate wsX5_addGate) := goodIn_app (goodIn_of _ (by decide +kernel)) ggL_does_X5_addGate
set_option maxRecDepth 20000 in
theorem ggL_does_X5_addWay : GoodIn wsL_does wsX5_addWay := goodIn_ca (goodIn_ca (goodIn_ca (goodIn_r _ [39, 40, 41, 11, 42, 43, 44, 7, 45, 46, 47, 48, 49, 50, 27, 51, 29, 12, 13, 14, 15, 9, 10, 16, 17, 18, 19, 20, 21, 22, 23, 52, 53, 54, 55, 56, 57, 58, 59, 60, 61, 62, 63, 64, 34, 65, 66, 67, 68, 69, 70, 71, 72, 73, 74, 75, 76, 77, 299, 300, 301, 302, 303, 304, 305, 306, 307, 308, 313, 314, 315, 316, 309, 310, 311, 312] (by decide +kernel) (by decide +kernel)) (goodIn_sub (fun _ h => List.mem_cons_of_mem _ (List.mem_append_left _ (List.mem_append_right _ h))) (by decide +kernel))) (goodIn_sub (fun _ h => List.mem_cons_of_mem _ (List.mem_append_right _ h)) (by decide +kernel))) (goodIn_sub (fun _ h => List.mem_cons_of_mem _ (List.mem_append_left _ (List.mem_append_left _ (List.mem_append_right _ h)))) (by decide +kernel))
set_option maxRecDepth 20000 in
theorem gL_does_X5_addWay : GoodIn wsL_does (wsV RL 14 RX5 yX5_addWay wsX5_addWay) := goodIn_app (goodIn_of _ (by decide +kernel)) ggL_does_X5_addWay
set_option maxRecDepth 20000 in
theorem ggL_does_X5_addKart : GoodIn wsL_does wsX5_addKart := goodIn_ca (goodIn_ca (goodIn_r _ [81, 9, 10, 82, 83, 84, 85, 86, 7, 87, 46, 47, 12, 13, 14, 15, 16, 17, 18, 19, 20, 21, 22, 23, 299, 300, 301, 302, 303, 304, 305, 306, 307, 308, 309, 310, 311, 312] (by decide +kernel) (by decide +kernel)) (goodIn_sub (fun _ h => List.mem_cons_of_mem _ (List.mem_append_left _ (List.mem_append_left _ (List.mem_append_right _ h)))) (by decide +kernel))) (goodIn_sub (fun _ h => List.mem_cons_of_mem _ (List.mem_append_right _ h)) (by decide +kernel))
set_option maxRecDepth 20000 in
theorem gL_does_X5_addKart : GoodIn wsL_does (wsV RL 18 RX5 yX5_addKart wsX5_addKart) := goodIn_app (goodIn_of _ (by decide +kernel)) ggL_does_X5_addKart
set_option maxRecDepth 20000 in
theorem ggL_does_X5_start : GoodIn wsL_does wsX5_start := goodIn_ca (goodIn_ca (goodIn_r _ [91, 40, 41, 9, 10, 16, 17, 82, 11, 92, 93, 94, 18, 19, 20, 21, 22, 23, 95, 96, 97, 27, 98, 29, 99, 100, 101, 102, 73, 74, 75, 76, 77, 53, 54, 55, 56, 103, 104, 105, 106, 107, 108, 109, 110, 111, 112, 113, 114, 115, 116, 117, 118, 119, 120, 121, 122, 123, 124, 125, 126, 127, 128, 129, 299, 300, 301, 302, 303, 304, 305, 306, 307, 308, 309, 310, 311, 312, 313, 314, 315, 316, 317, 318, 319, 320, 321, 322, 323, 324, 325, 326, 327, 328, 329, 330, 331, 332, 333, 334] (by decide +kernel) (by decide +kernel)) (goodIn_sub (fun _ h => List.mem_cons_of_mem _ (List.mem_append_left _ (List.mem_append_right _ h))) (by decide +kernel))) (goodIn_sub (fun _ h => List.mem_cons_of_mem _ (List.mem_append_left _ (List.mem_append_left _ (List.mem_append_right _ h)))) (by decide +kernel))
set_option maxRecDepth 20000 in
theorem gL_does_X5_start : GoodIn wsL_does (wsV RL 22 RX5 yX5_start wsX5_start) := goodIn_app (goodIn_of _ (by decide +kernel)) ggL_does_X5_start
set_option maxRecDepth 20000 in
theorem ggL_does_X5_pass : GoodIn wsL_does wsX5_pass := goodIn_ca (goodIn_ca (goodIn_r _ [133, 9, 10, 94, 134, 11, 92, 93, 135, 136, 137, 7, 138, 46, 47, 82, 42, 43, 44, 45, 48, 49, 50, 27, 51, 29, 139, 140, 141, 142, 143, 144, 145, 146, 16, 147, 148, 149, 106, 150, 112, 109, 151, 152, 153, 125, 154, 129, 155, 156, 71, 157, 158, 159, 160, 161, 111, 162, 163, 164, 165, 73, 74, 75, 76, 77, 53, 54, 55, 56, 166, 167, 168, 119, 169, 121, 170, 171, 172, 173, 174, 175, 176, 177, 178, 179, 110, 115, 180, 181, 182, 183, 184, 185, 113, 114, 186, 187, 188, 189, 190, 191, 192, 193, 194, 195, 196, 197, 35, 198, 199, 200, 201, 202, 203, 204, 205, 206, 299, 300, 301, 302, 303, 304, 305, 306, 307, 308, 313, 314, 315, 316, 317, 318, 319, 320, 321, 322, 323, 324, 325, 326, 327, 331, 332, 333, 334, 328, 329, 330] (by decide +kernel) (by decide +kernel)) (goodIn_sub (fun _ h => List.mem_cons_of_mem _ (List.mem_append_left _ (List.mem_append_left _ (List.mem_append_right _ h)))) (by decide +kernel))) (goodIn_sub (fun _ h => List.mem_cons_of_mem _ (List.mem_append_right _ h)) (by decide +kernel))
set_option maxRecDepth 20000 in
theorem gL_does_X5_pass : GoodIn wsL_does (wsV RL 25 RX5 yX5_pass wsX5_pass) := goodIn_app (goodIn_of _ (by decide +kernel)) ggL_does_X5_pass
set_option maxRecDepth 20000 in
theorem ggL_does_X5_idle : GoodIn wsL_does wsX5_idle := goodIn_ca (goodIn_r _ [210, 40, 41, 134, 299, 300, 301, 302, 303, 304, 305, 306, 307, 308] (by decide +kernel) (by decide +kernel)) (goodIn_sub (fun _ h => List.mem_cons_of_mem _ (List.mem_append_left _ (List.mem_append_right _ h))) (by decide +kernel))
set_option maxRecDepth 20000 in
theorem gL_does_X5_idle : GoodIn wsL_does (wsV RL 29 RX5 yX5_idle wsX5_idle) := goodIn_app (goodIn_of _ (by decide +kernel)) ggL_does_X5_idle
set_option maxRecDepth 20000 in
theorem ggL_does_X5_draw : GoodIn wsL_does wsX5_draw := goodIn_ca (goodIn_ca (goodIn_r _ [214, 9, 10, 94, 92, 135, 136, 137, 7, 138, 46, 47, 82, 139, 140, 141, 142, 143, 144, 145, 146, 16, 147, 148, 149, 106, 150, 112, 109, 215, 216, 217, 125, 218, 127, 219, 220, 221, 222, 108, 223, 224, 225, 226, 115, 180, 111, 198, 227, 228, 229, 230, 113, 231, 232, 233, 27, 234, 34, 235, 236, 237, 238, 239, 240, 241, 242, 243, 244, 245, 246, 299, 300, 301, 302, 303, 304, 305, 306, 307, 308, 317, 318, 319, 320, 321, 322, 323, 324, 325, 326, 327, 331, 332, 333, 334, 313, 314, 315, 316] (by decide +kernel) (by decide +kernel)) (goodIn_sub (fun _ h => List.mem_cons_of_mem _ (List.mem_append_left _ (List.mem_append_left _ (List.mem_append_right _ h)))) (by decide +kernel))) (goodIn_sub (fun _ h => List.mem_cons_of_mem _ (List.mem_append_right _ h)) (by decide +kernel))
set_option maxRecDepth 20000 in
theorem gL_does_X5_draw : GoodIn wsL_does (wsV RL 32 RX5 yX5_draw wsX5_draw) := goodIn_app (goodIn_of _ (by decide +kernel)) ggL_does_X5_draw
set_option maxRecDepth 20000 in
theorem ggL_does_X5_use : GoodIn wsL_does wsX5_use := goodIn_ca (goodIn_ca (goodIn_r _ [250, 9, 10, 94, 92, 134, 135, 136, 137, 7, 138, 46, 47, 82, 139, 140, 141, 142, 143, 144, 145, 146, 16, 147, 148, 149, 106, 150, 112, 109, 215, 216, 217, 125, 218, 127, 251, 252, 253, 254, 219, 220, 221, 222, 108, 223, 224, 225, 226, 115, 180, 111, 198, 227, 228, 229, 230, 113, 231, 232, 233, 27, 234, 34, 255, 256, 257, 258, 129, 259, 260, 261, 262, 128, 263, 264, 265, 266, 267, 268, 269, 270, 155, 156, 71, 157, 299, 300, 301, 302, 303, 304, 305, 306, 307, 308, 317, 318, 319, 320, 321, 322, 323, 324, 325, 326, 327, 331, 332, 333, 334, 313, 314, 315, 316] (by decide +kernel) (by decide +kernel)) (goodIn_sub (fun _ h => List.mem_cons_of_mem _ (List.mem_append_left _ (List.mem_append_left _ (List.mem_append_right _ h)))) (by decide +kernel))) (goodIn_sub (fun _ h => List.mem_cons_of_mem _ (List.mem_append_right _ h)) (by decide +kernel))
set_option maxRecDepth 20000 in
theorem gL_does_X5_use : GoodIn wsL_does (wsV RL 35 RX5 yX5_use wsX5_use) := goodIn_app (goodIn_of _ (by decide +kernel)) ggL_does_X5_use
set_option maxRecDepth 20000 in
theorem ggL_does_X5_end : GoodIn wsL_does wsX5_end := goodIn_ca (goodIn_r _ [274, 82, 92, 17, 16, 143, 144, 145, 7, 146, 9, 10, 219, 220, 221, 106, 222, 108, 223, 224, 225, 226, 115, 180, 111, 198, 148, 149, 150, 112, 109, 227, 228, 229, 230, 113, 231, 232, 233, 27, 234, 34, 275, 276, 277, 278, 279, 280, 281, 21, 282, 283, 23, 284, 285, 286, 287, 288, 289, 299, 300, 301, 302, 303, 304, 305, 306, 307, 308, 317, 318, 319, 320, 321, 322, 323, 324, 325, 326, 327, 313, 314, 315, 316, 309, 310, 311, 312] (by decide +kernel) (by decide +kernel)) (goodIn_sub (fun _ h => List.mem_cons_of_mem _ (List.mem_append_left _ (List.mem_append_left _ (List.mem_append_right _ h)))) (by decide +kernel))
set_option maxRecDepth 20000 in
theorem gL_does_X5_end : GoodIn wsL_does (wsV RL 38 RX5 yX5_end wsX5_end) := goodIn_app (goodIn_of _ (by decide +kernel)) ggL_does_X5_end
set_option maxRecDepth 20000 in
theorem ggL_does_X5_setDropped : GoodIn wsL_does wsX5_setDropped := goodIn_ca (goodIn_r _ [293, 40, 41, 17, 294, 295, 296, 21, 297, 298, 299, 300, 301, 302, 303, 304, 305, 306, 307, 308, 309, 310, 311, 312] (by decide +kernel) (by decide +kernel)) (goodIn_sub (fun _ h => List.mem_cons_of_mem _ (List.mem_append_left _ (List.mem_append_right _ h))) (by decide +kernel))
set_option maxRecDepth 20000 in
theorem gL_does_X5_setDropped : GoodIn wsL_does (wsV RL 42 RX5 yX5_setDropped wsX5_setDropped) := goodIn_app (goodIn_of _ (by decide +kernel)) ggL_does_X5_setDropped
theorem dL_does_0 : decode cL_does 0 = .ok (.iload_n 1, 1) := by decide +kernel
theorem dL_does_1 : decode cL_does 1 = .ok (.ifCond .ne 20, 3) := by decide +kernel
theorem dL_does_4 : decode cL_does 4 = .ok (.aload_n 0, 1) := by decide +kernel
theorem dL_does_5 : decode cL_does 5 = .ok (.iload_n 2, 1) := by decide +kernel
theorem dL_does_6 : decode cL_does 6 = .ok (.iconst 1, 1) := by decide +kernel
theorem dL_does_7 : decode cL_does 7 = .ok (.if_icmp .ne 7, 3) := by decide +kernel
theorem dL_does_10 : decode cL_does 10 = .ok (.iconst 1, 1) := by decide +kernel
theorem dL_does_11 : decode cL_does 11 = .ok (.goto 4, 3) := by decide +kernel
theorem dL_does_14 : decode cL_does 14 = .ok (.iconst 0, 1) := by decide +kernel
theorem dL_does_15 : decode cL_does 15 = .ok (.invokevirtual 8, 3) := by decide +kernel
theorem dL_does_18 : decode cL_does 18 = .ok (.goto 118, 3) := by decide +kernel
theorem dL_does_21 : decode cL_does 21 = .ok (.iload_n 1, 1) := by decide +kernel
theorem dL_does_22 : decode cL_does 22 = .ok (.iconst 1, 1) := by decide +kernel
theorem dL_does_23 : decode cL_does 23 = .ok (.if_icmp .ne 14, 3) := by decide +kernel
theorem dL_does_26 : decode cL_does 26 = .ok (.aload_n 0, 1) := by decide +kernel
theorem dL_does_27 : decode cL_does 27 = .ok (.iload_n 2, 1) := by decide +kernel
theorem dL_does_28 : decode cL_does 28 = .ok (.iload_n 3, 1) := by decide +kernel
theorem dL_does_29 : decode cL_does 29 = .ok (.iload 4, 2) := by decide +kernel
theorem dL_does_31 : decode cL_does 31 = .ok (.invokevirtual 14, 3) := by decide +kernel
theorem dL_does_34 : decode cL_does 34 = .ok (.goto 102, 3) := by decide +kernel
theorem dL_does_37 : decode cL_does 37 = .ok (.iload_n 1, 1) := by decide +kernel
theorem dL_does_38 : decode cL_does 38 = .ok (.iconst 2, 1) := by decide +kernel
theorem dL_does_39 : decode cL_does 39 = .ok (.if_icmp .ne 11, 3) := by decide +kernel
theorem dL_does_42 : decode cL_does 42 = .ok (.aload_n 0, 1) := by decide +kernel
theorem dL_does_43 : decode cL_does 43 = .ok (.iload_n 2, 1) := by decide +kernel
theorem dL_does_44 : decode cL_does 44 = .ok (.invokevirtual 18, 3) := by decide +kernel
theorem dL_does_47 : decode cL_does 47 = .ok (.goto 89, 3) := by decide +kernel
theorem dL_does_50 : decode cL_does 50 = .ok (.iload_n 1, 1) := by decide +kernel
theorem dL_does_51 : decode cL_does 51 = .ok (.iconst 3, 1) := by decide +kernel
theorem dL_does_52 : decode cL_does 52 = .ok (.if_icmp .ne 11, 3) := by decide +kernel
theorem dL_does_55 : decode cL_does 55 = .ok (.aload_n 0, 1) := by decide +kernel
theorem dL_does_56 : decode cL_does 56 = .ok (.iload_n 2, 1) := by decide +kernel
theorem dL_does_57 : decode cL_does 57 = .ok (.invokevirtual 22, 3) := by decide +kernel
theorem dL_does_60 : decode cL_does 60 = .ok (.goto 76, 3) := by decide +kernel
theorem dL_does_63 : decode cL_does 63 = .ok (.iload_n 1, 1) := by decide +kernel
theorem dL_does_64 : decode cL_does 64 = .ok (.iconst 4, 1) := by decide +kernel
theorem dL_does_65 : decode cL_does 65 = .ok (.if_icmp .ne 12, 3) := by decide +kernel
theorem dL_does_68 : decode cL_does 68 = .ok (.aload_n 0, 1) := by decide +kernel
theorem dL_does_69 : decode cL_does 69 = .ok (.iload_n 2, 1) := by decide +kernel
theorem dL_does_70 : decode cL_does 70 = .ok (.iload_n 3, 1) := by decide +kernel
theorem dL_does_71 : decode cL_does 71 = .ok (.invokevirtual 25, 3) := by decide +kernel
theorem dL_does_74 : decode cL_does 74 = .ok (.goto 62, 3) := by decide +kernel
theorem dL_does_77 : decode cL_does 77 = .ok (.iload_n 1, 1) := by decide +kernel
theorem dL_does_78 : decode cL_does 78 = .ok (.iconst 5, 1) := by decide +kernel
theorem dL_does_79 : decode cL_does 79 = .ok (.if_icmp .ne 11, 3) := by decide +kernel
theorem dL_does_82 : decode cL_does 82 = .ok (.aload_n 0, 1) := by decide +kernel
theorem dL_does_83 : decode cL_does 83 = .ok (.iload_n 2, 1) := by decide +kernel
theorem dL_does_84 : decode cL_does 84 = .ok (.invokevirtual 29, 3) := by decide +kernel
theorem dL_does_87 : decode cL_does 87 = .ok (.goto 49, 3) := by decide +kernel
theorem dL_does_90 : decode cL_does 90 = .ok (.iload_n 1, 1) := by decide +kernel
theorem dL_does_91 : decode cL_does 91 = .ok (.bipush 6, 2) := by decide +kernel
theorem dL_does_93 : decode cL_does 93 = .ok (.if_icmp .ne 11, 3) := by decide +kernel
theorem dL_does_96 : decode cL_does 96 = .ok (.aload_n 0, 1) := by decide +kernel
theorem dL_does_97 : decode cL_does 97 = .ok (.iload_n 2, 1) := by decide +kernel
theorem dL_does_98 : decode cL_does 98 = .ok (.invokevirtual 32, 3) := by decide +kernel
theorem dL_does_101 : decode cL_does 101 = .ok (.goto 35, 3) := by decide +kernel
theorem dL_does_104 : decode cL_does 104 = .ok (.iload_n 1, 1) := by decide +kernel
theorem dL_does_105 : decode cL_does 105 = .ok (.bipush 7, 2) := by decide +kernel
theorem dL_does_107 : decode cL_does 107 = .ok (.if_icmp .ne 11, 3) := by decide +kernel
theorem dL_does_110 : decode cL_does 110 = .ok (.aload_n 0, 1) := by decide +kernel
theorem dL_does_111 : decode cL_does 111 = .ok (.iload_n 2, 1) := by decide +kernel
theorem dL_does_112 : decode cL_does 112 = .ok (.invokevirtual 35, 3) := by decide +kernel
theorem dL_does_115 : decode cL_does 115 = .ok (.goto 21, 3) := by decide +kernel
theorem dL_does_118 : decode cL_does 118 = .ok (.iload_n 1, 1) := by decide +kernel
theorem dL_does_119 : decode cL_does 119 = .ok (.bipush 8, 2) := by decide +kernel
theorem dL_does_121 : decode cL_does 121 = .ok (.if_icmp .ne 10, 3) := by decide +kernel
theorem dL_does_124 : decode cL_does 124 = .ok (.aload_n 0, 1) := by decide +kernel
theorem dL_does_125 : decode cL_does 125 = .ok (.invokevirtual 38, 3) := by decide +kernel
theorem dL_does_128 : decode cL_does 128 = .ok (.goto 8, 3) := by decide +kernel
theorem dL_does_131 : decode cL_does 131 = .ok (.aload_n 0, 1) := by decide +kernel
theorem dL_does_132 : decode cL_does 132 = .ok (.iload_n 2, 1) := by decide +kernel
theorem dL_does_133 : decode cL_does 133 = .ok (.invokevirtual 42, 3) := by decide +kernel
theorem dL_does_136 : decode cL_does 136 = .ok (.ireturn, 1) := by decide +kernel
theorem dL_does_137 : decode cL_does 137 = .ok (.astore 5, 2) := by decide +kernel
theorem dL_does_139 : decode cL_does 139 = .ok (.bipush (-30), 2) := by decide +kernel
theorem dL_does_141 : decode cL_does 141 = .ok (.ireturn, 1) := by decide +kernel
theorem dL_does_142 : decode cL_does 142 = .ok (.astore 5, 2) := by decide +kernel
theorem dL_does_144 : decode cL_does 144 = .ok (.bipush (-20), 2) := by decide +kernel
theorem dL_does_146 : decode cL_does 146 = .ok (.ireturn, 1) := by decide +kernel
theorem dL_does_147 : decode cL_does 147 = .ok (.astore 5, 2) := by decide +kernel
theorem dL_does_149 : decode cL_does 149 = .ok (.bipush (-10), 2) := by decide +kernel
theorem dL_does_151 : decode cL_does 151 = .ok (.ireturn, 1) := by decide +kernel
set_option maxRecDepth 20000 in
theorem ggL_asks_X5_rest : GoodIn wsL_asks wsX5_rest := goodIn_ca (goodIn_r _ [7, 8, 9, 10, 11, 6, 12, 13, 14, 15, 16, 17, 18, 19, 20, 21, 22, 23, 24, 25, 273, 274, 275, 276, 277, 278, 279, 280, 281, 282, 283, 284, 285, 286] (by decide +kernel) (by decide +kernel)) (goodIn_sub (fun _ h => List.mem_cons_of_mem _ (List.mem_append_left _ (List.mem_append_right _ h))) (by decide +kernel))
set_option maxRecDepth 20000 in
theorem gL_asks_X5_rest : GoodIn wsL_asks (wsV RL 51 RX5 yX5_rest wsX5_rest) := goodIn_app (goodIn_of _ (by decide +kernel)) ggL_asks_X5_rest
set_option maxRecDepth 20000 in
theorem ggL_asks_X5_gateOf : GoodIn wsL_asks wsX5_gateOf := goodIn_ca (goodIn_ca (goodIn_r _ [29, 30, 31, 32, 33, 6, 34, 13, 14, 35, 36, 37, 38, 39, 40, 41, 42, 43, 44, 45, 46, 47, 48, 273, 274, 275, 276, 277, 278, 279, 280, 281, 282, 287, 288, 289, 290, 291, 292, 293, 294, 295, 296, 297] (by decide +kernel) (by decide +kernel)) (goodIn_sub (fun _ h => List.mem_cons_of_mem _ (List.mem_append_left _ (List.mem_append_right _ h))) (by decide +kernel))) (goodIn_sub (fun _ h => List.mem_cons_of_mem _ (List.mem_append_right _ h)) (by decide +kernel))
set_option maxRecDepth 20000 in
theorem gL_asks_X5_gateOf : GoodIn wsL_asks (wsV RL 54 RX5 yX5_gateOf wsX5_gateOf) := goodIn_app (goodIn_of _ (by decide +kernel)) ggL_asks_X5_gateOf
set_option maxRecDepth 20000 in
theorem ggL_asks_X5_lapsOf : GoodIn wsL_asks wsX5_lapsOf := goodIn_ca (goodIn_ca (goodIn_r _ [52, 30, 31, 32, 33, 6, 34, 13, 14, 35, 36, 37, 38, 39, 40, 41, 42, 53, 54, 55, 46, 56, 57, 58, 273, 274, 275, 276, 277, 278, 279, 280, 281, 282, 287, 288, 289, 290, 291, 292, 293, 294, 295, 296, 297] (by decide +kernel) (by decide +kernel)) (goodIn_sub (fun _ h => List.mem_cons_of_mem _ (List.mem_append_left _ (List.mem_append_right _ h))) (by decide +kernel))) (goodIn_sub (fun _ h => List.mem_cons_of_mem _ (List.mem_append_right _ h)) (by decide +kernel))
set_option maxRecDepth 20000 in
theorem gL_asks_X5_lapsOf : GoodIn wsL_asks (wsV RL 57 RX5 yX5_lapsOf wsX5_lapsOf) := goodIn_app (goodIn_of _ (by decide +kernel)) ggL_asks_X5_lapsOf
set_option maxRecDepth 20000 in
theorem ggL_asks_X5_missing : GoodIn wsL_asks wsX5_missing := goodIn_ca (goodIn_ca (goodIn_r _ [62, 30, 31, 32, 33, 6, 34, 13, 14, 35, 36, 37, 38, 39, 40, 41, 42, 63, 64, 65, 46, 66, 67, 68, 69, 70, 71, 18, 72, 73, 273, 274, 275, 276, 277, 278, 279, 280, 281, 282, 287, 288, 289, 290, 291, 292, 293, 294, 295, 296, 297, 283, 284, 285, 286] (by decide +kernel) (by decide +kernel)) (goodIn_sub (fun _ h => List.mem_cons_of_mem _ (List.mem_append_left _ (List.mem_append_right _ h))) (by decide +kernel))) (goodIn_sub (fun _ h => List.mem_cons_of_mem _ (List.mem_append_right _ h)) (by decide +kernel))
set_option maxRecDepth 20000 in
theorem gL_asks_X5_missing : GoodIn wsL_asks (wsV RL 60 RX5 yX5_missing wsX5_missing) := goodIn_app (goodIn_of _ (by decide +kernel)) ggL_asks_X5_missing
set_option maxRecDepth 20000 in
theorem ggL_asks_X5_rank : GoodIn wsL_asks wsX5_rank := goodIn_ca (goodIn_ca (goodIn_r _ [77, 30, 31, 32, 33, 6, 34, 13, 14, 35, 36, 37, 38, 39, 40, 41, 42, 78, 79, 80, 46, 81, 82, 83, 84, 85, 86, 87, 67, 48, 88, 89, 90, 91, 57, 92, 93, 54, 55, 56, 58, 94, 22, 23, 18, 24, 25, 273, 274, 275, 276, 277, 278, 279, 280, 281, 282, 287, 288, 289, 290, 291, 292, 293, 294, 295, 296, 297, 283, 284, 285, 286] (by decide +kernel) (by decide +kernel)) (goodIn_sub (fun _ h => List.mem_cons_of_mem _ (List.mem_append_left _ (List.mem_append_right _ h))) (by decide +kernel))) (goodIn_sub (fun _ h => List.mem_cons_of_mem _ (List.mem_append_right _ h)) (by decide +kernel))
set_option maxRecDepth 20000 in
theorem gL_asks_X5_rank : GoodIn wsL_asks (wsV RL 63 RX5 yX5_rank wsX5_rank) := goodIn_app (goodIn_of _ (by decide +kernel)) ggL_asks_X5_rank
set_option maxRecDepth 20000 in
theorem ggL_asks_X5_rankByRecord : GoodIn wsL_asks wsX5_rankByRecord := goodIn_ca (goodIn_ca (goodIn_r _ [98, 99, 35, 30, 100, 31, 32, 33, 6, 34, 13, 14, 36, 37, 38, 39, 40, 41, 42, 101, 102, 103, 46, 104, 92, 105, 106, 107, 108, 82, 109, 48, 57, 58, 68, 87, 110, 111, 112, 113, 114, 115, 116, 117, 118, 119, 120, 121, 122, 123, 124, 125, 126, 127, 128, 129, 67, 130, 131, 132, 18, 133, 134, 135, 136, 137, 138, 139, 140, 141, 142, 143, 144, 145, 146, 147, 64, 65, 66, 69, 70, 71, 72, 73, 88, 89, 90, 91, 148, 149, 150, 151, 152, 153, 154, 155, 156, 157, 158, 159, 160, 161, 162, 163, 164, 165, 83, 84, 85, 86, 93, 54, 55, 56, 94, 22, 23, 24, 25, 273, 274, 275, 276, 277, 278, 279, 280, 281, 282, 287, 288, 289, 290, 291, 292, 293, 294, 295, 296, 297, 298, 299, 300, 283, 284, 285, 286] (by decide +kernel) (by decide +kernel)) (goodIn_sub (fun _ h => List.mem_cons_of_mem _ (List.mem_append_left _ (List.mem_append_right _ h))) (by decide +kernel))) (goodIn_sub (fun _ h => List.mem_cons_of_mem _ (List.mem_append_right _ h)) (by decide +kernel))
set_option maxRecDepth 20000 in
theorem gL_asks_X5_rankByRecord : GoodIn wsL_asks (wsV RL 66 RX5 yX5_rankByRecord wsX5_rankByRecord) := goodIn_app (goodIn_of _ (by decide +kernel)) ggL_asks_X5_rankByRecord
set_option maxRecDepth 20000 in
theorem ggL_asks_X5_catchUp : GoodIn wsL_asks wsX5_catchUp := goodIn_ca (goodIn_ca (goodIn_r _ [169, 30, 170, 171, 172, 173, 31, 32, 33, 6, 34, 13, 14, 35, 36, 37, 38, 39, 40, 41, 42, 174, 175, 176, 46, 177, 82, 178, 179, 180, 181, 79, 80, 81, 83, 84, 85, 86, 87, 67, 48, 88, 89, 90, 91, 57, 92, 93, 54, 55, 56, 58, 94, 22, 23, 18, 24, 25, 182, 183, 184, 185, 273, 274, 275, 276, 277, 278, 279, 280, 281, 282, 287, 288, 289, 290, 291, 292, 293, 294, 295, 296, 297, 283, 284, 285, 286] (by decide +kernel) (by decide +kernel)) (goodIn_sub (fun _ h => List.mem_cons_of_mem _ (List.mem_append_left _ (List.mem_append_right _ h))) (by decide +kernel))) (goodIn_sub (fun _ h => List.mem_cons_of_mem _ (List.mem_append_right _ h)) (by decide +kernel))
set_option maxRecDepth 20000 in
theorem gL_asks_X5_catchUp : GoodIn wsL_asks (wsV RL 69 RX5 yX5_catchUp wsX5_catchUp) := goodIn_app (goodIn_of _ (by decide +kernel)) ggL_asks_X5_catchUp
set_option maxRecDepth 20000 in
theorem ggL_asks_X5_itemOf : GoodIn wsL_asks wsX5_itemOf := goodIn_ca (goodIn_r _ [189, 42, 190, 31, 32, 33, 6, 34, 13, 14, 35, 191, 192, 193, 194, 195, 196, 273, 274, 275, 276, 277, 278, 279, 280, 281, 282, 301, 302, 303, 304] (by decide +kernel) (by decide +kernel)) (goodIn_sub (fun _ h => List.mem_cons_of_mem _ (List.mem_append_left _ (List.mem_append_right _ h))) (by decide +kernel))
set_option maxRecDepth 20000 in
theorem gL_asks_X5_itemOf : GoodIn wsL_asks (wsV RL 72 RX5 yX5_itemOf wsX5_itemOf) := goodIn_app (goodIn_of _ (by decide +kernel)) ggL_asks_X5_itemOf
set_option maxRecDepth 20000 in
theorem ggL_asks_X5_stunned : GoodIn wsL_asks wsX5_stunned := goodIn_ca (goodIn_r _ [200, 42, 190, 201, 31, 32, 33, 6, 34, 13, 14, 35, 202, 203, 204, 194, 205, 206, 207, 179, 172, 180, 273, 274, 275, 276, 277, 278, 279, 280, 281, 282, 301, 302, 303, 304] (by decide +kernel) (by decide +kernel)) (goodIn_sub (fun _ h => List.mem_cons_of_mem _ (List.mem_append_left _ (List.mem_append_right _ h))) (by decide +kernel))
set_option maxRecDepth 20000 in
theorem gL_asks_X5_stunned : GoodIn wsL_asks (wsV RL 75 RX5 yX5_stunned wsX5_stunned) := goodIn_app (goodIn_of _ (by decide +kernel)) ggL_asks_X5_stunned
set_option maxRecDepth 20000 in
theorem ggL_asks_X5_place : GoodIn wsL_asks wsX5_place := goodIn_ca (goodIn_r _ [211, 13, 14, 212, 213, 214, 215, 216, 217, 218, 31, 32, 33, 6, 34, 35, 219, 220, 221, 222, 223, 273, 274, 275, 276, 277, 278, 279, 280, 281, 282, 305, 306, 307, 308] (by decide +kernel) (by decide +kernel)) (goodIn_sub (fun _ h => List.mem_cons_of_mem _ (List.mem_append_left _ (List.mem_append_right _ h))) (by decide +kernel))
set_option maxRecDepth 20000 in
theorem gL_asks_X5_place : GoodIn wsL_asks (wsV RL 78 RX5 yX5_place wsX5_place) := goodIn_app (goodIn_of _ (by decide +kernel)) ggL_asks_X5_place
set_option maxRecDepth 20000 in
theorem ggL_asks_X5_points : GoodIn wsL_asks wsX5_points := goodIn_ca (goodIn_r _ [227, 212, 31, 32, 33, 6, 34, 13, 14, 35, 228, 229, 230, 216, 231, 218, 232, 233, 234, 235, 236, 237, 273, 274, 275, 276, 277, 278, 279, 280, 281, 282, 305, 306, 307, 308] (by decide +kernel) (by decide +kernel)) (goodIn_sub (fun _ h => List.mem_cons_of_mem _ (List.mem_append_left _ (List.mem_append_right _ h))) (by decide +kernel))
set_option maxRecDepth 20000 in
theorem gL_asks_X5_points : GoodIn wsL_asks (wsV RL 81 RX5 yX5_points wsX5_points) := goodIn_app (goodIn_of _ (by decide +kernel)) ggL_asks_X5_points
set_option maxRecDepth 20000 in
theorem ggL_asks_X5_teamPoints : GoodIn wsL_asks wsX5_teamPoints := goodIn_ca (goodIn_r _ [241, 35, 242, 212, 243, 244, 245, 6, 246, 13, 14, 228, 229, 230, 216, 231, 218, 232, 233, 234, 235, 236, 237, 273, 274, 275, 276, 277, 278, 279, 280, 281, 282, 305, 306, 307, 308] (by decide +kernel) (by decide +kernel)) (goodIn_sub (fun _ h => List.mem_cons_of_mem _ (List.mem_append_left _ (List.mem_append_right _ h))) (by decide +kernel))
set_option maxRecDepth 20000 in
theorem gL_asks_X5_teamPoints : GoodIn wsL_asks (wsV RL 84 RX5 yX5_teamPoints wsX5_teamPoints) := goodIn_app (goodIn_of _ (by decide +kernel)) ggL_asks_X5_teamPoints
set_option maxRecDepth 20000 in
theorem ggL_asks_X5_standing : GoodIn wsL_asks wsX5_standing := goodIn_ca (goodIn_r _ [250, 212, 35, 31, 32, 33, 6, 34, 13, 14, 251, 252, 253, 216, 254, 255, 256, 257, 258, 259, 229, 230, 231, 218, 232, 233, 234, 235, 236, 237, 260, 261, 262, 263, 223, 273, 274, 275, 276, 277, 278, 279, 280, 281, 282, 305, 306, 307, 308] (by decide +kernel) (by decide +kernel)) (goodIn_sub (fun _ h => List.mem_cons_of_mem _ (List.mem_append_left _ (List.mem_append_right _ h))) (by decide +kernel))
set_option maxRecDepth 20000 in
theorem gL_asks_X5_standing : GoodIn wsL_asks (wsV RL 87 RX5 yX5_standing wsX5_standing) := goodIn_app (goodIn_of _ (by decide +kernel)) ggL_asks_X5_standing
set_option maxRecDepth 20000 in
theorem ggL_asks_X5_textAt : GoodIn wsL_asks wsX5_textAt := goodIn_ca (goodIn_r _ [267, 13, 14, 35, 212, 268, 269, 270, 216, 271, 272, 252, 253, 254, 255, 256, 257, 258, 259, 229, 230, 231, 218, 232, 233, 234, 235, 236, 237, 260, 261, 262, 263, 223, 273, 274, 275, 276, 277, 278, 279, 280, 281, 282, 305, 306, 307, 308] (by decide +kernel) (by decide +kernel)) (goodIn_sub (fun _ h => List.mem_cons_of_mem _ (List.mem_append_left _ (List.mem_append_right _ h))) (by decide +kernel))
set_option maxRecDepth 20000 in
theorem gL_asks_X5_textAt : GoodIn wsL_asks (wsV RL 90 RX5 yX5_textAt wsX5_textAt) := goodIn_app (goodIn_of _ (by decide +kernel)) ggL_asks_X5_textAt
theorem dL_asks_0 : decode cL_asks 0 = .ok (.iload_n 1, 1) := by decide +kernel
theorem dL_asks_1 : decode cL_asks 1 = .ok (.ifCond .ne 11, 3) := by decide +kernel
theorem dL_asks_4 : decode cL_asks 4 = .ok (.aload_n 0, 1) := by decide +kernel
theorem dL_asks_5 : decode cL_asks 5 = .ok (.iload_n 2, 1) := by decide +kernel
theorem dL_asks_6 : decode cL_asks 6 = .ok (.invokevirtual 51, 3) := by decide +kernel
theorem dL_asks_9 : decode cL_asks 9 = .ok (.goto 172, 3) := by decide +kernel
theorem dL_asks_12 : decode cL_asks 12 = .ok (.iload_n 1, 1) := by decide +kernel
theorem dL_asks_13 : decode cL_asks 13 = .ok (.iconst 1, 1) := by decide +kernel
theorem dL_asks_14 : decode cL_asks 14 = .ok (.if_icmp .ne 11, 3) := by decide +kernel
theorem dL_asks_17 : decode cL_asks 17 = .ok (.aload_n 0, 1) := by decide +kernel
theorem dL_asks_18 : decode cL_asks 18 = .ok (.iload_n 2, 1) := by decide +kernel
theorem dL_asks_19 : decode cL_asks 19 = .ok (.invokevirtual 54, 3) := by decide +kernel
theorem dL_asks_22 : decode cL_asks 22 = .ok (.goto 159, 3) := by decide +kernel
theorem dL_asks_25 : decode cL_asks 25 = .ok (.iload_n 1, 1) := by decide +kernel
theorem dL_asks_26 : decode cL_asks 26 = .ok (.iconst 2, 1) := by decide +kernel
theorem dL_asks_27 : decode cL_asks 27 = .ok (.if_icmp .ne 11, 3) := by decide +kernel
theorem dL_asks_30 : decode cL_asks 30 = .ok (.aload_n 0, 1) := by decide +kernel
theorem dL_asks_31 : decode cL_asks 31 = .ok (.iload_n 2, 1) := by decide +kernel
theorem dL_asks_32 : decode cL_asks 32 = .ok (.invokevirtual 57, 3) := by decide +kernel
theorem dL_asks_35 : decode cL_asks 35 = .ok (.goto 146, 3) := by decide +kernel
theorem dL_asks_38 : decode cL_asks 38 = .ok (.iload_n 1, 1) := by decide +kernel
theorem dL_asks_39 : decode cL_asks 39 = .ok (.iconst 3, 1) := by decide +kernel
theorem dL_asks_40 : decode cL_asks 40 = .ok (.if_icmp .ne 11, 3) := by decide +kernel
theorem dL_asks_43 : decode cL_asks 43 = .ok (.aload_n 0, 1) := by decide +kernel
theorem dL_asks_44 : decode cL_asks 44 = .ok (.iload_n 2, 1) := by decide +kernel
theorem dL_asks_45 : decode cL_asks 45 = .ok (.invokevirtual 60, 3) := by decide +kernel
theorem dL_asks_48 : decode cL_asks 48 = .ok (.goto 133, 3) := by decide +kernel
theorem dL_asks_51 : decode cL_asks 51 = .ok (.iload_n 1, 1) := by decide +kernel
theorem dL_asks_52 : decode cL_asks 52 = .ok (.iconst 4, 1) := by decide +kernel
theorem dL_asks_53 : decode cL_asks 53 = .ok (.if_icmp .ne 11, 3) := by decide +kernel
theorem dL_asks_56 : decode cL_asks 56 = .ok (.aload_n 0, 1) := by decide +kernel
theorem dL_asks_57 : decode cL_asks 57 = .ok (.iload_n 2, 1) := by decide +kernel
theorem dL_asks_58 : decode cL_asks 58 = .ok (.invokevirtual 63, 3) := by decide +kernel
theorem dL_asks_61 : decode cL_asks 61 = .ok (.goto 120, 3) := by decide +kernel
theorem dL_asks_64 : decode cL_asks 64 = .ok (.iload_n 1, 1) := by decide +kernel
theorem dL_asks_65 : decode cL_asks 65 = .ok (.iconst 5, 1) := by decide +kernel
theorem dL_asks_66 : decode cL_asks 66 = .ok (.if_icmp .ne 11, 3) := by decide +kernel
theorem dL_asks_69 : decode cL_asks 69 = .ok (.aload_n 0, 1) := by decide +kernel
theorem dL_asks_70 : decode cL_asks 70 = .ok (.iload_n 2, 1) := by decide +kernel
theorem dL_asks_71 : decode cL_asks 71 = .ok (.invokevirtual 66, 3) := by decide +kernel
theorem dL_asks_74 : decode cL_asks 74 = .ok (.goto 107, 3) := by decide +kernel
theorem dL_asks_77 : decode cL_asks 77 = .ok (.iload_n 1, 1) := by decide +kernel
theorem dL_asks_78 : decode cL_asks 78 = .ok (.bipush 6, 2) := by decide +kernel
theorem dL_asks_80 : decode cL_asks 80 = .ok (.if_icmp .ne 11, 3) := by decide +kernel
theorem dL_asks_83 : decode cL_asks 83 = .ok (.aload_n 0, 1) := by decide +kernel
theorem dL_asks_84 : decode cL_asks 84 = .ok (.iload_n 2, 1) := by decide +kernel
theorem dL_asks_85 : decode cL_asks 85 = .ok (.invokevirtual 69, 3) := by decide +kernel
theorem dL_asks_88 : decode cL_asks 88 = .ok (.goto 93, 3) := by decide +kernel
theorem dL_asks_91 : decode cL_asks 91 = .ok (.iload_n 1, 1) := by decide +kernel
theorem dL_asks_92 : decode cL_asks 92 = .ok (.bipush 7, 2) := by decide +kernel
theorem dL_asks_94 : decode cL_asks 94 = .ok (.if_icmp .ne 11, 3) := by decide +kernel
theorem dL_asks_97 : decode cL_asks 97 = .ok (.aload_n 0, 1) := by decide +kernel
theorem dL_asks_98 : decode cL_asks 98 = .ok (.iload_n 2, 1) := by decide +kernel
theorem dL_asks_99 : decode cL_asks 99 = .ok (.invokevirtual 72, 3) := by decide +kernel
theorem dL_asks_102 : decode cL_asks 102 = .ok (.goto 79, 3) := by decide +kernel
theorem dL_asks_105 : decode cL_asks 105 = .ok (.iload_n 1, 1) := by decide +kernel
theorem dL_asks_106 : decode cL_asks 106 = .ok (.bipush 8, 2) := by decide +kernel
theorem dL_asks_108 : decode cL_asks 108 = .ok (.if_icmp .ne 11, 3) := by decide +kernel
theorem dL_asks_111 : decode cL_asks 111 = .ok (.aload_n 0, 1) := by decide +kernel
theorem dL_asks_112 : decode cL_asks 112 = .ok (.iload_n 2, 1) := by decide +kernel
theorem dL_asks_113 : decode cL_asks 113 = .ok (.invokevirtual 75, 3) := by decide +kernel
theorem dL_asks_116 : decode cL_asks 116 = .ok (.goto 65, 3) := by decide +kernel
theorem dL_asks_119 : decode cL_asks 119 = .ok (.iload_n 1, 1) := by decide +kernel
theorem dL_asks_120 : decode cL_asks 120 = .ok (.bipush 9, 2) := by decide +kernel
theorem dL_asks_122 : decode cL_asks 122 = .ok (.if_icmp .ne 12, 3) := by decide +kernel
theorem dL_asks_125 : decode cL_asks 125 = .ok (.aload_n 0, 1) := by decide +kernel
theorem dL_asks_126 : decode cL_asks 126 = .ok (.iload_n 2, 1) := by decide +kernel
theorem dL_asks_127 : decode cL_asks 127 = .ok (.iload_n 3, 1) := by decide +kernel
theorem dL_asks_128 : decode cL_asks 128 = .ok (.invokevirtual 78, 3) := by decide +kernel
theorem dL_asks_131 : decode cL_asks 131 = .ok (.goto 50, 3) := by decide +kernel
theorem dL_asks_134 : decode cL_asks 134 = .ok (.iload_n 1, 1) := by decide +kernel
theorem dL_asks_135 : decode cL_asks 135 = .ok (.bipush 10, 2) := by decide +kernel
theorem dL_asks_137 : decode cL_asks 137 = .ok (.if_icmp .ne 11, 3) := by decide +kernel
theorem dL_asks_140 : decode cL_asks 140 = .ok (.aload_n 0, 1) := by decide +kernel
theorem dL_asks_141 : decode cL_asks 141 = .ok (.iload_n 2, 1) := by decide +kernel
theorem dL_asks_142 : decode cL_asks 142 = .ok (.invokevirtual 81, 3) := by decide +kernel
theorem dL_asks_145 : decode cL_asks 145 = .ok (.goto 36, 3) := by decide +kernel
theorem dL_asks_148 : decode cL_asks 148 = .ok (.iload_n 1, 1) := by decide +kernel
theorem dL_asks_149 : decode cL_asks 149 = .ok (.bipush 11, 2) := by decide +kernel
theorem dL_asks_151 : decode cL_asks 151 = .ok (.if_icmp .ne 11, 3) := by decide +kernel
theorem dL_asks_154 : decode cL_asks 154 = .ok (.aload_n 0, 1) := by decide +kernel
theorem dL_asks_155 : decode cL_asks 155 = .ok (.iload_n 2, 1) := by decide +kernel
theorem dL_asks_156 : decode cL_asks 156 = .ok (.invokevirtual 84, 3) := by decide +kernel
theorem dL_asks_159 : decode cL_asks 159 = .ok (.goto 22, 3) := by decide +kernel
theorem dL_asks_162 : decode cL_asks 162 = .ok (.iload_n 1, 1) := by decide +kernel
theorem dL_asks_163 : decode cL_asks 163 = .ok (.bipush 12, 2) := by decide +kernel
theorem dL_asks_165 : decode cL_asks 165 = .ok (.if_icmp .ne 11, 3) := by decide +kernel
theorem dL_asks_168 : decode cL_asks 168 = .ok (.aload_n 0, 1) := by decide +kernel
theorem dL_asks_169 : decode cL_asks 169 = .ok (.iload_n 2, 1) := by decide +kernel
theorem dL_asks_170 : decode cL_asks 170 = .ok (.invokevirtual 87, 3) := by decide +kernel
theorem dL_asks_173 : decode cL_asks 173 = .ok (.goto 8, 3) := by decide +kernel
theorem dL_asks_176 : decode cL_asks 176 = .ok (.aload_n 0, 1) := by decide +kernel
theorem dL_asks_177 : decode cL_asks 177 = .ok (.iload_n 2, 1) := by decide +kernel
theorem dL_asks_178 : decode cL_asks 178 = .ok (.invokevirtual 90, 3) := by decide +kernel
theorem dL_asks_181 : decode cL_asks 181 = .ok (.ireturn, 1) := by decide +kernel
theorem dL_asks_182 : decode cL_asks 182 = .ok (.astore 4, 2) := by decide +kernel
theorem dL_asks_184 : decode cL_asks 184 = .ok (.sipush (-3000), 3) := by decide +kernel
theorem dL_asks_187 : decode cL_asks 187 = .ok (.ireturn, 1) := by decide +kernel
theorem dL_asks_188 : decode cL_asks 188 = .ok (.astore 4, 2) := by decide +kernel
theorem dL_asks_190 : decode cL_asks 190 = .ok (.sipush (-1000), 3) := by decide +kernel
theorem dL_asks_193 : decode cL_asks 193 = .ok (.ireturn, 1) := by decide +kernel
theorem dL_way_0 : decode cL_way 0 = .ok (.iload_n 1, 1) := by decide +kernel
theorem dL_way_1 : decode cL_way 1 = .ok (.iconst 5, 1) := by decide +kernel
theorem dL_way_2 : decode cL_way 2 = .ok (.if_icmp .ge 20, 3) := by decide +kernel
theorem dL_way_5 : decode cL_way 5 = .ok (.iload_n 2, 1) := by decide +kernel
theorem dL_way_6 : decode cL_way 6 = .ok (.bipush 12, 2) := by decide +kernel
theorem dL_way_8 : decode cL_way 8 = .ok (.if_icmp .ge 14, 3) := by decide +kernel
theorem dL_way_11 : decode cL_way 11 = .ok (.aload_n 0, 1) := by decide +kernel
theorem dL_way_12 : decode cL_way 12 = .ok (.bipush 12, 2) := by decide +kernel
theorem dL_way_14 : decode cL_way 14 = .ok (.iload_n 1, 1) := by decide +kernel
theorem dL_way_15 : decode cL_way 15 = .ok (.imul, 1) := by decide +kernel
theorem dL_way_16 : decode cL_way 16 = .ok (.iload_n 2, 1) := by decide +kernel
theorem dL_way_17 : decode cL_way 17 = .ok (.iadd, 1) := by decide +kernel
theorem dL_way_18 : decode cL_way 18 = .ok (.iaload, 1) := by decide +kernel
theorem dL_way_19 : decode cL_way 19 = .ok (.goto 4, 3) := by decide +kernel
theorem dL_way_22 : decode cL_way 22 = .ok (.iconst 0, 1) := by decide +kernel
theorem dL_way_23 : decode cL_way 23 = .ok (.ireturn, 1) := by decide +kernel
set_option maxRecDepth 20000 in
theorem ggL_isTrack_X5_gates : GoodIn wsL_isTrack wsX5_gates := goodIn_r _ [5, 6, 7, 8, 9, 10, 11, 12, 288, 289, 290, 291, 292, 293, 294, 295, 296, 297, 298, 299, 300, 301] (by decide +kernel) (by decide +kernel)
set_option maxRecDepth 20000 in
theorem gL_isTrack_X5_gates : GoodIn wsL_isTrack (wsV RL 94 RX5 yX5_gates wsX5_gates) := goodIn_app (goodIn_of _ (by decide +kernel)) ggL_isTrack_X5_gates
set_option maxRecDepth 20000 in
theorem ggL_isTrack_X5_karts : GoodIn wsL_isTrack wsX5_karts := goodIn_r _ [16, 17, 288, 289, 290, 291, 292, 293, 294, 295, 296, 297] (by decide +kernel) (by decide +kernel)
set_option maxRecDepth 20000 in
theorem gL_isTrack_X5_karts : GoodIn wsL_isTrack (wsV RL 97 RX5 yX5_karts wsX5_karts) := goodIn_app (goodIn_of _ (by decide +kernel)) ggL_isTrack_X5_karts
set_option maxRecDepth 20000 in
theorem ggL_isTrack_L_asks : GoodIn wsL_isTrack wsL_asks := goodIn_ca (goodIn_ca (goodIn_r _ [21, 22, 23, 24, 25, 26, 4, 27, 6, 28, 29, 30, 31, 32, 33, 7, 8, 9, 10, 11, 12, 34, 35, 36, 37, 38, 39, 40, 41, 42, 43, 44, 45, 46, 47, 17, 48, 49, 50, 51, 52, 53, 54, 55, 56, 57, 58, 59, 60, 61, 62, 63, 64, 65, 66, 67, 68, 69, 70, 71, 72, 73, 74, 75, 76, 77, 78, 79, 80, 81, 82, 83, 84, 85, 86, 87, 88, 89, 90, 91, 92, 93, 94, 95, 96, 97, 98, 99, 100, 101, 102, 103, 104, 105, 106, 107, 108, 109, 110, 111, 112, 113, 114, 115, 116, 117, 118, 119, 120, 121, 122, 123, 124, 125, 126, 127, 128, 129, 130, 131, 132, 133, 134, 135, 136, 137, 138, 139, 140, 141, 142, 143, 144, 145, 146, 147, 148, 149, 150, 151, 152, 153, 154, 155, 156, 157, 158, 159, 160, 161, 162, 163, 164, 165, 166, 167, 168, 169, 170, 171, 172, 173, 174, 175, 176, 177, 178, 179, 180, 181, 182, 183, 184, 185, 186, 187, 188, 189, 190, 191, 192, 193, 194, 195, 196, 197, 198, 199, 200, 201, 202, 203, 204, 205, 206, 207, 208, 209, 210, 211, 212, 213, 214, 215, 216, 217, 218, 219, 220, 221, 222, 223, 224, 225, 226, 227, 228, 229, 230, 231, 232, 233, 234, 235, 236, 237, 238, 239, 240, 241, 242, 243, 244, 245, 246, 247, 248, 249, 250, 251, 252, 253, 254, 255, 256, 257, 258, 259, 260, 261, 262, 263, 264, 265, 266, 267, 268, 269, 270, 271, 272, 273, 274, 275, 276, 277, 278, 279, 280, 281, 282, 283, 284, 288, 289, 290, 291, 292, 293, 294, 295, 296, 297, 298, 299, 300, 301, 302, 303, 304, 305, 306, 307, 308, 309, 310, 311, 312, 313, 314, 315, 316, 317, 318, 319, 320, 321, 322, 323] (by decide +kernel) (by decide +kernel)) (goodIn_sub (fun _ h => List.mem_cons_of_mem _ (List.mem_append_left _ (List.mem_append_right _ h))) (by decide +kernel))) (goodIn_sub (fun _ h => List.mem_cons_of_mem _ (List.mem_append_right _ h)) (by decide +kernel))
set_option maxRecDepth 20000 in
theorem gL_isTrack_L_asks : GoodIn wsL_isTrack (va_wsS RL 100 yL_asks wsL_asks) := goodIn_app (goodIn_of _ (by decide +kernel)) ggL_isTrack_L_asks
set_option maxRecDepth 20000 in
theorem ggL_isTrack_X5_rest : GoodIn wsL_isTrack wsX5_rest := goodIn_ca (goodIn_r _ [27, 6, 28, 29, 30, 4, 31, 32, 33, 7, 8, 9, 10, 11, 12, 34, 35, 36, 37, 38, 288, 289, 290, 291, 292, 293, 294, 295, 296, 297, 298, 299, 300, 301] (by decide +kernel) (by decide +kernel)) (goodIn_sub (fun _ h => List.mem_cons_of_mem _ (List.mem_append_left _ (List.mem_append_right _ h))) (by decide +kernel))
set_option maxRecDepth 20000 in
theorem gL_isTrack_X5_rest : GoodIn wsL_isTrack (wsV RL 51 RX5 yX5_rest wsX5_rest) := goodIn_app (goodIn_of _ (by decide +kernel)) ggL_isTrack_X5_rest
set_option maxRecDepth 20000 in
theorem ggL_isTrack_L_way : GoodIn wsL_isTrack wsL_way := goodIn_r _ [287] (by decide +kernel) (by decide +kernel)
set_option maxRecDepth 20000 in
theorem gL_isTrack_L_way : GoodIn wsL_isTrack (va_wsS RL 106 yL_way wsL_way) := goodIn_app (goodIn_of _ (by decide +kernel)) ggL_isTrack_L_way
theorem dL_isTrack_0 : decode cL_isTrack 0 = .ok (.aload_n 0, 1) := by decide +kernel
theorem dL_isTrack_1 : decode cL_isTrack 1 = .ok (.invokevirtual 94, 3) := by decide +kernel
theorem dL_isTrack_4 : decode cL_isTrack 4 = .ok (.aload_n 2, 1) := by decide +kernel
theorem dL_isTrack_5 : decode cL_isTrack 5 = .ok (.iconst 0, 1) := by decide +kernel
theorem dL_isTrack_6 : decode cL_isTrack 6 = .ok (.iaload, 1) := by decide +kernel
theorem dL_isTrack_7 : decode cL_isTrack 7 = .ok (.if_icmp .ne 45, 3) := by decide +kernel
theorem dL_isTrack_10 : decode cL_isTrack 10 = .ok (.aload_n 0, 1) := by decide +kernel
theorem dL_isTrack_11 : decode cL_isTrack 11 = .ok (.invokevirtual 97, 3) := by decide +kernel
theorem dL_isTrack_14 : decode cL_isTrack 14 = .ok (.aload_n 2, 1) := by decide +kernel
theorem dL_isTrack_15 : decode cL_isTrack 15 = .ok (.iconst 2, 1) := by decide +kernel
theorem dL_isTrack_16 : decode cL_isTrack 16 = .ok (.iaload, 1) := by decide +kernel
theorem dL_isTrack_17 : decode cL_isTrack 17 = .ok (.if_icmp .ne 35, 3) := by decide +kernel
theorem dL_isTrack_20 : decode cL_isTrack 20 = .ok (.aload_n 0, 1) := by decide +kernel
theorem dL_isTrack_21 : decode cL_isTrack 21 = .ok (.iconst 0, 1) := by decide +kernel
theorem dL_isTrack_22 : decode cL_isTrack 22 = .ok (.aload_n 2, 1) := by decide +kernel
theorem dL_isTrack_23 : decode cL_isTrack 23 = .ok (.iconst 0, 1) := by decide +kernel
theorem dL_isTrack_24 : decode cL_isTrack 24 = .ok (.iaload, 1) := by decide +kernel
theorem dL_isTrack_25 : decode cL_isTrack 25 = .ok (.iconst 0, 1) := by decide +kernel
theorem dL_isTrack_26 : decode cL_isTrack 26 = .ok (.invokestatic 100, 3) := by decide +kernel
theorem dL_isTrack_29 : decode cL_isTrack 29 = .ok (.sipush (-3000), 3) := by decide +kernel
theorem dL_isTrack_32 : decode cL_isTrack 32 = .ok (.if_icmp .ne 20, 3) := by decide +kernel
theorem dL_isTrack_35 : decode cL_isTrack 35 = .ok (.aload_n 0, 1) := by decide +kernel
theorem dL_isTrack_36 : decode cL_isTrack 36 = .ok (.iconst 0, 1) := by decide +kernel
theorem dL_isTrack_37 : decode cL_isTrack 37 = .ok (.iconst (-1), 1) := by decide +kernel
theorem dL_isTrack_38 : decode cL_isTrack 38 = .ok (.iconst 0, 1) := by decide +kernel
theorem dL_isTrack_39 : decode cL_isTrack 39 = .ok (.invokestatic 100, 3) := by decide +kernel
theorem dL_isTrack_42 : decode cL_isTrack 42 = .ok (.sipush (-3000), 3) := by decide +kernel
theorem dL_isTrack_45 : decode cL_isTrack 45 = .ok (.if_icmp .ne 7, 3) := by decide +kernel
theorem dL_isTrack_48 : decode cL_isTrack 48 = .ok (.iconst 1, 1) := by decide +kernel
theorem dL_isTrack_49 : decode cL_isTrack 49 = .ok (.goto 4, 3) := by decide +kernel
theorem dL_isTrack_52 : decode cL_isTrack 52 = .ok (.iconst 0, 1) := by decide +kernel
theorem dL_isTrack_53 : decode cL_isTrack 53 = .ok (.istore_n 3, 1) := by decide +kernel
theorem dL_isTrack_54 : decode cL_isTrack 54 = .ok (.iconst 0, 1) := by decide +kernel
theorem dL_isTrack_55 : decode cL_isTrack 55 = .ok (.istore 4, 2) := by decide +kernel
theorem dL_isTrack_57 : decode cL_isTrack 57 = .ok (.iload 4, 2) := by decide +kernel
theorem dL_isTrack_59 : decode cL_isTrack 59 = .ok (.aload_n 2, 1) := by decide +kernel
theorem dL_isTrack_60 : decode cL_isTrack 60 = .ok (.iconst 0, 1) := by decide +kernel
theorem dL_isTrack_61 : decode cL_isTrack 61 = .ok (.iaload, 1) := by decide +kernel
theorem dL_isTrack_62 : decode cL_isTrack 62 = .ok (.if_icmp .ge 126, 3) := by decide +kernel
theorem dL_isTrack_65 : decode cL_isTrack 65 = .ok (.iload_n 3, 1) := by decide +kernel
theorem dL_isTrack_66 : decode cL_isTrack 66 = .ok (.ifCond .eq 122, 3) := by decide +kernel
theorem dL_isTrack_69 : decode cL_isTrack 69 = .ok (.iconst (-1), 1) := by decide +kernel
theorem dL_isTrack_70 : decode cL_isTrack 70 = .ok (.istore 5, 2) := by decide +kernel
theorem dL_isTrack_72 : decode cL_isTrack 72 = .ok (.iconst 0, 1) := by decide +kernel
theorem dL_isTrack_73 : decode cL_isTrack 73 = .ok (.istore 6, 2) := by decide +kernel
theorem dL_isTrack_75 : decode cL_isTrack 75 = .ok (.iload 6, 2) := by decide +kernel
theorem dL_isTrack_77 : decode cL_isTrack 77 = .ok (.aload_n 2, 1) := by decide +kernel
theorem dL_isTrack_78 : decode cL_isTrack 78 = .ok (.iconst 0, 1) := by decide +kernel
theorem dL_isTrack_79 : decode cL_isTrack 79 = .ok (.iaload, 1) := by decide +kernel
theorem dL_isTrack_80 : decode cL_isTrack 80 = .ok (.if_icmp .ge 85, 3) := by decide +kernel
theorem dL_isTrack_83 : decode cL_isTrack 83 = .ok (.iload 6, 2) := by decide +kernel
theorem dL_isTrack_85 : decode cL_isTrack 85 = .ok (.ifCond .ne 7, 3) := by decide +kernel
theorem dL_isTrack_88 : decode cL_isTrack 88 = .ok (.iconst 0, 1) := by decide +kernel
theorem dL_isTrack_89 : decode cL_isTrack 89 = .ok (.goto 9, 3) := by decide +kernel
theorem dL_isTrack_92 : decode cL_isTrack 92 = .ok (.aload_n 0, 1) := by decide +kernel
theorem dL_isTrack_93 : decode cL_isTrack 93 = .ok (.iload 6, 2) := by decide +kernel
theorem dL_isTrack_95 : decode cL_isTrack 95 = .ok (.invokevirtual 51, 3) := by decide +kernel
theorem dL_isTrack_98 : decode cL_isTrack 98 = .ok (.istore 7, 2) := by decide +kernel
theorem dL_isTrack_100 : decode cL_isTrack 100 = .ok (.aload_n 1, 1) := by decide +kernel
theorem dL_isTrack_101 : decode cL_isTrack 101 = .ok (.iload 4, 2) := by decide +kernel
theorem dL_isTrack_103 : decode cL_isTrack 103 = .ok (.iload 6, 2) := by decide +kernel
theorem dL_isTrack_105 : decode cL_isTrack 105 = .ok (.invokestatic 106, 3) := by decide +kernel
theorem dL_isTrack_108 : decode cL_isTrack 108 = .ok (.ifCond .eq 8, 3) := by decide +kernel
theorem dL_isTrack_111 : decode cL_isTrack 111 = .ok (.iload 7, 2) := by decide +kernel
theorem dL_isTrack_113 : decode cL_isTrack 113 = .ok (.ifCond .ge 7, 3) := by decide +kernel
theorem dL_isTrack_116 : decode cL_isTrack 116 = .ok (.iconst (-1), 1) := by decide +kernel
theorem dL_isTrack_117 : decode cL_isTrack 117 = .ok (.goto 14, 3) := by decide +kernel
theorem dL_isTrack_120 : decode cL_isTrack 120 = .ok (.aload_n 1, 1) := by decide +kernel
theorem dL_isTrack_121 : decode cL_isTrack 121 = .ok (.iload 4, 2) := by decide +kernel
theorem dL_isTrack_123 : decode cL_isTrack 123 = .ok (.iload 6, 2) := by decide +kernel
theorem dL_isTrack_125 : decode cL_isTrack 125 = .ok (.invokestatic 106, 3) := by decide +kernel
theorem dL_isTrack_128 : decode cL_isTrack 128 = .ok (.iload 7, 2) := by decide +kernel
theorem dL_isTrack_130 : decode cL_isTrack 130 = .ok (.iadd, 1) := by decide +kernel
theorem dL_isTrack_131 : decode cL_isTrack 131 = .ok (.istore 8, 2) := by decide +kernel
theorem dL_isTrack_133 : decode cL_isTrack 133 = .ok (.iload 8, 2) := by decide +kernel
theorem dL_isTrack_135 : decode cL_isTrack 135 = .ok (.ifCond .le 20, 3) := by decide +kernel
theorem dL_isTrack_138 : decode cL_isTrack 138 = .ok (.iload 5, 2) := by decide +kernel
theorem dL_isTrack_140 : decode cL_isTrack 140 = .ok (.ifCond .lt 10, 3) := by decide +kernel
theorem dL_isTrack_143 : decode cL_isTrack 143 = .ok (.iload 8, 2) := by decide +kernel
theorem dL_isTrack_145 : decode cL_isTrack 145 = .ok (.iload 5, 2) := by decide +kernel
theorem dL_isTrack_147 : decode cL_isTrack 147 = .ok (.if_icmp .ge 8, 3) := by decide +kernel
theorem dL_isTrack_150 : decode cL_isTrack 150 = .ok (.iload 8, 2) := by decide +kernel
theorem dL_isTrack_152 : decode cL_isTrack 152 = .ok (.goto 5, 3) := by decide +kernel
theorem dL_isTrack_155 : decode cL_isTrack 155 = .ok (.iload 5, 2) := by decide +kernel
theorem dL_isTrack_157 : decode cL_isTrack 157 = .ok (.istore 5, 2) := by decide +kernel
theorem dL_isTrack_159 : decode cL_isTrack 159 = .ok (.iinc 6 1, 3) := by decide +kernel
theorem dL_isTrack_162 : decode cL_isTrack 162 = .ok (.goto (-87), 3) := by decide +kernel
theorem dL_isTrack_165 : decode cL_isTrack 165 = .ok (.aload_n 0, 1) := by decide +kernel
theorem dL_isTrack_166 : decode cL_isTrack 166 = .ok (.iload 4, 2) := by decide +kernel
theorem dL_isTrack_168 : decode cL_isTrack 168 = .ok (.invokevirtual 51, 3) := by decide +kernel
theorem dL_isTrack_171 : decode cL_isTrack 171 = .ok (.iload 5, 2) := by decide +kernel
theorem dL_isTrack_173 : decode cL_isTrack 173 = .ok (.if_icmp .ne 7, 3) := by decide +kernel
theorem dL_isTrack_176 : decode cL_isTrack 176 = .ok (.iconst 1, 1) := by decide +kernel
theorem dL_isTrack_177 : decode cL_isTrack 177 = .ok (.goto 4, 3) := by decide +kernel
theorem dL_isTrack_180 : decode cL_isTrack 180 = .ok (.iconst 0, 1) := by decide +kernel
theorem dL_isTrack_181 : decode cL_isTrack 181 = .ok (.istore_n 3, 1) := by decide +kernel
theorem dL_isTrack_182 : decode cL_isTrack 182 = .ok (.iinc 4 1, 3) := by decide +kernel
theorem dL_isTrack_185 : decode cL_isTrack 185 = .ok (.goto (-128), 3) := by decide +kernel
theorem dL_isTrack_188 : decode cL_isTrack 188 = .ok (.iload_n 3, 1) := by decide +kernel
theorem dL_isTrack_189 : decode cL_isTrack 189 = .ok (.ireturn, 1) := by decide +kernel
set_option maxRecDepth 20000 in
theorem ggL_areKarts_X5_isOn : GoodIn wsL_areKarts wsX5_isOn := goodIn_r _ [5, 6, 281, 282, 283, 284, 285, 286, 287, 288, 289, 290] (by decide +kernel) (by decide +kernel)
set_option maxRecDepth 20000 in
theorem gL_areKarts_X5_isOn : GoodIn wsL_areKarts (wsV RL 110 RX5 yX5_isOn wsX5_isOn) := goodIn_app (goodIn_of _ (by decide +kernel)) ggL_areKarts_X5_isOn
set_option maxRecDepth 20000 in
theorem ggL_areKarts_L_asks : GoodIn wsL_areKarts wsL_asks := goodIn_ca (goodIn_ca (goodIn_r _ [10, 11, 12, 13, 14, 15, 4, 16, 17, 18, 19, 20, 21, 22, 23, 24, 25, 26, 27, 28, 29, 30, 31, 32, 33, 34, 35, 36, 37, 38, 39, 40, 41, 42, 43, 44, 45, 46, 47, 48, 49, 50, 6, 51, 52, 53, 54, 55, 56, 57, 58, 59, 60, 61, 62, 63, 64, 65, 66, 67, 68, 69, 70, 71, 72, 73, 74, 75, 76, 77, 78, 79, 80, 81, 82, 83, 84, 85, 86, 87, 88, 89, 90, 91, 92, 93, 94, 95, 96, 97, 98, 99, 100, 101, 102, 103, 104, 105, 106, 107, 108, 109, 110, 111, 112, 113, 114, 115, 116, 117, 118, 119, 120, 121, 122, 123, 124, 125, 126, 127, 128, 129, 130, 131, 132, 133, 134, 135, 136, 137, 138, 139, 140, 141, 142, 143, 144, 145, 146, 147, 148, 149, 150, 151, 152, 153, 154, 155, 156, 157, 158, 159, 160, 161, 162, 163, 164, 165, 166, 167, 168, 169, 170, 171, 172, 173, 174, 175, 176, 177, 178, 179, 180, 181, 182, 183, 184, 185, 186, 187, 188, 189, 190, 191, 192, 193, 194, 195, 196, 197, 198, 199, 200, 201, 202, 203, 204, 205, 206, 207, 208, 209, 210, 211, 212, 213, 214, 215, 216, 217, 218, 219, 220, 221, 222, 223, 224, 225, 226, 227, 228, 229, 230, 231, 232, 233, 234, 235, 236, 237, 238, 239, 240, 241, 242, 243, 244, 245, 246, 247, 248, 249, 250, 251, 252, 253, 254, 255, 256, 257, 258, 259, 260, 261, 262, 263, 264, 265, 266, 267, 268, 269, 270, 271, 272, 273, 274, 275, 276, 277, 278, 279, 280, 281, 282, 283, 284, 285, 286, 287, 288, 289, 290, 291, 292, 293, 294, 295, 296, 297, 298, 299, 300, 301, 302, 303, 304, 305, 306, 307, 308, 309, 310, 311, 312, 313, 314, 315, 316] (by decide +kernel) (by decide +kernel)) (goodIn_sub (fun _ h => List.mem_cons_of_mem _ (List.mem_append_left _ (List.mem_append_right _ h))) (by decide +kernel))) (goodIn_sub (fun _ h => List.mem_cons_of_mem _ (List.mem_append_right _ h)) (by decide +kernel))
set_option maxRecDepth 20000 in
theorem gL_areKarts_L_asks : GoodIn wsL_areKarts (va_wsS RL 100 yL_asks wsL_asks) := goodIn_app (goodIn_of _ (by decide +kernel)) ggL_areKarts_L_asks
set_option maxRecDepth 20000 in
theorem ggL_areKarts_X5_itemOf : GoodIn wsL_areKarts wsX5_itemOf := goodIn_ca (goodIn_r _ [197, 6, 198, 40, 41, 42, 4, 43, 22, 23, 44, 199, 200, 201, 202, 203, 204, 281, 282, 283, 284, 285, 286, 287, 288, 289, 290, 309, 310, 311, 312] (by decide +kernel) (by decide +kernel)) (goodIn_sub (fun _ h => List.mem_cons_of_mem _ (List.mem_append_left _ (List.mem_append_right _ h))) (by decide +kernel))
set_option maxRecDepth 20000 in
theorem gL_areKarts_X5_itemOf : GoodIn wsL_areKarts (wsV RL 72 RX5 yX5_itemOf wsX5_itemOf) := goodIn_app (goodIn_of _ (by decide +kernel)) ggL_areKarts_X5_itemOf
set_option maxRecDepth 20000 in
theorem ggL_areKarts_X5_stunned : GoodIn wsL_areKarts wsX5_stunned := goodIn_ca (goodIn_r _ [208, 6, 198, 209, 40, 41, 42, 4, 43, 22, 23, 44, 210, 211, 212, 202, 213, 214, 215, 187, 180, 188, 281, 282, 283, 284, 285, 286, 287, 288, 289, 290, 309, 310, 311, 312] (by decide +kernel) (by decide +kernel)) (goodIn_sub (fun _ h => List.mem_cons_of_mem _ (List.mem_append_left _ (List.mem_append_right _ h))) (by decide +kernel))
set_option maxRecDepth 20000 in
theorem gL_areKarts_X5_stunned : GoodIn wsL_areKarts (wsV RL 75 RX5 yX5_stunned wsX5_stunned) := goodIn_app (goodIn_of _ (by decide +kernel)) ggL_areKarts_X5_stunned
set_option maxRecDepth 20000 in
theorem ggL_areKarts_X5_rank : GoodIn wsL_areKarts wsX5_rank := goodIn_ca (goodIn_ca (goodIn_r _ [85, 39, 40, 41, 42, 4, 43, 22, 23, 44, 45, 46, 47, 48, 49, 50, 6, 86, 87, 88, 54, 89, 90, 91, 92, 93, 94, 95, 75, 56, 96, 97, 98, 99, 65, 100, 101, 62, 63, 64, 66, 102, 31, 32, 27, 33, 34, 281, 282, 283, 284, 285, 286, 287, 288, 289, 290, 295, 296, 297, 298, 299, 300, 301, 302, 303, 304, 305, 291, 292, 293, 294] (by decide +kernel) (by decide +kernel)) (goodIn_sub (fun _ h => List.mem_cons_of_mem _ (List.mem_append_left _ (List.mem_append_right _ h))) (by decide +kernel))) (goodIn_sub (fun _ h => List.mem_cons_of_mem _ (List.mem_append_right _ h)) (by decide +kernel))
set_option maxRecDepth 20000 in
theorem gL_areKarts_X5_rank : GoodIn wsL_areKarts (wsV RL 63 RX5 yX5_rank wsX5_rank) := goodIn_app (goodIn_of _ (by decide +kernel)) ggL_areKarts_X5_rank
set_option maxRecDepth 20000 in
theorem ggL_areKarts_X5_catchUp : GoodIn wsL_areKarts wsX5_catchUp := goodIn_ca (goodIn_ca (goodIn_r _ [177, 39, 178, 179, 180, 181, 40, 41, 42, 4, 43, 22, 23, 44, 45, 46, 47, 48, 49, 50, 6, 182, 183, 184, 54, 185, 90, 186, 187, 188, 189, 87, 88, 89, 91, 92, 93, 94, 95, 75, 56, 96, 97, 98, 99, 65, 100, 101, 62, 63, 64, 66, 102, 31, 32, 27, 33, 34, 190, 191, 192, 193, 281, 282, 283, 284, 285, 286, 287, 288, 289, 290, 295, 296, 297, 298, 299, 300, 301, 302, 303, 304, 305, 291, 292, 293, 294] (by decide +kernel) (by decide +kernel)) (goodIn_sub (fun _ h => List.mem_cons_of_mem _ (List.mem_append_left _ (List.mem_append_right _ h))) (by decide +kernel))) (goodIn_sub (fun _ h => List.mem_cons_of_mem _ (List.mem_append_right _ h)) (by decide +kernel))
set_option maxRecDepth 20000 in
theorem gL_areKarts_X5_catchUp : GoodIn wsL_areKarts (wsV RL 69 RX5 yX5_catchUp wsX5_catchUp) := goodIn_app (goodIn_of _ (by decide +kernel)) ggL_areKarts_X5_catchUp
set_option maxRecDepth 20000 in
theorem ggL_areKarts_X5_gateOf : GoodIn wsL_areKarts wsX5_gateOf := goodIn_ca (goodIn_ca (goodIn_r _ [38, 39, 40, 41, 42, 4, 43, 22, 23, 44, 45, 46, 47, 48, 49, 50, 6, 51, 52, 53, 54, 55, 56, 281, 282, 283, 284, 285, 286, 287, 288, 289, 290, 295, 296, 297, 298, 299, 300, 301, 302, 303, 304, 305] (by decide +kernel) (by decide +kernel)) (goodIn_sub (fun _ h => List.mem_cons_of_mem _ (List.mem_append_left _ (List.mem_append_right _ h))) (by decide +kernel))) (goodIn_sub (fun _ h => List.mem_cons_of_mem _ (List.mem_append_right _ h)) (by decide +kernel))
set_option maxRecDepth 20000 in
theorem gL_areKarts_X5_gateOf : GoodIn wsL_areKarts (wsV RL 54 RX5 yX5_gateOf wsX5_gateOf) := goodIn_app (goodIn_of _ (by decide +kernel)) ggL_areKarts_X5_gateOf
set_option maxRecDepth 20000 in
theorem ggL_areKarts_X5_lapsOf : GoodIn wsL_areKarts wsX5_lapsOf := goodIn_ca (goodIn_ca (goodIn_r _ [60, 39, 40, 41, 42, 4, 43, 22, 23, 44, 45, 46, 47, 48, 49, 50, 6, 61, 62, 63, 54, 64, 65, 66, 281, 282, 283, 284, 285, 286, 287, 288, 289, 290, 295, 296, 297, 298, 299, 300, 301, 302, 303, 304, 305] (by decide +kernel) (by decide +kernel)) (goodIn_sub (fun _ h => List.mem_cons_of_mem _ (List.mem_append_left _ (List.mem_append_right _ h))) (by decide +kernel))) (goodIn_sub (fun _ h => List.mem_cons_of_mem _ (List.mem_append_right _ h)) (by decide +kernel))
set_option maxRecDepth 20000 in
theorem gL_areKarts_X5_lapsOf : GoodIn wsL_areKarts (wsV RL 57 RX5 yX5_lapsOf wsX5_lapsOf) := goodIn_app (goodIn_of _ (by decide +kernel)) ggL_areKarts_X5_lapsOf
set_option maxRecDepth 20000 in
theorem ggL_areKarts_X5_missing : GoodIn wsL_areKarts wsX5_missing := goodIn_ca (goodIn_ca (goodIn_r _ [70, 39, 40, 41, 42, 4, 43, 22, 23, 44, 45, 46, 47, 48, 49, 50, 6, 71, 72, 73, 54, 74, 75, 76, 77, 78, 79, 27, 80, 81, 281, 282, 283, 284, 285, 286, 287, 288, 289, 290, 295, 296, 297, 298, 299, 300, 301, 302, 303, 304, 305, 291, 292, 293, 294] (by decide +kernel) (by decide +kernel)) (goodIn_sub (fun _ h => List.mem_cons_of_mem _ (List.mem_append_left _ (List.mem_append_right _ h))) (by decide +kernel))) (goodIn_sub (fun _ h => List.mem_cons_of_mem _ (List.mem_append_right _ h)) (by decide +kernel))
set_option maxRecDepth 20000 in
theorem gL_areKarts_X5_missing : GoodIn wsL_areKarts (wsV RL 60 RX5 yX5_missing wsX5_missing) := goodIn_app (goodIn_of _ (by decide +kernel)) ggL_areKarts_X5_missing
set_option maxRecDepth 20000 in
theorem ggL_areKarts_X5_rankByRecord : GoodIn wsL_areKarts wsX5_rankByRecord := goodIn_ca (goodIn_ca (goodIn_r _ [106, 107, 44, 39, 108, 40, 41, 42, 4, 43, 22, 23, 45, 46, 47, 48, 49, 50, 6, 109, 110, 111, 54, 112, 100, 113, 114, 115, 116, 90, 117, 56, 65, 66, 76, 95, 118, 119, 120, 121, 122, 123, 124, 125, 126, 127, 128, 129, 130, 131, 132, 133, 134, 135, 136, 137, 75, 138, 139, 140, 27, 141, 142, 143, 144, 145, 146, 147, 148, 149, 150, 151, 152, 153, 154, 155, 72, 73, 74, 77, 78, 79, 80, 81, 96, 97, 98, 99, 156, 157, 158, 159, 160, 161, 162, 163, 164, 165, 166, 167, 168, 169, 170, 171, 172, 173, 91, 92, 93, 94, 101, 62, 63, 64, 102, 31, 32, 33, 34, 281, 282, 283, 284, 285, 286, 287, 288, 289, 290, 295, 296, 297, 298, 299, 300, 301, 302, 303, 304, 305, 306, 307, 308, 291, 292, 293, 294] (by decide +kernel) (by decide +kernel)) (goodIn_sub (fun _ h => List.mem_cons_of_mem _ (List.mem_append_left _ (List.mem_append_right _ h))) (by decide +kernel))) (goodIn_sub (fun _ h => List.mem_cons_of_mem _ (List.mem_append_right _ h)) (by decide +kernel))
set_option maxRecDepth 20000 in
theorem gL_areKarts_X5_rankByRecord : GoodIn wsL_areKarts (wsV RL 66 RX5 yX5_rankByRecord wsX5_rankByRecord) := goodIn_app (goodIn_of _ (by decide +kernel)) ggL_areKarts_X5_rankByRecord
theorem dL_areKarts_0 : decode cL_areKarts 0 = .ok (.iconst 0, 1) := by decide +kernel
theorem dL_areKarts_1 : decode cL_areKarts 1 = .ok (.istore_n 3, 1) := by decide +kernel
theorem dL_areKarts_2 : decode cL_areKarts 2 = .ok (.aload_n 0, 1) := by decide +kernel
theorem dL_areKarts_3 : decode cL_areKarts 3 = .ok (.invokevirtual 110, 3) := by decide +kernel
theorem dL_areKarts_6 : decode cL_areKarts 6 = .ok (.aload_n 2, 1) := by decide +kernel
theorem dL_areKarts_7 : decode cL_areKarts 7 = .ok (.iconst 3, 1) := by decide +kernel
theorem dL_areKarts_8 : decode cL_areKarts 8 = .ok (.iaload, 1) := by decide +kernel
theorem dL_areKarts_9 : decode cL_areKarts 9 = .ok (.iconst 1, 1) := by decide +kernel
theorem dL_areKarts_10 : decode cL_areKarts 10 = .ok (.if_icmp .ne 7, 3) := by decide +kernel
theorem dL_areKarts_13 : decode cL_areKarts 13 = .ok (.iconst 1, 1) := by decide +kernel
theorem dL_areKarts_14 : decode cL_areKarts 14 = .ok (.goto 4, 3) := by decide +kernel
theorem dL_areKarts_17 : decode cL_areKarts 17 = .ok (.iconst 0, 1) := by decide +kernel
theorem dL_areKarts_18 : decode cL_areKarts 18 = .ok (.if_icmp .ne 67, 3) := by decide +kernel
theorem dL_areKarts_21 : decode cL_areKarts 21 = .ok (.aload_n 0, 1) := by decide +kernel
theorem dL_areKarts_22 : decode cL_areKarts 22 = .ok (.iconst 1, 1) := by decide +kernel
theorem dL_areKarts_23 : decode cL_areKarts 23 = .ok (.aload_n 2, 1) := by decide +kernel
theorem dL_areKarts_24 : decode cL_areKarts 24 = .ok (.iconst 2, 1) := by decide +kernel
theorem dL_areKarts_25 : decode cL_areKarts 25 = .ok (.iaload, 1) := by decide +kernel
theorem dL_areKarts_26 : decode cL_areKarts 26 = .ok (.iconst 0, 1) := by decide +kernel
theorem dL_areKarts_27 : decode cL_areKarts 27 = .ok (.invokestatic 100, 3) := by decide +kernel
theorem dL_areKarts_30 : decode cL_areKarts 30 = .ok (.sipush (-3000), 3) := by decide +kernel
theorem dL_areKarts_33 : decode cL_areKarts 33 = .ok (.if_icmp .ne 52, 3) := by decide +kernel
theorem dL_areKarts_36 : decode cL_areKarts 36 = .ok (.aload_n 0, 1) := by decide +kernel
theorem dL_areKarts_37 : decode cL_areKarts 37 = .ok (.iconst 4, 1) := by decide +kernel
theorem dL_areKarts_38 : decode cL_areKarts 38 = .ok (.iconst (-1), 1) := by decide +kernel
theorem dL_areKarts_39 : decode cL_areKarts 39 = .ok (.iconst 0, 1) := by decide +kernel
theorem dL_areKarts_40 : decode cL_areKarts 40 = .ok (.invokestatic 100, 3) := by decide +kernel
theorem dL_areKarts_43 : decode cL_areKarts 43 = .ok (.sipush (-3000), 3) := by decide +kernel
theorem dL_areKarts_46 : decode cL_areKarts 46 = .ok (.if_icmp .ne 39, 3) := by decide +kernel
theorem dL_areKarts_49 : decode cL_areKarts 49 = .ok (.aload_n 0, 1) := by decide +kernel
theorem dL_areKarts_50 : decode cL_areKarts 50 = .ok (.bipush 7, 2) := by decide +kernel
theorem dL_areKarts_52 : decode cL_areKarts 52 = .ok (.aload_n 2, 1) := by decide +kernel
theorem dL_areKarts_53 : decode cL_areKarts 53 = .ok (.iconst 2, 1) := by decide +kernel
theorem dL_areKarts_54 : decode cL_areKarts 54 = .ok (.iaload, 1) := by decide +kernel
theorem dL_areKarts_55 : decode cL_areKarts 55 = .ok (.iconst 0, 1) := by decide +kernel
theorem dL_areKarts_56 : decode cL_areKarts 56 = .ok (.invokestatic 100, 3) := by decide +kernel
theorem dL_areKarts_59 : decode cL_areKarts 59 = .ok (.sipush (-3000), 3) := by decide +kernel
theorem dL_areKarts_62 : decode cL_areKarts 62 = .ok (.if_icmp .ne 23, 3) := by decide +kernel
theorem dL_areKarts_65 : decode cL_areKarts 65 = .ok (.aload_n 0, 1) := by decide +kernel
theorem dL_areKarts_66 : decode cL_areKarts 66 = .ok (.bipush 8, 2) := by decide +kernel
theorem dL_areKarts_68 : decode cL_areKarts 68 = .ok (.aload_n 2, 1) := by decide +kernel
theorem dL_areKarts_69 : decode cL_areKarts 69 = .ok (.iconst 2, 1) := by decide +kernel
theorem dL_areKarts_70 : decode cL_areKarts 70 = .ok (.iaload, 1) := by decide +kernel
theorem dL_areKarts_71 : decode cL_areKarts 71 = .ok (.iconst 0, 1) := by decide +kernel
theorem dL_areKarts_72 : decode cL_areKarts 72 = .ok (.invokestatic 100, 3) := by decide +kernel
theorem dL_areKarts_75 : decode cL_areKarts 75 = .ok (.sipush (-3000), 3) := by decide +kernel
theorem dL_areKarts_78 : decode cL_areKarts 78 = .ok (.if_icmp .ne 7, 3) := by decide +kernel
theorem dL_areKarts_81 : decode cL_areKarts 81 = .ok (.iconst 1, 1) := by decide +kernel
theorem dL_areKarts_82 : decode cL_areKarts 82 = .ok (.goto 4, 3) := by decide +kernel
theorem dL_areKarts_85 : decode cL_areKarts 85 = .ok (.iconst 0, 1) := by decide +kernel
theorem dL_areKarts_86 : decode cL_areKarts 86 = .ok (.istore 4, 2) := by decide +kernel
theorem dL_areKarts_88 : decode cL_areKarts 88 = .ok (.iconst 0, 1) := by decide +kernel
theorem dL_areKarts_89 : decode cL_areKarts 89 = .ok (.istore 5, 2) := by decide +kernel
theorem dL_areKarts_91 : decode cL_areKarts 91 = .ok (.iload 5, 2) := by decide +kernel
theorem dL_areKarts_93 : decode cL_areKarts 93 = .ok (.aload_n 2, 1) := by decide +kernel
theorem dL_areKarts_94 : decode cL_areKarts 94 = .ok (.iconst 2, 1) := by decide +kernel
theorem dL_areKarts_95 : decode cL_areKarts 95 = .ok (.iaload, 1) := by decide +kernel
theorem dL_areKarts_96 : decode cL_areKarts 96 = .ok (.if_icmp .ge 304, 3) := by decide +kernel
theorem dL_areKarts_99 : decode cL_areKarts 99 = .ok (.iload 4, 2) := by decide +kernel
theorem dL_areKarts_101 : decode cL_areKarts 101 = .ok (.ifCond .eq 299, 3) := by decide +kernel
theorem dL_areKarts_104 : decode cL_areKarts 104 = .ok (.aload_n 0, 1) := by decide +kernel
theorem dL_areKarts_105 : decode cL_areKarts 105 = .ok (.iload 5, 2) := by decide +kernel
theorem dL_areKarts_107 : decode cL_areKarts 107 = .ok (.invokevirtual 72, 3) := by decide +kernel
theorem dL_areKarts_110 : decode cL_areKarts 110 = .ok (.istore 6, 2) := by decide +kernel
theorem dL_areKarts_112 : decode cL_areKarts 112 = .ok (.aload_n 0, 1) := by decide +kernel
theorem dL_areKarts_113 : decode cL_areKarts 113 = .ok (.iload 5, 2) := by decide +kernel
theorem dL_areKarts_115 : decode cL_areKarts 115 = .ok (.invokevirtual 75, 3) := by decide +kernel
theorem dL_areKarts_118 : decode cL_areKarts 118 = .ok (.istore 7, 2) := by decide +kernel
theorem dL_areKarts_120 : decode cL_areKarts 120 = .ok (.aload_n 2, 1) := by decide +kernel
theorem dL_areKarts_121 : decode cL_areKarts 121 = .ok (.iconst 3, 1) := by decide +kernel
theorem dL_areKarts_122 : decode cL_areKarts 122 = .ok (.iaload, 1) := by decide +kernel
theorem dL_areKarts_123 : decode cL_areKarts 123 = .ok (.ifCond .ne 109, 3) := by decide +kernel
theorem dL_areKarts_126 : decode cL_areKarts 126 = .ok (.iload 6, 2) := by decide +kernel
theorem dL_areKarts_128 : decode cL_areKarts 128 = .ok (.iconst (-1), 1) := by decide +kernel
theorem dL_areKarts_129 : decode cL_areKarts 129 = .ok (.if_icmp .ne 97, 3) := by decide +kernel
theorem dL_areKarts_132 : decode cL_areKarts 132 = .ok (.iload 7, 2) := by decide +kernel
theorem dL_areKarts_134 : decode cL_areKarts 134 = .ok (.ifCond .ne 92, 3) := by decide +kernel
theorem dL_areKarts_137 : decode cL_areKarts 137 = .ok (.aload_n 0, 1) := by decide +kernel
