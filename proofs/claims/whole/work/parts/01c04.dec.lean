theorem dX6_hits_58 : decode cX6_hits 58 = .ok (.aload_n 0, 1) := by decide +kernel
theorem dX6_hits_59 : decode cX6_hits 59 = .ok (.getfield 104, 3) := by decide +kernel
theorem dX6_hits_62 : decode cX6_hits 62 = .ok (.iload_n 2, 1) := by decide +kernel
theorem dX6_hits_63 : decode cX6_hits 63 = .ok (.iadd, 1) := by decide +kernel
theorem dX6_hits_64 : decode cX6_hits 64 = .ok (.iastore, 1) := by decide +kernel
theorem dX6_hits_65 : decode cX6_hits 65 = .ok (.iconst 1, 1) := by decide +kernel
theorem dX6_hits_66 : decode cX6_hits 66 = .ok (.ireturn, 1) := by decide +kernel
set_option maxRecDepth 20000 in
theorem ggX6_use_X6_isKart : GoodIn wsX6_use wsX6_isKart := goodIn_r _ [11, 6, 12, 13, 10, 14, 38, 39, 40, 41, 42, 43, 44, 45, 46, 47, 48, 49, 50, 51, 52, 53, 54, 55, 56, 57, 58, 59, 60, 61, 62, 63] (by decide +kernel) (by decide +kernel)
set_option maxRecDepth 20000 in
theorem gX6_use_X6_isKart : GoodIn wsX6_use (wsV RX6 101 RX6 yX6_isKart wsX6_isKart) := goodIn_app (goodIn_of _ (by decide +kernel)) ggX6_use_X6_isKart
set_option maxRecDepth 20000 in
theorem ggX6_use_X6_fails : GoodIn wsX6_use wsX6_fails := goodIn_r _ [18, 19, 38, 39, 40, 41, 42, 43, 44, 45, 46, 47, 48, 49, 50, 51, 52, 53, 54, 55, 56, 57, 58, 59, 60, 61, 62, 63] (by decide +kernel) (by decide +kernel)
set_option maxRecDepth 20000 in
theorem gX6_use_X6_fails : GoodIn wsX6_use (wsV RX6 70 RX6 yX6_fails wsX6_fails) := goodIn_app (goodIn_of _ (by decide +kernel)) ggX6_use_X6_fails
set_option maxRecDepth 20000 in
theorem ggX6_use_X6_ranked : GoodIn wsX6_use wsX6_ranked := goodIn_r _ [23, 6, 24, 25, 26, 10, 27, 2, 28, 29, 30, 31, 32, 38, 39, 40, 41, 42, 43, 44, 45, 46, 47, 48, 49, 50, 51, 52, 53, 54, 55, 56, 57, 58, 59, 60, 61, 62, 63] (by decide +kernel) (by decide +kernel)
set_option maxRecDepth 20000 in
theorem gX6_use_X6_ranked : GoodIn wsX6_use (wsV RX6 118 RX6 yX6_ranked wsX6_ranked) := goodIn_app (goodIn_of _ (by decide +kernel)) ggX6_use_X6_ranked
set_option maxRecDepth 20000 in
theorem ggX6_use_X6_hits : GoodIn wsX6_use wsX6_hits := goodIn_r _ [36, 2, 5, 4, 37, 38, 39, 40, 41, 42, 43, 44, 45, 46, 47, 48, 49, 50, 51, 52, 53, 54, 55, 56, 57, 58, 59, 60, 61, 62, 63] (by decide +kernel) (by decide +kernel)
set_option maxRecDepth 20000 in
theorem gX6_use_X6_hits : GoodIn wsX6_use (wsV RX6 135 RX6 yX6_hits wsX6_hits) := goodIn_app (goodIn_of _ (by decide +kernel)) ggX6_use_X6_hits
theorem dX6_use_0 : decode cX6_use 0 = .ok (.aload_n 0, 1) := by decide +kernel
theorem dX6_use_1 : decode cX6_use 1 = .ok (.iload_n 1, 1) := by decide +kernel
theorem dX6_use_2 : decode cX6_use 2 = .ok (.invokevirtual 101, 3) := by decide +kernel
theorem dX6_use_5 : decode cX6_use 5 = .ok (.istore_n 2, 1) := by decide +kernel
theorem dX6_use_6 : decode cX6_use 6 = .ok (.aload_n 0, 1) := by decide +kernel
theorem dX6_use_7 : decode cX6_use 7 = .ok (.iload_n 2, 1) := by decide +kernel
theorem dX6_use_8 : decode cX6_use 8 = .ok (.ifCond .ne 7, 3) := by decide +kernel
theorem dX6_use_11 : decode cX6_use 11 = .ok (.iconst 1, 1) := by decide +kernel
theorem dX6_use_12 : decode cX6_use 12 = .ok (.goto 34, 3) := by decide +kernel
theorem dX6_use_15 : decode cX6_use 15 = .ok (.aload_n 0, 1) := by decide +kernel
theorem dX6_use_16 : decode cX6_use 16 = .ok (.getfield 87, 3) := by decide +kernel
theorem dX6_use_19 : decode cX6_use 19 = .ok (.ifCond .eq 22, 3) := by decide +kernel
theorem dX6_use_22 : decode cX6_use 22 = .ok (.aload_n 0, 1) := by decide +kernel
theorem dX6_use_23 : decode cX6_use 23 = .ok (.getfield 38, 3) := by decide +kernel
theorem dX6_use_26 : decode cX6_use 26 = .ok (.iload_n 1, 1) := by decide +kernel
theorem dX6_use_27 : decode cX6_use 27 = .ok (.iaload, 1) := by decide +kernel
theorem dX6_use_28 : decode cX6_use 28 = .ok (.ifCond .gt 13, 3) := by decide +kernel
theorem dX6_use_31 : decode cX6_use 31 = .ok (.aload_n 0, 1) := by decide +kernel
theorem dX6_use_32 : decode cX6_use 32 = .ok (.getfield 41, 3) := by decide +kernel
theorem dX6_use_35 : decode cX6_use 35 = .ok (.iload_n 1, 1) := by decide +kernel
theorem dX6_use_36 : decode cX6_use 36 = .ok (.iaload, 1) := by decide +kernel
theorem dX6_use_37 : decode cX6_use 37 = .ok (.iconst (-1), 1) := by decide +kernel
theorem dX6_use_38 : decode cX6_use 38 = .ok (.if_icmp .ne 7, 3) := by decide +kernel
theorem dX6_use_41 : decode cX6_use 41 = .ok (.iconst 2, 1) := by decide +kernel
theorem dX6_use_42 : decode cX6_use 42 = .ok (.goto 4, 3) := by decide +kernel
theorem dX6_use_45 : decode cX6_use 45 = .ok (.iconst 0, 1) := by decide +kernel
theorem dX6_use_46 : decode cX6_use 46 = .ok (.invokevirtual 70, 3) := by decide +kernel
theorem dX6_use_49 : decode cX6_use 49 = .ok (.ifCond .eq 5, 3) := by decide +kernel
theorem dX6_use_52 : decode cX6_use 52 = .ok (.iconst 0, 1) := by decide +kernel
theorem dX6_use_53 : decode cX6_use 53 = .ok (.ireturn, 1) := by decide +kernel
theorem dX6_use_54 : decode cX6_use 54 = .ok (.aload_n 0, 1) := by decide +kernel
theorem dX6_use_55 : decode cX6_use 55 = .ok (.getfield 41, 3) := by decide +kernel
theorem dX6_use_58 : decode cX6_use 58 = .ok (.iload_n 1, 1) := by decide +kernel
theorem dX6_use_59 : decode cX6_use 59 = .ok (.iaload, 1) := by decide +kernel
theorem dX6_use_60 : decode cX6_use 60 = .ok (.istore_n 3, 1) := by decide +kernel
theorem dX6_use_61 : decode cX6_use 61 = .ok (.aload_n 0, 1) := by decide +kernel
theorem dX6_use_62 : decode cX6_use 62 = .ok (.getfield 41, 3) := by decide +kernel
theorem dX6_use_65 : decode cX6_use 65 = .ok (.iload_n 1, 1) := by decide +kernel
theorem dX6_use_66 : decode cX6_use 66 = .ok (.iconst (-1), 1) := by decide +kernel
theorem dX6_use_67 : decode cX6_use 67 = .ok (.iastore, 1) := by decide +kernel
theorem dX6_use_68 : decode cX6_use 68 = .ok (.aload_n 0, 1) := by decide +kernel
theorem dX6_use_69 : decode cX6_use 69 = .ok (.iload_n 1, 1) := by decide +kernel
theorem dX6_use_70 : decode cX6_use 70 = .ok (.invokevirtual 118, 3) := by decide +kernel
theorem dX6_use_73 : decode cX6_use 73 = .ok (.istore 4, 2) := by decide +kernel
theorem dX6_use_75 : decode cX6_use 75 = .ok (.iconst 0, 1) := by decide +kernel
theorem dX6_use_76 : decode cX6_use 76 = .ok (.istore 5, 2) := by decide +kernel
theorem dX6_use_78 : decode cX6_use 78 = .ok (.iload_n 3, 1) := by decide +kernel
theorem dX6_use_79 : decode cX6_use 79 = .ok (.ifCond .ne 13, 3) := by decide +kernel
theorem dX6_use_82 : decode cX6_use 82 = .ok (.aload_n 0, 1) := by decide +kernel
theorem dX6_use_83 : decode cX6_use 83 = .ok (.getfield 48, 3) := by decide +kernel
theorem dX6_use_86 : decode cX6_use 86 = .ok (.iload_n 1, 1) := by decide +kernel
theorem dX6_use_87 : decode cX6_use 87 = .ok (.iconst 0, 1) := by decide +kernel
theorem dX6_use_88 : decode cX6_use 88 = .ok (.iastore, 1) := by decide +kernel
theorem dX6_use_89 : decode cX6_use 89 = .ok (.goto 110, 3) := by decide +kernel
theorem dX6_use_92 : decode cX6_use 92 = .ok (.iload_n 3, 1) := by decide +kernel
theorem dX6_use_93 : decode cX6_use 93 = .ok (.iconst 2, 1) := by decide +kernel
theorem dX6_use_94 : decode cX6_use 94 = .ok (.if_icmp .ne 13, 3) := by decide +kernel
theorem dX6_use_97 : decode cX6_use 97 = .ok (.aload_n 0, 1) := by decide +kernel
theorem dX6_use_98 : decode cX6_use 98 = .ok (.getfield 44, 3) := by decide +kernel
theorem dX6_use_101 : decode cX6_use 101 = .ok (.iload_n 1, 1) := by decide +kernel
theorem dX6_use_102 : decode cX6_use 102 = .ok (.iconst 1, 1) := by decide +kernel
theorem dX6_use_103 : decode cX6_use 103 = .ok (.bastore, 1) := by decide +kernel
theorem dX6_use_104 : decode cX6_use 104 = .ok (.goto 95, 3) := by decide +kernel
theorem dX6_use_107 : decode cX6_use 107 = .ok (.iconst 0, 1) := by decide +kernel
theorem dX6_use_108 : decode cX6_use 108 = .ok (.istore 6, 2) := by decide +kernel
theorem dX6_use_110 : decode cX6_use 110 = .ok (.iload 6, 2) := by decide +kernel
theorem dX6_use_112 : decode cX6_use 112 = .ok (.aload_n 0, 1) := by decide +kernel
theorem dX6_use_113 : decode cX6_use 113 = .ok (.getfield 64, 3) := by decide +kernel
theorem dX6_use_116 : decode cX6_use 116 = .ok (.if_icmp .ge 83, 3) := by decide +kernel
theorem dX6_use_119 : decode cX6_use 119 = .ok (.aload_n 0, 1) := by decide +kernel
theorem dX6_use_120 : decode cX6_use 120 = .ok (.iload 6, 2) := by decide +kernel
theorem dX6_use_122 : decode cX6_use 122 = .ok (.invokevirtual 118, 3) := by decide +kernel
theorem dX6_use_125 : decode cX6_use 125 = .ok (.istore 7, 2) := by decide +kernel
theorem dX6_use_127 : decode cX6_use 127 = .ok (.iload_n 3, 1) := by decide +kernel
theorem dX6_use_128 : decode cX6_use 128 = .ok (.iconst 1, 1) := by decide +kernel
theorem dX6_use_129 : decode cX6_use 129 = .ok (.if_icmp .ne 20, 3) := by decide +kernel
theorem dX6_use_132 : decode cX6_use 132 = .ok (.iload 7, 2) := by decide +kernel
theorem dX6_use_134 : decode cX6_use 134 = .ok (.iload 4, 2) := by decide +kernel
theorem dX6_use_136 : decode cX6_use 136 = .ok (.iconst 1, 1) := by decide +kernel
theorem dX6_use_137 : decode cX6_use 137 = .ok (.isub, 1) := by decide +kernel
theorem dX6_use_138 : decode cX6_use 138 = .ok (.if_icmp .ne 7, 3) := by decide +kernel
theorem dX6_use_141 : decode cX6_use 141 = .ok (.iconst 1, 1) := by decide +kernel
theorem dX6_use_142 : decode cX6_use 142 = .ok (.goto 19, 3) := by decide +kernel
theorem dX6_use_145 : decode cX6_use 145 = .ok (.iconst 0, 1) := by decide +kernel
theorem dX6_use_146 : decode cX6_use 146 = .ok (.goto 15, 3) := by decide +kernel
theorem dX6_use_149 : decode cX6_use 149 = .ok (.iload 7, 2) := by decide +kernel
theorem dX6_use_151 : decode cX6_use 151 = .ok (.iload 4, 2) := by decide +kernel
theorem dX6_use_153 : decode cX6_use 153 = .ok (.if_icmp .ge 7, 3) := by decide +kernel
theorem dX6_use_156 : decode cX6_use 156 = .ok (.iconst 1, 1) := by decide +kernel
theorem dX6_use_157 : decode cX6_use 157 = .ok (.goto 4, 3) := by decide +kernel
theorem dX6_use_160 : decode cX6_use 160 = .ok (.iconst 0, 1) := by decide +kernel
theorem dX6_use_161 : decode cX6_use 161 = .ok (.istore 8, 2) := by decide +kernel
theorem dX6_use_163 : decode cX6_use 163 = .ok (.iload 5, 2) := by decide +kernel
theorem dX6_use_165 : decode cX6_use 165 = .ok (.iload 8, 2) := by decide +kernel
theorem dX6_use_167 : decode cX6_use 167 = .ok (.ifCond .eq 22, 3) := by decide +kernel
theorem dX6_use_170 : decode cX6_use 170 = .ok (.aload_n 0, 1) := by decide +kernel
theorem dX6_use_171 : decode cX6_use 171 = .ok (.iload 6, 2) := by decide +kernel
theorem dX6_use_173 : decode cX6_use 173 = .ok (.iload_n 3, 1) := by decide +kernel
theorem dX6_use_174 : decode cX6_use 174 = .ok (.iconst 1, 1) := by decide +kernel
theorem dX6_use_175 : decode cX6_use 175 = .ok (.if_icmp .ne 7, 3) := by decide +kernel
theorem dX6_use_178 : decode cX6_use 178 = .ok (.iconst 5, 1) := by decide +kernel
theorem dX6_use_179 : decode cX6_use 179 = .ok (.goto 4, 3) := by decide +kernel
theorem dX6_use_182 : decode cX6_use 182 = .ok (.iconst 2, 1) := by decide +kernel
theorem dX6_use_183 : decode cX6_use 183 = .ok (.invokevirtual 135, 3) := by decide +kernel
theorem dX6_use_186 : decode cX6_use 186 = .ok (.goto 4, 3) := by decide +kernel
theorem dX6_use_189 : decode cX6_use 189 = .ok (.iconst 0, 1) := by decide +kernel
theorem dX6_use_190 : decode cX6_use 190 = .ok (.iadd, 1) := by decide +kernel
theorem dX6_use_191 : decode cX6_use 191 = .ok (.istore 5, 2) := by decide +kernel
theorem dX6_use_193 : decode cX6_use 193 = .ok (.iinc 6 1, 3) := by decide +kernel
theorem dX6_use_196 : decode cX6_use 196 = .ok (.goto (-86), 3) := by decide +kernel
theorem dX6_use_199 : decode cX6_use 199 = .ok (.iload 5, 2) := by decide +kernel
theorem dX6_use_201 : decode cX6_use 201 = .ok (.ireturn, 1) := by decide +kernel
set_option maxRecDepth 20000 in
theorem ggX6_itemOf_X6_isKart : GoodIn wsX6_itemOf wsX6_isKart := goodIn_r _ [7, 8, 9, 10, 6, 11, 17, 18, 19, 20, 21, 22, 23, 24, 25, 26, 27, 28, 29, 30, 31, 32, 33, 34, 35, 36, 37, 38, 39, 40, 41, 42] (by decide +kernel) (by decide +kernel)
set_option maxRecDepth 20000 in
theorem gX6_itemOf_X6_isKart : GoodIn wsX6_itemOf (wsV RX6 101 RX6 yX6_isKart wsX6_isKart) := goodIn_app (goodIn_of _ (by decide +kernel)) ggX6_itemOf_X6_isKart
set_option maxRecDepth 20000 in
theorem ggX6_itemOf_X6_fails : GoodIn wsX6_itemOf wsX6_fails := goodIn_r _ [15, 16, 17, 18, 19, 20, 21, 22, 23, 24, 25, 26, 27, 28, 29, 30, 31, 32, 33, 34, 35, 36, 37, 38, 39, 40, 41, 42] (by decide +kernel) (by decide +kernel)
set_option maxRecDepth 20000 in
theorem gX6_itemOf_X6_fails : GoodIn wsX6_itemOf (wsV RX6 70 RX6 yX6_fails wsX6_fails) := goodIn_app (goodIn_of _ (by decide +kernel)) ggX6_itemOf_X6_fails
theorem dX6_itemOf_0 : decode cX6_itemOf 0 = .ok (.aload_n 0, 1) := by decide +kernel
theorem dX6_itemOf_1 : decode cX6_itemOf 1 = .ok (.aload_n 0, 1) := by decide +kernel
theorem dX6_itemOf_2 : decode cX6_itemOf 2 = .ok (.iload_n 1, 1) := by decide +kernel
theorem dX6_itemOf_3 : decode cX6_itemOf 3 = .ok (.invokevirtual 101, 3) := by decide +kernel
theorem dX6_itemOf_6 : decode cX6_itemOf 6 = .ok (.ifCond .eq 7, 3) := by decide +kernel
theorem dX6_itemOf_9 : decode cX6_itemOf 9 = .ok (.iconst 0, 1) := by decide +kernel
theorem dX6_itemOf_10 : decode cX6_itemOf 10 = .ok (.goto 4, 3) := by decide +kernel
theorem dX6_itemOf_13 : decode cX6_itemOf 13 = .ok (.iconst 1, 1) := by decide +kernel
theorem dX6_itemOf_14 : decode cX6_itemOf 14 = .ok (.invokevirtual 70, 3) := by decide +kernel
theorem dX6_itemOf_17 : decode cX6_itemOf 17 = .ok (.ifCond .eq 7, 3) := by decide +kernel
theorem dX6_itemOf_20 : decode cX6_itemOf 20 = .ok (.iconst 0, 1) := by decide +kernel
theorem dX6_itemOf_21 : decode cX6_itemOf 21 = .ok (.goto 20, 3) := by decide +kernel
theorem dX6_itemOf_24 : decode cX6_itemOf 24 = .ok (.aload_n 0, 1) := by decide +kernel
theorem dX6_itemOf_25 : decode cX6_itemOf 25 = .ok (.getfield 87, 3) := by decide +kernel
theorem dX6_itemOf_28 : decode cX6_itemOf 28 = .ok (.ifCond .eq 12, 3) := by decide +kernel
theorem dX6_itemOf_31 : decode cX6_itemOf 31 = .ok (.aload_n 0, 1) := by decide +kernel
theorem dX6_itemOf_32 : decode cX6_itemOf 32 = .ok (.getfield 41, 3) := by decide +kernel
theorem dX6_itemOf_35 : decode cX6_itemOf 35 = .ok (.iload_n 1, 1) := by decide +kernel
theorem dX6_itemOf_36 : decode cX6_itemOf 36 = .ok (.iaload, 1) := by decide +kernel
theorem dX6_itemOf_37 : decode cX6_itemOf 37 = .ok (.goto 4, 3) := by decide +kernel
theorem dX6_itemOf_40 : decode cX6_itemOf 40 = .ok (.iconst (-1), 1) := by decide +kernel
theorem dX6_itemOf_41 : decode cX6_itemOf 41 = .ok (.ireturn, 1) := by decide +kernel
set_option maxRecDepth 20000 in
theorem ggX6_stunned_X6_isKart : GoodIn wsX6_stunned wsX6_isKart := goodIn_r _ [8, 9, 10, 11, 7, 12, 18, 19, 20, 21, 22, 23, 24, 25, 26, 27, 28, 29, 30, 31, 32, 33, 34, 35, 36, 37, 38, 39, 40, 41, 42, 43] (by decide +kernel) (by decide +kernel)
set_option maxRecDepth 20000 in
theorem gX6_stunned_X6_isKart : GoodIn wsX6_stunned (wsV RX6 101 RX6 yX6_isKart wsX6_isKart) := goodIn_app (goodIn_of _ (by decide +kernel)) ggX6_stunned_X6_isKart
set_option maxRecDepth 20000 in
theorem ggX6_stunned_X6_fails : GoodIn wsX6_stunned wsX6_fails := goodIn_r _ [16, 17, 18, 19, 20, 21, 22, 23, 24, 25, 26, 27, 28, 29, 30, 31, 32, 33, 34, 35, 36, 37, 38, 39, 40, 41, 42, 43] (by decide +kernel) (by decide +kernel)
set_option maxRecDepth 20000 in
theorem gX6_stunned_X6_fails : GoodIn wsX6_stunned (wsV RX6 70 RX6 yX6_fails wsX6_fails) := goodIn_app (goodIn_of _ (by decide +kernel)) ggX6_stunned_X6_fails
theorem dX6_stunned_0 : decode cX6_stunned 0 = .ok (.aload_n 0, 1) := by decide +kernel
theorem dX6_stunned_1 : decode cX6_stunned 1 = .ok (.aload_n 0, 1) := by decide +kernel
theorem dX6_stunned_2 : decode cX6_stunned 2 = .ok (.iload_n 1, 1) := by decide +kernel
theorem dX6_stunned_3 : decode cX6_stunned 3 = .ok (.invokevirtual 101, 3) := by decide +kernel
theorem dX6_stunned_6 : decode cX6_stunned 6 = .ok (.ifCond .eq 7, 3) := by decide +kernel
theorem dX6_stunned_9 : decode cX6_stunned 9 = .ok (.iconst 0, 1) := by decide +kernel
theorem dX6_stunned_10 : decode cX6_stunned 10 = .ok (.goto 4, 3) := by decide +kernel
theorem dX6_stunned_13 : decode cX6_stunned 13 = .ok (.iconst 1, 1) := by decide +kernel
theorem dX6_stunned_14 : decode cX6_stunned 14 = .ok (.invokevirtual 70, 3) := by decide +kernel
theorem dX6_stunned_17 : decode cX6_stunned 17 = .ok (.ifCond .eq 7, 3) := by decide +kernel
theorem dX6_stunned_20 : decode cX6_stunned 20 = .ok (.iconst 0, 1) := by decide +kernel
theorem dX6_stunned_21 : decode cX6_stunned 21 = .ok (.goto 38, 3) := by decide +kernel
theorem dX6_stunned_24 : decode cX6_stunned 24 = .ok (.aload_n 0, 1) := by decide +kernel
theorem dX6_stunned_25 : decode cX6_stunned 25 = .ok (.getfield 87, 3) := by decide +kernel
theorem dX6_stunned_28 : decode cX6_stunned 28 = .ok (.ifCond .eq 30, 3) := by decide +kernel
theorem dX6_stunned_31 : decode cX6_stunned 31 = .ok (.aload_n 0, 1) := by decide +kernel
theorem dX6_stunned_32 : decode cX6_stunned 32 = .ok (.getfield 48, 3) := by decide +kernel
theorem dX6_stunned_35 : decode cX6_stunned 35 = .ok (.iload_n 1, 1) := by decide +kernel
theorem dX6_stunned_36 : decode cX6_stunned 36 = .ok (.iaload, 1) := by decide +kernel
theorem dX6_stunned_37 : decode cX6_stunned 37 = .ok (.aload_n 0, 1) := by decide +kernel
theorem dX6_stunned_38 : decode cX6_stunned 38 = .ok (.getfield 104, 3) := by decide +kernel
theorem dX6_stunned_41 : decode cX6_stunned 41 = .ok (.if_icmp .le 17, 3) := by decide +kernel
theorem dX6_stunned_44 : decode cX6_stunned 44 = .ok (.aload_n 0, 1) := by decide +kernel
theorem dX6_stunned_45 : decode cX6_stunned 45 = .ok (.getfield 48, 3) := by decide +kernel
theorem dX6_stunned_48 : decode cX6_stunned 48 = .ok (.iload_n 1, 1) := by decide +kernel
theorem dX6_stunned_49 : decode cX6_stunned 49 = .ok (.iaload, 1) := by decide +kernel
theorem dX6_stunned_50 : decode cX6_stunned 50 = .ok (.aload_n 0, 1) := by decide +kernel
theorem dX6_stunned_51 : decode cX6_stunned 51 = .ok (.getfield 104, 3) := by decide +kernel
theorem dX6_stunned_54 : decode cX6_stunned 54 = .ok (.isub, 1) := by decide +kernel
theorem dX6_stunned_55 : decode cX6_stunned 55 = .ok (.goto 4, 3) := by decide +kernel
theorem dX6_stunned_58 : decode cX6_stunned 58 = .ok (.iconst 0, 1) := by decide +kernel
theorem dX6_stunned_59 : decode cX6_stunned 59 = .ok (.ireturn, 1) := by decide +kernel
theorem dX6_worth_0 : decode cX6_worth 0 = .ok (.iload_n 0, 1) := by decide +kernel
theorem dX6_worth_1 : decode cX6_worth 1 = .ok (.ifCond .ne 8, 3) := by decide +kernel
theorem dX6_worth_4 : decode cX6_worth 4 = .ok (.bipush 10, 2) := by decide +kernel
theorem dX6_worth_6 : decode cX6_worth 6 = .ok (.goto 27, 3) := by decide +kernel
theorem dX6_worth_9 : decode cX6_worth 9 = .ok (.iload_n 0, 1) := by decide +kernel
theorem dX6_worth_10 : decode cX6_worth 10 = .ok (.iconst 1, 1) := by decide +kernel
theorem dX6_worth_11 : decode cX6_worth 11 = .ok (.if_icmp .ne 8, 3) := by decide +kernel
theorem dX6_worth_14 : decode cX6_worth 14 = .ok (.bipush 8, 2) := by decide +kernel
theorem dX6_worth_16 : decode cX6_worth 16 = .ok (.goto 17, 3) := by decide +kernel
theorem dX6_worth_19 : decode cX6_worth 19 = .ok (.iload_n 0, 1) := by decide +kernel
theorem dX6_worth_20 : decode cX6_worth 20 = .ok (.iconst 2, 1) := by decide +kernel
theorem dX6_worth_21 : decode cX6_worth 21 = .ok (.if_icmp .ne 8, 3) := by decide +kernel
theorem dX6_worth_24 : decode cX6_worth 24 = .ok (.bipush 6, 2) := by decide +kernel
theorem dX6_worth_26 : decode cX6_worth 26 = .ok (.goto 7, 3) := by decide +kernel
theorem dX6_worth_29 : decode cX6_worth 29 = .ok (.bipush 8, 2) := by decide +kernel
theorem dX6_worth_31 : decode cX6_worth 31 = .ok (.iload_n 0, 1) := by decide +kernel
theorem dX6_worth_32 : decode cX6_worth 32 = .ok (.isub, 1) := by decide +kernel
theorem dX6_worth_33 : decode cX6_worth 33 = .ok (.ireturn, 1) := by decide +kernel
set_option maxRecDepth 20000 in
theorem ggX6_end_X6_fails : GoodIn wsX6_end wsX6_fails := goodIn_r _ [13, 14, 33, 34, 35, 36, 37, 38, 39, 40, 41, 42, 43, 44, 45, 46, 47, 48, 49, 50, 51, 52, 53, 54, 55, 56, 57, 58] (by decide +kernel) (by decide +kernel)
set_option maxRecDepth 20000 in
theorem gX6_end_X6_fails : GoodIn wsX6_end (wsV RX6 70 RX6 yX6_fails wsX6_fails) := goodIn_app (goodIn_of _ (by decide +kernel)) ggX6_end_X6_fails
set_option maxRecDepth 20000 in
theorem ggX6_end_X6_atRank : GoodIn wsX6_end wsX6_atRank := goodIn_r _ [18, 2, 19, 20, 21, 12, 22, 23, 24, 25, 26, 3, 4, 5, 27, 28, 29, 33, 34, 35, 36, 37, 38, 39, 40, 41, 42, 43, 44, 45, 46, 47, 48, 49, 50, 51, 52, 53, 54, 55, 56, 57, 58] (by decide +kernel) (by decide +kernel)
set_option maxRecDepth 20000 in
theorem gX6_end_X6_atRank : GoodIn wsX6_end (wsV RX6 121 RX6 yX6_atRank wsX6_atRank) := goodIn_app (goodIn_of _ (by decide +kernel)) ggX6_end_X6_atRank
set_option maxRecDepth 20000 in
theorem ggX6_end_X6_ranked : GoodIn wsX6_end wsX6_ranked := goodIn_r _ [22, 2, 23, 24, 25, 12, 26, 3, 4, 5, 27, 28, 29, 33, 34, 35, 36, 37, 38, 39, 40, 41, 42, 43, 44, 45, 46, 47, 48, 49, 50, 51, 52, 53, 54, 55, 56, 57, 58] (by decide +kernel) (by decide +kernel)
set_option maxRecDepth 20000 in
theorem gX6_end_X6_ranked : GoodIn wsX6_end (wsV RX6 118 RX6 yX6_ranked wsX6_ranked) := goodIn_app (goodIn_of _ (by decide +kernel)) ggX6_end_X6_ranked
set_option maxRecDepth 20000 in
theorem ggX6_end_X6_worth : GoodIn wsX6_end wsX6_worth := goodIn_r _ [32] (by decide +kernel) (by decide +kernel)
set_option maxRecDepth 20000 in
theorem gX6_end_X6_worth : GoodIn wsX6_end (va_wsS RX6 141 yX6_worth wsX6_worth) := goodIn_app (goodIn_of _ (by decide +kernel)) ggX6_end_X6_worth
theorem dX6_end_0 : decode cX6_end 0 = .ok (.aload_n 0, 1) := by decide +kernel
theorem dX6_end_1 : decode cX6_end 1 = .ok (.aload_n 0, 1) := by decide +kernel
theorem dX6_end_2 : decode cX6_end 2 = .ok (.getfield 87, 3) := by decide +kernel
theorem dX6_end_5 : decode cX6_end 5 = .ok (.ifCond .eq 7, 3) := by decide +kernel
theorem dX6_end_8 : decode cX6_end 8 = .ok (.iconst 0, 1) := by decide +kernel
theorem dX6_end_9 : decode cX6_end 9 = .ok (.goto 4, 3) := by decide +kernel
theorem dX6_end_12 : decode cX6_end 12 = .ok (.iconst 1, 1) := by decide +kernel
theorem dX6_end_13 : decode cX6_end 13 = .ok (.invokevirtual 70, 3) := by decide +kernel
theorem dX6_end_16 : decode cX6_end 16 = .ok (.ifCond .eq 5, 3) := by decide +kernel
theorem dX6_end_19 : decode cX6_end 19 = .ok (.iconst 0, 1) := by decide +kernel
theorem dX6_end_20 : decode cX6_end 20 = .ok (.ireturn, 1) := by decide +kernel
theorem dX6_end_21 : decode cX6_end 21 = .ok (.aload_n 0, 1) := by decide +kernel
theorem dX6_end_22 : decode cX6_end 22 = .ok (.iconst 0, 1) := by decide +kernel
theorem dX6_end_23 : decode cX6_end 23 = .ok (.invokevirtual 121, 3) := by decide +kernel
theorem dX6_end_26 : decode cX6_end 26 = .ok (.istore_n 1, 1) := by decide +kernel
theorem dX6_end_27 : decode cX6_end 27 = .ok (.iconst 0, 1) := by decide +kernel
theorem dX6_end_28 : decode cX6_end 28 = .ok (.istore_n 2, 1) := by decide +kernel
theorem dX6_end_29 : decode cX6_end 29 = .ok (.iload_n 2, 1) := by decide +kernel
theorem dX6_end_30 : decode cX6_end 30 = .ok (.aload_n 0, 1) := by decide +kernel
theorem dX6_end_31 : decode cX6_end 31 = .ok (.getfield 64, 3) := by decide +kernel
theorem dX6_end_34 : decode cX6_end 34 = .ok (.if_icmp .ge 88, 3) := by decide +kernel
theorem dX6_end_37 : decode cX6_end 37 = .ok (.aload_n 0, 1) := by decide +kernel
theorem dX6_end_38 : decode cX6_end 38 = .ok (.iload_n 2, 1) := by decide +kernel
theorem dX6_end_39 : decode cX6_end 39 = .ok (.invokevirtual 118, 3) := by decide +kernel
theorem dX6_end_42 : decode cX6_end 42 = .ok (.istore_n 3, 1) := by decide +kernel
theorem dX6_end_43 : decode cX6_end 43 = .ok (.aload_n 0, 1) := by decide +kernel
theorem dX6_end_44 : decode cX6_end 44 = .ok (.getfield 38, 3) := by decide +kernel
theorem dX6_end_47 : decode cX6_end 47 = .ok (.iload_n 2, 1) := by decide +kernel
theorem dX6_end_48 : decode cX6_end 48 = .ok (.iaload, 1) := by decide +kernel
theorem dX6_end_49 : decode cX6_end 49 = .ok (.ifCond .gt 18, 3) := by decide +kernel
theorem dX6_end_52 : decode cX6_end 52 = .ok (.aload_n 0, 1) := by decide +kernel
theorem dX6_end_53 : decode cX6_end 53 = .ok (.getfield 26, 3) := by decide +kernel
theorem dX6_end_56 : decode cX6_end 56 = .ok (.iload_n 2, 1) := by decide +kernel
theorem dX6_end_57 : decode cX6_end 57 = .ok (.iaload, 1) := by decide +kernel
theorem dX6_end_58 : decode cX6_end 58 = .ok (.aload_n 0, 1) := by decide +kernel
theorem dX6_end_59 : decode cX6_end 59 = .ok (.getfield 29, 3) := by decide +kernel
theorem dX6_end_62 : decode cX6_end 62 = .ok (.iload_n 2, 1) := by decide +kernel
theorem dX6_end_63 : decode cX6_end 63 = .ok (.iaload, 1) := by decide +kernel
theorem dX6_end_64 : decode cX6_end 64 = .ok (.if_icmp .le 7, 3) := by decide +kernel
theorem dX6_end_67 : decode cX6_end 67 = .ok (.iconst 1, 1) := by decide +kernel
theorem dX6_end_68 : decode cX6_end 68 = .ok (.goto 4, 3) := by decide +kernel
theorem dX6_end_71 : decode cX6_end 71 = .ok (.iconst 0, 1) := by decide +kernel
theorem dX6_end_72 : decode cX6_end 72 = .ok (.istore 4, 2) := by decide +kernel
theorem dX6_end_74 : decode cX6_end 74 = .ok (.aload_n 0, 1) := by decide +kernel
theorem dX6_end_75 : decode cX6_end 75 = .ok (.getfield 51, 3) := by decide +kernel
theorem dX6_end_78 : decode cX6_end 78 = .ok (.bipush 6, 2) := by decide +kernel
theorem dX6_end_80 : decode cX6_end 80 = .ok (.aload_n 0, 1) := by decide +kernel
theorem dX6_end_81 : decode cX6_end 81 = .ok (.getfield 138, 3) := by decide +kernel
theorem dX6_end_84 : decode cX6_end 84 = .ok (.imul, 1) := by decide +kernel
theorem dX6_end_85 : decode cX6_end 85 = .ok (.iload_n 2, 1) := by decide +kernel
theorem dX6_end_86 : decode cX6_end 86 = .ok (.iadd, 1) := by decide +kernel
theorem dX6_end_87 : decode cX6_end 87 = .ok (.iload_n 3, 1) := by decide +kernel
theorem dX6_end_88 : decode cX6_end 88 = .ok (.iastore, 1) := by decide +kernel
theorem dX6_end_89 : decode cX6_end 89 = .ok (.aload_n 0, 1) := by decide +kernel
theorem dX6_end_90 : decode cX6_end 90 = .ok (.getfield 54, 3) := by decide +kernel
theorem dX6_end_93 : decode cX6_end 93 = .ok (.bipush 6, 2) := by decide +kernel
theorem dX6_end_95 : decode cX6_end 95 = .ok (.aload_n 0, 1) := by decide +kernel
theorem dX6_end_96 : decode cX6_end 96 = .ok (.getfield 138, 3) := by decide +kernel
theorem dX6_end_99 : decode cX6_end 99 = .ok (.imul, 1) := by decide +kernel
theorem dX6_end_100 : decode cX6_end 100 = .ok (.iload_n 2, 1) := by decide +kernel
theorem dX6_end_101 : decode cX6_end 101 = .ok (.iadd, 1) := by decide +kernel
theorem dX6_end_102 : decode cX6_end 102 = .ok (.iload 4, 2) := by decide +kernel
theorem dX6_end_104 : decode cX6_end 104 = .ok (.ifCond .eq 10, 3) := by decide +kernel
theorem dX6_end_107 : decode cX6_end 107 = .ok (.iload_n 3, 1) := by decide +kernel
theorem dX6_end_108 : decode cX6_end 108 = .ok (.invokestatic 141, 3) := by decide +kernel
theorem dX6_end_111 : decode cX6_end 111 = .ok (.goto 4, 3) := by decide +kernel
theorem dX6_end_114 : decode cX6_end 114 = .ok (.iconst 0, 1) := by decide +kernel
theorem dX6_end_115 : decode cX6_end 115 = .ok (.iastore, 1) := by decide +kernel
theorem dX6_end_116 : decode cX6_end 116 = .ok (.iinc 2 1, 3) := by decide +kernel
theorem dX6_end_119 : decode cX6_end 119 = .ok (.goto (-90), 3) := by decide +kernel
theorem dX6_end_122 : decode cX6_end 122 = .ok (.aload_n 0, 1) := by decide +kernel
theorem dX6_end_123 : decode cX6_end 123 = .ok (.dup, 1) := by decide +kernel
theorem dX6_end_124 : decode cX6_end 124 = .ok (.getfield 138, 3) := by decide +kernel
theorem dX6_end_127 : decode cX6_end 127 = .ok (.iconst 1, 1) := by decide +kernel
theorem dX6_end_128 : decode cX6_end 128 = .ok (.iadd, 1) := by decide +kernel
theorem dX6_end_129 : decode cX6_end 129 = .ok (.putfield 138, 3) := by decide +kernel
theorem dX6_end_132 : decode cX6_end 132 = .ok (.aload_n 0, 1) := by decide +kernel
theorem dX6_end_133 : decode cX6_end 133 = .ok (.iconst 0, 1) := by decide +kernel
theorem dX6_end_134 : decode cX6_end 134 = .ok (.putfield 87, 3) := by decide +kernel
theorem dX6_end_137 : decode cX6_end 137 = .ok (.iload_n 1, 1) := by decide +kernel
theorem dX6_end_138 : decode cX6_end 138 = .ok (.ireturn, 1) := by decide +kernel
set_option maxRecDepth 20000 in
theorem ggX6_races_X6_tells : GoodIn wsX6_races wsX6_tells := goodIn_r _ [6, 7, 8, 9, 10, 11, 12, 13, 14, 15, 16, 17, 18, 19, 20, 21, 22, 23, 24, 25, 26, 27, 28, 29, 30, 31, 32, 33] (by decide +kernel) (by decide +kernel)
set_option maxRecDepth 20000 in
theorem gX6_races_X6_tells : GoodIn wsX6_races (wsV RX6 80 RX6 yX6_tells wsX6_tells) := goodIn_app (goodIn_of _ (by decide +kernel)) ggX6_races_X6_tells
theorem dX6_races_0 : decode cX6_races 0 = .ok (.aload_n 0, 1) := by decide +kernel
theorem dX6_races_1 : decode cX6_races 1 = .ok (.aload_n 0, 1) := by decide +kernel
theorem dX6_races_2 : decode cX6_races 2 = .ok (.getfield 138, 3) := by decide +kernel
theorem dX6_races_5 : decode cX6_races 5 = .ok (.invokevirtual 80, 3) := by decide +kernel
theorem dX6_races_8 : decode cX6_races 8 = .ok (.ireturn, 1) := by decide +kernel
set_option maxRecDepth 20000 in
theorem ggX6_place_X6_isIn : GoodIn wsX6_place wsX6_isIn := goodIn_r _ [6] (by decide +kernel) (by decide +kernel)
set_option maxRecDepth 20000 in
theorem gX6_place_X6_isIn : GoodIn wsX6_place (va_wsS RX6 60 yX6_isIn wsX6_isIn) := goodIn_app (goodIn_of _ (by decide +kernel)) ggX6_place_X6_isIn
set_option maxRecDepth 20000 in
theorem ggX6_place_X6_isKart : GoodIn wsX6_place wsX6_isKart := goodIn_r _ [10, 11, 3, 4, 5, 6, 17, 18, 19, 20, 21, 22, 23, 24, 25, 26, 27, 28, 29, 30, 31, 32, 33, 34, 35, 36, 37, 38, 39, 40, 41, 42] (by decide +kernel) (by decide +kernel)
set_option maxRecDepth 20000 in
theorem gX6_place_X6_isKart : GoodIn wsX6_place (wsV RX6 101 RX6 yX6_isKart wsX6_isKart) := goodIn_app (goodIn_of _ (by decide +kernel)) ggX6_place_X6_isKart
set_option maxRecDepth 20000 in
theorem ggX6_place_X6_fails : GoodIn wsX6_place wsX6_fails := goodIn_r _ [15, 16, 17, 18, 19, 20, 21, 22, 23, 24, 25, 26, 27, 28, 29, 30, 31, 32, 33, 34, 35, 36, 37, 38, 39, 40, 41, 42] (by decide +kernel) (by decide +kernel)
set_option maxRecDepth 20000 in
theorem gX6_place_X6_fails : GoodIn wsX6_place (wsV RX6 70 RX6 yX6_fails wsX6_fails) := goodIn_app (goodIn_of _ (by decide +kernel)) ggX6_place_X6_fails
theorem dX6_place_0 : decode cX6_place 0 = .ok (.aload_n 0, 1) := by decide +kernel
theorem dX6_place_1 : decode cX6_place 1 = .ok (.iload_n 1, 1) := by decide +kernel
theorem dX6_place_2 : decode cX6_place 2 = .ok (.iconst 0, 1) := by decide +kernel
theorem dX6_place_3 : decode cX6_place 3 = .ok (.aload_n 0, 1) := by decide +kernel
theorem dX6_place_4 : decode cX6_place 4 = .ok (.getfield 138, 3) := by decide +kernel
theorem dX6_place_7 : decode cX6_place 7 = .ok (.iconst 1, 1) := by decide +kernel
theorem dX6_place_8 : decode cX6_place 8 = .ok (.isub, 1) := by decide +kernel
theorem dX6_place_9 : decode cX6_place 9 = .ok (.invokestatic 60, 3) := by decide +kernel
theorem dX6_place_12 : decode cX6_place 12 = .ok (.ifCond .eq 15, 3) := by decide +kernel
theorem dX6_place_15 : decode cX6_place 15 = .ok (.aload_n 0, 1) := by decide +kernel
theorem dX6_place_16 : decode cX6_place 16 = .ok (.iload_n 2, 1) := by decide +kernel
theorem dX6_place_17 : decode cX6_place 17 = .ok (.invokevirtual 101, 3) := by decide +kernel
theorem dX6_place_20 : decode cX6_place 20 = .ok (.ifCond .eq 7, 3) := by decide +kernel
theorem dX6_place_23 : decode cX6_place 23 = .ok (.iconst 0, 1) := by decide +kernel
theorem dX6_place_24 : decode cX6_place 24 = .ok (.goto 4, 3) := by decide +kernel
theorem dX6_place_27 : decode cX6_place 27 = .ok (.iconst 1, 1) := by decide +kernel
theorem dX6_place_28 : decode cX6_place 28 = .ok (.invokevirtual 70, 3) := by decide +kernel
theorem dX6_place_31 : decode cX6_place 31 = .ok (.ifCond .eq 7, 3) := by decide +kernel
theorem dX6_place_34 : decode cX6_place 34 = .ok (.iconst 0, 1) := by decide +kernel
theorem dX6_place_35 : decode cX6_place 35 = .ok (.goto 14, 3) := by decide +kernel
theorem dX6_place_38 : decode cX6_place 38 = .ok (.aload_n 0, 1) := by decide +kernel
theorem dX6_place_39 : decode cX6_place 39 = .ok (.getfield 51, 3) := by decide +kernel
theorem dX6_place_42 : decode cX6_place 42 = .ok (.bipush 6, 2) := by decide +kernel
theorem dX6_place_44 : decode cX6_place 44 = .ok (.iload_n 1, 1) := by decide +kernel
theorem dX6_place_45 : decode cX6_place 45 = .ok (.imul, 1) := by decide +kernel
theorem dX6_place_46 : decode cX6_place 46 = .ok (.iload_n 2, 1) := by decide +kernel
theorem dX6_place_47 : decode cX6_place 47 = .ok (.iadd, 1) := by decide +kernel
theorem dX6_place_48 : decode cX6_place 48 = .ok (.iaload, 1) := by decide +kernel
theorem dX6_place_49 : decode cX6_place 49 = .ok (.ireturn, 1) := by decide +kernel
set_option maxRecDepth 20000 in
theorem ggX6_setDropped_X6_isIn : GoodIn wsX6_setDropped wsX6_isIn := goodIn_r _ [5] (by decide +kernel) (by decide +kernel)
set_option maxRecDepth 20000 in
theorem gX6_setDropped_X6_isIn : GoodIn wsX6_setDropped (va_wsS RX6 60 yX6_isIn wsX6_isIn) := goodIn_app (goodIn_of _ (by decide +kernel)) ggX6_setDropped_X6_isIn
set_option maxRecDepth 20000 in
theorem ggX6_setDropped_X6_fails : GoodIn wsX6_setDropped wsX6_fails := goodIn_r _ [9, 10, 11, 12, 13, 14, 15, 16, 17, 18, 19, 20, 21, 22, 23, 24, 25, 26, 27, 28, 29, 30, 31, 32, 33, 34, 35, 36] (by decide +kernel) (by decide +kernel)
set_option maxRecDepth 20000 in
theorem gX6_setDropped_X6_fails : GoodIn wsX6_setDropped (wsV RX6 70 RX6 yX6_fails wsX6_fails) := goodIn_app (goodIn_of _ (by decide +kernel)) ggX6_setDropped_X6_fails
theorem dX6_setDropped_0 : decode cX6_setDropped 0 = .ok (.aload_n 0, 1) := by decide +kernel
theorem dX6_setDropped_1 : decode cX6_setDropped 1 = .ok (.iload_n 1, 1) := by decide +kernel
theorem dX6_setDropped_2 : decode cX6_setDropped 2 = .ok (.iconst 0, 1) := by decide +kernel
theorem dX6_setDropped_3 : decode cX6_setDropped 3 = .ok (.iconst 3, 1) := by decide +kernel
theorem dX6_setDropped_4 : decode cX6_setDropped 4 = .ok (.invokestatic 60, 3) := by decide +kernel
theorem dX6_setDropped_7 : decode cX6_setDropped 7 = .ok (.ifCond .eq 7, 3) := by decide +kernel
theorem dX6_setDropped_10 : decode cX6_setDropped 10 = .ok (.iconst 0, 1) := by decide +kernel
theorem dX6_setDropped_11 : decode cX6_setDropped 11 = .ok (.goto 4, 3) := by decide +kernel
theorem dX6_setDropped_14 : decode cX6_setDropped 14 = .ok (.iconst 1, 1) := by decide +kernel
theorem dX6_setDropped_15 : decode cX6_setDropped 15 = .ok (.invokevirtual 70, 3) := by decide +kernel
theorem dX6_setDropped_18 : decode cX6_setDropped 18 = .ok (.ifCond .eq 5, 3) := by decide +kernel
theorem dX6_setDropped_21 : decode cX6_setDropped 21 = .ok (.iconst 0, 1) := by decide +kernel
theorem dX6_setDropped_22 : decode cX6_setDropped 22 = .ok (.ireturn, 1) := by decide +kernel
theorem dX6_setDropped_23 : decode cX6_setDropped 23 = .ok (.aload_n 0, 1) := by decide +kernel
theorem dX6_setDropped_24 : decode cX6_setDropped 24 = .ok (.getfield 144, 3) := by decide +kernel
theorem dX6_setDropped_27 : decode cX6_setDropped 27 = .ok (.istore_n 2, 1) := by decide +kernel
theorem dX6_setDropped_28 : decode cX6_setDropped 28 = .ok (.aload_n 0, 1) := by decide +kernel
theorem dX6_setDropped_29 : decode cX6_setDropped 29 = .ok (.iload_n 1, 1) := by decide +kernel
theorem dX6_setDropped_30 : decode cX6_setDropped 30 = .ok (.putfield 144, 3) := by decide +kernel
theorem dX6_setDropped_33 : decode cX6_setDropped 33 = .ok (.iload_n 2, 1) := by decide +kernel
theorem dX6_setDropped_34 : decode cX6_setDropped 34 = .ok (.ireturn, 1) := by decide +kernel
theorem dX6_sum_0 : decode cX6_sum 0 = .ok (.iconst 0, 1) := by decide +kernel
theorem dX6_sum_1 : decode cX6_sum 1 = .ok (.istore_n 2, 1) := by decide +kernel
theorem dX6_sum_2 : decode cX6_sum 2 = .ok (.iconst 0, 1) := by decide +kernel
theorem dX6_sum_3 : decode cX6_sum 3 = .ok (.istore_n 3, 1) := by decide +kernel
theorem dX6_sum_4 : decode cX6_sum 4 = .ok (.iload_n 3, 1) := by decide +kernel
theorem dX6_sum_5 : decode cX6_sum 5 = .ok (.aload_n 0, 1) := by decide +kernel
theorem dX6_sum_6 : decode cX6_sum 6 = .ok (.getfield 138, 3) := by decide +kernel
theorem dX6_sum_9 : decode cX6_sum 9 = .ok (.if_icmp .ge 105, 3) := by decide +kernel
theorem dX6_sum_12 : decode cX6_sum 12 = .ok (.aload_n 0, 1) := by decide +kernel
theorem dX6_sum_13 : decode cX6_sum 13 = .ok (.getfield 54, 3) := by decide +kernel
theorem dX6_sum_16 : decode cX6_sum 16 = .ok (.bipush 6, 2) := by decide +kernel
theorem dX6_sum_18 : decode cX6_sum 18 = .ok (.iload_n 3, 1) := by decide +kernel
theorem dX6_sum_19 : decode cX6_sum 19 = .ok (.imul, 1) := by decide +kernel
theorem dX6_sum_20 : decode cX6_sum 20 = .ok (.iload_n 1, 1) := by decide +kernel
theorem dX6_sum_21 : decode cX6_sum 21 = .ok (.iadd, 1) := by decide +kernel
theorem dX6_sum_22 : decode cX6_sum 22 = .ok (.iaload, 1) := by decide +kernel
theorem dX6_sum_23 : decode cX6_sum 23 = .ok (.istore 4, 2) := by decide +kernel
theorem dX6_sum_25 : decode cX6_sum 25 = .ok (.iconst 0, 1) := by decide +kernel
theorem dX6_sum_26 : decode cX6_sum 26 = .ok (.istore 5, 2) := by decide +kernel
theorem dX6_sum_28 : decode cX6_sum 28 = .ok (.iconst 0, 1) := by decide +kernel
theorem dX6_sum_29 : decode cX6_sum 29 = .ok (.istore 6, 2) := by decide +kernel
theorem dX6_sum_31 : decode cX6_sum 31 = .ok (.iload 6, 2) := by decide +kernel
theorem dX6_sum_33 : decode cX6_sum 33 = .ok (.aload_n 0, 1) := by decide +kernel
theorem dX6_sum_34 : decode cX6_sum 34 = .ok (.getfield 138, 3) := by decide +kernel
theorem dX6_sum_37 : decode cX6_sum 37 = .ok (.if_icmp .ge 53, 3) := by decide +kernel
theorem dX6_sum_40 : decode cX6_sum 40 = .ok (.aload_n 0, 1) := by decide +kernel
theorem dX6_sum_41 : decode cX6_sum 41 = .ok (.getfield 54, 3) := by decide +kernel
theorem dX6_sum_44 : decode cX6_sum 44 = .ok (.bipush 6, 2) := by decide +kernel
theorem dX6_sum_46 : decode cX6_sum 46 = .ok (.iload 6, 2) := by decide +kernel
theorem dX6_sum_48 : decode cX6_sum 48 = .ok (.imul, 1) := by decide +kernel
theorem dX6_sum_49 : decode cX6_sum 49 = .ok (.iload_n 1, 1) := by decide +kernel
theorem dX6_sum_50 : decode cX6_sum 50 = .ok (.iadd, 1) := by decide +kernel
theorem dX6_sum_51 : decode cX6_sum 51 = .ok (.iaload, 1) := by decide +kernel
theorem dX6_sum_52 : decode cX6_sum 52 = .ok (.istore 7, 2) := by decide +kernel
theorem dX6_sum_54 : decode cX6_sum 54 = .ok (.iload 5, 2) := by decide +kernel
theorem dX6_sum_56 : decode cX6_sum 56 = .ok (.iload 7, 2) := by decide +kernel
theorem dX6_sum_58 : decode cX6_sum 58 = .ok (.iload 4, 2) := by decide +kernel
theorem dX6_sum_60 : decode cX6_sum 60 = .ok (.if_icmp .lt 16, 3) := by decide +kernel
theorem dX6_sum_63 : decode cX6_sum 63 = .ok (.iload 7, 2) := by decide +kernel
theorem dX6_sum_65 : decode cX6_sum 65 = .ok (.iload 4, 2) := by decide +kernel
theorem dX6_sum_67 : decode cX6_sum 67 = .ok (.if_icmp .ne 13, 3) := by decide +kernel
theorem dX6_sum_70 : decode cX6_sum 70 = .ok (.iload 6, 2) := by decide +kernel
theorem dX6_sum_72 : decode cX6_sum 72 = .ok (.iload_n 3, 1) := by decide +kernel
theorem dX6_sum_73 : decode cX6_sum 73 = .ok (.if_icmp .ge 7, 3) := by decide +kernel
theorem dX6_sum_76 : decode cX6_sum 76 = .ok (.iconst 1, 1) := by decide +kernel
theorem dX6_sum_77 : decode cX6_sum 77 = .ok (.goto 4, 3) := by decide +kernel
theorem dX6_sum_80 : decode cX6_sum 80 = .ok (.iconst 0, 1) := by decide +kernel
theorem dX6_sum_81 : decode cX6_sum 81 = .ok (.iadd, 1) := by decide +kernel
theorem dX6_sum_82 : decode cX6_sum 82 = .ok (.istore 5, 2) := by decide +kernel
theorem dX6_sum_84 : decode cX6_sum 84 = .ok (.iinc 6 1, 3) := by decide +kernel
theorem dX6_sum_87 : decode cX6_sum 87 = .ok (.goto (-56), 3) := by decide +kernel
theorem dX6_sum_90 : decode cX6_sum 90 = .ok (.iload_n 2, 1) := by decide +kernel
theorem dX6_sum_91 : decode cX6_sum 91 = .ok (.iload 5, 2) := by decide +kernel
theorem dX6_sum_93 : decode cX6_sum 93 = .ok (.aload_n 0, 1) := by decide +kernel
theorem dX6_sum_94 : decode cX6_sum 94 = .ok (.getfield 144, 3) := by decide +kernel
theorem dX6_sum_97 : decode cX6_sum 97 = .ok (.if_icmp .lt 8, 3) := by decide +kernel
theorem dX6_sum_100 : decode cX6_sum 100 = .ok (.iload 4, 2) := by decide +kernel
theorem dX6_sum_102 : decode cX6_sum 102 = .ok (.goto 4, 3) := by decide +kernel
theorem dX6_sum_105 : decode cX6_sum 105 = .ok (.iconst 0, 1) := by decide +kernel
theorem dX6_sum_106 : decode cX6_sum 106 = .ok (.iadd, 1) := by decide +kernel
theorem dX6_sum_107 : decode cX6_sum 107 = .ok (.istore_n 2, 1) := by decide +kernel
theorem dX6_sum_108 : decode cX6_sum 108 = .ok (.iinc 3 1, 3) := by decide +kernel
theorem dX6_sum_111 : decode cX6_sum 111 = .ok (.goto (-107), 3) := by decide +kernel
theorem dX6_sum_114 : decode cX6_sum 114 = .ok (.iload_n 2, 1) := by decide +kernel
theorem dX6_sum_115 : decode cX6_sum 115 = .ok (.ireturn, 1) := by decide +kernel
set_option maxRecDepth 20000 in
theorem ggX6_points_X6_isKart : GoodIn wsX6_points wsX6_isKart := goodIn_r _ [5, 6, 7, 8, 4, 9, 22, 23, 24, 25, 26, 27, 28, 29, 30, 31, 32, 33, 34, 35, 36, 37, 38, 39, 40, 41, 42, 43, 44, 45, 46, 47] (by decide +kernel) (by decide +kernel)
set_option maxRecDepth 20000 in
theorem gX6_points_X6_isKart : GoodIn wsX6_points (wsV RX6 101 RX6 yX6_isKart wsX6_isKart) := goodIn_app (goodIn_of _ (by decide +kernel)) ggX6_points_X6_isKart
set_option maxRecDepth 20000 in
theorem ggX6_points_X6_fails : GoodIn wsX6_points wsX6_fails := goodIn_r _ [13, 14, 22, 23, 24, 25, 26, 27, 28, 29, 30, 31, 32, 33, 34, 35, 36, 37, 38, 39, 40, 41, 42, 43, 44, 45, 46, 47] (by decide +kernel) (by decide +kernel)
set_option maxRecDepth 20000 in
theorem gX6_points_X6_fails : GoodIn wsX6_points (wsV RX6 70 RX6 yX6_fails wsX6_fails) := goodIn_app (goodIn_of _ (by decide +kernel)) ggX6_points_X6_fails
set_option maxRecDepth 20000 in
theorem ggX6_points_X6_sum : GoodIn wsX6_points wsX6_sum := goodIn_r _ [18, 19, 20, 21, 22, 23, 24, 25, 26, 27, 28, 29, 30, 31, 32, 33, 34, 35, 36, 37, 38, 39, 40, 41, 42, 43, 44, 45, 46, 47] (by decide +kernel) (by decide +kernel)
set_option maxRecDepth 20000 in
theorem gX6_points_X6_sum : GoodIn wsX6_points (wsV RX6 147 RX6 yX6_sum wsX6_sum) := goodIn_app (goodIn_of _ (by decide +kernel)) ggX6_points_X6_sum
theorem dX6_points_0 : decode cX6_points 0 = .ok (.aload_n 0, 1) := by decide +kernel
theorem dX6_points_1 : decode cX6_points 1 = .ok (.aload_n 0, 1) := by decide +kernel
theorem dX6_points_2 : decode cX6_points 2 = .ok (.iload_n 1, 1) := by decide +kernel
theorem dX6_points_3 : decode cX6_points 3 = .ok (.invokevirtual 101, 3) := by decide +kernel
theorem dX6_points_6 : decode cX6_points 6 = .ok (.ifCond .eq 7, 3) := by decide +kernel
theorem dX6_points_9 : decode cX6_points 9 = .ok (.iconst 0, 1) := by decide +kernel
theorem dX6_points_10 : decode cX6_points 10 = .ok (.goto 4, 3) := by decide +kernel
theorem dX6_points_13 : decode cX6_points 13 = .ok (.iconst 1, 1) := by decide +kernel
theorem dX6_points_14 : decode cX6_points 14 = .ok (.invokevirtual 70, 3) := by decide +kernel
theorem dX6_points_17 : decode cX6_points 17 = .ok (.ifCond .eq 7, 3) := by decide +kernel
theorem dX6_points_20 : decode cX6_points 20 = .ok (.iconst 0, 1) := by decide +kernel
theorem dX6_points_21 : decode cX6_points 21 = .ok (.goto 8, 3) := by decide +kernel
theorem dX6_points_24 : decode cX6_points 24 = .ok (.aload_n 0, 1) := by decide +kernel
theorem dX6_points_25 : decode cX6_points 25 = .ok (.iload_n 1, 1) := by decide +kernel
theorem dX6_points_26 : decode cX6_points 26 = .ok (.invokevirtual 147, 3) := by decide +kernel
theorem dX6_points_29 : decode cX6_points 29 = .ok (.ireturn, 1) := by decide +kernel
set_option maxRecDepth 20000 in
theorem ggX6_teamPoints_X6_isIn : GoodIn wsX6_teamPoints wsX6_isIn := goodIn_r _ [6] (by decide +kernel) (by decide +kernel)
set_option maxRecDepth 20000 in
theorem gX6_teamPoints_X6_isIn : GoodIn wsX6_teamPoints (va_wsS RX6 60 yX6_isIn wsX6_isIn) := goodIn_app (goodIn_of _ (by decide +kernel)) ggX6_teamPoints_X6_isIn
set_option maxRecDepth 20000 in
theorem ggX6_teamPoints_X6_fails : GoodIn wsX6_teamPoints wsX6_fails := goodIn_r _ [10, 11, 19, 20, 21, 22, 23, 24, 25, 26, 27, 28, 29, 30, 31, 32, 33, 34, 35, 36, 37, 38, 39, 40, 41, 42, 43, 44] (by decide +kernel) (by decide +kernel)
set_option maxRecDepth 20000 in
theorem gX6_teamPoints_X6_fails : GoodIn wsX6_teamPoints (wsV RX6 70 RX6 yX6_fails wsX6_fails) := goodIn_app (goodIn_of _ (by decide +kernel)) ggX6_teamPoints_X6_fails
set_option maxRecDepth 20000 in
theorem ggX6_teamPoints_X6_sum : GoodIn wsX6_teamPoints wsX6_sum := goodIn_r _ [15, 16, 17, 18, 19, 20, 21, 22, 23, 24, 25, 26, 27, 28, 29, 30, 31, 32, 33, 34, 35, 36, 37, 38, 39, 40, 41, 42, 43, 44] (by decide +kernel) (by decide +kernel)
set_option maxRecDepth 20000 in
theorem gX6_teamPoints_X6_sum : GoodIn wsX6_teamPoints (wsV RX6 147 RX6 yX6_sum wsX6_sum) := goodIn_app (goodIn_of _ (by decide +kernel)) ggX6_teamPoints_X6_sum
theorem dX6_teamPoints_0 : decode cX6_teamPoints 0 = .ok (.aload_n 0, 1) := by decide +kernel
theorem dX6_teamPoints_1 : decode cX6_teamPoints 1 = .ok (.iload_n 1, 1) := by decide +kernel
theorem dX6_teamPoints_2 : decode cX6_teamPoints 2 = .ok (.iconst 0, 1) := by decide +kernel
theorem dX6_teamPoints_3 : decode cX6_teamPoints 3 = .ok (.iconst 3, 1) := by decide +kernel
theorem dX6_teamPoints_4 : decode cX6_teamPoints 4 = .ok (.invokestatic 60, 3) := by decide +kernel
theorem dX6_teamPoints_7 : decode cX6_teamPoints 7 = .ok (.ifCond .eq 7, 3) := by decide +kernel
theorem dX6_teamPoints_10 : decode cX6_teamPoints 10 = .ok (.iconst 0, 1) := by decide +kernel
theorem dX6_teamPoints_11 : decode cX6_teamPoints 11 = .ok (.goto 4, 3) := by decide +kernel
theorem dX6_teamPoints_14 : decode cX6_teamPoints 14 = .ok (.iconst 1, 1) := by decide +kernel
theorem dX6_teamPoints_15 : decode cX6_teamPoints 15 = .ok (.invokevirtual 70, 3) := by decide +kernel
theorem dX6_teamPoints_18 : decode cX6_teamPoints 18 = .ok (.ifCond .eq 5, 3) := by decide +kernel
theorem dX6_teamPoints_21 : decode cX6_teamPoints 21 = .ok (.iconst 0, 1) := by decide +kernel
theorem dX6_teamPoints_22 : decode cX6_teamPoints 22 = .ok (.ireturn, 1) := by decide +kernel
theorem dX6_teamPoints_23 : decode cX6_teamPoints 23 = .ok (.iconst 0, 1) := by decide +kernel
theorem dX6_teamPoints_24 : decode cX6_teamPoints 24 = .ok (.istore_n 2, 1) := by decide +kernel
theorem dX6_teamPoints_25 : decode cX6_teamPoints 25 = .ok (.iconst 0, 1) := by decide +kernel
theorem dX6_teamPoints_26 : decode cX6_teamPoints 26 = .ok (.istore_n 3, 1) := by decide +kernel
theorem dX6_teamPoints_27 : decode cX6_teamPoints 27 = .ok (.iload_n 3, 1) := by decide +kernel
theorem dX6_teamPoints_28 : decode cX6_teamPoints 28 = .ok (.aload_n 0, 1) := by decide +kernel
theorem dX6_teamPoints_29 : decode cX6_teamPoints 29 = .ok (.getfield 64, 3) := by decide +kernel
theorem dX6_teamPoints_32 : decode cX6_teamPoints 32 = .ok (.if_icmp .ge 31, 3) := by decide +kernel
theorem dX6_teamPoints_35 : decode cX6_teamPoints 35 = .ok (.iload_n 2, 1) := by decide +kernel
theorem dX6_teamPoints_36 : decode cX6_teamPoints 36 = .ok (.aload_n 0, 1) := by decide +kernel
theorem dX6_teamPoints_37 : decode cX6_teamPoints 37 = .ok (.getfield 20, 3) := by decide +kernel
theorem dX6_teamPoints_40 : decode cX6_teamPoints 40 = .ok (.iload_n 3, 1) := by decide +kernel
theorem dX6_teamPoints_41 : decode cX6_teamPoints 41 = .ok (.iaload, 1) := by decide +kernel
theorem dX6_teamPoints_42 : decode cX6_teamPoints 42 = .ok (.iload_n 1, 1) := by decide +kernel
theorem dX6_teamPoints_43 : decode cX6_teamPoints 43 = .ok (.if_icmp .ne 11, 3) := by decide +kernel
theorem dX6_teamPoints_46 : decode cX6_teamPoints 46 = .ok (.aload_n 0, 1) := by decide +kernel
theorem dX6_teamPoints_47 : decode cX6_teamPoints 47 = .ok (.iload_n 3, 1) := by decide +kernel
theorem dX6_teamPoints_48 : decode cX6_teamPoints 48 = .ok (.invokevirtual 147, 3) := by decide +kernel
theorem dX6_teamPoints_51 : decode cX6_teamPoints 51 = .ok (.goto 4, 3) := by decide +kernel
theorem dX6_teamPoints_54 : decode cX6_teamPoints 54 = .ok (.iconst 0, 1) := by decide +kernel
theorem dX6_teamPoints_55 : decode cX6_teamPoints 55 = .ok (.iadd, 1) := by decide +kernel
theorem dX6_teamPoints_56 : decode cX6_teamPoints 56 = .ok (.istore_n 2, 1) := by decide +kernel
theorem dX6_teamPoints_57 : decode cX6_teamPoints 57 = .ok (.iinc 3 1, 3) := by decide +kernel
theorem dX6_teamPoints_60 : decode cX6_teamPoints 60 = .ok (.goto (-33), 3) := by decide +kernel
theorem dX6_teamPoints_63 : decode cX6_teamPoints 63 = .ok (.iload_n 2, 1) := by decide +kernel
theorem dX6_teamPoints_64 : decode cX6_teamPoints 64 = .ok (.ireturn, 1) := by decide +kernel
theorem dX6_times_0 : decode cX6_times 0 = .ok (.iconst 0, 1) := by decide +kernel
theorem dX6_times_1 : decode cX6_times 1 = .ok (.istore_n 3, 1) := by decide +kernel
theorem dX6_times_2 : decode cX6_times 2 = .ok (.iconst 0, 1) := by decide +kernel
theorem dX6_times_3 : decode cX6_times 3 = .ok (.istore 4, 2) := by decide +kernel
theorem dX6_times_5 : decode cX6_times 5 = .ok (.iload 4, 2) := by decide +kernel
theorem dX6_times_7 : decode cX6_times 7 = .ok (.aload_n 0, 1) := by decide +kernel
theorem dX6_times_8 : decode cX6_times 8 = .ok (.getfield 138, 3) := by decide +kernel
theorem dX6_times_11 : decode cX6_times 11 = .ok (.if_icmp .ge 33, 3) := by decide +kernel
theorem dX6_times_14 : decode cX6_times 14 = .ok (.iload_n 3, 1) := by decide +kernel
theorem dX6_times_15 : decode cX6_times 15 = .ok (.aload_n 0, 1) := by decide +kernel
theorem dX6_times_16 : decode cX6_times 16 = .ok (.getfield 51, 3) := by decide +kernel
theorem dX6_times_19 : decode cX6_times 19 = .ok (.bipush 6, 2) := by decide +kernel
theorem dX6_times_21 : decode cX6_times 21 = .ok (.iload 4, 2) := by decide +kernel
theorem dX6_times_23 : decode cX6_times 23 = .ok (.imul, 1) := by decide +kernel
theorem dX6_times_24 : decode cX6_times 24 = .ok (.iload_n 1, 1) := by decide +kernel
theorem dX6_times_25 : decode cX6_times 25 = .ok (.iadd, 1) := by decide +kernel
theorem dX6_times_26 : decode cX6_times 26 = .ok (.iaload, 1) := by decide +kernel
theorem dX6_times_27 : decode cX6_times 27 = .ok (.iload_n 2, 1) := by decide +kernel
theorem dX6_times_28 : decode cX6_times 28 = .ok (.if_icmp .ne 7, 3) := by decide +kernel
theorem dX6_times_31 : decode cX6_times 31 = .ok (.iconst 1, 1) := by decide +kernel
theorem dX6_times_32 : decode cX6_times 32 = .ok (.goto 4, 3) := by decide +kernel
theorem dX6_times_35 : decode cX6_times 35 = .ok (.iconst 0, 1) := by decide +kernel
theorem dX6_times_36 : decode cX6_times 36 = .ok (.iadd, 1) := by decide +kernel
theorem dX6_times_37 : decode cX6_times 37 = .ok (.istore_n 3, 1) := by decide +kernel
theorem dX6_times_38 : decode cX6_times 38 = .ok (.iinc 4 1, 3) := by decide +kernel
theorem dX6_times_41 : decode cX6_times 41 = .ok (.goto (-36), 3) := by decide +kernel
theorem dX6_times_44 : decode cX6_times 44 = .ok (.iload_n 3, 1) := by decide +kernel
theorem dX6_times_45 : decode cX6_times 45 = .ok (.ireturn, 1) := by decide +kernel
set_option maxRecDepth 20000 in
theorem ggX6_stands_X6_sum : GoodIn wsX6_stands wsX6_sum := goodIn_r _ [6, 7, 8, 9, 15, 16, 17, 18, 19, 20, 21, 22, 23, 24, 25, 26, 27, 28, 29, 30, 31, 32, 33, 34, 35, 36, 37, 38, 39, 40] (by decide +kernel) (by decide +kernel)
set_option maxRecDepth 20000 in
theorem gX6_stands_X6_sum : GoodIn wsX6_stands (wsV RX6 147 RX6 yX6_sum wsX6_sum) := goodIn_app (goodIn_of _ (by decide +kernel)) ggX6_stands_X6_sum
set_option maxRecDepth 20000 in
theorem ggX6_stands_X6_times : GoodIn wsX6_stands wsX6_times := goodIn_r _ [13, 7, 14, 15, 16, 17, 18, 19, 20, 21, 22, 23, 24, 25, 26, 27, 28, 29, 30, 31, 32, 33, 34, 35, 36, 37, 38, 39, 40] (by decide +kernel) (by decide +kernel)
set_option maxRecDepth 20000 in
theorem gX6_stands_X6_times : GoodIn wsX6_stands (wsV RX6 150 RX6 yX6_times wsX6_times) := goodIn_app (goodIn_of _ (by decide +kernel)) ggX6_stands_X6_times
theorem dX6_stands_0 : decode cX6_stands 0 = .ok (.aload_n 0, 1) := by decide +kernel
theorem dX6_stands_1 : decode cX6_stands 1 = .ok (.iload_n 1, 1) := by decide +kernel
theorem dX6_stands_2 : decode cX6_stands 2 = .ok (.invokevirtual 147, 3) := by decide +kernel
theorem dX6_stands_5 : decode cX6_stands 5 = .ok (.aload_n 0, 1) := by decide +kernel
theorem dX6_stands_6 : decode cX6_stands 6 = .ok (.iload_n 2, 1) := by decide +kernel
theorem dX6_stands_7 : decode cX6_stands 7 = .ok (.invokevirtual 147, 3) := by decide +kernel
theorem dX6_stands_10 : decode cX6_stands 10 = .ok (.if_icmp .eq 22, 3) := by decide +kernel
theorem dX6_stands_13 : decode cX6_stands 13 = .ok (.aload_n 0, 1) := by decide +kernel
theorem dX6_stands_14 : decode cX6_stands 14 = .ok (.iload_n 1, 1) := by decide +kernel
theorem dX6_stands_15 : decode cX6_stands 15 = .ok (.invokevirtual 147, 3) := by decide +kernel
theorem dX6_stands_18 : decode cX6_stands 18 = .ok (.aload_n 0, 1) := by decide +kernel
theorem dX6_stands_19 : decode cX6_stands 19 = .ok (.iload_n 2, 1) := by decide +kernel
theorem dX6_stands_20 : decode cX6_stands 20 = .ok (.invokevirtual 147, 3) := by decide +kernel
theorem dX6_stands_23 : decode cX6_stands 23 = .ok (.if_icmp .le 7, 3) := by decide +kernel
theorem dX6_stands_26 : decode cX6_stands 26 = .ok (.iconst 1, 1) := by decide +kernel
theorem dX6_stands_27 : decode cX6_stands 27 = .ok (.goto 4, 3) := by decide +kernel
theorem dX6_stands_30 : decode cX6_stands 30 = .ok (.iconst 0, 1) := by decide +kernel
theorem dX6_stands_31 : decode cX6_stands 31 = .ok (.ireturn, 1) := by decide +kernel
theorem dX6_stands_32 : decode cX6_stands 32 = .ok (.iconst 0, 1) := by decide +kernel
theorem dX6_stands_33 : decode cX6_stands 33 = .ok (.istore_n 3, 1) := by decide +kernel
theorem dX6_stands_34 : decode cX6_stands 34 = .ok (.iload_n 3, 1) := by decide +kernel
theorem dX6_stands_35 : decode cX6_stands 35 = .ok (.aload_n 0, 1) := by decide +kernel
theorem dX6_stands_36 : decode cX6_stands 36 = .ok (.getfield 64, 3) := by decide +kernel
theorem dX6_stands_39 : decode cX6_stands 39 = .ok (.if_icmp .ge 45, 3) := by decide +kernel
theorem dX6_stands_42 : decode cX6_stands 42 = .ok (.aload_n 0, 1) := by decide +kernel
theorem dX6_stands_43 : decode cX6_stands 43 = .ok (.iload_n 1, 1) := by decide +kernel
theorem dX6_stands_44 : decode cX6_stands 44 = .ok (.iload_n 3, 1) := by decide +kernel
theorem dX6_stands_45 : decode cX6_stands 45 = .ok (.invokevirtual 150, 3) := by decide +kernel
theorem dX6_stands_48 : decode cX6_stands 48 = .ok (.aload_n 0, 1) := by decide +kernel
theorem dX6_stands_49 : decode cX6_stands 49 = .ok (.iload_n 2, 1) := by decide +kernel
theorem dX6_stands_50 : decode cX6_stands 50 = .ok (.iload_n 3, 1) := by decide +kernel
theorem dX6_stands_51 : decode cX6_stands 51 = .ok (.invokevirtual 150, 3) := by decide +kernel
theorem dX6_stands_54 : decode cX6_stands 54 = .ok (.if_icmp .eq 24, 3) := by decide +kernel
theorem dX6_stands_57 : decode cX6_stands 57 = .ok (.aload_n 0, 1) := by decide +kernel
theorem dX6_stands_58 : decode cX6_stands 58 = .ok (.iload_n 1, 1) := by decide +kernel
theorem dX6_stands_59 : decode cX6_stands 59 = .ok (.iload_n 3, 1) := by decide +kernel
theorem dX6_stands_60 : decode cX6_stands 60 = .ok (.invokevirtual 150, 3) := by decide +kernel
theorem dX6_stands_63 : decode cX6_stands 63 = .ok (.aload_n 0, 1) := by decide +kernel
theorem dX6_stands_64 : decode cX6_stands 64 = .ok (.iload_n 2, 1) := by decide +kernel
theorem dX6_stands_65 : decode cX6_stands 65 = .ok (.iload_n 3, 1) := by decide +kernel
theorem dX6_stands_66 : decode cX6_stands 66 = .ok (.invokevirtual 150, 3) := by decide +kernel
theorem dX6_stands_69 : decode cX6_stands 69 = .ok (.if_icmp .le 7, 3) := by decide +kernel
theorem dX6_stands_72 : decode cX6_stands 72 = .ok (.iconst 1, 1) := by decide +kernel
theorem dX6_stands_73 : decode cX6_stands 73 = .ok (.goto 4, 3) := by decide +kernel
theorem dX6_stands_76 : decode cX6_stands 76 = .ok (.iconst 0, 1) := by decide +kernel
theorem dX6_stands_77 : decode cX6_stands 77 = .ok (.ireturn, 1) := by decide +kernel
theorem dX6_stands_78 : decode cX6_stands 78 = .ok (.iinc 3 1, 3) := by decide +kernel
theorem dX6_stands_81 : decode cX6_stands 81 = .ok (.goto (-47), 3) := by decide +kernel
theorem dX6_stands_84 : decode cX6_stands 84 = .ok (.iload_n 1, 1) := by decide +kernel
theorem dX6_stands_85 : decode cX6_stands 85 = .ok (.iload_n 2, 1) := by decide +kernel
theorem dX6_stands_86 : decode cX6_stands 86 = .ok (.if_icmp .ge 7, 3) := by decide +kernel
theorem dX6_stands_89 : decode cX6_stands 89 = .ok (.iconst 1, 1) := by decide +kernel
theorem dX6_stands_90 : decode cX6_stands 90 = .ok (.goto 4, 3) := by decide +kernel
theorem dX6_stands_93 : decode cX6_stands 93 = .ok (.iconst 0, 1) := by decide +kernel
theorem dX6_stands_94 : decode cX6_stands 94 = .ok (.ireturn, 1) := by decide +kernel
set_option maxRecDepth 20000 in
theorem ggX6_stand_X6_stands : GoodIn wsX6_stand wsX6_stands := goodIn_r _ [6, 1, 7, 8, 9, 5, 10, 11, 12, 13, 14, 15, 16, 17, 18, 19, 20, 21, 22, 23, 24, 25, 26, 27, 28, 29, 30, 31, 32, 33, 34, 35, 36, 37, 38, 39, 40, 41, 42, 43, 44] (by decide +kernel) (by decide +kernel)
set_option maxRecDepth 20000 in
theorem gX6_stand_X6_stands : GoodIn wsX6_stand (wsV RX6 153 RX6 yX6_stands wsX6_stands) := goodIn_app (goodIn_of _ (by decide +kernel)) ggX6_stand_X6_stands
theorem dX6_stand_0 : decode cX6_stand 0 = .ok (.iconst 0, 1) := by decide +kernel
theorem dX6_stand_1 : decode cX6_stand 1 = .ok (.istore_n 2, 1) := by decide +kernel
theorem dX6_stand_2 : decode cX6_stand 2 = .ok (.iconst 0, 1) := by decide +kernel
theorem dX6_stand_3 : decode cX6_stand 3 = .ok (.istore_n 3, 1) := by decide +kernel
theorem dX6_stand_4 : decode cX6_stand 4 = .ok (.iload_n 3, 1) := by decide +kernel
theorem dX6_stand_5 : decode cX6_stand 5 = .ok (.aload_n 0, 1) := by decide +kernel
theorem dX6_stand_6 : decode cX6_stand 6 = .ok (.getfield 64, 3) := by decide +kernel
theorem dX6_stand_9 : decode cX6_stand 9 = .ok (.if_icmp .ge 31, 3) := by decide +kernel
theorem dX6_stand_12 : decode cX6_stand 12 = .ok (.iload_n 2, 1) := by decide +kernel
theorem dX6_stand_13 : decode cX6_stand 13 = .ok (.iload_n 3, 1) := by decide +kernel
theorem dX6_stand_14 : decode cX6_stand 14 = .ok (.iload_n 1, 1) := by decide +kernel
theorem dX6_stand_15 : decode cX6_stand 15 = .ok (.if_icmp .eq 16, 3) := by decide +kernel
theorem dX6_stand_18 : decode cX6_stand 18 = .ok (.aload_n 0, 1) := by decide +kernel
theorem dX6_stand_19 : decode cX6_stand 19 = .ok (.iload_n 3, 1) := by decide +kernel
theorem dX6_stand_20 : decode cX6_stand 20 = .ok (.iload_n 1, 1) := by decide +kernel
theorem dX6_stand_21 : decode cX6_stand 21 = .ok (.invokevirtual 153, 3) := by decide +kernel
theorem dX6_stand_24 : decode cX6_stand 24 = .ok (.ifCond .eq 7, 3) := by decide +kernel
theorem dX6_stand_27 : decode cX6_stand 27 = .ok (.iconst 1, 1) := by decide +kernel
theorem dX6_stand_28 : decode cX6_stand 28 = .ok (.goto 4, 3) := by decide +kernel
theorem dX6_stand_31 : decode cX6_stand 31 = .ok (.iconst 0, 1) := by decide +kernel
theorem dX6_stand_32 : decode cX6_stand 32 = .ok (.iadd, 1) := by decide +kernel
theorem dX6_stand_33 : decode cX6_stand 33 = .ok (.istore_n 2, 1) := by decide +kernel
theorem dX6_stand_34 : decode cX6_stand 34 = .ok (.iinc 3 1, 3) := by decide +kernel
theorem dX6_stand_37 : decode cX6_stand 37 = .ok (.goto (-33), 3) := by decide +kernel
theorem dX6_stand_40 : decode cX6_stand 40 = .ok (.iload_n 2, 1) := by decide +kernel
theorem dX6_stand_41 : decode cX6_stand 41 = .ok (.ireturn, 1) := by decide +kernel
set_option maxRecDepth 20000 in
theorem ggX6_standing_X6_isKart : GoodIn wsX6_standing wsX6_isKart := goodIn_r _ [5, 6, 7, 8, 4, 9, 35, 36, 37, 38, 39, 40, 41, 42, 43, 44, 45, 46, 47, 48, 49, 50, 51, 52, 53, 54, 55, 56, 57, 58, 59, 60] (by decide +kernel) (by decide +kernel)
set_option maxRecDepth 20000 in
theorem gX6_standing_X6_isKart : GoodIn wsX6_standing (wsV RX6 101 RX6 yX6_isKart wsX6_isKart) := goodIn_app (goodIn_of _ (by decide +kernel)) ggX6_standing_X6_isKart
set_option maxRecDepth 20000 in
theorem ggX6_standing_X6_fails : GoodIn wsX6_standing wsX6_fails := goodIn_r _ [13, 14, 35, 36, 37, 38, 39, 40, 41, 42, 43, 44, 45, 46, 47, 48, 49, 50, 51, 52, 53, 54, 55, 56, 57, 58, 59, 60] (by decide +kernel) (by decide +kernel)
set_option maxRecDepth 20000 in
theorem gX6_standing_X6_fails : GoodIn wsX6_standing (wsV RX6 70 RX6 yX6_fails wsX6_fails) := goodIn_app (goodIn_of _ (by decide +kernel)) ggX6_standing_X6_fails
set_option maxRecDepth 20000 in
theorem ggX6_standing_X6_stand : GoodIn wsX6_standing wsX6_stand := goodIn_r _ [18, 6, 19, 20, 21, 4, 22, 23, 24, 25, 26, 27, 28, 29, 30, 31, 32, 33, 34, 35, 36, 37, 38, 39, 40, 41, 42, 43, 44, 45, 46, 47, 48, 49, 50, 51, 52, 53, 54, 55, 56, 57, 58, 59, 60] (by decide +kernel) (by decide +kernel)
set_option maxRecDepth 20000 in
theorem gX6_standing_X6_stand : GoodIn wsX6_standing (wsV RX6 156 RX6 yX6_stand wsX6_stand) := goodIn_app (goodIn_of _ (by decide +kernel)) ggX6_standing_X6_stand
theorem dX6_standing_0 : decode cX6_standing 0 = .ok (.aload_n 0, 1) := by decide +kernel
theorem dX6_standing_1 : decode cX6_standing 1 = .ok (.aload_n 0, 1) := by decide +kernel
theorem dX6_standing_2 : decode cX6_standing 2 = .ok (.iload_n 1, 1) := by decide +kernel
theorem dX6_standing_3 : decode cX6_standing 3 = .ok (.invokevirtual 101, 3) := by decide +kernel
theorem dX6_standing_6 : decode cX6_standing 6 = .ok (.ifCond .eq 7, 3) := by decide +kernel
theorem dX6_standing_9 : decode cX6_standing 9 = .ok (.iconst 0, 1) := by decide +kernel
theorem dX6_standing_10 : decode cX6_standing 10 = .ok (.goto 4, 3) := by decide +kernel
theorem dX6_standing_13 : decode cX6_standing 13 = .ok (.iconst 1, 1) := by decide +kernel
theorem dX6_standing_14 : decode cX6_standing 14 = .ok (.invokevirtual 70, 3) := by decide +kernel
theorem dX6_standing_17 : decode cX6_standing 17 = .ok (.ifCond .eq 7, 3) := by decide +kernel
theorem dX6_standing_20 : decode cX6_standing 20 = .ok (.iconst 0, 1) := by decide +kernel
theorem dX6_standing_21 : decode cX6_standing 21 = .ok (.goto 8, 3) := by decide +kernel
theorem dX6_standing_24 : decode cX6_standing 24 = .ok (.aload_n 0, 1) := by decide +kernel
theorem dX6_standing_25 : decode cX6_standing 25 = .ok (.iload_n 1, 1) := by decide +kernel
theorem dX6_standing_26 : decode cX6_standing 26 = .ok (.invokevirtual 156, 3) := by decide +kernel
theorem dX6_standing_29 : decode cX6_standing 29 = .ok (.ireturn, 1) := by decide +kernel
set_option maxRecDepth 20000 in
theorem ggX6_textLength_X6_tells : GoodIn wsX6_textLength wsX6_tells := goodIn_r _ [6, 7, 8, 9, 10, 11, 12, 13, 14, 15, 16, 17, 18, 19, 20, 21, 22, 23, 24, 25, 26, 27, 28, 29, 30, 31, 32, 33] (by decide +kernel) (by decide +kernel)
set_option maxRecDepth 20000 in
theorem gX6_textLength_X6_tells : GoodIn wsX6_textLength (wsV RX6 80 RX6 yX6_tells wsX6_tells) := goodIn_app (goodIn_of _ (by decide +kernel)) ggX6_textLength_X6_tells
theorem dX6_textLength_0 : decode cX6_textLength 0 = .ok (.aload_n 0, 1) := by decide +kernel
theorem dX6_textLength_1 : decode cX6_textLength 1 = .ok (.aload_n 0, 1) := by decide +kernel
theorem dX6_textLength_2 : decode cX6_textLength 2 = .ok (.getfield 64, 3) := by decide +kernel
theorem dX6_textLength_5 : decode cX6_textLength 5 = .ok (.ifCond .ne 7, 3) := by decide +kernel
theorem dX6_textLength_8 : decode cX6_textLength 8 = .ok (.iconst 0, 1) := by decide +kernel
theorem dX6_textLength_9 : decode cX6_textLength 9 = .ok (.goto 11, 3) := by decide +kernel
theorem dX6_textLength_12 : decode cX6_textLength 12 = .ok (.iconst 2, 1) := by decide +kernel
theorem dX6_textLength_13 : decode cX6_textLength 13 = .ok (.aload_n 0, 1) := by decide +kernel
theorem dX6_textLength_14 : decode cX6_textLength 14 = .ok (.getfield 64, 3) := by decide +kernel
theorem dX6_textLength_17 : decode cX6_textLength 17 = .ok (.imul, 1) := by decide +kernel
theorem dX6_textLength_18 : decode cX6_textLength 18 = .ok (.iconst 1, 1) := by decide +kernel
theorem dX6_textLength_19 : decode cX6_textLength 19 = .ok (.isub, 1) := by decide +kernel
theorem dX6_textLength_20 : decode cX6_textLength 20 = .ok (.invokevirtual 80, 3) := by decide +kernel
theorem dX6_textLength_23 : decode cX6_textLength 23 = .ok (.ireturn, 1) := by decide +kernel
set_option maxRecDepth 20000 in
theorem ggX6_textAt_X6_fails : GoodIn wsX6_textAt wsX6_fails := goodIn_r _ [6, 7, 28, 29, 30, 31, 32, 33, 34, 35, 36, 37, 38, 39, 40, 41, 42, 43, 44, 45, 46, 47, 48, 49, 50, 51, 52, 53] (by decide +kernel) (by decide +kernel)
set_option maxRecDepth 20000 in
theorem gX6_textAt_X6_fails : GoodIn wsX6_textAt (wsV RX6 70 RX6 yX6_fails wsX6_fails) := goodIn_app (goodIn_of _ (by decide +kernel)) ggX6_textAt_X6_fails
set_option maxRecDepth 20000 in
theorem ggX6_textAt_X6_stand : GoodIn wsX6_textAt wsX6_stand := goodIn_r _ [11, 1, 12, 13, 14, 5, 15, 16, 17, 18, 19, 20, 21, 22, 23, 24, 25, 26, 27, 28, 29, 30, 31, 32, 33, 34, 35, 36, 37, 38, 39, 40, 41, 42, 43, 44, 45, 46, 47, 48, 49, 50, 51, 52, 53] (by decide +kernel) (by decide +kernel)
set_option maxRecDepth 20000 in
theorem gX6_textAt_X6_stand : GoodIn wsX6_textAt (wsV RX6 156 RX6 yX6_stand wsX6_stand) := goodIn_app (goodIn_of _ (by decide +kernel)) ggX6_textAt_X6_stand
theorem dX6_textAt_0 : decode cX6_textAt 0 = .ok (.aload_n 0, 1) := by decide +kernel
theorem dX6_textAt_1 : decode cX6_textAt 1 = .ok (.iload_n 1, 1) := by decide +kernel
theorem dX6_textAt_2 : decode cX6_textAt 2 = .ok (.ifCond .lt 19, 3) := by decide +kernel
theorem dX6_textAt_5 : decode cX6_textAt 5 = .ok (.iload_n 1, 1) := by decide +kernel
theorem dX6_textAt_6 : decode cX6_textAt 6 = .ok (.iconst 2, 1) := by decide +kernel
theorem dX6_textAt_7 : decode cX6_textAt 7 = .ok (.aload_n 0, 1) := by decide +kernel
theorem dX6_textAt_8 : decode cX6_textAt 8 = .ok (.getfield 64, 3) := by decide +kernel
theorem dX6_textAt_11 : decode cX6_textAt 11 = .ok (.imul, 1) := by decide +kernel
theorem dX6_textAt_12 : decode cX6_textAt 12 = .ok (.iconst 1, 1) := by decide +kernel
theorem dX6_textAt_13 : decode cX6_textAt 13 = .ok (.isub, 1) := by decide +kernel
theorem dX6_textAt_14 : decode cX6_textAt 14 = .ok (.if_icmp .ge 7, 3) := by decide +kernel
theorem dX6_textAt_17 : decode cX6_textAt 17 = .ok (.iconst 0, 1) := by decide +kernel
theorem dX6_textAt_18 : decode cX6_textAt 18 = .ok (.goto 4, 3) := by decide +kernel
theorem dX6_textAt_21 : decode cX6_textAt 21 = .ok (.iconst 1, 1) := by decide +kernel
theorem dX6_textAt_22 : decode cX6_textAt 22 = .ok (.invokevirtual 70, 3) := by decide +kernel
theorem dX6_textAt_25 : decode cX6_textAt 25 = .ok (.ifCond .eq 5, 3) := by decide +kernel
theorem dX6_textAt_28 : decode cX6_textAt 28 = .ok (.iconst 0, 1) := by decide +kernel
theorem dX6_textAt_29 : decode cX6_textAt 29 = .ok (.ireturn, 1) := by decide +kernel
theorem dX6_textAt_30 : decode cX6_textAt 30 = .ok (.iconst 0, 1) := by decide +kernel
theorem dX6_textAt_31 : decode cX6_textAt 31 = .ok (.istore_n 2, 1) := by decide +kernel
theorem dX6_textAt_32 : decode cX6_textAt 32 = .ok (.iconst 0, 1) := by decide +kernel
theorem dX6_textAt_33 : decode cX6_textAt 33 = .ok (.istore_n 3, 1) := by decide +kernel
theorem dX6_textAt_34 : decode cX6_textAt 34 = .ok (.iload_n 3, 1) := by decide +kernel
theorem dX6_textAt_35 : decode cX6_textAt 35 = .ok (.aload_n 0, 1) := by decide +kernel
theorem dX6_textAt_36 : decode cX6_textAt 36 = .ok (.getfield 64, 3) := by decide +kernel
theorem dX6_textAt_39 : decode cX6_textAt 39 = .ok (.if_icmp .ge 26, 3) := by decide +kernel
theorem dX6_textAt_42 : decode cX6_textAt 42 = .ok (.iconst 2, 1) := by decide +kernel
theorem dX6_textAt_43 : decode cX6_textAt 43 = .ok (.aload_n 0, 1) := by decide +kernel
theorem dX6_textAt_44 : decode cX6_textAt 44 = .ok (.iload_n 3, 1) := by decide +kernel
theorem dX6_textAt_45 : decode cX6_textAt 45 = .ok (.invokevirtual 156, 3) := by decide +kernel
theorem dX6_textAt_48 : decode cX6_textAt 48 = .ok (.imul, 1) := by decide +kernel
theorem dX6_textAt_49 : decode cX6_textAt 49 = .ok (.iload_n 1, 1) := by decide +kernel
theorem dX6_textAt_50 : decode cX6_textAt 50 = .ok (.if_icmp .ne 7, 3) := by decide +kernel
theorem dX6_textAt_53 : decode cX6_textAt 53 = .ok (.iload_n 3, 1) := by decide +kernel
theorem dX6_textAt_54 : decode cX6_textAt 54 = .ok (.goto 4, 3) := by decide +kernel
theorem dX6_textAt_57 : decode cX6_textAt 57 = .ok (.iload_n 2, 1) := by decide +kernel
theorem dX6_textAt_58 : decode cX6_textAt 58 = .ok (.istore_n 2, 1) := by decide +kernel
theorem dX6_textAt_59 : decode cX6_textAt 59 = .ok (.iinc 3 1, 3) := by decide +kernel
theorem dX6_textAt_62 : decode cX6_textAt 62 = .ok (.goto (-28), 3) := by decide +kernel
theorem dX6_textAt_65 : decode cX6_textAt 65 = .ok (.iload_n 1, 1) := by decide +kernel
theorem dX6_textAt_66 : decode cX6_textAt 66 = .ok (.iconst 2, 1) := by decide +kernel
theorem dX6_textAt_67 : decode cX6_textAt 67 = .ok (.irem, 1) := by decide +kernel
theorem dX6_textAt_68 : decode cX6_textAt 68 = .ok (.iconst 1, 1) := by decide +kernel
theorem dX6_textAt_69 : decode cX6_textAt 69 = .ok (.if_icmp .ne 8, 3) := by decide +kernel
theorem dX6_textAt_72 : decode cX6_textAt 72 = .ok (.bipush 62, 2) := by decide +kernel
theorem dX6_textAt_74 : decode cX6_textAt 74 = .ok (.goto 8, 3) := by decide +kernel
theorem dX6_textAt_77 : decode cX6_textAt 77 = .ok (.bipush 48, 2) := by decide +kernel
theorem dX6_textAt_79 : decode cX6_textAt 79 = .ok (.iload_n 2, 1) := by decide +kernel
theorem dX6_textAt_80 : decode cX6_textAt 80 = .ok (.iadd, 1) := by decide +kernel
theorem dX6_textAt_81 : decode cX6_textAt 81 = .ok (.i2c, 1) := by decide +kernel
theorem dX6_textAt_82 : decode cX6_textAt 82 = .ok (.ireturn, 1) := by decide +kernel
theorem dJ9_max_7cf53_0 : decode cJ9_max_7cf53 0 = .ok (.iload_n 0, 1) := by decide +kernel
theorem dJ9_max_7cf53_1 : decode cJ9_max_7cf53 1 = .ok (.iload_n 1, 1) := by decide +kernel
theorem dJ9_max_7cf53_2 : decode cJ9_max_7cf53 2 = .ok (.if_icmp .lt 7, 3) := by decide +kernel
theorem dJ9_max_7cf53_5 : decode cJ9_max_7cf53 5 = .ok (.iload_n 0, 1) := by decide +kernel
theorem dJ9_max_7cf53_6 : decode cJ9_max_7cf53 6 = .ok (.goto 4, 3) := by decide +kernel
theorem dJ9_max_7cf53_9 : decode cJ9_max_7cf53 9 = .ok (.iload_n 1, 1) := by decide +kernel
theorem dJ9_max_7cf53_10 : decode cJ9_max_7cf53 10 = .ok (.ireturn, 1) := by decide +kernel
theorem dJ9_min_7cf53_0 : decode cJ9_min_7cf53 0 = .ok (.iload_n 0, 1) := by decide +kernel
theorem dJ9_min_7cf53_1 : decode cJ9_min_7cf53 1 = .ok (.iload_n 1, 1) := by decide +kernel
theorem dJ9_min_7cf53_2 : decode cJ9_min_7cf53 2 = .ok (.if_icmp .gt 7, 3) := by decide +kernel
theorem dJ9_min_7cf53_5 : decode cJ9_min_7cf53 5 = .ok (.iload_n 0, 1) := by decide +kernel
theorem dJ9_min_7cf53_6 : decode cJ9_min_7cf53 6 = .ok (.goto 4, 3) := by decide +kernel
theorem dJ9_min_7cf53_9 : decode cJ9_min_7cf53 9 = .ok (.iload_n 1, 1) := by decide +kernel
theorem dJ9_min_7cf53_10 : decode cJ9_min_7cf53 10 = .ok (.ireturn, 1) := by decide +kernel
