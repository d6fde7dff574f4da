theorem dX5_place_26 : decode cX5_place 26 = .ok (.iload_n 2, 1) := by decide +kernel
theorem dX5_place_27 : decode cX5_place 27 = .ok (.invokevirtual 140, 3) := by decide +kernel
theorem dX5_place_30 : decode cX5_place 30 = .ok (.aload_n 0, 1) := by decide +kernel
theorem dX5_place_31 : decode cX5_place 31 = .ok (.getfield 45, 3) := by decide +kernel
theorem dX5_place_34 : decode cX5_place 34 = .ok (.iload_n 1, 1) := by decide +kernel
theorem dX5_place_35 : decode cX5_place 35 = .ok (.iload_n 2, 1) := by decide +kernel
theorem dX5_place_36 : decode cX5_place 36 = .ok (.invokevirtual 246, 3) := by decide +kernel
theorem dX5_place_39 : decode cX5_place 39 = .ok (.ireturn, 1) := by decide +kernel
set_option maxRecDepth 20000 in
theorem ggX5_setDropped_X0_changeDropped : GoodIn wsX5_setDropped wsX0_changeDropped := goodIn_r _ [8, 9, 20, 21, 22, 23] (by decide +kernel) (by decide +kernel)
set_option maxRecDepth 20000 in
theorem gX5_setDropped_X0_changeDropped : GoodIn wsX5_setDropped (wsV RX5 251 RX0 yX0_changeDropped wsX0_changeDropped) := goodIn_app (goodIn_of _ (by decide +kernel)) ggX5_setDropped_X0_changeDropped
theorem dX5_setDropped_0 : decode cX5_setDropped 0 = .ok (.iload_n 1, 1) := by decide +kernel
theorem dX5_setDropped_1 : decode cX5_setDropped 1 = .ok (.ifCond .lt 8, 3) := by decide +kernel
theorem dX5_setDropped_4 : decode cX5_setDropped 4 = .ok (.iload_n 1, 1) := by decide +kernel
theorem dX5_setDropped_5 : decode cX5_setDropped 5 = .ok (.iconst 3, 1) := by decide +kernel
theorem dX5_setDropped_6 : decode cX5_setDropped 6 = .ok (.if_icmp .le 13, 3) := by decide +kernel
theorem dX5_setDropped_9 : decode cX5_setDropped 9 = .ok (.new 86, 3) := by decide +kernel
theorem dX5_setDropped_12 : decode cX5_setDropped 12 = .ok (.dup, 1) := by decide +kernel
theorem dX5_setDropped_13 : decode cX5_setDropped 13 = .ok (.ldc 249, 2) := by decide +kernel
theorem dX5_setDropped_15 : decode cX5_setDropped 15 = .ok (.invokespecial 90, 3) := by decide +kernel
theorem dX5_setDropped_18 : decode cX5_setDropped 18 = .ok (.athrow, 1) := by decide +kernel
theorem dX5_setDropped_19 : decode cX5_setDropped 19 = .ok (.aload_n 0, 1) := by decide +kernel
theorem dX5_setDropped_20 : decode cX5_setDropped 20 = .ok (.getfield 45, 3) := by decide +kernel
theorem dX5_setDropped_23 : decode cX5_setDropped 23 = .ok (.iload_n 1, 1) := by decide +kernel
theorem dX5_setDropped_24 : decode cX5_setDropped 24 = .ok (.invokevirtual 251, 3) := by decide +kernel
theorem dX5_setDropped_27 : decode cX5_setDropped 27 = .ok (.ireturn, 1) := by decide +kernel
set_option maxRecDepth 20000 in
theorem ggX5_points_X5_checkKart : GoodIn wsX5_points wsX5_checkKart := goodIn_ca (goodIn_r _ [6, 7, 8, 9, 22, 23, 24, 25, 26, 27, 28, 29, 30, 31] (by decide +kernel) (by decide +kernel)) (goodIn_sub (fun _ h => List.mem_cons_of_mem _ (List.mem_append_right _ h)) (by decide +kernel))
set_option maxRecDepth 20000 in
theorem gX5_points_X5_checkKart : GoodIn wsX5_points (wsV RX5 140 RX5 yX5_checkKart wsX5_checkKart) := goodIn_app (goodIn_of _ (by decide +kernel)) ggX5_points_X5_checkKart
set_option maxRecDepth 20000 in
theorem ggX5_points_X0_pointsOf : GoodIn wsX5_points wsX0_pointsOf := goodIn_r _ [14, 15, 16, 17, 18, 19, 20, 13, 21, 32, 33, 34, 35] (by decide +kernel) (by decide +kernel)
set_option maxRecDepth 20000 in
theorem gX5_points_X0_pointsOf : GoodIn wsX5_points (wsV RX5 254 RX0 yX0_pointsOf wsX0_pointsOf) := goodIn_app (goodIn_of _ (by decide +kernel)) ggX5_points_X0_pointsOf
theorem dX5_points_0 : decode cX5_points 0 = .ok (.aload_n 0, 1) := by decide +kernel
theorem dX5_points_1 : decode cX5_points 1 = .ok (.iload_n 1, 1) := by decide +kernel
theorem dX5_points_2 : decode cX5_points 2 = .ok (.invokevirtual 140, 3) := by decide +kernel
theorem dX5_points_5 : decode cX5_points 5 = .ok (.aload_n 0, 1) := by decide +kernel
theorem dX5_points_6 : decode cX5_points 6 = .ok (.getfield 45, 3) := by decide +kernel
theorem dX5_points_9 : decode cX5_points 9 = .ok (.iload_n 1, 1) := by decide +kernel
theorem dX5_points_10 : decode cX5_points 10 = .ok (.invokevirtual 254, 3) := by decide +kernel
theorem dX5_points_13 : decode cX5_points 13 = .ok (.ireturn, 1) := by decide +kernel
set_option maxRecDepth 20000 in
theorem ggX5_teamPoints_X5_checkTeam : GoodIn wsX5_teamPoints wsX5_checkTeam := goodIn_ca (goodIn_r _ [8, 9, 10] (by decide +kernel) (by decide +kernel)) (goodIn_sub (fun _ h => List.mem_cons_of_mem _ (List.mem_append_right _ h)) (by decide +kernel))
set_option maxRecDepth 20000 in
theorem gX5_teamPoints_X5_checkTeam : GoodIn wsX5_teamPoints (wsV RX5 103 RX5 yX5_checkTeam wsX5_checkTeam) := goodIn_app (goodIn_of _ (by decide +kernel)) ggX5_teamPoints_X5_checkTeam
set_option maxRecDepth 20000 in
theorem ggX5_teamPoints_X0_pointsOf : GoodIn wsX5_teamPoints wsX0_pointsOf := goodIn_r _ [15, 16, 17, 18, 19, 20, 21, 14, 22, 33, 34, 35, 36] (by decide +kernel) (by decide +kernel)
set_option maxRecDepth 20000 in
theorem gX5_teamPoints_X0_pointsOf : GoodIn wsX5_teamPoints (wsV RX5 254 RX0 yX0_pointsOf wsX0_pointsOf) := goodIn_app (goodIn_of _ (by decide +kernel)) ggX5_teamPoints_X0_pointsOf
theorem dX5_teamPoints_0 : decode cX5_teamPoints 0 = .ok (.aload_n 0, 1) := by decide +kernel
theorem dX5_teamPoints_1 : decode cX5_teamPoints 1 = .ok (.iload_n 1, 1) := by decide +kernel
theorem dX5_teamPoints_2 : decode cX5_teamPoints 2 = .ok (.invokevirtual 103, 3) := by decide +kernel
theorem dX5_teamPoints_5 : decode cX5_teamPoints 5 = .ok (.iconst 0, 1) := by decide +kernel
theorem dX5_teamPoints_6 : decode cX5_teamPoints 6 = .ok (.istore_n 2, 1) := by decide +kernel
theorem dX5_teamPoints_7 : decode cX5_teamPoints 7 = .ok (.iconst 0, 1) := by decide +kernel
theorem dX5_teamPoints_8 : decode cX5_teamPoints 8 = .ok (.istore_n 3, 1) := by decide +kernel
theorem dX5_teamPoints_9 : decode cX5_teamPoints 9 = .ok (.iload_n 3, 1) := by decide +kernel
theorem dX5_teamPoints_10 : decode cX5_teamPoints 10 = .ok (.aload_n 0, 1) := by decide +kernel
theorem dX5_teamPoints_11 : decode cX5_teamPoints 11 = .ok (.getfield 53, 3) := by decide +kernel
theorem dX5_teamPoints_14 : decode cX5_teamPoints 14 = .ok (.if_icmp .ge 30, 3) := by decide +kernel
theorem dX5_teamPoints_17 : decode cX5_teamPoints 17 = .ok (.aload_n 0, 1) := by decide +kernel
theorem dX5_teamPoints_18 : decode cX5_teamPoints 18 = .ok (.getfield 49, 3) := by decide +kernel
theorem dX5_teamPoints_21 : decode cX5_teamPoints 21 = .ok (.iload_n 3, 1) := by decide +kernel
theorem dX5_teamPoints_22 : decode cX5_teamPoints 22 = .ok (.iaload, 1) := by decide +kernel
theorem dX5_teamPoints_23 : decode cX5_teamPoints 23 = .ok (.iload_n 1, 1) := by decide +kernel
theorem dX5_teamPoints_24 : decode cX5_teamPoints 24 = .ok (.if_icmp .ne 14, 3) := by decide +kernel
theorem dX5_teamPoints_27 : decode cX5_teamPoints 27 = .ok (.iload_n 2, 1) := by decide +kernel
theorem dX5_teamPoints_28 : decode cX5_teamPoints 28 = .ok (.aload_n 0, 1) := by decide +kernel
theorem dX5_teamPoints_29 : decode cX5_teamPoints 29 = .ok (.getfield 45, 3) := by decide +kernel
theorem dX5_teamPoints_32 : decode cX5_teamPoints 32 = .ok (.iload_n 3, 1) := by decide +kernel
theorem dX5_teamPoints_33 : decode cX5_teamPoints 33 = .ok (.invokevirtual 254, 3) := by decide +kernel
theorem dX5_teamPoints_36 : decode cX5_teamPoints 36 = .ok (.iadd, 1) := by decide +kernel
theorem dX5_teamPoints_37 : decode cX5_teamPoints 37 = .ok (.istore_n 2, 1) := by decide +kernel
theorem dX5_teamPoints_38 : decode cX5_teamPoints 38 = .ok (.iinc 3 1, 3) := by decide +kernel
theorem dX5_teamPoints_41 : decode cX5_teamPoints 41 = .ok (.goto (-32), 3) := by decide +kernel
theorem dX5_teamPoints_44 : decode cX5_teamPoints 44 = .ok (.iload_n 2, 1) := by decide +kernel
theorem dX5_teamPoints_45 : decode cX5_teamPoints 45 = .ok (.ireturn, 1) := by decide +kernel
set_option maxRecDepth 20000 in
theorem ggX5_standing_X5_checkKart : GoodIn wsX5_standing wsX5_checkKart := goodIn_ca (goodIn_r _ [7, 8, 9, 2, 35, 36, 37, 38, 39, 40, 41, 42, 43, 44] (by decide +kernel) (by decide +kernel)) (goodIn_sub (fun _ h => List.mem_cons_of_mem _ (List.mem_append_right _ h)) (by decide +kernel))
set_option maxRecDepth 20000 in
theorem gX5_standing_X5_checkKart : GoodIn wsX5_standing (wsV RX5 140 RX5 yX5_checkKart wsX5_checkKart) := goodIn_app (goodIn_of _ (by decide +kernel)) ggX5_standing_X5_checkKart
set_option maxRecDepth 20000 in
theorem ggX5_standing_X0_countBefore : GoodIn wsX5_standing wsX0_countBefore := goodIn_r _ [14, 15, 16, 17, 13, 18, 19, 20, 21, 22, 23, 24, 25, 26, 27, 28, 29, 30, 31, 32, 33, 34, 45, 46, 47, 48] (by decide +kernel) (by decide +kernel)
set_option maxRecDepth 20000 in
theorem gX5_standing_X0_countBefore : GoodIn wsX5_standing (wsV RX5 257 RX0 yX0_countBefore wsX0_countBefore) := goodIn_app (goodIn_of _ (by decide +kernel)) ggX5_standing_X0_countBefore
theorem dX5_standing_0 : decode cX5_standing 0 = .ok (.aload_n 0, 1) := by decide +kernel
theorem dX5_standing_1 : decode cX5_standing 1 = .ok (.iload_n 1, 1) := by decide +kernel
theorem dX5_standing_2 : decode cX5_standing 2 = .ok (.invokevirtual 140, 3) := by decide +kernel
theorem dX5_standing_5 : decode cX5_standing 5 = .ok (.aload_n 0, 1) := by decide +kernel
theorem dX5_standing_6 : decode cX5_standing 6 = .ok (.getfield 45, 3) := by decide +kernel
theorem dX5_standing_9 : decode cX5_standing 9 = .ok (.iload_n 1, 1) := by decide +kernel
theorem dX5_standing_10 : decode cX5_standing 10 = .ok (.aload_n 0, 1) := by decide +kernel
theorem dX5_standing_11 : decode cX5_standing 11 = .ok (.getfield 53, 3) := by decide +kernel
theorem dX5_standing_14 : decode cX5_standing 14 = .ok (.invokevirtual 257, 3) := by decide +kernel
theorem dX5_standing_17 : decode cX5_standing 17 = .ok (.ireturn, 1) := by decide +kernel
theorem dX5_textLength_0 : decode cX5_textLength 0 = .ok (.aload_n 0, 1) := by decide +kernel
theorem dX5_textLength_1 : decode cX5_textLength 1 = .ok (.getfield 53, 3) := by decide +kernel
theorem dX5_textLength_4 : decode cX5_textLength 4 = .ok (.ifCond .ne 7, 3) := by decide +kernel
theorem dX5_textLength_7 : decode cX5_textLength 7 = .ok (.iconst 0, 1) := by decide +kernel
theorem dX5_textLength_8 : decode cX5_textLength 8 = .ok (.goto 11, 3) := by decide +kernel
theorem dX5_textLength_11 : decode cX5_textLength 11 = .ok (.iconst 2, 1) := by decide +kernel
theorem dX5_textLength_12 : decode cX5_textLength 12 = .ok (.aload_n 0, 1) := by decide +kernel
theorem dX5_textLength_13 : decode cX5_textLength 13 = .ok (.getfield 53, 3) := by decide +kernel
theorem dX5_textLength_16 : decode cX5_textLength 16 = .ok (.imul, 1) := by decide +kernel
theorem dX5_textLength_17 : decode cX5_textLength 17 = .ok (.iconst 1, 1) := by decide +kernel
theorem dX5_textLength_18 : decode cX5_textLength 18 = .ok (.isub, 1) := by decide +kernel
theorem dX5_textLength_19 : decode cX5_textLength 19 = .ok (.ireturn, 1) := by decide +kernel
set_option maxRecDepth 20000 in
theorem ggX5_textAt_X0_kartStandingAt : GoodIn wsX5_textAt wsX0_kartStandingAt := goodIn_r _ [9, 10, 11, 12, 8, 13, 14, 15, 16, 17, 18, 19, 20, 21, 22, 23, 24, 25, 26, 27, 28, 29, 30, 31, 32, 33, 44, 45, 46, 47] (by decide +kernel) (by decide +kernel)
set_option maxRecDepth 20000 in
theorem gX5_textAt_X0_kartStandingAt : GoodIn wsX5_textAt (wsV RX5 262 RX0 yX0_kartStandingAt wsX0_kartStandingAt) := goodIn_app (goodIn_of _ (by decide +kernel)) ggX5_textAt_X0_kartStandingAt
theorem dX5_textAt_0 : decode cX5_textAt 0 = .ok (.iload_n 1, 1) := by decide +kernel
theorem dX5_textAt_1 : decode cX5_textAt 1 = .ok (.ifCond .lt 15, 3) := by decide +kernel
theorem dX5_textAt_4 : decode cX5_textAt 4 = .ok (.iload_n 1, 1) := by decide +kernel
theorem dX5_textAt_5 : decode cX5_textAt 5 = .ok (.iconst 2, 1) := by decide +kernel
theorem dX5_textAt_6 : decode cX5_textAt 6 = .ok (.aload_n 0, 1) := by decide +kernel
theorem dX5_textAt_7 : decode cX5_textAt 7 = .ok (.getfield 53, 3) := by decide +kernel
theorem dX5_textAt_10 : decode cX5_textAt 10 = .ok (.imul, 1) := by decide +kernel
theorem dX5_textAt_11 : decode cX5_textAt 11 = .ok (.iconst 1, 1) := by decide +kernel
theorem dX5_textAt_12 : decode cX5_textAt 12 = .ok (.isub, 1) := by decide +kernel
theorem dX5_textAt_13 : decode cX5_textAt 13 = .ok (.if_icmp .lt 14, 3) := by decide +kernel
theorem dX5_textAt_16 : decode cX5_textAt 16 = .ok (.new 241, 3) := by decide +kernel
theorem dX5_textAt_19 : decode cX5_textAt 19 = .ok (.dup, 1) := by decide +kernel
theorem dX5_textAt_20 : decode cX5_textAt 20 = .ok (.ldc_w 260, 3) := by decide +kernel
theorem dX5_textAt_23 : decode cX5_textAt 23 = .ok (.invokespecial 245, 3) := by decide +kernel
theorem dX5_textAt_26 : decode cX5_textAt 26 = .ok (.athrow, 1) := by decide +kernel
theorem dX5_textAt_27 : decode cX5_textAt 27 = .ok (.iload_n 1, 1) := by decide +kernel
theorem dX5_textAt_28 : decode cX5_textAt 28 = .ok (.iconst 2, 1) := by decide +kernel
theorem dX5_textAt_29 : decode cX5_textAt 29 = .ok (.irem, 1) := by decide +kernel
theorem dX5_textAt_30 : decode cX5_textAt 30 = .ok (.iconst 1, 1) := by decide +kernel
theorem dX5_textAt_31 : decode cX5_textAt 31 = .ok (.if_icmp .ne 6, 3) := by decide +kernel
theorem dX5_textAt_34 : decode cX5_textAt 34 = .ok (.bipush 62, 2) := by decide +kernel
theorem dX5_textAt_36 : decode cX5_textAt 36 = .ok (.ireturn, 1) := by decide +kernel
theorem dX5_textAt_37 : decode cX5_textAt 37 = .ok (.bipush 48, 2) := by decide +kernel
theorem dX5_textAt_39 : decode cX5_textAt 39 = .ok (.aload_n 0, 1) := by decide +kernel
theorem dX5_textAt_40 : decode cX5_textAt 40 = .ok (.getfield 45, 3) := by decide +kernel
theorem dX5_textAt_43 : decode cX5_textAt 43 = .ok (.iload_n 1, 1) := by decide +kernel
theorem dX5_textAt_44 : decode cX5_textAt 44 = .ok (.iconst 2, 1) := by decide +kernel
theorem dX5_textAt_45 : decode cX5_textAt 45 = .ok (.idiv, 1) := by decide +kernel
theorem dX5_textAt_46 : decode cX5_textAt 46 = .ok (.aload_n 0, 1) := by decide +kernel
theorem dX5_textAt_47 : decode cX5_textAt 47 = .ok (.getfield 53, 3) := by decide +kernel
theorem dX5_textAt_50 : decode cX5_textAt 50 = .ok (.invokevirtual 262, 3) := by decide +kernel
theorem dX5_textAt_53 : decode cX5_textAt 53 = .ok (.iadd, 1) := by decide +kernel
theorem dX5_textAt_54 : decode cX5_textAt 54 = .ok (.i2c, 1) := by decide +kernel
theorem dX5_textAt_55 : decode cX5_textAt 55 = .ok (.ireturn, 1) := by decide +kernel
set_option maxRecDepth 20000 in
theorem ggX5_hitRanks_X3_countAhead : GoodIn wsX5_hitRanks wsX3_countAhead := goodIn_r _ [8, 9, 10, 11, 12, 7, 13, 14, 15, 16, 17, 18, 19, 20, 21, 22, 23, 24, 25, 26, 27, 28, 29, 30, 31, 32, 33, 56, 57, 58, 59, 60, 61, 62, 63, 64, 65, 66, 67, 68, 69, 70] (by decide +kernel) (by decide +kernel)
set_option maxRecDepth 20000 in
theorem gX5_hitRanks_X3_countAhead : GoodIn wsX5_hitRanks (wsV RX5 180 RX3 yX3_countAhead wsX3_countAhead) := goodIn_app (goodIn_of _ (by decide +kernel)) ggX5_hitRanks_X3_countAhead
set_option maxRecDepth 20000 in
theorem ggX5_hitRanks_X3_isFinished : GoodIn wsX5_hitRanks wsX3_isFinished := goodIn_r _ [20, 21, 22, 56, 57, 58, 59, 60, 61, 62, 63, 64, 65, 66] (by decide +kernel) (by decide +kernel)
set_option maxRecDepth 20000 in
theorem gX5_hitRanks_X3_isFinished : GoodIn wsX5_hitRanks (wsV RX5 265 RX3 yX3_isFinished wsX3_isFinished) := goodIn_app (goodIn_of _ (by decide +kernel)) ggX5_hitRanks_X3_isFinished
set_option maxRecDepth 20000 in
theorem ggX5_hitRanks_X1_hit : GoodIn wsX5_hitRanks wsX1_hit := goodIn_r _ [39, 40, 41, 42, 43, 44, 45, 71, 72, 73, 74] (by decide +kernel) (by decide +kernel)
set_option maxRecDepth 20000 in
theorem gX5_hitRanks_X1_hit : GoodIn wsX5_hitRanks (wsV RX5 268 RX1 yX1_hit wsX1_hit) := goodIn_app (goodIn_of _ (by decide +kernel)) ggX5_hitRanks_X1_hit
theorem dX5_hitRanks_0 : decode cX5_hitRanks 0 = .ok (.iconst 0, 1) := by decide +kernel
theorem dX5_hitRanks_1 : decode cX5_hitRanks 1 = .ok (.istore 4, 2) := by decide +kernel
theorem dX5_hitRanks_3 : decode cX5_hitRanks 3 = .ok (.iconst 0, 1) := by decide +kernel
theorem dX5_hitRanks_4 : decode cX5_hitRanks 4 = .ok (.istore 5, 2) := by decide +kernel
theorem dX5_hitRanks_6 : decode cX5_hitRanks 6 = .ok (.iload 5, 2) := by decide +kernel
theorem dX5_hitRanks_8 : decode cX5_hitRanks 8 = .ok (.aload_n 0, 1) := by decide +kernel
theorem dX5_hitRanks_9 : decode cX5_hitRanks 9 = .ok (.getfield 53, 3) := by decide +kernel
theorem dX5_hitRanks_12 : decode cX5_hitRanks 12 = .ok (.if_icmp .ge 60, 3) := by decide +kernel
theorem dX5_hitRanks_15 : decode cX5_hitRanks 15 = .ok (.aload_n 0, 1) := by decide +kernel
theorem dX5_hitRanks_16 : decode cX5_hitRanks 16 = .ok (.getfield 21, 3) := by decide +kernel
theorem dX5_hitRanks_19 : decode cX5_hitRanks 19 = .ok (.iload 5, 2) := by decide +kernel
theorem dX5_hitRanks_21 : decode cX5_hitRanks 21 = .ok (.invokevirtual 180, 3) := by decide +kernel
theorem dX5_hitRanks_24 : decode cX5_hitRanks 24 = .ok (.istore 6, 2) := by decide +kernel
theorem dX5_hitRanks_26 : decode cX5_hitRanks 26 = .ok (.iload 6, 2) := by decide +kernel
theorem dX5_hitRanks_28 : decode cX5_hitRanks 28 = .ok (.iload_n 1, 1) := by decide +kernel
theorem dX5_hitRanks_29 : decode cX5_hitRanks 29 = .ok (.if_icmp .lt 37, 3) := by decide +kernel
theorem dX5_hitRanks_32 : decode cX5_hitRanks 32 = .ok (.iload 6, 2) := by decide +kernel
theorem dX5_hitRanks_34 : decode cX5_hitRanks 34 = .ok (.iload_n 2, 1) := by decide +kernel
theorem dX5_hitRanks_35 : decode cX5_hitRanks 35 = .ok (.if_icmp .ge 31, 3) := by decide +kernel
theorem dX5_hitRanks_38 : decode cX5_hitRanks 38 = .ok (.aload_n 0, 1) := by decide +kernel
theorem dX5_hitRanks_39 : decode cX5_hitRanks 39 = .ok (.getfield 21, 3) := by decide +kernel
theorem dX5_hitRanks_42 : decode cX5_hitRanks 42 = .ok (.iload 5, 2) := by decide +kernel
theorem dX5_hitRanks_44 : decode cX5_hitRanks 44 = .ok (.invokevirtual 265, 3) := by decide +kernel
theorem dX5_hitRanks_47 : decode cX5_hitRanks 47 = .ok (.ifCond .ne 19, 3) := by decide +kernel
theorem dX5_hitRanks_50 : decode cX5_hitRanks 50 = .ok (.aload_n 0, 1) := by decide +kernel
theorem dX5_hitRanks_51 : decode cX5_hitRanks 51 = .ok (.getfield 38, 3) := by decide +kernel
theorem dX5_hitRanks_54 : decode cX5_hitRanks 54 = .ok (.iload 5, 2) := by decide +kernel
theorem dX5_hitRanks_56 : decode cX5_hitRanks 56 = .ok (.iload_n 3, 1) := by decide +kernel
theorem dX5_hitRanks_57 : decode cX5_hitRanks 57 = .ok (.invokevirtual 268, 3) := by decide +kernel
theorem dX5_hitRanks_60 : decode cX5_hitRanks 60 = .ok (.ifCond .eq 6, 3) := by decide +kernel
theorem dX5_hitRanks_63 : decode cX5_hitRanks 63 = .ok (.iinc 4 1, 3) := by decide +kernel
theorem dX5_hitRanks_66 : decode cX5_hitRanks 66 = .ok (.iinc 5 1, 3) := by decide +kernel
theorem dX5_hitRanks_69 : decode cX5_hitRanks 69 = .ok (.goto (-63), 3) := by decide +kernel
theorem dX5_hitRanks_72 : decode cX5_hitRanks 72 = .ok (.iload 4, 2) := by decide +kernel
theorem dX5_hitRanks_74 : decode cX5_hitRanks 74 = .ok (.ireturn, 1) := by decide +kernel
set_option maxRecDepth 20000 in
theorem ggX5_checkGate_X4_gateCount : GoodIn wsX5_checkGate wsX4_gateCount := goodIn_r _ [8, 9, 20, 21, 22, 23] (by decide +kernel) (by decide +kernel)
set_option maxRecDepth 20000 in
theorem gX5_checkGate_X4_gateCount : GoodIn wsX5_checkGate (wsV RX5 108 RX4 yX4_gateCount wsX4_gateCount) := goodIn_app (goodIn_of _ (by decide +kernel)) ggX5_checkGate_X4_gateCount
theorem dX5_checkGate_0 : decode cX5_checkGate 0 = .ok (.iload_n 1, 1) := by decide +kernel
theorem dX5_checkGate_1 : decode cX5_checkGate 1 = .ok (.ifCond .lt 14, 3) := by decide +kernel
theorem dX5_checkGate_4 : decode cX5_checkGate 4 = .ok (.iload_n 1, 1) := by decide +kernel
theorem dX5_checkGate_5 : decode cX5_checkGate 5 = .ok (.aload_n 0, 1) := by decide +kernel
theorem dX5_checkGate_6 : decode cX5_checkGate 6 = .ok (.getfield 10, 3) := by decide +kernel
theorem dX5_checkGate_9 : decode cX5_checkGate 9 = .ok (.invokevirtual 108, 3) := by decide +kernel
theorem dX5_checkGate_12 : decode cX5_checkGate 12 = .ok (.if_icmp .lt 14, 3) := by decide +kernel
theorem dX5_checkGate_15 : decode cX5_checkGate 15 = .ok (.new 241, 3) := by decide +kernel
theorem dX5_checkGate_18 : decode cX5_checkGate 18 = .ok (.dup, 1) := by decide +kernel
theorem dX5_checkGate_19 : decode cX5_checkGate 19 = .ok (.ldc_w 271, 3) := by decide +kernel
theorem dX5_checkGate_22 : decode cX5_checkGate 22 = .ok (.invokespecial 245, 3) := by decide +kernel
theorem dX5_checkGate_25 : decode cX5_checkGate 25 = .ok (.athrow, 1) := by decide +kernel
theorem dX5_checkGate_26 : decode cX5_checkGate 26 = .ok (.return_, 1) := by decide +kernel
theorem dX5_checkKart_0 : decode cX5_checkKart 0 = .ok (.iload_n 1, 1) := by decide +kernel
theorem dX5_checkKart_1 : decode cX5_checkKart 1 = .ok (.ifCond .lt 11, 3) := by decide +kernel
theorem dX5_checkKart_4 : decode cX5_checkKart 4 = .ok (.iload_n 1, 1) := by decide +kernel
theorem dX5_checkKart_5 : decode cX5_checkKart 5 = .ok (.aload_n 0, 1) := by decide +kernel
theorem dX5_checkKart_6 : decode cX5_checkKart 6 = .ok (.getfield 53, 3) := by decide +kernel
theorem dX5_checkKart_9 : decode cX5_checkKart 9 = .ok (.if_icmp .lt 14, 3) := by decide +kernel
theorem dX5_checkKart_12 : decode cX5_checkKart 12 = .ok (.new 241, 3) := by decide +kernel
theorem dX5_checkKart_15 : decode cX5_checkKart 15 = .ok (.dup, 1) := by decide +kernel
theorem dX5_checkKart_16 : decode cX5_checkKart 16 = .ok (.ldc_w 273, 3) := by decide +kernel
theorem dX5_checkKart_19 : decode cX5_checkKart 19 = .ok (.invokespecial 245, 3) := by decide +kernel
theorem dX5_checkKart_22 : decode cX5_checkKart 22 = .ok (.athrow, 1) := by decide +kernel
theorem dX5_checkKart_23 : decode cX5_checkKart 23 = .ok (.return_, 1) := by decide +kernel
theorem dX5_checkTeam_0 : decode cX5_checkTeam 0 = .ok (.iload_n 1, 1) := by decide +kernel
theorem dX5_checkTeam_1 : decode cX5_checkTeam 1 = .ok (.ifCond .lt 8, 3) := by decide +kernel
theorem dX5_checkTeam_4 : decode cX5_checkTeam 4 = .ok (.iload_n 1, 1) := by decide +kernel
theorem dX5_checkTeam_5 : decode cX5_checkTeam 5 = .ok (.iconst 4, 1) := by decide +kernel
theorem dX5_checkTeam_6 : decode cX5_checkTeam 6 = .ok (.if_icmp .lt 14, 3) := by decide +kernel
theorem dX5_checkTeam_9 : decode cX5_checkTeam 9 = .ok (.new 241, 3) := by decide +kernel
theorem dX5_checkTeam_12 : decode cX5_checkTeam 12 = .ok (.dup, 1) := by decide +kernel
theorem dX5_checkTeam_13 : decode cX5_checkTeam 13 = .ok (.ldc_w 275, 3) := by decide +kernel
theorem dX5_checkTeam_16 : decode cX5_checkTeam 16 = .ok (.invokespecial 245, 3) := by decide +kernel
theorem dX5_checkTeam_19 : decode cX5_checkTeam 19 = .ok (.athrow, 1) := by decide +kernel
theorem dX5_checkTeam_20 : decode cX5_checkTeam 20 = .ok (.return_, 1) := by decide +kernel
set_option maxRecDepth 20000 in
theorem ggX5_checkNeverStarted_X0_endedRaces : GoodIn wsX5_checkNeverStarted wsX0_endedRaces := goodIn_r _ [9, 10, 21, 22, 23, 24] (by decide +kernel) (by decide +kernel)
set_option maxRecDepth 20000 in
theorem gX5_checkNeverStarted_X0_endedRaces : GoodIn wsX5_checkNeverStarted (wsV RX5 120 RX0 yX0_endedRaces wsX0_endedRaces) := goodIn_app (goodIn_of _ (by decide +kernel)) ggX5_checkNeverStarted_X0_endedRaces
theorem dX5_checkNeverStarted_0 : decode cX5_checkNeverStarted 0 = .ok (.aload_n 0, 1) := by decide +kernel
theorem dX5_checkNeverStarted_1 : decode cX5_checkNeverStarted 1 = .ok (.getfield 57, 3) := by decide +kernel
theorem dX5_checkNeverStarted_4 : decode cX5_checkNeverStarted 4 = .ok (.ifCond .ne 13, 3) := by decide +kernel
theorem dX5_checkNeverStarted_7 : decode cX5_checkNeverStarted 7 = .ok (.aload_n 0, 1) := by decide +kernel
theorem dX5_checkNeverStarted_8 : decode cX5_checkNeverStarted 8 = .ok (.getfield 45, 3) := by decide +kernel
theorem dX5_checkNeverStarted_11 : decode cX5_checkNeverStarted 11 = .ok (.invokevirtual 120, 3) := by decide +kernel
theorem dX5_checkNeverStarted_14 : decode cX5_checkNeverStarted 14 = .ok (.ifCond .le 14, 3) := by decide +kernel
theorem dX5_checkNeverStarted_17 : decode cX5_checkNeverStarted 17 = .ok (.new 71, 3) := by decide +kernel
theorem dX5_checkNeverStarted_20 : decode cX5_checkNeverStarted 20 = .ok (.dup, 1) := by decide +kernel
theorem dX5_checkNeverStarted_21 : decode cX5_checkNeverStarted 21 = .ok (.ldc_w 277, 3) := by decide +kernel
theorem dX5_checkNeverStarted_24 : decode cX5_checkNeverStarted 24 = .ok (.invokespecial 75, 3) := by decide +kernel
theorem dX5_checkNeverStarted_27 : decode cX5_checkNeverStarted 27 = .ok (.athrow, 1) := by decide +kernel
theorem dX5_checkNeverStarted_28 : decode cX5_checkNeverStarted 28 = .ok (.return_, 1) := by decide +kernel
theorem dX5_checkRaceIsOn_0 : decode cX5_checkRaceIsOn 0 = .ok (.aload_n 0, 1) := by decide +kernel
theorem dX5_checkRaceIsOn_1 : decode cX5_checkRaceIsOn 1 = .ok (.getfield 57, 3) := by decide +kernel
theorem dX5_checkRaceIsOn_4 : decode cX5_checkRaceIsOn 4 = .ok (.ifCond .ne 14, 3) := by decide +kernel
theorem dX5_checkRaceIsOn_7 : decode cX5_checkRaceIsOn 7 = .ok (.new 71, 3) := by decide +kernel
theorem dX5_checkRaceIsOn_10 : decode cX5_checkRaceIsOn 10 = .ok (.dup, 1) := by decide +kernel
theorem dX5_checkRaceIsOn_11 : decode cX5_checkRaceIsOn 11 = .ok (.ldc_w 279, 3) := by decide +kernel
theorem dX5_checkRaceIsOn_14 : decode cX5_checkRaceIsOn 14 = .ok (.invokespecial 75, 3) := by decide +kernel
theorem dX5_checkRaceIsOn_17 : decode cX5_checkRaceIsOn 17 = .ok (.athrow, 1) := by decide +kernel
theorem dX5_checkRaceIsOn_18 : decode cX5_checkRaceIsOn 18 = .ok (.return_, 1) := by decide +kernel
set_option maxRecDepth 20000 in
theorem ggX5_checkStillRacing_X5_checkRaceIsOn : GoodIn wsX5_checkStillRacing wsX5_checkRaceIsOn := goodIn_ca (goodIn_r _ [8, 1, 2, 9, 17, 18, 19, 20, 21, 22, 23, 24, 25, 26] (by decide +kernel) (by decide +kernel)) (goodIn_sub (fun _ h => List.mem_cons_of_mem _ (List.mem_append_right _ h)) (by decide +kernel))
set_option maxRecDepth 20000 in
theorem gX5_checkStillRacing_X5_checkRaceIsOn : GoodIn wsX5_checkStillRacing (wsV RX5 171 RX5 yX5_checkRaceIsOn wsX5_checkRaceIsOn) := goodIn_app (goodIn_of _ (by decide +kernel)) ggX5_checkStillRacing_X5_checkRaceIsOn
set_option maxRecDepth 20000 in
theorem ggX5_checkStillRacing_X3_isFinished : GoodIn wsX5_checkStillRacing wsX3_isFinished := goodIn_r _ [14, 15, 16, 27, 28, 29, 30, 31, 32, 33, 34, 35, 36, 37] (by decide +kernel) (by decide +kernel)
set_option maxRecDepth 20000 in
theorem gX5_checkStillRacing_X3_isFinished : GoodIn wsX5_checkStillRacing (wsV RX5 265 RX3 yX3_isFinished wsX3_isFinished) := goodIn_app (goodIn_of _ (by decide +kernel)) ggX5_checkStillRacing_X3_isFinished
theorem dX5_checkStillRacing_0 : decode cX5_checkStillRacing 0 = .ok (.aload_n 0, 1) := by decide +kernel
theorem dX5_checkStillRacing_1 : decode cX5_checkStillRacing 1 = .ok (.invokevirtual 171, 3) := by decide +kernel
theorem dX5_checkStillRacing_4 : decode cX5_checkStillRacing 4 = .ok (.aload_n 0, 1) := by decide +kernel
theorem dX5_checkStillRacing_5 : decode cX5_checkStillRacing 5 = .ok (.getfield 21, 3) := by decide +kernel
theorem dX5_checkStillRacing_8 : decode cX5_checkStillRacing 8 = .ok (.iload_n 1, 1) := by decide +kernel
theorem dX5_checkStillRacing_9 : decode cX5_checkStillRacing 9 = .ok (.invokevirtual 265, 3) := by decide +kernel
theorem dX5_checkStillRacing_12 : decode cX5_checkStillRacing 12 = .ok (.ifCond .eq 14, 3) := by decide +kernel
theorem dX5_checkStillRacing_15 : decode cX5_checkStillRacing 15 = .ok (.new 71, 3) := by decide +kernel
theorem dX5_checkStillRacing_18 : decode cX5_checkStillRacing 18 = .ok (.dup, 1) := by decide +kernel
theorem dX5_checkStillRacing_19 : decode cX5_checkStillRacing 19 = .ok (.ldc_w 281, 3) := by decide +kernel
theorem dX5_checkStillRacing_22 : decode cX5_checkStillRacing 22 = .ok (.invokespecial 75, 3) := by decide +kernel
theorem dX5_checkStillRacing_25 : decode cX5_checkStillRacing 25 = .ok (.athrow, 1) := by decide +kernel
theorem dX5_checkStillRacing_26 : decode cX5_checkStillRacing 26 = .ok (.return_, 1) := by decide +kernel
theorem dJ9_max_7cf53_0 : decode cJ9_max_7cf53 0 = .ok (.iload_n 0, 1) := by decide +kernel
theorem dJ9_max_7cf53_1 : decode cJ9_max_7cf53 1 = .ok (.iload_n 1, 1) := by decide +kernel
theorem dJ9_max_7cf53_2 : decode cJ9_max_7cf53 2 = .ok (.if_icmp .lt 7, 3) := by decide +kernel
theorem dJ9_max_7cf53_5 : decode cJ9_max_7cf53 5 = .ok (.iload_n 0, 1) := by decide +kernel
theorem dJ9_max_7cf53_6 : decode cJ9_max_7cf53 6 = .ok (.goto 4, 3) := by decide +kernel
theorem dJ9_max_7cf53_9 : decode cJ9_max_7cf53 9 = .ok (.iload_n 1, 1) := by decide +kernel
theorem dJ9_max_7cf53_10 : decode cJ9_max_7cf53 10 = .ok (.ireturn, 1) := by decide +kernel
theorem dJ9_min_7cf53_0 : decode cJ9_min_7cf53 0 = .ok (.iload_n 0, 1) := by decide +kernel
theorem dJ9_min_7cf53_1 : decode cJ9_min_7cf53 1 = .ok (.iload_n 1, 1) := by decide +kernel
theorem dJ9_min_7cf53_2 : decode cJ9_min_7cf53 2 = .ok (.if_icmp .gt 7, 3) := by decide +kernel
theorem dJ9_min_7cf53_5 : decode cJ9_min_7cf53 5 = .ok (.iload_n 0, 1) := by decide +kernel
theorem dJ9_min_7cf53_6 : decode cJ9_min_7cf53 6 = .ok (.goto 4, 3) := by decide +kernel
theorem dJ9_min_7cf53_9 : decode cJ9_min_7cf53 9 = .ok (.iload_n 1, 1) := by decide +kernel
theorem dJ9_min_7cf53_10 : decode cJ9_min_7cf53 10 = .ok (.ireturn, 1) := by decide +kernel
