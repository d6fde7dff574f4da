theorem dX5_place_26 : decode cX5_place 26 = .ok (.iload_n 2, 1) := by decide +kernel
theorem dX5_place_27 : decode cX5_place 27 = .ok (.invokevirtual 140, 3) := by decide +kernel
theorem dX5_place_30 : decode cX5_place 30 = .ok (.aload_n 0, 1) := by decide +kernel
theorem dX5_place_31 : decode cX5_place 31 = .ok (.getfield 45, 3) := by decide +kernel
theorem dX5_place_34 : decode cX5_place 34 = .ok (.iload_n 1, 1) := by decide +kernel
theorem dX5_place_35 : decode cX5_place 35 = .ok (.iload_n 2, 1) := by decide +kernel
theorem dX5_place_36 : decode cX5_place 36 = .ok (.invokevirtual 246, 3) := by decide +kernel
theorem dX5_place_39 : decode cX5_place 39 = .ok (.ireturn, 1) := by decide +kernel
set_option maxRecDepth 20000 in
theorem ggX5_setDropped_X0_changeDropped : GoodIn wsX5_setDropped wsX0_changeDropped := goodIn_r _ [8, 9, 20, 21, 22, 23] (by decide +kernel) (by decide +kernel)
set_option maxRecDepth 20000 in
theorem gX5_setDropped_X0_changeDropped : GoodIn wsX5_setDropped (wsV RX5 251 RX0 yX0_changeDropped wsX0_changeDropped) := goodIn_app (goodIn_of _ (by decide +kernel)) ggX5_setDropped_X0_changeDropped
theorem dX5_setDropped_0 : decode cX5_setDropped 0 = .ok (.iload_n 1, 1) := by decide +kernel
theorem dX5_setDropped_1 : decode cX5_setDropped 1 = .ok (.ifCond .lt 8, 3) := by decide +kernel
theorem dX5_setDropped_4 : decode cX5_setDropped 4 = .ok (.iload_n 1, 1) := by decide +kernel
theorem dX5_setDropped_5 : decode cX5_setDropped 5 = .ok (.iconst 3, 1) := by decide +kernel
theorem dX5_setDropped_6 : decode cX5_setDropped 6 = .ok (.if_icmp .le 13, 3) := by decide +kernel
theorem dX5_setDropped_9 : decode cX5_setDropped 9 = .ok (.new 86, 3) := by decide +kernel
theorem dX5_setDropped_12 : decode cX5_setDropped 12 = .ok (.dup, 1) := by decide +kernel
theorem dX5_setDropped_13 : decode cX5_setDropped 13 = .ok (.ldc 249, 2) := by decide +kernel
theorem dX5_setDropped_15 : decode cX5_setDropped 15 = .ok (.invokespecial 90, 3) := by decide +kernel
theorem dX5_setDropped_18 : decode cX5_setDropped 18 = .ok (.athrow, 1) := by decide +kernel
theorem dX5_setDropped_19 : decode cX5_setDropped 19 = .ok (.aload_n 0, 1) := by decide +kernel
theorem dX5_setDropped_20 : decode cX5_setDropped 20 = .ok (.getfield 45, 3) := by decide +kernel
theorem dX5_setDropped_23 : decode cX5_setDropped 23 = .ok (.iload_n 1, 1) := by decide +kernel
theorem dX5_setDropped_24 : decode cX5_setDropped 24 = .ok (.invokevirtual 251, 3) := by decide +kernel
theorem dX5_setDropped_27 : decode cX5_setDropped 27 = .ok (.ireturn, 1) := by decide +kernel
set_option maxRecDepth 20000 in
theorem ggX5_points_X5_checkKart : GoodIn wsX5_points wsX5_checkKart := goodIn_ca (goodIn_r _ [6, 7, 8, 9, 22, 23, 24, 25, 26, 27, 28, 29, 30, 31] (by decide +kernel) (by decide +kernel)) (goodIn_sub (fun _ h => List.mem_cons_of_mem _ (List.mem_append_right _ h)) (by decide +kernel))
set_option maxRecDepth 20000 in
theorem gX5_points_X5_checkKart : GoodIn wsX5_points (wsV RX5 140 RX5 yX5_checkKart wsX5_checkKart) := goodIn_app (goodIn_of _ (by decide +kernel)) ggX5_points_X5_checkKart
set_option maxRecDepth 20000 in
theorem ggX5_points_X0_pointsOf : GoodIn wsX5_points wsX0_pointsOf := goodIn_r _ [14, 15, 16, 17, 18, 19, 20, 13, 21, 32, 33, 34, 35] (by decide +kernel) (by decide +kernel)
set_option maxRecDepth 20000 in
theorem gX5_points_X0_pointsOf : GoodIn wsX5_points (wsV RX5 254 RX0 yX0_pointsOf wsX0_pointsOf) := goodIn_app (goodIn_of _ (by decide +kernel)) ggX5_points_X0_pointsOf
theorem dX5_points_0 : decode cX5_points 0 = .ok (.aload_n 0, 1) := by decide +kernel
theorem dX5_points_1 : decode cX5_points 1 = .ok (.iload_n 1, 1) := by decide +kernel
theorem dX5_points_2 : decode cX5_points 2 = .ok (.invokevirtual 140, 3) := by decide +kernel
theorem dX5_points_5 : decode cX5_points 5 = .ok (.aload_n 0, 1) := by decide +kernel
theorem dX5_points_6 : decode cX5_points 6 = .ok (.getfield 45, 3) := by decide +kernel
theorem dX5_points_9 : decode cX5_points 9 = .ok (.iload_n 1, 1) := by decide +kernel
theorem dX5_points_10 : decode cX5_points 10 = .ok (.invokevirtual 254, 3) := by decide +kernel
theorem dX5_points_13 : decode cX5_points 13 = .ok (.ireturn, 1) := by decide +kernel
set_option maxRecDepth 20000 in
theorem ggX5_teamPoints_X5_checkTeam : GoodIn wsX5_teamPoints wsX5_checkTeam := goodIn_ca (goodIn_r _ [8, 9, 10] (by decide +kernel) (by decide +kernel)) (goodIn_sub (fun _ h => List.mem_cons_of_mem _ (List.mem_append_right _ h)) (by decide +kernel))
set_option maxRecDepth 20000 in
theorem gX5_teamPoints_X5_checkTeam : GoodIn wsX5_teamPoints (wsV RX5 103 RX5 yX5_checkTeam wsX5_checkTeam) := goodIn_app (goodIn_of _ (by decide +kernel)) ggX5_teamPoints_X5_checkTeam
set_option maxRecDepth 20000 in
theorem ggX5_teamPoints_X0_pointsOf : GoodIn wsX5_teamPoints wsX0_pointsOf := goodIn_r _ [15, 16, 17, 18, 19, 20, 21, 14, 22, 33, 34, 35, 36] (by decide +kernel) (by decide +kernel)
set_option maxRecDepth 20000 in
theorem gX5_teamPoints_X0_pointsOf : GoodIn wsX5_teamPoints (wsV RX5 254 RX0 yX0_pointsOf wsX0_pointsOf) := goodIn_app (goodIn_of _ (by decide +kernel)) ggX5_teamPoints_X0_pointsOf
theorem dX5_teamPoints_0 : decode cX5_teamPoints 0 = .ok (.aload_n 0, 1) := by decide +kernel
theorem dX5_teamPoints_1 : decode cX5_teamPoints 1 = .ok (.iload_n 1, 1) := by decide +kernel
theorem dX5_teamPoints_2 : decode cX5_teamPoints 2 = .ok (.invokevirtual 103, 3) := by decide +kernel
theorem dX5_teamPoints_5 : decode cX5_teamPoints 5 = .ok (.iconst 0, 1) := by decide +kernel
theorem dX5_teamPoints_6 : decode cX5_teamPoints 6 = .ok (.istore_n 2, 1) := by decide +kernel
theorem dX5_teamPoints_7 : decode cX5_teamPoints 7 = .ok (.iconst 0, 1) := by decide +kernel
theorem dX5_teamPoints_8 : decode cX5_teamPoints 8 = .ok (.istore_n 3, 1) := by decide +kernel
theorem dX5_teamPoints_9 : decode cX5_teamPoints 9 = .ok (.iload_n 3, 1) := by decide +kernel
theorem dX5_teamPoints_10 : decode cX5_teamPoints 10 = .ok (.aload_n 0, 1) := by decide +kernel
theorem dX5_teamPoints_11 : decode cX5_teamPoints 11 = .ok (.getfield 53, 3) := by decide +kernel
theorem dX5_teamPoints_14 : decode cX5_teamPoints 14 = .ok (.if_icmp .ge 30, 3) := by decide +kernel
theorem dX5_teamPoints_17 : decode cX5_teamPoints 17 = .ok (.aload_n 0, 1) := by decide +kernel
theorem dX5_teamPoints_18 : decode cX5_teamPoints 18 = .ok (.getfield 49, 3) := by decide +kernel
theorem dX5_teamPoints_21 : decode cX5_teamPoints 21 = .ok (.iload_n 3, 1) := by decide +kernel
theorem dX5_teamPoints_22 : decode cX5_teamPoints 22 = .ok (.iaload, 1) := by decide +kernel
theorem dX5_teamPoints_23 : decode cX5_teamPoints 23 = .ok (.iload_n 1, 1) := by decide +kernel
theorem dX5_teamPoints_24 : decode cX5_teamPoints 24 = .ok (.if_icmp .ne 14, 3) := by decide +kernel
theorem dX5_teamPoints_27 : decode cX5_teamPoints 27 = .ok (.iload_n 2, 1) := by decide +kernel
theorem dX5_teamPoints_28 : decode cX5_teamPoints 28 = .ok (.aload_n 0, 1) := by decide +kernel
theorem dX5_teamPoints_29 : decode cX5_teamPoints 29 = .ok (.getfield 45, 3) := by decide +kernel
theorem dX5_teamPoints_32 : decode cX5_teamPoints 32 = .ok (.iload_n 3, 1) := by decide +kernel
theorem dX5_teamPoints_33 : decode cX5_teamPoints 33 = .ok (.invokevirtual 254, 3) := by decide +kernel
theorem dX5_teamPoints_36 : decode cX5_teamPoints 36 = .ok (.iadd, 1) := by decide +kernel
theorem dX5_teamPoints_37 : decode cX5_teamPoints 37 = .ok (.istore_n 2, 1) := by decide +kernel
theorem dX5_teamPoints_38 : decode cX5_teamPoints 38 = .ok (.iinc 3 1, 3) := by decide +kernel
theorem dX5_teamPoints_41 : decode cX5_teamPoints 41 = .ok (.goto (-32), 3) := by decide +kernel
theorem dX5_teamPoints_44 : decode cX5_teamPoints 44 = .ok (.iload_n 2, 1) := by decide +kernel
theorem dX5_teamPoints_45 : decode cX5_teamPoints 45 = .ok (.ireturn, 1) := by decide +kernel
set_option maxRecDepth 20000 in
theorem ggX5_standing_X5_checkKart : GoodIn wsX5_standing wsX5_checkKart := goodIn_ca (goodIn_r _ [7, 8, 9, 2, 35, 36, 37, 38, 39, 40, 41, 42, 43, 44] (by decide +kernel) (by decide +kernel)) (goodIn_sub (fun _ h => List.mem_cons_of_mem _ (List.mem_append_right _ h)) (by decide +kernel))
set_option maxRecDepth 20000 in
theorem gX5_standing_X5_checkKart : GoodIn wsX5_standing (wsV RX5 140 RX5 yX5_checkKart wsX5_checkKart) := goodIn_app (goodIn_of _ (by decide +kernel)) ggX5_standing_X5_checkKart
set_option maxRecDepth 20000 in
theorem ggX5_standing_X0_countBefore : GoodIn wsX5_standing wsX0_countBefore := goodIn_r _ [14, 15, 16, 17, 13, 18, 19, 20, 21, 22, 23, 24, 25, 26, 27, 28, 29, 30, 31, 32, 33, 34, 45, 46, 47, 48] (by decide +kernel) (by decide +kernel)
set_option maxRecDepth 20000 in
theorem gX5_standing_X0_countBefore : GoodIn wsX5_standing (wsV RX5 257 RX0 yX0_countBefore wsX0_countBefore) := goodIn_app (goodIn_of _ (by decide +kernel)) ggX5_standing_X0_countBefore
theorem dX5_standing_0 : decode cX5_standing 0 = .ok (.aload_n 0, 1) := by decide +kernel
theorem dX5_standing_1 : decode cX5_standing 1 = .ok (.iload_n 1, 1) := by decide +kernel
theorem dX5_standing_2 : decode cX5_standing 2 = .ok (.invokevirtual 140, 3) := by decide +kernel
theorem dX5_standing_5 : decode cX5_standing 5 = .ok (.aload_n 0, 1) := by decide +kernel
theorem dX5_standing_6 : decode cX5_standing 6 = .ok (.getfield 45, 3) := by decide +kernel
theorem dX5_standing_9 : decode cX5_standing 9 = .ok (.iload_n 1, 1) := by decide +kernel
theorem dX5_standing_10 : decode cX5_standing 10 = .ok (.aload_n 0, 1) := by decide +kernel
theorem dX5_standing_11 : decode cX5_standing 11 = .ok (.getfield 53, 3) := by decide +kernel
theorem dX5_standing_14 : decode cX5_standing 14 = .ok (.invokevirtual 257, 3) := by decide +kernel
theorem dX5_standing_17 : decode cX5_standing 17 = .ok (.ireturn, 1) := by decide +kernel
theorem dX5_textLength_0 : decode cX5_textLength 0 = .ok (.aload_n 0, 1) := by decide +kernel
theorem dX5_textLength_1 : decode cX5_textLength 1 = .ok (.getfield 53, 3) := by decide +kernel
theorem dX5_textLength_4 : decode cX5_textLength 4 = .ok (.ifCond .ne 7, 3) := by decide +kernel
theorem dX5_textLength_7 : decode cX5_textLength 7 = .ok (.iconst 0, 1) := by decide +kernel
theorem dX5_textLength_8 : decode cX5_textLength 8 = .ok (.goto 11, 3) := by decide +kernel
theorem dX5_textLength_11 : decode cX5_textLength 11 = .ok (.iconst 2, 1) := by decide +kernel
theorem dX5_textLength_12 : decode cX5_textLength 12 = .ok (.aload_n 0, 1) := by decide +kernel
theorem dX5_textLength_13 : decode cX5_textLength 13 = .ok (.getfield 53, 3) := by decide +kernel
theorem dX5_textLength_16 : decode cX5_textLength 16 = .ok (.imul, 1) := by decide +kernel
theorem dX5_textLength_17 : decode cX5_textLength 17 = .ok (.iconst 1, 1) := by decide +kernel
theorem dX5_textLength_18 : decode cX5_textLength 18 = .ok (.isub, 1) := by decide +kernel
theorem dX5_textLength_19 : decode cX5_textLength 19 = .ok (.ireturn, 1) := by decide +kernel
set_option maxRecDepth 20000 in
theorem ggX5_textAt_X0_kartStandingAt : GoodIn wsX5_textAt wsX0_kartStandingAt := goodIn_r _ [9, 10, 11, 12, 8, 13, 14, 15, 16, 17, 18, 19, 20, 21, 22, 23, 24, 25, 26, 27, 28, 29, 30, 31, 32, 33, 44, 45, 46, 47] (by decide +kernel) (by decide +kernel)
set_option maxRecDepth 20000 in
theorem gX5_textAt_X0_kartStandingAt : GoodIn wsX5_textAt (wsV RX5 262 RX0 yX0_kartStandingAt wsX0_kartStandingAt) := goodIn_app (goodIn_of _ (by decide +kernel)) ggX5_textAt_X0_kartStandingAt
theorem dX5_textAt_0 : decode cX5_textAt 0 = .ok (.iload_n 1, 1) := by decide +kernel
theorem dX5_textAt_1 : decode cX5_textAt 1 = .ok (.ifCond .lt 15, 3) := by decide +kernel
theorem dX5_textAt_4 : decode cX5_textAt 4 = .ok (.iload_n 1, 1) := by decide +kernel
theorem dX5_textAt_5 : decode cX5_textAt 5 = .ok (.iconst 2, 1) := by decide +kernel
theorem dX5_textAt_6 : decode cX5_textAt 6 = .ok (.aload_n 0, 1) := by decide +kernel
theorem dX5_textAt_7 : decode cX5_textAt 7 = .ok (.getfield 53, 3) := by decide +kernel
theorem dX5_textAt_10 : decode cX5_textAt 10 = .ok (.imul, 1) := by decide +kernel
theorem dX5_textAt_11 : decode cX5_textAt 11 = .ok (.iconst 1, 1) := by decide +kernel
theorem dX5_textAt_12 : decode cX5_textAt 12 = .ok (.isub, 1) := by decide +kernel
theorem dX5_textAt_13 : decode cX5_textAt 13 = .ok (.if_icmp .lt 14, 3) := by decide +kernel
theorem dX5_textAt_16 : decode cX5_textAt 16 = .ok (.new 241, 3) := by decide +kernel
theorem dX5_textAt_19 : decode cX5_textAt 19 = .ok (.dup, 1) := by decide +kernel
theorem dX5_textAt_20 : decode cX5_textAt 20 = .ok (.ldc_w 260, 3) := by decide +kernel
theorem dX5_textAt_23 : decode cX5_textAt 23 = .ok (.invokespecial 245, 3) := by decide +kernel
theorem dX5_textAt_26 : decode cX5_textAt 26 = .ok (.athrow, 1) := by decide +kernel
theorem dX5_textAt_27 : decode cX5_textAt 27 = .ok (.iload_n 1, 1) := by decide +kernel
theorem dX5_textAt_28 : decode cX5_textAt 28 = .ok (.iconst 2, 1) := by decide +kernel
theorem dX5_textAt_29 : decode cX5_textAt 29 = .ok (.irem, 1) := by decide +kernel
theorem dX5_textAt_30 : decode cX5_textAt 30 = .ok (.iconst 1, 1) := by decide +kernel
theorem dX5_textAt_31 : decode cX5_textAt 31 = .ok (.if_icmp .ne 6, 3) := by decide +kernel
theorem dX5_textAt_34 : decode cX5_textAt 34 = .ok (.bipush 62, 2) := by decide +kernel
theorem dX5_textAt_36 : decode cX5_textAt 36 = .ok (.ireturn, 1) := by decide +kernel
theorem dX5_textAt_37 : decode cX5_textAt 37 = .ok (.bipush 48, 2) := by decide +kernel
theorem dX5_textAt_39 : decode cX5_textAt 39 = .ok (.aload_n 0, 1) := by decide +kernel
theorem dX5_textAt_40 : decode cX5_textAt 40 = .ok (.getfield 45, 3) := by decide +kernel
theorem dX5_textAt_43 : decode cX5_textAt 43 = .ok (.iload_n 1, 1) := by decide +kernel
theorem dX5_textAt_44 : decode cX5_textAt 44 = .ok (.iconst 2, 1) := by decide +kernel
theorem dX5_textAt_45 : decode cX5_textAt 45 = .ok (.idiv, 1) := by decide +kernel
theorem dX5_textAt_46 : decode cX5_textAt 46 = .ok (.aload_n 0, 1) := by decide +kernel
theorem dX5_textAt_47 : decode cX5_textAt 47 = .ok (.getfield 53, 3) := by decide +kernel
theorem dX5_textAt_50 : decode cX5_textAt 50 = .ok (.invokevirtual 262, 3) := by decide +kernel
theorem dX5_textAt_53 : decode cX5_textAt 53 = .ok (.iadd, 1) := by decide +kernel
theorem dX5_textAt_54 : decode cX5_textAt 54 = .ok (.i2c, 1) := by decide +kernel
theorem dX5_textAt_55 : decode cX5_textAt 55 = .ok (.ireturn, 1) := by decide +kernel
set_option maxRecDepth 20000 in
theorem ggX5_hitRanks_X3_countAhead : GoodIn wsX5_hitRanks wsX3_countAhead := goodIn_r _ [8, 9, 10, 11, 12, 7, 13, 14, 15, 16, 17, 18, 19, 20, 21, 22, 23, 24, 25, 26, 27, 28, 29, 30, 31, 32, 33, 56, 57, 58, 59, 60, 61, 62, 63, 64, 65, 66, 67, 68, 69, 70] (by decide +kernel) (by decide +kernel)
set_option maxRecDepth 20000 in
theorem gX5_hitRanks_X3_countAhead : GoodIn wsX5_hitRanks (wsV RX5 180 RX3 yX3_countAhead wsX3_countAhead) := goodIn_app (goodIn_of _ (by decide +kernel)) ggX5_hitRanks_X3_countAhead
set_option maxRecDepth 20000 in
theorem ggX5_hitRanks_X3_isFinished : GoodIn wsX5_hitRanks wsX3_isFinished := goodIn_r _ [20, 21, 22, 56, 57, 58, 59, 60, 61, 62, 63, 64, 65, 66] (by decide +kernel) (by decide +kernel)
set_option maxRecDepth 20000 in
theorem gX5_hitRanks_X3_isFinished : GoodIn wsX5_hitRanks (wsV RX5 265 RX3 yX3_isFinished wsX3_isFinished) := goodIn_app (goodIn_of _ (by decide +kernel)) ggX5_hitRanks_X3_isFinished
set_option maxRecDepth 20000 in
theorem ggX5_hitRanks_X1_hit : GoodIn wsX5_hitRanks wsX1_hit := goodIn_r _ [39, 40, 41, 42, 43, 44, 45, 71, 72, 73, 74] (by decide +kernel) (by decide +kernel)
set_option maxRecDepth 20000 in
theorem gX5_hitRanks_X1_hit : GoodIn wsX5_hitRanks (wsV RX5 268 RX1 yX1_hit wsX1_hit) := goodIn_app (goodIn_of _ (by decide +kernel)) ggX5_hitRanks_X1_hit
theorem dX5_hitRanks_0 : decode cX5_hitRanks 0 = .ok (.iconst 0, 1) := by decide +kernel
theorem dX5_hitRanks_1 : decode cX5_hitRanks 1 = .ok (.istore 4, 2) := by decide +kernel
theorem dX5_hitRanks_3 : decode cX5_hitRanks 3 = .ok (.iconst 0, 1) := by decide +kernel
theorem dX5_hitRanks_4 : decode cX5_hitRanks 4 = .ok (.istore 5, 2) := by decide +kernel
theorem dX5_hitRanks_6 : decode cX5_hitRanks 6 = .ok (.iload 5, 2) := by decide +kernel
theorem dX5_hitRanks_8 : decode cX5_hitRanks 8 = .ok (.aload_n 0, 1) := by decide +kernel
theorem dX5_hitRanks_9 : decode cX5_hitRanks 9 = .ok (.getfield 53, 3) := by decide +kernel
theorem dX5_hitRanks_12 : decode cX5_hitRanks 12 = .ok (.if_icmp .ge 60, 3) := by decide +kernel
theorem dX5_hitRanks_15 : decode cX5_hitRanks 15 = .ok (.aload_n 0, 1) := by decide +kernel
theorem dX5_hitRanks_16 : decode cX5_hitRanks 16 = .ok (.getfield 21, 3) := by decide +kernel
theorem dX5_hitRanks_19 : decode cX5_hitRanks 19 = .ok (.iload 5, 2) := by decide +kernel
theorem dX5_hitRanks_21 : decode cX5_hitRanks 21 = .ok (.invokevirtual 180, 3) := by decide +kernel
theorem dX5_hitRanks_24 : decode cX5_hitRanks 24 = .ok (.istore 6, 2) := by decide +kernel
theorem dX5_hitRanks_26 : decode cX5_hitRanks 26 = .ok (.iload 6, 2) := by decide +kernel
theorem dX5_hitRanks_28 : decode cX5_hitRanks 28 = .ok (.iload_n 1, 1) := by decide +kernel
theorem dX5_hitRanks_29 : decode cX5_hitRanks 29 = .ok (.if_icmp .lt 37, 3) := by decide +kernel
theorem dX5_hitRanks_32 : decode cX5_hitRanks 32 = .ok (.iload 6, 2) := by decide +kernel
theorem dX5_hitRanks_34 : decode cX5_hitRanks 34 = .ok (.iload_n 2, 1) := by decide +kernel
theorem dX5_hitRanks_35 : decode cX5_hitRanks 35 = .ok (.if_icmp .ge 31, 3) := by decide +kernel
theorem dX5_hitRanks_38 : decode cX5_hitRanks 38 = .ok (.aload_n 0, 1) := by decide +kernel
theorem dX5_hitRanks_39 : decode cX5_hitRanks 39 = .ok (.getfield 21, 3) := by decide +kernel
theorem dX5_hitRanks_42 : decode cX5_hitRanks 42 = .ok (.iload 5, 2) := by decide +kernel
theorem dX5_hitRanks_44 : decode cX5_hitRanks 44 = .ok (.invokevirtual 265, 3) := by decide +kernel
theorem dX5_hitRanks_47 : decode cX5_hitRanks 47 = .ok (.ifCond .ne 19, 3) := by decide +kernel
theorem dX5_hitRanks_50 : decode cX5_hitRanks 50 = .ok (.aload_n 0, 1) := by decide +kernel
theorem dX5_hitRanks_51 : decode cX5_hitRanks 51 = .ok (.getfield 38, 3) := by decide +kernel
theorem dX5_hitRanks_54 : decode cX5_hitRanks 54 = .ok (.iload 5, 2) := by decide +kernel
theorem dX5_hitRanks_56 : decode cX5_hitRanks 56 = .ok (.iload_n 3, 1) := by decide +kernel
theorem dX5_hitRanks_57 : decode cX5_hitRanks 57 = .ok (.invokevirtual 268, 3) := by decide +kernel
theorem dX5_hitRanks_60 : decode cX5_hitRanks 60 = .ok (.ifCond .eq 6, 3) := by decide +kernel
theorem dX5_hitRanks_63 : decode cX5_hitRanks 63 = .ok (.iinc 4 1, 3) := by decide +kernel
theorem dX5_hitRanks_66 : decode cX5_hitRanks 66 = .ok (.iinc 5 1, 3) := by decide +kernel
theorem dX5_hitRanks_69 : decode cX5_hitRanks 69 = .ok (.goto (-63), 3) := by decide +kernel
theorem dX5_hitRanks_72 : decode cX5_hitRanks 72 = .ok (.iload 4, 2) := by decide +kernel
theorem dX5_hitRanks_74 : decode cX5_hitRanks 74 = .ok (.ireturn, 1) := by decide +kernel
set_option maxRecDepth 20000 in
theorem ggX5_checkGate_X4_gateCount : GoodIn wsX5_checkGate wsX4_gateCount := goodIn_r _ [8, 9, 20, 21, 22, 23] (by decide +kernel) (by decide +kernel)
set_option maxRecDepth 20000 in
theorem gX5_checkGate_X4_gateCount : GoodIn wsX5_checkGate (wsV RX5 108 RX4 yX4_gateCount wsX4_gateCount) := goodIn_app (goodIn_of _ (by decide +kernel)) ggX5_checkGate_X4_gateCount
theorem dX5_checkGate_0 : decode cX5_checkGate 0 = .ok (.iload_n 1, 1) := by decide +kernel
theorem dX5_checkGate_1 : decode cX5_checkGate 1 = .ok (.ifCond .lt 14, 3) := by decide +kernel
theorem dX5_checkGate_4 : decode cX5_checkGate 4 = .ok (.iload_n 1, 1) := by decide +kernel
theorem dX5_checkGate_5 : decode cX5_checkGate 5 = .ok (.aload_n 0, 1) := by decide +kernel
theorem dX5_checkGate_6 : decode cX5_checkGate 6 = .ok (.getfield 10, 3) := by decide +kernel
theorem dX5_checkGate_9 : decode cX5_checkGate 9 = .ok (.invokevirtual 108, 3) := by decide +kernel
theorem dX5_checkGate_12 : decode cX5_checkGate 12 = .ok (.if_icmp .lt 14, 3) := by decide +kernel
theorem dX5_checkGate_15 : decode cX5_checkGate 15 = .ok (.new 241, 3) := by decide +kernel
theorem dX5_checkGate_18 : decode cX5_checkGate 18 = .ok (.dup, 1) := by decide +kernel
theorem dX5_checkGate_19 : decode cX5_checkGate 19 = .ok (.ldc_w 271, 3) := by decide +kernel
theorem dX5_checkGate_22 : decode cX5_checkGate 22 = .ok (.invokespecial 245, 3) := by decide +kernel
theorem dX5_checkGate_25 : decode cX5_checkGate 25 = .ok (.athrow, 1) := by decide +kernel
theorem dX5_checkGate_26 : decode cX5_checkGate 26 = .ok (.return_, 1) := by decide +kernel
theorem dX5_checkKart_0 : decode cX5_checkKart 0 = .ok (.iload_n 1, 1) := by decide +kernel
theorem dX5_checkKart_1 : decode cX5_checkKart 1 = .ok (.ifCond .lt 11, 3) := by decide +kernel
theorem dX5_checkKart_4 : decode cX5_checkKart 4 = .ok (.iload_n 1, 1) := by decide +kernel
theorem dX5_checkKart_5 : decode cX5_checkKart 5 = .ok (.aload_n 0, 1) := by decide +kernel
theorem dX5_checkKart_6 : decode cX5_checkKart 6 = .ok (.getfield 53, 3) := by decide +kernel
theorem dX5_checkKart_9 : decode cX5_checkKart 9 = .ok (.if_icmp .lt 14, 3) := by decide +kernel
theorem dX5_checkKart_12 : decode cX5_checkKart 12 = .ok (.new 241, 3) := by decide +kernel
theorem dX5_checkKart_15 : decode cX5_checkKart 15 = .ok (.dup, 1) := by decide +kernel
theorem dX5_checkKart_16 : decode cX5_checkKart 16 = .ok (.ldc_w 273, 3) := by decide +kernel
theorem dX5_checkKart_19 : decode cX5_checkKart 19 = .ok (.invokespecial 245, 3) := by decide +kernel
theorem dX5_checkKart_22 : decode cX5_checkKart 22 = .ok (.athrow, 1) := by decide +kernel
theorem dX5_checkKart_23 : decode cX5_checkKart 23 = .ok (.return_, 1) := by decide +kernel
theorem dX5_checkTeam_0 : decode cX5_checkTeam 0 = .ok (.iload_n 1, 1) := by decide +kernel
theorem dX5_checkTeam_1 : decode cX5_checkTeam 1 = .ok (.ifCond .lt 8, 3) := by decide +kernel
theorem dX5_checkTeam_4 : decode cX5_checkTeam 4 = .ok (.iload_n 1, 1) := by decide +kernel
theorem dX5_checkTeam_5 : decode cX5_checkTeam 5 = .ok (.iconst 4, 1) := by decide +kernel
theorem dX5_checkTeam_6 : decode cX5_checkTeam 6 = .ok (.if_icmp .lt 14, 3) := by decide +kernel
theorem dX5_checkTeam_9 : decode cX5_checkTeam 9 = .ok (.new 241, 3) := by decide +kernel
theorem dX5_checkTeam_12 : decode cX5_checkTeam 12 = .ok (.dup, 1) := by decide +kernel
theorem dX5_checkTeam_13 : decode cX5_checkTeam 13 = .ok (.ldc_w 275, 3) := by decide +kernel
theorem dX5_checkTeam_16 : decode cX5_checkTeam 16 = .ok (.invokespecial 245, 3) := by decide +kernel
theorem dX5_checkTeam_19 : decode cX5_checkTeam 19 = .ok (.athrow, 1) := by decide +kernel
theorem dX5_checkTeam_20 : decode cX5_checkTeam 20 = .ok (.return_, 1) := by decide +kernel
set_option maxRecDepth 20000 in
theorem ggX5_checkNeverStarted_X0_endedRaces : GoodIn wsX5_checkNeverStarted wsX0_endedRaces := goodIn_r _ [9, 10, 21, 22, 23, 24] (by decide +kernel) (by decide +kernel)
set_option maxRecDepth 20000 in
theorem gX5_checkNeverStarted_X0_endedRaces : GoodIn wsX5_checkNeverStarted (wsV RX5 120 RX0 yX0_endedRaces wsX0_endedRaces) := goodIn_app (goodIn_of _ (by decide +kernel)) ggX5_checkNeverStarted_X0_endedRaces
theorem dX5_checkNeverStarted_0 : decode cX5_checkNeverStarted 0 = .ok (.aload_n 0, 1) := by decide +kernel
theorem dX5_checkNeverStarted_1 : decode cX5_checkNeverStarted 1 = .ok (.getfield 57, 3) := by decide +kernel
theorem dX5_checkNeverStarted_4 : decode cX5_checkNeverStarted 4 = .ok (.ifCond .ne 13, 3) := by decide +kernel
theorem dX5_checkNeverStarted_7 : decode cX5_checkNeverStarted 7 = .ok (.aload_n 0, 1) := by decide +kernel
theorem dX5_checkNeverStarted_8 : decode cX5_checkNeverStarted 8 = .ok (.getfield 45, 3) := by decide +kernel
theorem dX5_checkNeverStarted_11 : decode cX5_checkNeverStarted 11 = .ok (.invokevirtual 120, 3) := by decide +kernel
theorem dX5_checkNeverStarted_14 : decode cX5_checkNeverStarted 14 = .ok (.ifCond .le 14, 3) := by decide +kernel
theorem dX5_checkNeverStarted_17 : decode cX5_checkNeverStarted 17 = .ok (.new 71, 3) := by decide +kernel
theorem dX5_checkNeverStarted_20 : decode cX5_checkNeverStarted 20 = .ok (.dup, 1) := by decide +kernel
theorem dX5_checkNeverStarted_21 : decode cX5_checkNeverStarted 21 = .ok (.ldc_w 277, 3) := by decide +kernel
theorem dX5_checkNeverStarted_24 : decode cX5_checkNeverStarted 24 = .ok (.invokespecial 75, 3) := by decide +kernel
theorem dX5_checkNeverStarted_27 : decode cX5_checkNeverStarted 27 = .ok (.athrow, 1) := by decide +kernel
theorem dX5_checkNeverStarted_28 : decode cX5_checkNeverStarted 28 = .ok (.return_, 1) := by decide +kernel
theorem dX5_checkRaceIsOn_0 : decode cX5_checkRaceIsOn 0 = .ok (.aload_n 0, 1) := by decide +kernel
theorem dX5_checkRaceIsOn_1 : decode cX5_checkRaceIsOn 1 = .ok (.getfield 57, 3) := by decide +kernel
theorem dX5_checkRaceIsOn_4 : decode cX5_checkRaceIsOn 4 = .ok (.ifCond .ne 14, 3) := by decide +kernel
theorem dX5_checkRaceIsOn_7 : decode cX5_checkRaceIsOn 7 = .ok (.new 71, 3) := by decide +kernel
theorem dX5_checkRaceIsOn_10 : decode cX5_checkRaceIsOn 10 = .ok (.dup, 1) := by decide +kernel
theorem dX5_checkRaceIsOn_11 : decode cX5_checkRaceIsOn 11 = .ok (.ldc_w 279, 3) := by decide +kernel
theorem dX5_checkRaceIsOn_14 : decode cX5_checkRaceIsOn 14 = .ok (.invokespecial 75, 3) := by decide +kernel
theorem dX5_checkRaceIsOn_17 : decode cX5_checkRaceIsOn 17 = .ok (.athrow, 1) := by decide +kernel
theorem dX5_checkRaceIsOn_18 : decode cX5_checkRaceIsOn 18 = .ok (.return_, 1) := by decide +kernel
set_option maxRecDepth 20000 in
theorem ggX5_checkStillRacing_X5_checkRaceIsOn : GoodIn wsX5_checkStillRacing wsX5_checkRaceIsOn := goodIn_ca (goodIn_r _ [8, 1, 2, 9, 17, 18, 19, 20, 21, 22, 23, 24, 25, 26] (by decide +kernel) (by decide +kernel)) (goodIn_sub (fun _ h => List.mem_cons_of_mem _ (List.mem_append_right _ h)) (by decide +kernel))
set_option maxRecDepth 20000 in
theorem gX5_checkStillRacing_X5_checkRaceIsOn : GoodIn wsX5_checkStillRacing (wsV RX5 171 RX5 yX5_checkRaceIsOn wsX5_checkRaceIsOn) := goodIn_app (goodIn_of _ (by decide +kernel)) ggX5_checkStillRacing_X5_checkRaceIsOn
set_option maxRecDepth 20000 in
theorem ggX5_checkStillRacing_X3_isFinished : GoodIn wsX5_checkStillRacing wsX3_isFinished := goodIn_r _ [14, 15, 16, 27, 28, 29, 30, 31, 32, 33, 34, 35, 36, 37] (by decide +kernel) (by decide +kernel)
set_option maxRecDepth 20000 in
theorem gX5_checkStillRacing_X3_isFinished : GoodIn wsX5_checkStillRacing (wsV RX5 265 RX3 yX3_isFinished wsX3_isFinished) := goodIn_app (goodIn_of _ (by decide +kernel)) ggX5_checkStillRacing_X3_isFinished
theorem dX5_checkStillRacing_0 : decode cX5_checkStillRacing 0 = .ok (.aload_n 0, 1) := by decide +kernel
theorem dX5_checkStillRacing_1 : decode cX5_checkStillRacing 1 = .ok (.invokevirtual 171, 3) := by decide +kernel
theorem dX5_checkStillRacing_4 : decode cX5_checkStillRacing 4 = .ok (.aload_n 0, 1) := by decide +kernel
theorem dX5_checkStillRacing_5 : decode cX5_checkStillRacing 5 = .ok (.getfield 21, 3) := by decide +kernel
theorem dX5_checkStillRacing_8 : decode cX5_checkStillRacing 8 = .ok (.iload_n 1, 1) := by decide +kernel
theorem dX5_checkStillRacing_9 : decode cX5_checkStillRacing 9 = .ok (.invokevirtual 265, 3) := by decide +kernel
theorem dX5_checkStillRacing_12 : decode cX5_checkStillRacing 12 = .ok (.ifCond .eq 14, 3) := by decide +kernel
theorem dX5_checkStillRacing_15 : decode cX5_checkStillRacing 15 = .ok (.new 71, 3) := by decide +kernel
theorem dX5_checkStillRacing_18 : decode cX5_checkStillRacing 18 = .ok (.dup, 1) := by decide +kernel
theorem dX5_checkStillRacing_19 : decode cX5_checkStillRacing 19 = .ok (.ldc_w 281, 3) := by decide +kernel
theorem dX5_checkStillRacing_22 : decode cX5_checkStillRacing 22 = .ok (.invokespecial 75, 3) := by decide +kernel
theorem dX5_checkStillRacing_25 : decode cX5_checkStillRacing 25 = .ok (.athrow, 1) := by decide +kernel
theorem dX5_checkStillRacing_26 : decode cX5_checkStillRacing 26 = .ok (.return_, 1) := by decide +kernel
theorem dX6_init_0 : decode cX6_init 0 = .ok (.aload_n 0, 1) := by decide +kernel
theorem dX6_init_1 : decode cX6_init 1 = .ok (.invokespecial 1, 3) := by decide +kernel
theorem dX6_init_4 : decode cX6_init 4 = .ok (.aload_n 0, 1) := by decide +kernel
theorem dX6_init_5 : decode cX6_init 5 = .ok (.iconst 1, 1) := by decide +kernel
theorem dX6_init_6 : decode cX6_init 6 = .ok (.putfield 7, 3) := by decide +kernel
theorem dX6_init_9 : decode cX6_init 9 = .ok (.aload_n 0, 1) := by decide +kernel
theorem dX6_init_10 : decode cX6_init 10 = .ok (.sipush 144, 3) := by decide +kernel
theorem dX6_init_13 : decode cX6_init 13 = .ok (.newarray .int, 2) := by decide +kernel
theorem dX6_init_15 : decode cX6_init 15 = .ok (.putfield 13, 3) := by decide +kernel
theorem dX6_init_18 : decode cX6_init 18 = .ok (.aload_n 0, 1) := by decide +kernel
theorem dX6_init_19 : decode cX6_init 19 = .ok (.bipush 12, 2) := by decide +kernel
theorem dX6_init_21 : decode cX6_init 21 = .ok (.newarray .int, 2) := by decide +kernel
theorem dX6_init_23 : decode cX6_init 23 = .ok (.putfield 17, 3) := by decide +kernel
theorem dX6_init_26 : decode cX6_init 26 = .ok (.aload_n 0, 1) := by decide +kernel
theorem dX6_init_27 : decode cX6_init 27 = .ok (.bipush 6, 2) := by decide +kernel
theorem dX6_init_29 : decode cX6_init 29 = .ok (.newarray .int, 2) := by decide +kernel
theorem dX6_init_31 : decode cX6_init 31 = .ok (.putfield 20, 3) := by decide +kernel
theorem dX6_init_34 : decode cX6_init 34 = .ok (.aload_n 0, 1) := by decide +kernel
theorem dX6_init_35 : decode cX6_init 35 = .ok (.bipush 6, 2) := by decide +kernel
theorem dX6_init_37 : decode cX6_init 37 = .ok (.newarray .int, 2) := by decide +kernel
theorem dX6_init_39 : decode cX6_init 39 = .ok (.putfield 23, 3) := by decide +kernel
theorem dX6_init_42 : decode cX6_init 42 = .ok (.aload_n 0, 1) := by decide +kernel
theorem dX6_init_43 : decode cX6_init 43 = .ok (.bipush 6, 2) := by decide +kernel
theorem dX6_init_45 : decode cX6_init 45 = .ok (.newarray .int, 2) := by decide +kernel
theorem dX6_init_47 : decode cX6_init 47 = .ok (.putfield 26, 3) := by decide +kernel
theorem dX6_init_50 : decode cX6_init 50 = .ok (.aload_n 0, 1) := by decide +kernel
theorem dX6_init_51 : decode cX6_init 51 = .ok (.bipush 6, 2) := by decide +kernel
theorem dX6_init_53 : decode cX6_init 53 = .ok (.newarray .int, 2) := by decide +kernel
theorem dX6_init_55 : decode cX6_init 55 = .ok (.putfield 29, 3) := by decide +kernel
theorem dX6_init_58 : decode cX6_init 58 = .ok (.aload_n 0, 1) := by decide +kernel
theorem dX6_init_59 : decode cX6_init 59 = .ok (.bipush 6, 2) := by decide +kernel
theorem dX6_init_61 : decode cX6_init 61 = .ok (.newarray .int, 2) := by decide +kernel
theorem dX6_init_63 : decode cX6_init 63 = .ok (.putfield 32, 3) := by decide +kernel
theorem dX6_init_66 : decode cX6_init 66 = .ok (.aload_n 0, 1) := by decide +kernel
theorem dX6_init_67 : decode cX6_init 67 = .ok (.bipush 6, 2) := by decide +kernel
theorem dX6_init_69 : decode cX6_init 69 = .ok (.newarray .int, 2) := by decide +kernel
theorem dX6_init_71 : decode cX6_init 71 = .ok (.putfield 35, 3) := by decide +kernel
theorem dX6_init_74 : decode cX6_init 74 = .ok (.aload_n 0, 1) := by decide +kernel
theorem dX6_init_75 : decode cX6_init 75 = .ok (.bipush 6, 2) := by decide +kernel
theorem dX6_init_77 : decode cX6_init 77 = .ok (.newarray .int, 2) := by decide +kernel
theorem dX6_init_79 : decode cX6_init 79 = .ok (.putfield 38, 3) := by decide +kernel
theorem dX6_init_82 : decode cX6_init 82 = .ok (.aload_n 0, 1) := by decide +kernel
theorem dX6_init_83 : decode cX6_init 83 = .ok (.bipush 6, 2) := by decide +kernel
theorem dX6_init_85 : decode cX6_init 85 = .ok (.newarray .int, 2) := by decide +kernel
theorem dX6_init_87 : decode cX6_init 87 = .ok (.putfield 41, 3) := by decide +kernel
theorem dX6_init_90 : decode cX6_init 90 = .ok (.aload_n 0, 1) := by decide +kernel
theorem dX6_init_91 : decode cX6_init 91 = .ok (.bipush 6, 2) := by decide +kernel
theorem dX6_init_93 : decode cX6_init 93 = .ok (.newarray .boolean, 2) := by decide +kernel
theorem dX6_init_95 : decode cX6_init 95 = .ok (.putfield 44, 3) := by decide +kernel
theorem dX6_init_98 : decode cX6_init 98 = .ok (.aload_n 0, 1) := by decide +kernel
theorem dX6_init_99 : decode cX6_init 99 = .ok (.bipush 6, 2) := by decide +kernel
theorem dX6_init_101 : decode cX6_init 101 = .ok (.newarray .int, 2) := by decide +kernel
theorem dX6_init_103 : decode cX6_init 103 = .ok (.putfield 48, 3) := by decide +kernel
theorem dX6_init_106 : decode cX6_init 106 = .ok (.aload_n 0, 1) := by decide +kernel
theorem dX6_init_107 : decode cX6_init 107 = .ok (.bipush 48, 2) := by decide +kernel
theorem dX6_init_109 : decode cX6_init 109 = .ok (.newarray .int, 2) := by decide +kernel
theorem dX6_init_111 : decode cX6_init 111 = .ok (.putfield 51, 3) := by decide +kernel
theorem dX6_init_114 : decode cX6_init 114 = .ok (.aload_n 0, 1) := by decide +kernel
theorem dX6_init_115 : decode cX6_init 115 = .ok (.bipush 48, 2) := by decide +kernel
theorem dX6_init_117 : decode cX6_init 117 = .ok (.newarray .int, 2) := by decide +kernel
theorem dX6_init_119 : decode cX6_init 119 = .ok (.putfield 54, 3) := by decide +kernel
theorem dX6_init_122 : decode cX6_init 122 = .ok (.return_, 1) := by decide +kernel
theorem dX6_thrown_0 : decode cX6_thrown 0 = .ok (.aload_n 0, 1) := by decide +kernel
theorem dX6_thrown_1 : decode cX6_thrown 1 = .ok (.getfield 57, 3) := by decide +kernel
theorem dX6_thrown_4 : decode cX6_thrown 4 = .ok (.ireturn, 1) := by decide +kernel
theorem dX6_fails_0 : decode cX6_fails 0 = .ok (.aload_n 0, 1) := by decide +kernel
theorem dX6_fails_1 : decode cX6_fails 1 = .ok (.iload_n 1, 1) := by decide +kernel
theorem dX6_fails_2 : decode cX6_fails 2 = .ok (.putfield 57, 3) := by decide +kernel
theorem dX6_fails_5 : decode cX6_fails 5 = .ok (.iload_n 1, 1) := by decide +kernel
theorem dX6_fails_6 : decode cX6_fails 6 = .ok (.ifCond .le 7, 3) := by decide +kernel
theorem dX6_fails_9 : decode cX6_fails 9 = .ok (.iconst 1, 1) := by decide +kernel
theorem dX6_fails_10 : decode cX6_fails 10 = .ok (.goto 4, 3) := by decide +kernel
theorem dX6_fails_13 : decode cX6_fails 13 = .ok (.iconst 0, 1) := by decide +kernel
theorem dX6_fails_14 : decode cX6_fails 14 = .ok (.ireturn, 1) := by decide +kernel
theorem dX6_tells_0 : decode cX6_tells 0 = .ok (.aload_n 0, 1) := by decide +kernel
theorem dX6_tells_1 : decode cX6_tells 1 = .ok (.iconst 0, 1) := by decide +kernel
theorem dX6_tells_2 : decode cX6_tells 2 = .ok (.putfield 57, 3) := by decide +kernel
theorem dX6_tells_5 : decode cX6_tells 5 = .ok (.iload_n 1, 1) := by decide +kernel
theorem dX6_tells_6 : decode cX6_tells 6 = .ok (.ireturn, 1) := by decide +kernel
theorem dX6_isIn_0 : decode cX6_isIn 0 = .ok (.iload_n 0, 1) := by decide +kernel
theorem dX6_isIn_1 : decode cX6_isIn 1 = .ok (.iload_n 1, 1) := by decide +kernel
theorem dX6_isIn_2 : decode cX6_isIn 2 = .ok (.if_icmp .lt 12, 3) := by decide +kernel
theorem dX6_isIn_5 : decode cX6_isIn 5 = .ok (.iload_n 0, 1) := by decide +kernel
theorem dX6_isIn_6 : decode cX6_isIn 6 = .ok (.iload_n 2, 1) := by decide +kernel
theorem dX6_isIn_7 : decode cX6_isIn 7 = .ok (.if_icmp .gt 7, 3) := by decide +kernel
theorem dX6_isIn_10 : decode cX6_isIn 10 = .ok (.iconst 1, 1) := by decide +kernel
theorem dX6_isIn_11 : decode cX6_isIn 11 = .ok (.goto 4, 3) := by decide +kernel
theorem dX6_isIn_14 : decode cX6_isIn 14 = .ok (.iconst 0, 1) := by decide +kernel
theorem dX6_isIn_15 : decode cX6_isIn 15 = .ok (.ireturn, 1) := by decide +kernel
set_option maxRecDepth 20000 in
theorem ggX6_isGate_X6_isIn : GoodIn wsX6_isGate wsX6_isIn := goodIn_r _ [5] (by decide +kernel) (by decide +kernel)
set_option maxRecDepth 20000 in
theorem gX6_isGate_X6_isIn : GoodIn wsX6_isGate (va_wsS RX6 60 yX6_isIn wsX6_isIn) := goodIn_app (goodIn_of _ (by decide +kernel)) ggX6_isGate_X6_isIn
theorem dX6_isGate_0 : decode cX6_isGate 0 = .ok (.iload_n 1, 1) := by decide +kernel
theorem dX6_isGate_1 : decode cX6_isGate 1 = .ok (.iconst 0, 1) := by decide +kernel
theorem dX6_isGate_2 : decode cX6_isGate 2 = .ok (.aload_n 0, 1) := by decide +kernel
theorem dX6_isGate_3 : decode cX6_isGate 3 = .ok (.getfield 7, 3) := by decide +kernel
theorem dX6_isGate_6 : decode cX6_isGate 6 = .ok (.iconst 1, 1) := by decide +kernel
theorem dX6_isGate_7 : decode cX6_isGate 7 = .ok (.isub, 1) := by decide +kernel
theorem dX6_isGate_8 : decode cX6_isGate 8 = .ok (.invokestatic 60, 3) := by decide +kernel
theorem dX6_isGate_11 : decode cX6_isGate 11 = .ok (.ireturn, 1) := by decide +kernel
set_option maxRecDepth 20000 in
theorem ggX6_isKart_X6_isIn : GoodIn wsX6_isKart wsX6_isIn := goodIn_r _ [5] (by decide +kernel) (by decide +kernel)
set_option maxRecDepth 20000 in
theorem gX6_isKart_X6_isIn : GoodIn wsX6_isKart (va_wsS RX6 60 yX6_isIn wsX6_isIn) := goodIn_app (goodIn_of _ (by decide +kernel)) ggX6_isKart_X6_isIn
theorem dX6_isKart_0 : decode cX6_isKart 0 = .ok (.iload_n 1, 1) := by decide +kernel
theorem dX6_isKart_1 : decode cX6_isKart 1 = .ok (.iconst 0, 1) := by decide +kernel
theorem dX6_isKart_2 : decode cX6_isKart 2 = .ok (.aload_n 0, 1) := by decide +kernel
theorem dX6_isKart_3 : decode cX6_isKart 3 = .ok (.getfield 64, 3) := by decide +kernel
theorem dX6_isKart_6 : decode cX6_isKart 6 = .ok (.iconst 1, 1) := by decide +kernel
theorem dX6_isKart_7 : decode cX6_isKart 7 = .ok (.isub, 1) := by decide +kernel
theorem dX6_isKart_8 : decode cX6_isKart 8 = .ok (.invokestatic 60, 3) := by decide +kernel
theorem dX6_isKart_11 : decode cX6_isKart 11 = .ok (.ireturn, 1) := by decide +kernel
set_option maxRecDepth 20000 in
theorem ggX6_addGate_X6_fails : GoodIn wsX6_addGate wsX6_fails := goodIn_r _ [8, 9, 10, 11, 12, 13, 14, 15, 16, 17, 18, 19, 20, 21, 22, 23, 24, 25, 26, 27, 28, 29, 30, 31, 32, 33, 34, 35] (by decide +kernel) (by decide +kernel)
set_option maxRecDepth 20000 in
theorem gX6_addGate_X6_fails : GoodIn wsX6_addGate (wsV RX6 70 RX6 yX6_fails wsX6_fails) := goodIn_app (goodIn_of _ (by decide +kernel)) ggX6_addGate_X6_fails
theorem dX6_addGate_0 : decode cX6_addGate 0 = .ok (.aload_n 0, 1) := by decide +kernel
theorem dX6_addGate_1 : decode cX6_addGate 1 = .ok (.aload_n 0, 1) := by decide +kernel
theorem dX6_addGate_2 : decode cX6_addGate 2 = .ok (.getfield 67, 3) := by decide +kernel
theorem dX6_addGate_5 : decode cX6_addGate 5 = .ok (.ifCond .gt 12, 3) := by decide +kernel
theorem dX6_addGate_8 : decode cX6_addGate 8 = .ok (.aload_n 0, 1) := by decide +kernel
theorem dX6_addGate_9 : decode cX6_addGate 9 = .ok (.getfield 7, 3) := by decide +kernel
theorem dX6_addGate_12 : decode cX6_addGate 12 = .ok (.bipush 12, 2) := by decide +kernel
theorem dX6_addGate_14 : decode cX6_addGate 14 = .ok (.if_icmp .ne 7, 3) := by decide +kernel
theorem dX6_addGate_17 : decode cX6_addGate 17 = .ok (.iconst 1, 1) := by decide +kernel
theorem dX6_addGate_18 : decode cX6_addGate 18 = .ok (.goto 4, 3) := by decide +kernel
theorem dX6_addGate_21 : decode cX6_addGate 21 = .ok (.iconst 0, 1) := by decide +kernel
theorem dX6_addGate_22 : decode cX6_addGate 22 = .ok (.invokevirtual 70, 3) := by decide +kernel
theorem dX6_addGate_25 : decode cX6_addGate 25 = .ok (.ifCond .eq 5, 3) := by decide +kernel
theorem dX6_addGate_28 : decode cX6_addGate 28 = .ok (.iconst 0, 1) := by decide +kernel
theorem dX6_addGate_29 : decode cX6_addGate 29 = .ok (.ireturn, 1) := by decide +kernel
theorem dX6_addGate_30 : decode cX6_addGate 30 = .ok (.aload_n 0, 1) := by decide +kernel
theorem dX6_addGate_31 : decode cX6_addGate 31 = .ok (.dup, 1) := by decide +kernel
theorem dX6_addGate_32 : decode cX6_addGate 32 = .ok (.getfield 74, 3) := by decide +kernel
theorem dX6_addGate_35 : decode cX6_addGate 35 = .ok (.iload_n 1, 1) := by decide +kernel
theorem dX6_addGate_36 : decode cX6_addGate 36 = .ok (.ifCond .eq 12, 3) := by decide +kernel
theorem dX6_addGate_39 : decode cX6_addGate 39 = .ok (.iconst 1, 1) := by decide +kernel
theorem dX6_addGate_40 : decode cX6_addGate 40 = .ok (.aload_n 0, 1) := by decide +kernel
theorem dX6_addGate_41 : decode cX6_addGate 41 = .ok (.getfield 7, 3) := by decide +kernel
theorem dX6_addGate_44 : decode cX6_addGate 44 = .ok (.ishl, 1) := by decide +kernel
theorem dX6_addGate_45 : decode cX6_addGate 45 = .ok (.goto 4, 3) := by decide +kernel
theorem dX6_addGate_48 : decode cX6_addGate 48 = .ok (.iconst 0, 1) := by decide +kernel
theorem dX6_addGate_49 : decode cX6_addGate 49 = .ok (.ior, 1) := by decide +kernel
theorem dX6_addGate_50 : decode cX6_addGate 50 = .ok (.putfield 74, 3) := by decide +kernel
theorem dX6_addGate_53 : decode cX6_addGate 53 = .ok (.aload_n 0, 1) := by decide +kernel
theorem dX6_addGate_54 : decode cX6_addGate 54 = .ok (.dup, 1) := by decide +kernel
theorem dX6_addGate_55 : decode cX6_addGate 55 = .ok (.getfield 7, 3) := by decide +kernel
theorem dX6_addGate_58 : decode cX6_addGate 58 = .ok (.iconst 1, 1) := by decide +kernel
theorem dX6_addGate_59 : decode cX6_addGate 59 = .ok (.iadd, 1) := by decide +kernel
theorem dX6_addGate_60 : decode cX6_addGate 60 = .ok (.putfield 7, 3) := by decide +kernel
theorem dX6_addGate_63 : decode cX6_addGate 63 = .ok (.aload_n 0, 1) := by decide +kernel
theorem dX6_addGate_64 : decode cX6_addGate 64 = .ok (.getfield 7, 3) := by decide +kernel
theorem dX6_addGate_67 : decode cX6_addGate 67 = .ok (.iconst 1, 1) := by decide +kernel
theorem dX6_addGate_68 : decode cX6_addGate 68 = .ok (.isub, 1) := by decide +kernel
theorem dX6_addGate_69 : decode cX6_addGate 69 = .ok (.ireturn, 1) := by decide +kernel
set_option maxRecDepth 20000 in
theorem ggX6_addWay_X6_isGate : GoodIn wsX6_addWay wsX6_isGate := goodIn_r _ [7, 8, 9, 10, 6, 11, 17, 18, 19, 20, 21, 22, 23, 24, 25, 26, 27, 28, 29, 30, 31, 32, 33, 34, 35, 36, 37, 38, 39, 40, 41, 42] (by decide +kernel) (by decide +kernel)
set_option maxRecDepth 20000 in
theorem gX6_addWay_X6_isGate : GoodIn wsX6_addWay (wsV RX6 77 RX6 yX6_isGate wsX6_isGate) := goodIn_app (goodIn_of _ (by decide +kernel)) ggX6_addWay_X6_isGate
set_option maxRecDepth 20000 in
theorem ggX6_addWay_X6_isIn : GoodIn wsX6_addWay wsX6_isIn := goodIn_r _ [11] (by decide +kernel) (by decide +kernel)
set_option maxRecDepth 20000 in
theorem gX6_addWay_X6_isIn : GoodIn wsX6_addWay (va_wsS RX6 60 yX6_isIn wsX6_isIn) := goodIn_app (goodIn_of _ (by decide +kernel)) ggX6_addWay_X6_isIn
set_option maxRecDepth 20000 in
theorem ggX6_addWay_X6_fails : GoodIn wsX6_addWay wsX6_fails := goodIn_r _ [15, 16, 17, 18, 19, 20, 21, 22, 23, 24, 25, 26, 27, 28, 29, 30, 31, 32, 33, 34, 35, 36, 37, 38, 39, 40, 41, 42] (by decide +kernel) (by decide +kernel)
set_option maxRecDepth 20000 in
theorem gX6_addWay_X6_fails : GoodIn wsX6_addWay (wsV RX6 70 RX6 yX6_fails wsX6_fails) := goodIn_app (goodIn_of _ (by decide +kernel)) ggX6_addWay_X6_fails
theorem dX6_addWay_0 : decode cX6_addWay 0 = .ok (.aload_n 0, 1) := by decide +kernel
theorem dX6_addWay_1 : decode cX6_addWay 1 = .ok (.iload_n 1, 1) := by decide +kernel
theorem dX6_addWay_2 : decode cX6_addWay 2 = .ok (.invokevirtual 77, 3) := by decide +kernel
theorem dX6_addWay_5 : decode cX6_addWay 5 = .ok (.ifCond .eq 15, 3) := by decide +kernel
theorem dX6_addWay_8 : decode cX6_addWay 8 = .ok (.aload_n 0, 1) := by decide +kernel
theorem dX6_addWay_9 : decode cX6_addWay 9 = .ok (.iload_n 2, 1) := by decide +kernel
theorem dX6_addWay_10 : decode cX6_addWay 10 = .ok (.invokevirtual 77, 3) := by decide +kernel
theorem dX6_addWay_13 : decode cX6_addWay 13 = .ok (.ifCond .eq 7, 3) := by decide +kernel
theorem dX6_addWay_16 : decode cX6_addWay 16 = .ok (.iconst 1, 1) := by decide +kernel
theorem dX6_addWay_17 : decode cX6_addWay 17 = .ok (.goto 4, 3) := by decide +kernel
theorem dX6_addWay_20 : decode cX6_addWay 20 = .ok (.iconst 0, 1) := by decide +kernel
theorem dX6_addWay_21 : decode cX6_addWay 21 = .ok (.istore 4, 2) := by decide +kernel
theorem dX6_addWay_23 : decode cX6_addWay 23 = .ok (.iload_n 2, 1) := by decide +kernel
theorem dX6_addWay_24 : decode cX6_addWay 24 = .ok (.iload_n 1, 1) := by decide +kernel
theorem dX6_addWay_25 : decode cX6_addWay 25 = .ok (.if_icmp .gt 11, 3) := by decide +kernel
theorem dX6_addWay_28 : decode cX6_addWay 28 = .ok (.iload_n 2, 1) := by decide +kernel
theorem dX6_addWay_29 : decode cX6_addWay 29 = .ok (.ifCond .ne 21, 3) := by decide +kernel
theorem dX6_addWay_32 : decode cX6_addWay 32 = .ok (.iload_n 1, 1) := by decide +kernel
theorem dX6_addWay_33 : decode cX6_addWay 33 = .ok (.ifCond .le 17, 3) := by decide +kernel
theorem dX6_addWay_36 : decode cX6_addWay 36 = .ok (.iload_n 3, 1) := by decide +kernel
theorem dX6_addWay_37 : decode cX6_addWay 37 = .ok (.iconst 1, 1) := by decide +kernel
theorem dX6_addWay_38 : decode cX6_addWay 38 = .ok (.bipush 100, 2) := by decide +kernel
theorem dX6_addWay_40 : decode cX6_addWay 40 = .ok (.invokestatic 60, 3) := by decide +kernel
theorem dX6_addWay_43 : decode cX6_addWay 43 = .ok (.ifCond .eq 7, 3) := by decide +kernel
theorem dX6_addWay_46 : decode cX6_addWay 46 = .ok (.iconst 1, 1) := by decide +kernel
theorem dX6_addWay_47 : decode cX6_addWay 47 = .ok (.goto 4, 3) := by decide +kernel
theorem dX6_addWay_50 : decode cX6_addWay 50 = .ok (.iconst 0, 1) := by decide +kernel
theorem dX6_addWay_51 : decode cX6_addWay 51 = .ok (.istore 5, 2) := by decide +kernel
theorem dX6_addWay_53 : decode cX6_addWay 53 = .ok (.aload_n 0, 1) := by decide +kernel
theorem dX6_addWay_54 : decode cX6_addWay 54 = .ok (.iload 4, 2) := by decide +kernel
theorem dX6_addWay_56 : decode cX6_addWay 56 = .ok (.ifCond .ne 7, 3) := by decide +kernel
theorem dX6_addWay_59 : decode cX6_addWay 59 = .ok (.iconst 1, 1) := by decide +kernel
theorem dX6_addWay_60 : decode cX6_addWay 60 = .ok (.goto 24, 3) := by decide +kernel
theorem dX6_addWay_63 : decode cX6_addWay 63 = .ok (.iload 5, 2) := by decide +kernel
theorem dX6_addWay_65 : decode cX6_addWay 65 = .ok (.ifCond .ne 7, 3) := by decide +kernel
theorem dX6_addWay_68 : decode cX6_addWay 68 = .ok (.iconst 2, 1) := by decide +kernel
theorem dX6_addWay_69 : decode cX6_addWay 69 = .ok (.goto 15, 3) := by decide +kernel
theorem dX6_addWay_72 : decode cX6_addWay 72 = .ok (.aload_n 0, 1) := by decide +kernel
theorem dX6_addWay_73 : decode cX6_addWay 73 = .ok (.getfield 67, 3) := by decide +kernel
theorem dX6_addWay_76 : decode cX6_addWay 76 = .ok (.ifCond .le 7, 3) := by decide +kernel
theorem dX6_addWay_79 : decode cX6_addWay 79 = .ok (.iconst 3, 1) := by decide +kernel
theorem dX6_addWay_80 : decode cX6_addWay 80 = .ok (.goto 4, 3) := by decide +kernel
theorem dX6_addWay_83 : decode cX6_addWay 83 = .ok (.iconst 0, 1) := by decide +kernel
theorem dX6_addWay_84 : decode cX6_addWay 84 = .ok (.invokevirtual 70, 3) := by decide +kernel
theorem dX6_addWay_87 : decode cX6_addWay 87 = .ok (.ifCond .eq 5, 3) := by decide +kernel
theorem dX6_addWay_90 : decode cX6_addWay 90 = .ok (.iconst 0, 1) := by decide +kernel
theorem dX6_addWay_91 : decode cX6_addWay 91 = .ok (.ireturn, 1) := by decide +kernel
theorem dX6_addWay_92 : decode cX6_addWay 92 = .ok (.aload_n 0, 1) := by decide +kernel
theorem dX6_addWay_93 : decode cX6_addWay 93 = .ok (.getfield 13, 3) := by decide +kernel
theorem dX6_addWay_96 : decode cX6_addWay 96 = .ok (.bipush 12, 2) := by decide +kernel
theorem dX6_addWay_98 : decode cX6_addWay 98 = .ok (.iload_n 1, 1) := by decide +kernel
theorem dX6_addWay_99 : decode cX6_addWay 99 = .ok (.imul, 1) := by decide +kernel
theorem dX6_addWay_100 : decode cX6_addWay 100 = .ok (.iload_n 2, 1) := by decide +kernel
theorem dX6_addWay_101 : decode cX6_addWay 101 = .ok (.iadd, 1) := by decide +kernel
theorem dX6_addWay_102 : decode cX6_addWay 102 = .ok (.iaload, 1) := by decide +kernel
theorem dX6_addWay_103 : decode cX6_addWay 103 = .ok (.istore 6, 2) := by decide +kernel
theorem dX6_addWay_105 : decode cX6_addWay 105 = .ok (.aload_n 0, 1) := by decide +kernel
theorem dX6_addWay_106 : decode cX6_addWay 106 = .ok (.getfield 13, 3) := by decide +kernel
theorem dX6_addWay_109 : decode cX6_addWay 109 = .ok (.bipush 12, 2) := by decide +kernel
theorem dX6_addWay_111 : decode cX6_addWay 111 = .ok (.iload_n 1, 1) := by decide +kernel
theorem dX6_addWay_112 : decode cX6_addWay 112 = .ok (.imul, 1) := by decide +kernel
theorem dX6_addWay_113 : decode cX6_addWay 113 = .ok (.iload_n 2, 1) := by decide +kernel
theorem dX6_addWay_114 : decode cX6_addWay 114 = .ok (.iadd, 1) := by decide +kernel
theorem dX6_addWay_115 : decode cX6_addWay 115 = .ok (.iload_n 3, 1) := by decide +kernel
theorem dX6_addWay_116 : decode cX6_addWay 116 = .ok (.iastore, 1) := by decide +kernel
theorem dX6_addWay_117 : decode cX6_addWay 117 = .ok (.iload 6, 2) := by decide +kernel
theorem dX6_addWay_119 : decode cX6_addWay 119 = .ok (.ifCond .ne 7, 3) := by decide +kernel
theorem dX6_addWay_122 : decode cX6_addWay 122 = .ok (.iconst (-1), 1) := by decide +kernel
theorem dX6_addWay_123 : decode cX6_addWay 123 = .ok (.goto 5, 3) := by decide +kernel
theorem dX6_addWay_126 : decode cX6_addWay 126 = .ok (.iload 6, 2) := by decide +kernel
theorem dX6_addWay_128 : decode cX6_addWay 128 = .ok (.ireturn, 1) := by decide +kernel
set_option maxRecDepth 20000 in
theorem ggX6_addKart_X6_isIn : GoodIn wsX6_addKart wsX6_isIn := goodIn_r _ [7] (by decide +kernel) (by decide +kernel)
set_option maxRecDepth 20000 in
theorem gX6_addKart_X6_isIn : GoodIn wsX6_addKart (va_wsS RX6 60 yX6_isIn wsX6_isIn) := goodIn_app (goodIn_of _ (by decide +kernel)) ggX6_addKart_X6_isIn
set_option maxRecDepth 20000 in
theorem ggX6_addKart_X6_fails : GoodIn wsX6_addKart wsX6_fails := goodIn_r _ [11, 12, 13, 14, 15, 16, 17, 18, 19, 20, 21, 22, 23, 24, 25, 26, 27, 28, 29, 30, 31, 32, 33, 34, 35, 36, 37, 38] (by decide +kernel) (by decide +kernel)
set_option maxRecDepth 20000 in
theorem gX6_addKart_X6_fails : GoodIn wsX6_addKart (wsV RX6 70 RX6 yX6_fails wsX6_fails) := goodIn_app (goodIn_of _ (by decide +kernel)) ggX6_addKart_X6_fails
theorem dX6_addKart_0 : decode cX6_addKart 0 = .ok (.aload_n 0, 1) := by decide +kernel
theorem dX6_addKart_1 : decode cX6_addKart 1 = .ok (.iload_n 1, 1) := by decide +kernel
theorem dX6_addKart_2 : decode cX6_addKart 2 = .ok (.iconst 0, 1) := by decide +kernel
theorem dX6_addKart_3 : decode cX6_addKart 3 = .ok (.iconst 3, 1) := by decide +kernel
theorem dX6_addKart_4 : decode cX6_addKart 4 = .ok (.invokestatic 60, 3) := by decide +kernel
theorem dX6_addKart_7 : decode cX6_addKart 7 = .ok (.ifCond .ne 7, 3) := by decide +kernel
theorem dX6_addKart_10 : decode cX6_addKart 10 = .ok (.iconst 1, 1) := by decide +kernel
theorem dX6_addKart_11 : decode cX6_addKart 11 = .ok (.goto 24, 3) := by decide +kernel
theorem dX6_addKart_14 : decode cX6_addKart 14 = .ok (.aload_n 0, 1) := by decide +kernel
theorem dX6_addKart_15 : decode cX6_addKart 15 = .ok (.getfield 67, 3) := by decide +kernel
theorem dX6_addKart_18 : decode cX6_addKart 18 = .ok (.ifCond .gt 12, 3) := by decide +kernel
theorem dX6_addKart_21 : decode cX6_addKart 21 = .ok (.aload_n 0, 1) := by decide +kernel
theorem dX6_addKart_22 : decode cX6_addKart 22 = .ok (.getfield 64, 3) := by decide +kernel
theorem dX6_addKart_25 : decode cX6_addKart 25 = .ok (.bipush 6, 2) := by decide +kernel
theorem dX6_addKart_27 : decode cX6_addKart 27 = .ok (.if_icmp .ne 7, 3) := by decide +kernel
theorem dX6_addKart_30 : decode cX6_addKart 30 = .ok (.iconst 2, 1) := by decide +kernel
theorem dX6_addKart_31 : decode cX6_addKart 31 = .ok (.goto 4, 3) := by decide +kernel
theorem dX6_addKart_34 : decode cX6_addKart 34 = .ok (.iconst 0, 1) := by decide +kernel
theorem dX6_addKart_35 : decode cX6_addKart 35 = .ok (.invokevirtual 70, 3) := by decide +kernel
theorem dX6_addKart_38 : decode cX6_addKart 38 = .ok (.ifCond .eq 5, 3) := by decide +kernel
theorem dX6_addKart_41 : decode cX6_addKart 41 = .ok (.iconst 0, 1) := by decide +kernel
theorem dX6_addKart_42 : decode cX6_addKart 42 = .ok (.ireturn, 1) := by decide +kernel
theorem dX6_addKart_43 : decode cX6_addKart 43 = .ok (.aload_n 0, 1) := by decide +kernel
theorem dX6_addKart_44 : decode cX6_addKart 44 = .ok (.getfield 20, 3) := by decide +kernel
theorem dX6_addKart_47 : decode cX6_addKart 47 = .ok (.aload_n 0, 1) := by decide +kernel
theorem dX6_addKart_48 : decode cX6_addKart 48 = .ok (.getfield 64, 3) := by decide +kernel
theorem dX6_addKart_51 : decode cX6_addKart 51 = .ok (.iload_n 1, 1) := by decide +kernel
theorem dX6_addKart_52 : decode cX6_addKart 52 = .ok (.iastore, 1) := by decide +kernel
theorem dX6_addKart_53 : decode cX6_addKart 53 = .ok (.aload_n 0, 1) := by decide +kernel
theorem dX6_addKart_54 : decode cX6_addKart 54 = .ok (.dup, 1) := by decide +kernel
theorem dX6_addKart_55 : decode cX6_addKart 55 = .ok (.getfield 64, 3) := by decide +kernel
theorem dX6_addKart_58 : decode cX6_addKart 58 = .ok (.iconst 1, 1) := by decide +kernel
theorem dX6_addKart_59 : decode cX6_addKart 59 = .ok (.iadd, 1) := by decide +kernel
theorem dX6_addKart_60 : decode cX6_addKart 60 = .ok (.putfield 64, 3) := by decide +kernel
theorem dX6_addKart_63 : decode cX6_addKart 63 = .ok (.aload_n 0, 1) := by decide +kernel
theorem dX6_addKart_64 : decode cX6_addKart 64 = .ok (.getfield 64, 3) := by decide +kernel
theorem dX6_addKart_67 : decode cX6_addKart 67 = .ok (.iconst 1, 1) := by decide +kernel
theorem dX6_addKart_68 : decode cX6_addKart 68 = .ok (.isub, 1) := by decide +kernel
theorem dX6_addKart_69 : decode cX6_addKart 69 = .ok (.ireturn, 1) := by decide +kernel
set_option maxRecDepth 20000 in
theorem ggX6_gates_X6_tells : GoodIn wsX6_gates wsX6_tells := goodIn_r _ [6, 7, 8, 9, 10, 11, 12, 13, 14, 15, 16, 17, 18, 19, 20, 21, 22, 23, 24, 25, 26, 27, 28, 29, 30, 31, 32, 33] (by decide +kernel) (by decide +kernel)
set_option maxRecDepth 20000 in
theorem gX6_gates_X6_tells : GoodIn wsX6_gates (wsV RX6 80 RX6 yX6_tells wsX6_tells) := goodIn_app (goodIn_of _ (by decide +kernel)) ggX6_gates_X6_tells
theorem dX6_gates_0 : decode cX6_gates 0 = .ok (.aload_n 0, 1) := by decide +kernel
theorem dX6_gates_1 : decode cX6_gates 1 = .ok (.aload_n 0, 1) := by decide +kernel
theorem dX6_gates_2 : decode cX6_gates 2 = .ok (.getfield 7, 3) := by decide +kernel
theorem dX6_gates_5 : decode cX6_gates 5 = .ok (.invokevirtual 80, 3) := by decide +kernel
theorem dX6_gates_8 : decode cX6_gates 8 = .ok (.ireturn, 1) := by decide +kernel
set_option maxRecDepth 20000 in
theorem ggX6_karts_X6_tells : GoodIn wsX6_karts wsX6_tells := goodIn_r _ [6, 7, 8, 9, 10, 11, 12, 13, 14, 15, 16, 17, 18, 19, 20, 21, 22, 23, 24, 25, 26, 27, 28, 29, 30, 31, 32, 33] (by decide +kernel) (by decide +kernel)
set_option maxRecDepth 20000 in
theorem gX6_karts_X6_tells : GoodIn wsX6_karts (wsV RX6 80 RX6 yX6_tells wsX6_tells) := goodIn_app (goodIn_of _ (by decide +kernel)) ggX6_karts_X6_tells
theorem dX6_karts_0 : decode cX6_karts 0 = .ok (.aload_n 0, 1) := by decide +kernel
theorem dX6_karts_1 : decode cX6_karts 1 = .ok (.aload_n 0, 1) := by decide +kernel
theorem dX6_karts_2 : decode cX6_karts 2 = .ok (.getfield 64, 3) := by decide +kernel
theorem dX6_karts_5 : decode cX6_karts 5 = .ok (.invokevirtual 80, 3) := by decide +kernel
theorem dX6_karts_8 : decode cX6_karts 8 = .ok (.ireturn, 1) := by decide +kernel
theorem dX6_finds_0 : decode cX6_finds 0 = .ok (.aload_n 0, 1) := by decide +kernel
theorem dX6_finds_1 : decode cX6_finds 1 = .ok (.getfield 7, 3) := by decide +kernel
theorem dX6_finds_4 : decode cX6_finds 4 = .ok (.iconst 1, 1) := by decide +kernel
theorem dX6_finds_5 : decode cX6_finds 5 = .ok (.isub, 1) := by decide +kernel
theorem dX6_finds_6 : decode cX6_finds 6 = .ok (.istore_n 1, 1) := by decide +kernel
theorem dX6_finds_7 : decode cX6_finds 7 = .ok (.iload_n 1, 1) := by decide +kernel
theorem dX6_finds_8 : decode cX6_finds 8 = .ok (.ifCond .lt 113, 3) := by decide +kernel
theorem dX6_finds_11 : decode cX6_finds 11 = .ok (.iconst (-1), 1) := by decide +kernel
theorem dX6_finds_12 : decode cX6_finds 12 = .ok (.istore_n 2, 1) := by decide +kernel
theorem dX6_finds_13 : decode cX6_finds 13 = .ok (.iconst 0, 1) := by decide +kernel
theorem dX6_finds_14 : decode cX6_finds 14 = .ok (.istore_n 3, 1) := by decide +kernel
theorem dX6_finds_15 : decode cX6_finds 15 = .ok (.iload_n 3, 1) := by decide +kernel
theorem dX6_finds_16 : decode cX6_finds 16 = .ok (.aload_n 0, 1) := by decide +kernel
theorem dX6_finds_17 : decode cX6_finds 17 = .ok (.getfield 7, 3) := by decide +kernel
theorem dX6_finds_20 : decode cX6_finds 20 = .ok (.if_icmp .ge 88, 3) := by decide +kernel
theorem dX6_finds_23 : decode cX6_finds 23 = .ok (.aload_n 0, 1) := by decide +kernel
theorem dX6_finds_24 : decode cX6_finds 24 = .ok (.getfield 13, 3) := by decide +kernel
theorem dX6_finds_27 : decode cX6_finds 27 = .ok (.bipush 12, 2) := by decide +kernel
theorem dX6_finds_29 : decode cX6_finds 29 = .ok (.iload_n 1, 1) := by decide +kernel
theorem dX6_finds_30 : decode cX6_finds 30 = .ok (.imul, 1) := by decide +kernel
theorem dX6_finds_31 : decode cX6_finds 31 = .ok (.iload_n 3, 1) := by decide +kernel
theorem dX6_finds_32 : decode cX6_finds 32 = .ok (.iadd, 1) := by decide +kernel
theorem dX6_finds_33 : decode cX6_finds 33 = .ok (.iaload, 1) := by decide +kernel
theorem dX6_finds_34 : decode cX6_finds 34 = .ok (.istore 4, 2) := by decide +kernel
theorem dX6_finds_36 : decode cX6_finds 36 = .ok (.iload 4, 2) := by decide +kernel
theorem dX6_finds_38 : decode cX6_finds 38 = .ok (.ifCond .eq 17, 3) := by decide +kernel
theorem dX6_finds_41 : decode cX6_finds 41 = .ok (.iload_n 3, 1) := by decide +kernel
theorem dX6_finds_42 : decode cX6_finds 42 = .ok (.ifCond .le 17, 3) := by decide +kernel
theorem dX6_finds_45 : decode cX6_finds 45 = .ok (.aload_n 0, 1) := by decide +kernel
theorem dX6_finds_46 : decode cX6_finds 46 = .ok (.getfield 17, 3) := by decide +kernel
theorem dX6_finds_49 : decode cX6_finds 49 = .ok (.iload_n 3, 1) := by decide +kernel
theorem dX6_finds_50 : decode cX6_finds 50 = .ok (.iaload, 1) := by decide +kernel
theorem dX6_finds_51 : decode cX6_finds 51 = .ok (.iconst (-1), 1) := by decide +kernel
theorem dX6_finds_52 : decode cX6_finds 52 = .ok (.if_icmp .ne 7, 3) := by decide +kernel
theorem dX6_finds_55 : decode cX6_finds 55 = .ok (.iconst (-1), 1) := by decide +kernel
theorem dX6_finds_56 : decode cX6_finds 56 = .ok (.goto 20, 3) := by decide +kernel
theorem dX6_finds_59 : decode cX6_finds 59 = .ok (.iload 4, 2) := by decide +kernel
theorem dX6_finds_61 : decode cX6_finds 61 = .ok (.iload_n 3, 1) := by decide +kernel
theorem dX6_finds_62 : decode cX6_finds 62 = .ok (.ifCond .le 12, 3) := by decide +kernel
theorem dX6_finds_65 : decode cX6_finds 65 = .ok (.aload_n 0, 1) := by decide +kernel
theorem dX6_finds_66 : decode cX6_finds 66 = .ok (.getfield 17, 3) := by decide +kernel
theorem dX6_finds_69 : decode cX6_finds 69 = .ok (.iload_n 3, 1) := by decide +kernel
theorem dX6_finds_70 : decode cX6_finds 70 = .ok (.iaload, 1) := by decide +kernel
theorem dX6_finds_71 : decode cX6_finds 71 = .ok (.goto 4, 3) := by decide +kernel
theorem dX6_finds_74 : decode cX6_finds 74 = .ok (.iconst 0, 1) := by decide +kernel
theorem dX6_finds_75 : decode cX6_finds 75 = .ok (.iadd, 1) := by decide +kernel
theorem dX6_finds_76 : decode cX6_finds 76 = .ok (.istore 5, 2) := by decide +kernel
theorem dX6_finds_78 : decode cX6_finds 78 = .ok (.iload 5, 2) := by decide +kernel
theorem dX6_finds_80 : decode cX6_finds 80 = .ok (.iconst (-1), 1) := by decide +kernel
theorem dX6_finds_81 : decode cX6_finds 81 = .ok (.if_icmp .eq 19, 3) := by decide +kernel
theorem dX6_finds_84 : decode cX6_finds 84 = .ok (.iload_n 2, 1) := by decide +kernel
theorem dX6_finds_85 : decode cX6_finds 85 = .ok (.iconst (-1), 1) := by decide +kernel
theorem dX6_finds_86 : decode cX6_finds 86 = .ok (.if_icmp .eq 9, 3) := by decide +kernel
theorem dX6_finds_89 : decode cX6_finds 89 = .ok (.iload 5, 2) := by decide +kernel
theorem dX6_finds_91 : decode cX6_finds 91 = .ok (.iload_n 2, 1) := by decide +kernel
theorem dX6_finds_92 : decode cX6_finds 92 = .ok (.if_icmp .ge 8, 3) := by decide +kernel
theorem dX6_finds_95 : decode cX6_finds 95 = .ok (.iload 5, 2) := by decide +kernel
theorem dX6_finds_97 : decode cX6_finds 97 = .ok (.goto 4, 3) := by decide +kernel
theorem dX6_finds_100 : decode cX6_finds 100 = .ok (.iload_n 2, 1) := by decide +kernel
theorem dX6_finds_101 : decode cX6_finds 101 = .ok (.istore_n 2, 1) := by decide +kernel
theorem dX6_finds_102 : decode cX6_finds 102 = .ok (.iinc 3 1, 3) := by decide +kernel
theorem dX6_finds_105 : decode cX6_finds 105 = .ok (.goto (-90), 3) := by decide +kernel
theorem dX6_finds_108 : decode cX6_finds 108 = .ok (.aload_n 0, 1) := by decide +kernel
theorem dX6_finds_109 : decode cX6_finds 109 = .ok (.getfield 17, 3) := by decide +kernel
theorem dX6_finds_112 : decode cX6_finds 112 = .ok (.iload_n 1, 1) := by decide +kernel
theorem dX6_finds_113 : decode cX6_finds 113 = .ok (.iload_n 2, 1) := by decide +kernel
theorem dX6_finds_114 : decode cX6_finds 114 = .ok (.iastore, 1) := by decide +kernel
theorem dX6_finds_115 : decode cX6_finds 115 = .ok (.iinc 1 (-1), 3) := by decide +kernel
theorem dX6_finds_118 : decode cX6_finds 118 = .ok (.goto (-111), 3) := by decide +kernel
theorem dX6_finds_121 : decode cX6_finds 121 = .ok (.return_, 1) := by decide +kernel
set_option maxRecDepth 20000 in
theorem ggX6_rest_X6_isGate : GoodIn wsX6_rest wsX6_isGate := goodIn_r _ [6, 7, 8, 9, 5, 10, 21, 22, 23, 24, 25, 26, 27, 28, 29, 30, 31, 32, 33, 34, 35, 36, 37, 38, 39, 40, 41, 42, 43, 44, 45, 46] (by decide +kernel) (by decide +kernel)
set_option maxRecDepth 20000 in
theorem gX6_rest_X6_isGate : GoodIn wsX6_rest (wsV RX6 77 RX6 yX6_isGate wsX6_isGate) := goodIn_app (goodIn_of _ (by decide +kernel)) ggX6_rest_X6_isGate
set_option maxRecDepth 20000 in
theorem ggX6_rest_X6_fails : GoodIn wsX6_rest wsX6_fails := goodIn_r _ [14, 15, 21, 22, 23, 24, 25, 26, 27, 28, 29, 30, 31, 32, 33, 34, 35, 36, 37, 38, 39, 40, 41, 42, 43, 44, 45, 46] (by decide +kernel) (by decide +kernel)
set_option maxRecDepth 20000 in
theorem gX6_rest_X6_fails : GoodIn wsX6_rest (wsV RX6 70 RX6 yX6_fails wsX6_fails) := goodIn_app (goodIn_of _ (by decide +kernel)) ggX6_rest_X6_fails
set_option maxRecDepth 20000 in
theorem ggX6_rest_X6_finds : GoodIn wsX6_rest wsX6_finds := goodIn_r _ [19, 7, 20, 1, 21, 22, 23, 24, 25, 26, 27, 28, 29, 30, 31, 32, 33, 34, 35, 36, 37, 38, 39, 40, 41, 42, 43, 44, 45, 46] (by decide +kernel) (by decide +kernel)
set_option maxRecDepth 20000 in
theorem gX6_rest_X6_finds : GoodIn wsX6_rest (wsV RX6 84 RX6 yX6_finds wsX6_finds) := goodIn_app (goodIn_of _ (by decide +kernel)) ggX6_rest_X6_finds
theorem dX6_rest_0 : decode cX6_rest 0 = .ok (.aload_n 0, 1) := by decide +kernel
theorem dX6_rest_1 : decode cX6_rest 1 = .ok (.aload_n 0, 1) := by decide +kernel
theorem dX6_rest_2 : decode cX6_rest 2 = .ok (.iload_n 1, 1) := by decide +kernel
theorem dX6_rest_3 : decode cX6_rest 3 = .ok (.invokevirtual 77, 3) := by decide +kernel
theorem dX6_rest_6 : decode cX6_rest 6 = .ok (.ifCond .eq 7, 3) := by decide +kernel
theorem dX6_rest_9 : decode cX6_rest 9 = .ok (.iconst 0, 1) := by decide +kernel
theorem dX6_rest_10 : decode cX6_rest 10 = .ok (.goto 4, 3) := by decide +kernel
theorem dX6_rest_13 : decode cX6_rest 13 = .ok (.iconst 1, 1) := by decide +kernel
theorem dX6_rest_14 : decode cX6_rest 14 = .ok (.invokevirtual 70, 3) := by decide +kernel
theorem dX6_rest_17 : decode cX6_rest 17 = .ok (.ifCond .eq 5, 3) := by decide +kernel
theorem dX6_rest_20 : decode cX6_rest 20 = .ok (.iconst 0, 1) := by decide +kernel
theorem dX6_rest_21 : decode cX6_rest 21 = .ok (.ireturn, 1) := by decide +kernel
theorem dX6_rest_22 : decode cX6_rest 22 = .ok (.aload_n 0, 1) := by decide +kernel
theorem dX6_rest_23 : decode cX6_rest 23 = .ok (.invokevirtual 84, 3) := by decide +kernel
theorem dX6_rest_26 : decode cX6_rest 26 = .ok (.aload_n 0, 1) := by decide +kernel
theorem dX6_rest_27 : decode cX6_rest 27 = .ok (.getfield 17, 3) := by decide +kernel
theorem dX6_rest_30 : decode cX6_rest 30 = .ok (.iload_n 1, 1) := by decide +kernel
theorem dX6_rest_31 : decode cX6_rest 31 = .ok (.iaload, 1) := by decide +kernel
theorem dX6_rest_32 : decode cX6_rest 32 = .ok (.ireturn, 1) := by decide +kernel
set_option maxRecDepth 20000 in
theorem ggX6_isTrack_X6_finds : GoodIn wsX6_isTrack wsX6_finds := goodIn_r _ [7, 1, 8, 2, 9, 10, 11, 12, 13, 14, 15, 16, 17, 18, 19, 20, 21, 22, 23, 24, 25, 26, 27, 28, 29, 30, 31, 32, 33, 34] (by decide +kernel) (by decide +kernel)
set_option maxRecDepth 20000 in
theorem gX6_isTrack_X6_finds : GoodIn wsX6_isTrack (wsV RX6 84 RX6 yX6_finds wsX6_finds) := goodIn_app (goodIn_of _ (by decide +kernel)) ggX6_isTrack_X6_finds
theorem dX6_isTrack_0 : decode cX6_isTrack 0 = .ok (.aload_n 0, 1) := by decide +kernel
theorem dX6_isTrack_1 : decode cX6_isTrack 1 = .ok (.invokevirtual 84, 3) := by decide +kernel
theorem dX6_isTrack_4 : decode cX6_isTrack 4 = .ok (.iconst 1, 1) := by decide +kernel
theorem dX6_isTrack_5 : decode cX6_isTrack 5 = .ok (.istore_n 1, 1) := by decide +kernel
theorem dX6_isTrack_6 : decode cX6_isTrack 6 = .ok (.iconst 0, 1) := by decide +kernel
theorem dX6_isTrack_7 : decode cX6_isTrack 7 = .ok (.istore_n 2, 1) := by decide +kernel
theorem dX6_isTrack_8 : decode cX6_isTrack 8 = .ok (.iload_n 2, 1) := by decide +kernel
theorem dX6_isTrack_9 : decode cX6_isTrack 9 = .ok (.aload_n 0, 1) := by decide +kernel
theorem dX6_isTrack_10 : decode cX6_isTrack 10 = .ok (.getfield 7, 3) := by decide +kernel
theorem dX6_isTrack_13 : decode cX6_isTrack 13 = .ok (.if_icmp .ge 29, 3) := by decide +kernel
theorem dX6_isTrack_16 : decode cX6_isTrack 16 = .ok (.iload_n 1, 1) := by decide +kernel
theorem dX6_isTrack_17 : decode cX6_isTrack 17 = .ok (.ifCond .eq 17, 3) := by decide +kernel
theorem dX6_isTrack_20 : decode cX6_isTrack 20 = .ok (.aload_n 0, 1) := by decide +kernel
theorem dX6_isTrack_21 : decode cX6_isTrack 21 = .ok (.getfield 17, 3) := by decide +kernel
theorem dX6_isTrack_24 : decode cX6_isTrack 24 = .ok (.iload_n 2, 1) := by decide +kernel
theorem dX6_isTrack_25 : decode cX6_isTrack 25 = .ok (.iaload, 1) := by decide +kernel
theorem dX6_isTrack_26 : decode cX6_isTrack 26 = .ok (.iconst (-1), 1) := by decide +kernel
theorem dX6_isTrack_27 : decode cX6_isTrack 27 = .ok (.if_icmp .eq 7, 3) := by decide +kernel
theorem dX6_isTrack_30 : decode cX6_isTrack 30 = .ok (.iconst 1, 1) := by decide +kernel
theorem dX6_isTrack_31 : decode cX6_isTrack 31 = .ok (.goto 4, 3) := by decide +kernel
theorem dX6_isTrack_34 : decode cX6_isTrack 34 = .ok (.iconst 0, 1) := by decide +kernel
theorem dX6_isTrack_35 : decode cX6_isTrack 35 = .ok (.istore_n 1, 1) := by decide +kernel
theorem dX6_isTrack_36 : decode cX6_isTrack 36 = .ok (.iinc 2 1, 3) := by decide +kernel
theorem dX6_isTrack_39 : decode cX6_isTrack 39 = .ok (.goto (-31), 3) := by decide +kernel
theorem dX6_isTrack_42 : decode cX6_isTrack 42 = .ok (.iload_n 1, 1) := by decide +kernel
theorem dX6_isTrack_43 : decode cX6_isTrack 43 = .ok (.ireturn, 1) := by decide +kernel
set_option maxRecDepth 20000 in
theorem ggX6_start_X6_isTrack : GoodIn wsX6_start wsX6_isTrack := goodIn_r _ [19, 20, 21, 22, 23, 24, 18, 25, 26, 35, 36, 37, 38, 39, 40, 41, 42, 43, 44, 45, 46, 47, 48, 49, 50, 51, 52, 53, 54, 55, 56, 57, 58, 59, 60] (by decide +kernel) (by decide +kernel)
set_option maxRecDepth 20000 in
theorem gX6_start_X6_isTrack : GoodIn wsX6_start (wsV RX6 91 RX6 yX6_isTrack wsX6_isTrack) := goodIn_app (goodIn_of _ (by decide +kernel)) ggX6_start_X6_isTrack
set_option maxRecDepth 20000 in
theorem ggX6_start_X6_isIn : GoodIn wsX6_start wsX6_isIn := goodIn_r _ [29] (by decide +kernel) (by decide +kernel)
set_option maxRecDepth 20000 in
theorem gX6_start_X6_isIn : GoodIn wsX6_start (va_wsS RX6 60 yX6_isIn wsX6_isIn) := goodIn_app (goodIn_of _ (by decide +kernel)) ggX6_start_X6_isIn
set_option maxRecDepth 20000 in
theorem ggX6_start_X6_fails : GoodIn wsX6_start wsX6_fails := goodIn_r _ [33, 34, 35, 36, 37, 38, 39, 40, 41, 42, 43, 44, 45, 46, 47, 48, 49, 50, 51, 52, 53, 54, 55, 56, 57, 58, 59, 60] (by decide +kernel) (by decide +kernel)
set_option maxRecDepth 20000 in
theorem gX6_start_X6_fails : GoodIn wsX6_start (wsV RX6 70 RX6 yX6_fails wsX6_fails) := goodIn_app (goodIn_of _ (by decide +kernel)) ggX6_start_X6_fails
theorem dX6_start_0 : decode cX6_start 0 = .ok (.aload_n 0, 1) := by decide +kernel
theorem dX6_start_1 : decode cX6_start 1 = .ok (.getfield 87, 3) := by decide +kernel
theorem dX6_start_4 : decode cX6_start 4 = .ok (.ifCond .ne 30, 3) := by decide +kernel
theorem dX6_start_7 : decode cX6_start 7 = .ok (.aload_n 0, 1) := by decide +kernel
theorem dX6_start_8 : decode cX6_start 8 = .ok (.getfield 67, 3) := by decide +kernel
theorem dX6_start_11 : decode cX6_start 11 = .ok (.bipush 8, 2) := by decide +kernel
theorem dX6_start_13 : decode cX6_start 13 = .ok (.if_icmp .ge 21, 3) := by decide +kernel
theorem dX6_start_16 : decode cX6_start 16 = .ok (.aload_n 0, 1) := by decide +kernel
theorem dX6_start_17 : decode cX6_start 17 = .ok (.getfield 64, 3) := by decide +kernel
theorem dX6_start_20 : decode cX6_start 20 = .ok (.ifCond .le 14, 3) := by decide +kernel
theorem dX6_start_23 : decode cX6_start 23 = .ok (.aload_n 0, 1) := by decide +kernel
theorem dX6_start_24 : decode cX6_start 24 = .ok (.invokevirtual 91, 3) := by decide +kernel
theorem dX6_start_27 : decode cX6_start 27 = .ok (.ifCond .eq 7, 3) := by decide +kernel
theorem dX6_start_30 : decode cX6_start 30 = .ok (.iconst 1, 1) := by decide +kernel
theorem dX6_start_31 : decode cX6_start 31 = .ok (.goto 4, 3) := by decide +kernel
theorem dX6_start_34 : decode cX6_start 34 = .ok (.iconst 0, 1) := by decide +kernel
theorem dX6_start_35 : decode cX6_start 35 = .ok (.istore_n 2, 1) := by decide +kernel
theorem dX6_start_36 : decode cX6_start 36 = .ok (.aload_n 0, 1) := by decide +kernel
theorem dX6_start_37 : decode cX6_start 37 = .ok (.iload_n 1, 1) := by decide +kernel
theorem dX6_start_38 : decode cX6_start 38 = .ok (.iconst 1, 1) := by decide +kernel
theorem dX6_start_39 : decode cX6_start 39 = .ok (.bipush 9, 2) := by decide +kernel
theorem dX6_start_41 : decode cX6_start 41 = .ok (.invokestatic 60, 3) := by decide +kernel
theorem dX6_start_44 : decode cX6_start 44 = .ok (.ifCond .ne 7, 3) := by decide +kernel
theorem dX6_start_47 : decode cX6_start 47 = .ok (.iconst 1, 1) := by decide +kernel
theorem dX6_start_48 : decode cX6_start 48 = .ok (.goto 12, 3) := by decide +kernel
theorem dX6_start_51 : decode cX6_start 51 = .ok (.iload_n 2, 1) := by decide +kernel
theorem dX6_start_52 : decode cX6_start 52 = .ok (.ifCond .eq 7, 3) := by decide +kernel
theorem dX6_start_55 : decode cX6_start 55 = .ok (.iconst 0, 1) := by decide +kernel
theorem dX6_start_56 : decode cX6_start 56 = .ok (.goto 4, 3) := by decide +kernel
theorem dX6_start_59 : decode cX6_start 59 = .ok (.iconst 2, 1) := by decide +kernel
theorem dX6_start_60 : decode cX6_start 60 = .ok (.invokevirtual 70, 3) := by decide +kernel
theorem dX6_start_63 : decode cX6_start 63 = .ok (.ifCond .eq 5, 3) := by decide +kernel
theorem dX6_start_66 : decode cX6_start 66 = .ok (.iconst 0, 1) := by decide +kernel
theorem dX6_start_67 : decode cX6_start 67 = .ok (.ireturn, 1) := by decide +kernel
theorem dX6_start_68 : decode cX6_start 68 = .ok (.aload_n 0, 1) := by decide +kernel
theorem dX6_start_69 : decode cX6_start 69 = .ok (.iload_n 1, 1) := by decide +kernel
theorem dX6_start_70 : decode cX6_start 70 = .ok (.putfield 95, 3) := by decide +kernel
theorem dX6_start_73 : decode cX6_start 73 = .ok (.aload_n 0, 1) := by decide +kernel
theorem dX6_start_74 : decode cX6_start 74 = .ok (.iconst 1, 1) := by decide +kernel
theorem dX6_start_75 : decode cX6_start 75 = .ok (.putfield 87, 3) := by decide +kernel
theorem dX6_start_78 : decode cX6_start 78 = .ok (.aload_n 0, 1) := by decide +kernel
theorem dX6_start_79 : decode cX6_start 79 = .ok (.dup, 1) := by decide +kernel
theorem dX6_start_80 : decode cX6_start 80 = .ok (.getfield 67, 3) := by decide +kernel
theorem dX6_start_83 : decode cX6_start 83 = .ok (.iconst 1, 1) := by decide +kernel
theorem dX6_start_84 : decode cX6_start 84 = .ok (.iadd, 1) := by decide +kernel
theorem dX6_start_85 : decode cX6_start 85 = .ok (.putfield 67, 3) := by decide +kernel
theorem dX6_start_88 : decode cX6_start 88 = .ok (.aload_n 0, 1) := by decide +kernel
theorem dX6_start_89 : decode cX6_start 89 = .ok (.iconst 0, 1) := by decide +kernel
theorem dX6_start_90 : decode cX6_start 90 = .ok (.putfield 98, 3) := by decide +kernel
theorem dX6_start_93 : decode cX6_start 93 = .ok (.iconst 0, 1) := by decide +kernel
theorem dX6_start_94 : decode cX6_start 94 = .ok (.istore_n 3, 1) := by decide +kernel
theorem dX6_start_95 : decode cX6_start 95 = .ok (.iload_n 3, 1) := by decide +kernel
theorem dX6_start_96 : decode cX6_start 96 = .ok (.bipush 6, 2) := by decide +kernel
theorem dX6_start_98 : decode cX6_start 98 = .ok (.if_icmp .ge 72, 3) := by decide +kernel
theorem dX6_start_101 : decode cX6_start 101 = .ok (.aload_n 0, 1) := by decide +kernel
theorem dX6_start_102 : decode cX6_start 102 = .ok (.getfield 23, 3) := by decide +kernel
theorem dX6_start_105 : decode cX6_start 105 = .ok (.iload_n 3, 1) := by decide +kernel
theorem dX6_start_106 : decode cX6_start 106 = .ok (.iconst 0, 1) := by decide +kernel
theorem dX6_start_107 : decode cX6_start 107 = .ok (.iastore, 1) := by decide +kernel
theorem dX6_start_108 : decode cX6_start 108 = .ok (.aload_n 0, 1) := by decide +kernel
theorem dX6_start_109 : decode cX6_start 109 = .ok (.getfield 26, 3) := by decide +kernel
theorem dX6_start_112 : decode cX6_start 112 = .ok (.iload_n 3, 1) := by decide +kernel
theorem dX6_start_113 : decode cX6_start 113 = .ok (.iconst 0, 1) := by decide +kernel
theorem dX6_start_114 : decode cX6_start 114 = .ok (.iastore, 1) := by decide +kernel
theorem dX6_start_115 : decode cX6_start 115 = .ok (.aload_n 0, 1) := by decide +kernel
theorem dX6_start_116 : decode cX6_start 116 = .ok (.getfield 29, 3) := by decide +kernel
theorem dX6_start_119 : decode cX6_start 119 = .ok (.iload_n 3, 1) := by decide +kernel
theorem dX6_start_120 : decode cX6_start 120 = .ok (.iconst 0, 1) := by decide +kernel
theorem dX6_start_121 : decode cX6_start 121 = .ok (.iastore, 1) := by decide +kernel
theorem dX6_start_122 : decode cX6_start 122 = .ok (.aload_n 0, 1) := by decide +kernel
theorem dX6_start_123 : decode cX6_start 123 = .ok (.getfield 32, 3) := by decide +kernel
theorem dX6_start_126 : decode cX6_start 126 = .ok (.iload_n 3, 1) := by decide +kernel
theorem dX6_start_127 : decode cX6_start 127 = .ok (.iconst 0, 1) := by decide +kernel
theorem dX6_start_128 : decode cX6_start 128 = .ok (.iastore, 1) := by decide +kernel
theorem dX6_start_129 : decode cX6_start 129 = .ok (.aload_n 0, 1) := by decide +kernel
theorem dX6_start_130 : decode cX6_start 130 = .ok (.getfield 35, 3) := by decide +kernel
theorem dX6_start_133 : decode cX6_start 133 = .ok (.iload_n 3, 1) := by decide +kernel
theorem dX6_start_134 : decode cX6_start 134 = .ok (.iconst 0, 1) := by decide +kernel
theorem dX6_start_135 : decode cX6_start 135 = .ok (.iastore, 1) := by decide +kernel
theorem dX6_start_136 : decode cX6_start 136 = .ok (.aload_n 0, 1) := by decide +kernel
theorem dX6_start_137 : decode cX6_start 137 = .ok (.getfield 38, 3) := by decide +kernel
theorem dX6_start_140 : decode cX6_start 140 = .ok (.iload_n 3, 1) := by decide +kernel
theorem dX6_start_141 : decode cX6_start 141 = .ok (.iconst 0, 1) := by decide +kernel
theorem dX6_start_142 : decode cX6_start 142 = .ok (.iastore, 1) := by decide +kernel
theorem dX6_start_143 : decode cX6_start 143 = .ok (.aload_n 0, 1) := by decide +kernel
theorem dX6_start_144 : decode cX6_start 144 = .ok (.getfield 41, 3) := by decide +kernel
theorem dX6_start_147 : decode cX6_start 147 = .ok (.iload_n 3, 1) := by decide +kernel
theorem dX6_start_148 : decode cX6_start 148 = .ok (.iconst (-1), 1) := by decide +kernel
theorem dX6_start_149 : decode cX6_start 149 = .ok (.iastore, 1) := by decide +kernel
theorem dX6_start_150 : decode cX6_start 150 = .ok (.aload_n 0, 1) := by decide +kernel
theorem dX6_start_151 : decode cX6_start 151 = .ok (.getfield 44, 3) := by decide +kernel
theorem dX6_start_154 : decode cX6_start 154 = .ok (.iload_n 3, 1) := by decide +kernel
theorem dX6_start_155 : decode cX6_start 155 = .ok (.iconst 0, 1) := by decide +kernel
theorem dX6_start_156 : decode cX6_start 156 = .ok (.bastore, 1) := by decide +kernel
theorem dX6_start_157 : decode cX6_start 157 = .ok (.aload_n 0, 1) := by decide +kernel
theorem dX6_start_158 : decode cX6_start 158 = .ok (.getfield 48, 3) := by decide +kernel
theorem dX6_start_161 : decode cX6_start 161 = .ok (.iload_n 3, 1) := by decide +kernel
theorem dX6_start_162 : decode cX6_start 162 = .ok (.iconst 0, 1) := by decide +kernel
theorem dX6_start_163 : decode cX6_start 163 = .ok (.iastore, 1) := by decide +kernel
theorem dX6_start_164 : decode cX6_start 164 = .ok (.iinc 3 1, 3) := by decide +kernel
theorem dX6_start_167 : decode cX6_start 167 = .ok (.goto (-72), 3) := by decide +kernel
theorem dX6_start_170 : decode cX6_start 170 = .ok (.aload_n 0, 1) := by decide +kernel
theorem dX6_start_171 : decode cX6_start 171 = .ok (.getfield 67, 3) := by decide +kernel
theorem dX6_start_174 : decode cX6_start 174 = .ok (.iconst 1, 1) := by decide +kernel
theorem dX6_start_175 : decode cX6_start 175 = .ok (.isub, 1) := by decide +kernel
theorem dX6_start_176 : decode cX6_start 176 = .ok (.ireturn, 1) := by decide +kernel
theorem dX6_isOn_0 : decode cX6_isOn 0 = .ok (.aload_n 0, 1) := by decide +kernel
theorem dX6_isOn_1 : decode cX6_isOn 1 = .ok (.iconst 0, 1) := by decide +kernel
theorem dX6_isOn_2 : decode cX6_isOn 2 = .ok (.putfield 57, 3) := by decide +kernel
theorem dX6_isOn_5 : decode cX6_isOn 5 = .ok (.aload_n 0, 1) := by decide +kernel
theorem dX6_isOn_6 : decode cX6_isOn 6 = .ok (.getfield 87, 3) := by decide +kernel
theorem dX6_isOn_9 : decode cX6_isOn 9 = .ok (.ireturn, 1) := by decide +kernel
theorem dX6_crosses_0 : decode cX6_crosses 0 = .ok (.aload_n 0, 1) := by decide +kernel
theorem dX6_crosses_1 : decode cX6_crosses 1 = .ok (.getfield 32, 3) := by decide +kernel
theorem dX6_crosses_4 : decode cX6_crosses 4 = .ok (.iload_n 1, 1) := by decide +kernel
theorem dX6_crosses_5 : decode cX6_crosses 5 = .ok (.iaload, 1) := by decide +kernel
theorem dX6_crosses_6 : decode cX6_crosses 6 = .ok (.aload_n 0, 1) := by decide +kernel
theorem dX6_crosses_7 : decode cX6_crosses 7 = .ok (.getfield 74, 3) := by decide +kernel
theorem dX6_crosses_10 : decode cX6_crosses 10 = .ok (.iand, 1) := by decide +kernel
theorem dX6_crosses_11 : decode cX6_crosses 11 = .ok (.aload_n 0, 1) := by decide +kernel
theorem dX6_crosses_12 : decode cX6_crosses 12 = .ok (.getfield 74, 3) := by decide +kernel
theorem dX6_crosses_15 : decode cX6_crosses 15 = .ok (.if_icmp .ne 7, 3) := by decide +kernel
theorem dX6_crosses_18 : decode cX6_crosses 18 = .ok (.iconst 1, 1) := by decide +kernel
theorem dX6_crosses_19 : decode cX6_crosses 19 = .ok (.goto 4, 3) := by decide +kernel
theorem dX6_crosses_22 : decode cX6_crosses 22 = .ok (.iconst 0, 1) := by decide +kernel
theorem dX6_crosses_23 : decode cX6_crosses 23 = .ok (.istore_n 2, 1) := by decide +kernel
theorem dX6_crosses_24 : decode cX6_crosses 24 = .ok (.aload_n 0, 1) := by decide +kernel
theorem dX6_crosses_25 : decode cX6_crosses 25 = .ok (.getfield 32, 3) := by decide +kernel
theorem dX6_crosses_28 : decode cX6_crosses 28 = .ok (.iload_n 1, 1) := by decide +kernel
theorem dX6_crosses_29 : decode cX6_crosses 29 = .ok (.iconst 0, 1) := by decide +kernel
theorem dX6_crosses_30 : decode cX6_crosses 30 = .ok (.iastore, 1) := by decide +kernel
theorem dX6_crosses_31 : decode cX6_crosses 31 = .ok (.aload_n 0, 1) := by decide +kernel
theorem dX6_crosses_32 : decode cX6_crosses 32 = .ok (.getfield 29, 3) := by decide +kernel
theorem dX6_crosses_35 : decode cX6_crosses 35 = .ok (.iload_n 1, 1) := by decide +kernel
theorem dX6_crosses_36 : decode cX6_crosses 36 = .ok (.iaload, 1) := by decide +kernel
theorem dX6_crosses_37 : decode cX6_crosses 37 = .ok (.ifCond .le 15, 3) := by decide +kernel
theorem dX6_crosses_40 : decode cX6_crosses 40 = .ok (.aload_n 0, 1) := by decide +kernel
theorem dX6_crosses_41 : decode cX6_crosses 41 = .ok (.getfield 29, 3) := by decide +kernel
theorem dX6_crosses_44 : decode cX6_crosses 44 = .ok (.iload_n 1, 1) := by decide +kernel
theorem dX6_crosses_45 : decode cX6_crosses 45 = .ok (.dup2, 1) := by decide +kernel
theorem dX6_crosses_46 : decode cX6_crosses 46 = .ok (.iaload, 1) := by decide +kernel
theorem dX6_crosses_47 : decode cX6_crosses 47 = .ok (.iconst 1, 1) := by decide +kernel
theorem dX6_crosses_48 : decode cX6_crosses 48 = .ok (.isub, 1) := by decide +kernel
theorem dX6_crosses_49 : decode cX6_crosses 49 = .ok (.iastore, 1) := by decide +kernel
theorem dX6_crosses_50 : decode cX6_crosses 50 = .ok (.iconst 4, 1) := by decide +kernel
theorem dX6_crosses_51 : decode cX6_crosses 51 = .ok (.ireturn, 1) := by decide +kernel
theorem dX6_crosses_52 : decode cX6_crosses 52 = .ok (.iload_n 2, 1) := by decide +kernel
theorem dX6_crosses_53 : decode cX6_crosses 53 = .ok (.ifCond .ne 5, 3) := by decide +kernel
theorem dX6_crosses_56 : decode cX6_crosses 56 = .ok (.iconst 2, 1) := by decide +kernel
theorem dX6_crosses_57 : decode cX6_crosses 57 = .ok (.ireturn, 1) := by decide +kernel
theorem dX6_crosses_58 : decode cX6_crosses 58 = .ok (.aload_n 0, 1) := by decide +kernel
theorem dX6_crosses_59 : decode cX6_crosses 59 = .ok (.getfield 26, 3) := by decide +kernel
theorem dX6_crosses_62 : decode cX6_crosses 62 = .ok (.iload_n 1, 1) := by decide +kernel
theorem dX6_crosses_63 : decode cX6_crosses 63 = .ok (.dup2, 1) := by decide +kernel
theorem dX6_crosses_64 : decode cX6_crosses 64 = .ok (.iaload, 1) := by decide +kernel
theorem dX6_crosses_65 : decode cX6_crosses 65 = .ok (.iconst 1, 1) := by decide +kernel
theorem dX6_crosses_66 : decode cX6_crosses 66 = .ok (.iadd, 1) := by decide +kernel
theorem dX6_crosses_67 : decode cX6_crosses 67 = .ok (.iastore, 1) := by decide +kernel
theorem dX6_crosses_68 : decode cX6_crosses 68 = .ok (.aload_n 0, 1) := by decide +kernel
theorem dX6_crosses_69 : decode cX6_crosses 69 = .ok (.getfield 26, 3) := by decide +kernel
theorem dX6_crosses_72 : decode cX6_crosses 72 = .ok (.iload_n 1, 1) := by decide +kernel
theorem dX6_crosses_73 : decode cX6_crosses 73 = .ok (.iaload, 1) := by decide +kernel
theorem dX6_crosses_74 : decode cX6_crosses 74 = .ok (.aload_n 0, 1) := by decide +kernel
theorem dX6_crosses_75 : decode cX6_crosses 75 = .ok (.getfield 95, 3) := by decide +kernel
theorem dX6_crosses_78 : decode cX6_crosses 78 = .ok (.if_icmp .ne 15, 3) := by decide +kernel
theorem dX6_crosses_81 : decode cX6_crosses 81 = .ok (.aload_n 0, 1) := by decide +kernel
theorem dX6_crosses_82 : decode cX6_crosses 82 = .ok (.getfield 38, 3) := by decide +kernel
theorem dX6_crosses_85 : decode cX6_crosses 85 = .ok (.iload_n 1, 1) := by decide +kernel
theorem dX6_crosses_86 : decode cX6_crosses 86 = .ok (.aload_n 0, 1) := by decide +kernel
theorem dX6_crosses_87 : decode cX6_crosses 87 = .ok (.getfield 98, 3) := by decide +kernel
theorem dX6_crosses_90 : decode cX6_crosses 90 = .ok (.iastore, 1) := by decide +kernel
theorem dX6_crosses_91 : decode cX6_crosses 91 = .ok (.iconst 5, 1) := by decide +kernel
theorem dX6_crosses_92 : decode cX6_crosses 92 = .ok (.ireturn, 1) := by decide +kernel
theorem dX6_crosses_93 : decode cX6_crosses 93 = .ok (.iconst 1, 1) := by decide +kernel
theorem dX6_crosses_94 : decode cX6_crosses 94 = .ok (.ireturn, 1) := by decide +kernel
set_option maxRecDepth 20000 in
theorem ggX6_pass_X6_isKart : GoodIn wsX6_pass wsX6_isKart := goodIn_r _ [16, 17, 18, 19, 15, 20, 37, 38, 39, 40, 41, 42, 43, 44, 45, 46, 47, 48, 49, 50, 51, 52, 53, 54, 55, 56, 57, 58, 59, 60, 61, 62] (by decide +kernel) (by decide +kernel)
set_option maxRecDepth 20000 in
theorem gX6_pass_X6_isKart : GoodIn wsX6_pass (wsV RX6 101 RX6 yX6_isKart wsX6_isKart) := goodIn_app (goodIn_of _ (by decide +kernel)) ggX6_pass_X6_isKart
set_option maxRecDepth 20000 in
theorem ggX6_pass_X6_isGate : GoodIn wsX6_pass wsX6_isGate := goodIn_r _ [24, 25, 18, 19, 15, 20, 37, 38, 39, 40, 41, 42, 43, 44, 45, 46, 47, 48, 49, 50, 51, 52, 53, 54, 55, 56, 57, 58, 59, 60, 61, 62] (by decide +kernel) (by decide +kernel)
set_option maxRecDepth 20000 in
theorem gX6_pass_X6_isGate : GoodIn wsX6_pass (wsV RX6 77 RX6 yX6_isGate wsX6_isGate) := goodIn_app (goodIn_of _ (by decide +kernel)) ggX6_pass_X6_isGate
set_option maxRecDepth 20000 in
theorem ggX6_pass_X6_fails : GoodIn wsX6_pass wsX6_fails := goodIn_r _ [29, 30, 37, 38, 39, 40, 41, 42, 43, 44, 45, 46, 47, 48, 49, 50, 51, 52, 53, 54, 55, 56, 57, 58, 59, 60, 61, 62] (by decide +kernel) (by decide +kernel)
set_option maxRecDepth 20000 in
theorem gX6_pass_X6_fails : GoodIn wsX6_pass (wsV RX6 70 RX6 yX6_fails wsX6_fails) := goodIn_app (goodIn_of _ (by decide +kernel)) ggX6_pass_X6_fails
set_option maxRecDepth 20000 in
theorem ggX6_pass_X6_crosses : GoodIn wsX6_pass wsX6_crosses := goodIn_r _ [34, 10, 11, 9, 35, 36, 4, 7, 37, 38, 39, 40, 41, 42, 43, 44, 45, 46, 47, 48, 49, 50, 51, 52, 53, 54, 55, 56, 57, 58, 59, 60, 61, 62] (by decide +kernel) (by decide +kernel)
set_option maxRecDepth 20000 in
theorem gX6_pass_X6_crosses : GoodIn wsX6_pass (wsV RX6 107 RX6 yX6_crosses wsX6_crosses) := goodIn_app (goodIn_of _ (by decide +kernel)) ggX6_pass_X6_crosses
theorem dX6_pass_0 : decode cX6_pass 0 = .ok (.aload_n 0, 1) := by decide +kernel
theorem dX6_pass_1 : decode cX6_pass 1 = .ok (.iload_n 1, 1) := by decide +kernel
theorem dX6_pass_2 : decode cX6_pass 2 = .ok (.invokevirtual 101, 3) := by decide +kernel
theorem dX6_pass_5 : decode cX6_pass 5 = .ok (.ifCond .eq 15, 3) := by decide +kernel
theorem dX6_pass_8 : decode cX6_pass 8 = .ok (.aload_n 0, 1) := by decide +kernel
theorem dX6_pass_9 : decode cX6_pass 9 = .ok (.iload_n 2, 1) := by decide +kernel
theorem dX6_pass_10 : decode cX6_pass 10 = .ok (.invokevirtual 77, 3) := by decide +kernel
theorem dX6_pass_13 : decode cX6_pass 13 = .ok (.ifCond .eq 7, 3) := by decide +kernel
theorem dX6_pass_16 : decode cX6_pass 16 = .ok (.iconst 1, 1) := by decide +kernel
theorem dX6_pass_17 : decode cX6_pass 17 = .ok (.goto 4, 3) := by decide +kernel
theorem dX6_pass_20 : decode cX6_pass 20 = .ok (.iconst 0, 1) := by decide +kernel
theorem dX6_pass_21 : decode cX6_pass 21 = .ok (.istore_n 3, 1) := by decide +kernel
theorem dX6_pass_22 : decode cX6_pass 22 = .ok (.iload_n 3, 1) := by decide +kernel
theorem dX6_pass_23 : decode cX6_pass 23 = .ok (.ifCond .eq 12, 3) := by decide +kernel
theorem dX6_pass_26 : decode cX6_pass 26 = .ok (.aload_n 0, 1) := by decide +kernel
theorem dX6_pass_27 : decode cX6_pass 27 = .ok (.getfield 23, 3) := by decide +kernel
theorem dX6_pass_30 : decode cX6_pass 30 = .ok (.iload_n 1, 1) := by decide +kernel
theorem dX6_pass_31 : decode cX6_pass 31 = .ok (.iaload, 1) := by decide +kernel
