theorem dX0_init_0 : decode cX0_init 0 = .ok (.aload_n 0, 1) := by decide +kernel
theorem dX0_init_1 : decode cX0_init 1 = .ok (.invokespecial 3, 3) := by decide +kernel
theorem dX0_init_4 : decode cX0_init 4 = .ok (.aload_n 0, 1) := by decide +kernel
theorem dX0_init_5 : decode cX0_init 5 = .ok (.bipush 48, 2) := by decide +kernel
theorem dX0_init_7 : decode cX0_init 7 = .ok (.newarray .int, 2) := by decide +kernel
theorem dX0_init_9 : decode cX0_init 9 = .ok (.putfield 9, 3) := by decide +kernel
theorem dX0_init_12 : decode cX0_init 12 = .ok (.aload_n 0, 1) := by decide +kernel
theorem dX0_init_13 : decode cX0_init 13 = .ok (.bipush 48, 2) := by decide +kernel
theorem dX0_init_15 : decode cX0_init 15 = .ok (.newarray .int, 2) := by decide +kernel
theorem dX0_init_17 : decode cX0_init 17 = .ok (.putfield 15, 3) := by decide +kernel
theorem dX0_init_20 : decode cX0_init 20 = .ok (.aload_n 0, 1) := by decide +kernel
theorem dX0_init_21 : decode cX0_init 21 = .ok (.iconst 0, 1) := by decide +kernel
theorem dX0_init_22 : decode cX0_init 22 = .ok (.putfield 18, 3) := by decide +kernel
theorem dX0_init_25 : decode cX0_init 25 = .ok (.aload_n 0, 1) := by decide +kernel
theorem dX0_init_26 : decode cX0_init 26 = .ok (.iconst 0, 1) := by decide +kernel
theorem dX0_init_27 : decode cX0_init 27 = .ok (.putfield 22, 3) := by decide +kernel
theorem dX0_init_30 : decode cX0_init 30 = .ok (.return_, 1) := by decide +kernel
theorem dX0_endedRaces_0 : decode cX0_endedRaces 0 = .ok (.aload_n 0, 1) := by decide +kernel
theorem dX0_endedRaces_1 : decode cX0_endedRaces 1 = .ok (.getfield 18, 3) := by decide +kernel
theorem dX0_endedRaces_4 : decode cX0_endedRaces 4 = .ok (.ireturn, 1) := by decide +kernel
theorem dX0_noteResult_0 : decode cX0_noteResult 0 = .ok (.aload_n 0, 1) := by decide +kernel
theorem dX0_noteResult_1 : decode cX0_noteResult 1 = .ok (.getfield 9, 3) := by decide +kernel
theorem dX0_noteResult_4 : decode cX0_noteResult 4 = .ok (.aload_n 0, 1) := by decide +kernel
theorem dX0_noteResult_5 : decode cX0_noteResult 5 = .ok (.getfield 18, 3) := by decide +kernel
theorem dX0_noteResult_8 : decode cX0_noteResult 8 = .ok (.bipush 6, 2) := by decide +kernel
theorem dX0_noteResult_10 : decode cX0_noteResult 10 = .ok (.imul, 1) := by decide +kernel
theorem dX0_noteResult_11 : decode cX0_noteResult 11 = .ok (.iload_n 1, 1) := by decide +kernel
theorem dX0_noteResult_12 : decode cX0_noteResult 12 = .ok (.iadd, 1) := by decide +kernel
theorem dX0_noteResult_13 : decode cX0_noteResult 13 = .ok (.iload_n 2, 1) := by decide +kernel
theorem dX0_noteResult_14 : decode cX0_noteResult 14 = .ok (.iastore, 1) := by decide +kernel
theorem dX0_noteResult_15 : decode cX0_noteResult 15 = .ok (.aload_n 0, 1) := by decide +kernel
theorem dX0_noteResult_16 : decode cX0_noteResult 16 = .ok (.getfield 15, 3) := by decide +kernel
theorem dX0_noteResult_19 : decode cX0_noteResult 19 = .ok (.aload_n 0, 1) := by decide +kernel
theorem dX0_noteResult_20 : decode cX0_noteResult 20 = .ok (.getfield 18, 3) := by decide +kernel
theorem dX0_noteResult_23 : decode cX0_noteResult 23 = .ok (.bipush 6, 2) := by decide +kernel
theorem dX0_noteResult_25 : decode cX0_noteResult 25 = .ok (.imul, 1) := by decide +kernel
theorem dX0_noteResult_26 : decode cX0_noteResult 26 = .ok (.iload_n 1, 1) := by decide +kernel
theorem dX0_noteResult_27 : decode cX0_noteResult 27 = .ok (.iadd, 1) := by decide +kernel
theorem dX0_noteResult_28 : decode cX0_noteResult 28 = .ok (.iload_n 3, 1) := by decide +kernel
theorem dX0_noteResult_29 : decode cX0_noteResult 29 = .ok (.ifCond .eq 11, 3) := by decide +kernel
theorem dX0_noteResult_32 : decode cX0_noteResult 32 = .ok (.getstatic 25, 3) := by decide +kernel
theorem dX0_noteResult_35 : decode cX0_noteResult 35 = .ok (.iload_n 2, 1) := by decide +kernel
theorem dX0_noteResult_36 : decode cX0_noteResult 36 = .ok (.iaload, 1) := by decide +kernel
theorem dX0_noteResult_37 : decode cX0_noteResult 37 = .ok (.goto 4, 3) := by decide +kernel
theorem dX0_noteResult_40 : decode cX0_noteResult 40 = .ok (.iconst 0, 1) := by decide +kernel
theorem dX0_noteResult_41 : decode cX0_noteResult 41 = .ok (.iastore, 1) := by decide +kernel
theorem dX0_noteResult_42 : decode cX0_noteResult 42 = .ok (.return_, 1) := by decide +kernel
theorem dX0_closeRace_0 : decode cX0_closeRace 0 = .ok (.aload_n 0, 1) := by decide +kernel
theorem dX0_closeRace_1 : decode cX0_closeRace 1 = .ok (.dup, 1) := by decide +kernel
theorem dX0_closeRace_2 : decode cX0_closeRace 2 = .ok (.getfield 18, 3) := by decide +kernel
theorem dX0_closeRace_5 : decode cX0_closeRace 5 = .ok (.iconst 1, 1) := by decide +kernel
theorem dX0_closeRace_6 : decode cX0_closeRace 6 = .ok (.iadd, 1) := by decide +kernel
theorem dX0_closeRace_7 : decode cX0_closeRace 7 = .ok (.putfield 18, 3) := by decide +kernel
theorem dX0_closeRace_10 : decode cX0_closeRace 10 = .ok (.return_, 1) := by decide +kernel
theorem dX0_placeIn_0 : decode cX0_placeIn 0 = .ok (.aload_n 0, 1) := by decide +kernel
theorem dX0_placeIn_1 : decode cX0_placeIn 1 = .ok (.getfield 9, 3) := by decide +kernel
theorem dX0_placeIn_4 : decode cX0_placeIn 4 = .ok (.iload_n 1, 1) := by decide +kernel
theorem dX0_placeIn_5 : decode cX0_placeIn 5 = .ok (.bipush 6, 2) := by decide +kernel
theorem dX0_placeIn_7 : decode cX0_placeIn 7 = .ok (.imul, 1) := by decide +kernel
theorem dX0_placeIn_8 : decode cX0_placeIn 8 = .ok (.iload_n 2, 1) := by decide +kernel
theorem dX0_placeIn_9 : decode cX0_placeIn 9 = .ok (.iadd, 1) := by decide +kernel
theorem dX0_placeIn_10 : decode cX0_placeIn 10 = .ok (.iaload, 1) := by decide +kernel
theorem dX0_placeIn_11 : decode cX0_placeIn 11 = .ok (.ireturn, 1) := by decide +kernel
theorem dX0_changeDropped_0 : decode cX0_changeDropped 0 = .ok (.aload_n 0, 1) := by decide +kernel
theorem dX0_changeDropped_1 : decode cX0_changeDropped 1 = .ok (.getfield 22, 3) := by decide +kernel
theorem dX0_changeDropped_4 : decode cX0_changeDropped 4 = .ok (.istore_n 2, 1) := by decide +kernel
theorem dX0_changeDropped_5 : decode cX0_changeDropped 5 = .ok (.aload_n 0, 1) := by decide +kernel
theorem dX0_changeDropped_6 : decode cX0_changeDropped 6 = .ok (.iload_n 1, 1) := by decide +kernel
theorem dX0_changeDropped_7 : decode cX0_changeDropped 7 = .ok (.putfield 22, 3) := by decide +kernel
theorem dX0_changeDropped_10 : decode cX0_changeDropped 10 = .ok (.iload_n 2, 1) := by decide +kernel
theorem dX0_changeDropped_11 : decode cX0_changeDropped 11 = .ok (.ireturn, 1) := by decide +kernel
set_option maxRecDepth 20000 in
theorem ggX0_pointsOf_X0_countWorse : GoodIn wsX0_pointsOf wsX0_countWorse := goodIn_r _ [8, 3, 1, 9, 10, 11, 12] (by decide +kernel) (by decide +kernel)
set_option maxRecDepth 20000 in
theorem gX0_pointsOf_X0_countWorse : GoodIn wsX0_pointsOf (wsV RX0 28 RX0 yX0_countWorse wsX0_countWorse) := goodIn_app (goodIn_of _ (by decide +kernel)) ggX0_pointsOf_X0_countWorse
theorem dX0_pointsOf_0 : decode cX0_pointsOf 0 = .ok (.iconst 0, 1) := by decide +kernel
theorem dX0_pointsOf_1 : decode cX0_pointsOf 1 = .ok (.istore_n 2, 1) := by decide +kernel
theorem dX0_pointsOf_2 : decode cX0_pointsOf 2 = .ok (.iconst 0, 1) := by decide +kernel
theorem dX0_pointsOf_3 : decode cX0_pointsOf 3 = .ok (.istore_n 3, 1) := by decide +kernel
theorem dX0_pointsOf_4 : decode cX0_pointsOf 4 = .ok (.iload_n 3, 1) := by decide +kernel
theorem dX0_pointsOf_5 : decode cX0_pointsOf 5 = .ok (.aload_n 0, 1) := by decide +kernel
theorem dX0_pointsOf_6 : decode cX0_pointsOf 6 = .ok (.getfield 18, 3) := by decide +kernel
theorem dX0_pointsOf_9 : decode cX0_pointsOf 9 = .ok (.if_icmp .ge 36, 3) := by decide +kernel
theorem dX0_pointsOf_12 : decode cX0_pointsOf 12 = .ok (.aload_n 0, 1) := by decide +kernel
theorem dX0_pointsOf_13 : decode cX0_pointsOf 13 = .ok (.iload_n 3, 1) := by decide +kernel
theorem dX0_pointsOf_14 : decode cX0_pointsOf 14 = .ok (.iload_n 1, 1) := by decide +kernel
theorem dX0_pointsOf_15 : decode cX0_pointsOf 15 = .ok (.invokevirtual 28, 3) := by decide +kernel
theorem dX0_pointsOf_18 : decode cX0_pointsOf 18 = .ok (.aload_n 0, 1) := by decide +kernel
theorem dX0_pointsOf_19 : decode cX0_pointsOf 19 = .ok (.getfield 22, 3) := by decide +kernel
theorem dX0_pointsOf_22 : decode cX0_pointsOf 22 = .ok (.if_icmp .lt 17, 3) := by decide +kernel
theorem dX0_pointsOf_25 : decode cX0_pointsOf 25 = .ok (.iload_n 2, 1) := by decide +kernel
theorem dX0_pointsOf_26 : decode cX0_pointsOf 26 = .ok (.aload_n 0, 1) := by decide +kernel
theorem dX0_pointsOf_27 : decode cX0_pointsOf 27 = .ok (.getfield 15, 3) := by decide +kernel
theorem dX0_pointsOf_30 : decode cX0_pointsOf 30 = .ok (.iload_n 3, 1) := by decide +kernel
theorem dX0_pointsOf_31 : decode cX0_pointsOf 31 = .ok (.bipush 6, 2) := by decide +kernel
theorem dX0_pointsOf_33 : decode cX0_pointsOf 33 = .ok (.imul, 1) := by decide +kernel
theorem dX0_pointsOf_34 : decode cX0_pointsOf 34 = .ok (.iload_n 1, 1) := by decide +kernel
theorem dX0_pointsOf_35 : decode cX0_pointsOf 35 = .ok (.iadd, 1) := by decide +kernel
theorem dX0_pointsOf_36 : decode cX0_pointsOf 36 = .ok (.iaload, 1) := by decide +kernel
theorem dX0_pointsOf_37 : decode cX0_pointsOf 37 = .ok (.iadd, 1) := by decide +kernel
theorem dX0_pointsOf_38 : decode cX0_pointsOf 38 = .ok (.istore_n 2, 1) := by decide +kernel
theorem dX0_pointsOf_39 : decode cX0_pointsOf 39 = .ok (.iinc 3 1, 3) := by decide +kernel
theorem dX0_pointsOf_42 : decode cX0_pointsOf 42 = .ok (.goto (-38), 3) := by decide +kernel
theorem dX0_pointsOf_45 : decode cX0_pointsOf 45 = .ok (.iload_n 2, 1) := by decide +kernel
theorem dX0_pointsOf_46 : decode cX0_pointsOf 46 = .ok (.ireturn, 1) := by decide +kernel
theorem dX0_countWorse_0 : decode cX0_countWorse 0 = .ok (.aload_n 0, 1) := by decide +kernel
theorem dX0_countWorse_1 : decode cX0_countWorse 1 = .ok (.getfield 15, 3) := by decide +kernel
theorem dX0_countWorse_4 : decode cX0_countWorse 4 = .ok (.iload_n 1, 1) := by decide +kernel
theorem dX0_countWorse_5 : decode cX0_countWorse 5 = .ok (.bipush 6, 2) := by decide +kernel
theorem dX0_countWorse_7 : decode cX0_countWorse 7 = .ok (.imul, 1) := by decide +kernel
theorem dX0_countWorse_8 : decode cX0_countWorse 8 = .ok (.iload_n 2, 1) := by decide +kernel
theorem dX0_countWorse_9 : decode cX0_countWorse 9 = .ok (.iadd, 1) := by decide +kernel
theorem dX0_countWorse_10 : decode cX0_countWorse 10 = .ok (.iaload, 1) := by decide +kernel
theorem dX0_countWorse_11 : decode cX0_countWorse 11 = .ok (.istore_n 3, 1) := by decide +kernel
theorem dX0_countWorse_12 : decode cX0_countWorse 12 = .ok (.iconst 0, 1) := by decide +kernel
theorem dX0_countWorse_13 : decode cX0_countWorse 13 = .ok (.istore 4, 2) := by decide +kernel
theorem dX0_countWorse_15 : decode cX0_countWorse 15 = .ok (.iconst 0, 1) := by decide +kernel
theorem dX0_countWorse_16 : decode cX0_countWorse 16 = .ok (.istore 5, 2) := by decide +kernel
theorem dX0_countWorse_18 : decode cX0_countWorse 18 = .ok (.iload 5, 2) := by decide +kernel
theorem dX0_countWorse_20 : decode cX0_countWorse 20 = .ok (.aload_n 0, 1) := by decide +kernel
theorem dX0_countWorse_21 : decode cX0_countWorse 21 = .ok (.getfield 18, 3) := by decide +kernel
theorem dX0_countWorse_24 : decode cX0_countWorse 24 = .ok (.if_icmp .ge 44, 3) := by decide +kernel
theorem dX0_countWorse_27 : decode cX0_countWorse 27 = .ok (.aload_n 0, 1) := by decide +kernel
theorem dX0_countWorse_28 : decode cX0_countWorse 28 = .ok (.getfield 15, 3) := by decide +kernel
theorem dX0_countWorse_31 : decode cX0_countWorse 31 = .ok (.iload 5, 2) := by decide +kernel
theorem dX0_countWorse_33 : decode cX0_countWorse 33 = .ok (.bipush 6, 2) := by decide +kernel
theorem dX0_countWorse_35 : decode cX0_countWorse 35 = .ok (.imul, 1) := by decide +kernel
theorem dX0_countWorse_36 : decode cX0_countWorse 36 = .ok (.iload_n 2, 1) := by decide +kernel
theorem dX0_countWorse_37 : decode cX0_countWorse 37 = .ok (.iadd, 1) := by decide +kernel
theorem dX0_countWorse_38 : decode cX0_countWorse 38 = .ok (.iaload, 1) := by decide +kernel
theorem dX0_countWorse_39 : decode cX0_countWorse 39 = .ok (.istore 6, 2) := by decide +kernel
theorem dX0_countWorse_41 : decode cX0_countWorse 41 = .ok (.iload 6, 2) := by decide +kernel
theorem dX0_countWorse_43 : decode cX0_countWorse 43 = .ok (.iload_n 3, 1) := by decide +kernel
theorem dX0_countWorse_44 : decode cX0_countWorse 44 = .ok (.if_icmp .lt 15, 3) := by decide +kernel
theorem dX0_countWorse_47 : decode cX0_countWorse 47 = .ok (.iload 6, 2) := by decide +kernel
theorem dX0_countWorse_49 : decode cX0_countWorse 49 = .ok (.iload_n 3, 1) := by decide +kernel
theorem dX0_countWorse_50 : decode cX0_countWorse 50 = .ok (.if_icmp .ne 12, 3) := by decide +kernel
theorem dX0_countWorse_53 : decode cX0_countWorse 53 = .ok (.iload 5, 2) := by decide +kernel
theorem dX0_countWorse_55 : decode cX0_countWorse 55 = .ok (.iload_n 1, 1) := by decide +kernel
theorem dX0_countWorse_56 : decode cX0_countWorse 56 = .ok (.if_icmp .ge 6, 3) := by decide +kernel
theorem dX0_countWorse_59 : decode cX0_countWorse 59 = .ok (.iinc 4 1, 3) := by decide +kernel
theorem dX0_countWorse_62 : decode cX0_countWorse 62 = .ok (.iinc 5 1, 3) := by decide +kernel
theorem dX0_countWorse_65 : decode cX0_countWorse 65 = .ok (.goto (-47), 3) := by decide +kernel
theorem dX0_countWorse_68 : decode cX0_countWorse 68 = .ok (.iload 4, 2) := by decide +kernel
theorem dX0_countWorse_70 : decode cX0_countWorse 70 = .ok (.ireturn, 1) := by decide +kernel
set_option maxRecDepth 20000 in
theorem ggX0_countBefore_X0_standsBefore : GoodIn wsX0_countBefore wsX0_standsBefore := goodIn_r _ [5, 6, 7, 8, 4, 9, 10, 11, 12, 13, 14, 15, 16, 17, 18, 19, 20, 21, 22, 23, 24, 25] (by decide +kernel) (by decide +kernel)
set_option maxRecDepth 20000 in
theorem gX0_countBefore_X0_standsBefore : GoodIn wsX0_countBefore (wsV RX0 32 RX0 yX0_standsBefore wsX0_standsBefore) := goodIn_app (goodIn_of _ (by decide +kernel)) ggX0_countBefore_X0_standsBefore
theorem dX0_countBefore_0 : decode cX0_countBefore 0 = .ok (.iconst 0, 1) := by decide +kernel
theorem dX0_countBefore_1 : decode cX0_countBefore 1 = .ok (.istore_n 3, 1) := by decide +kernel
theorem dX0_countBefore_2 : decode cX0_countBefore 2 = .ok (.iconst 0, 1) := by decide +kernel
theorem dX0_countBefore_3 : decode cX0_countBefore 3 = .ok (.istore 4, 2) := by decide +kernel
theorem dX0_countBefore_5 : decode cX0_countBefore 5 = .ok (.iload 4, 2) := by decide +kernel
theorem dX0_countBefore_7 : decode cX0_countBefore 7 = .ok (.iload_n 2, 1) := by decide +kernel
theorem dX0_countBefore_8 : decode cX0_countBefore 8 = .ok (.if_icmp .ge 22, 3) := by decide +kernel
theorem dX0_countBefore_11 : decode cX0_countBefore 11 = .ok (.aload_n 0, 1) := by decide +kernel
theorem dX0_countBefore_12 : decode cX0_countBefore 12 = .ok (.iload 4, 2) := by decide +kernel
theorem dX0_countBefore_14 : decode cX0_countBefore 14 = .ok (.iload_n 1, 1) := by decide +kernel
theorem dX0_countBefore_15 : decode cX0_countBefore 15 = .ok (.invokevirtual 32, 3) := by decide +kernel
theorem dX0_countBefore_18 : decode cX0_countBefore 18 = .ok (.ifCond .eq 6, 3) := by decide +kernel
theorem dX0_countBefore_21 : decode cX0_countBefore 21 = .ok (.iinc 3 1, 3) := by decide +kernel
theorem dX0_countBefore_24 : decode cX0_countBefore 24 = .ok (.iinc 4 1, 3) := by decide +kernel
theorem dX0_countBefore_27 : decode cX0_countBefore 27 = .ok (.goto (-22), 3) := by decide +kernel
theorem dX0_countBefore_30 : decode cX0_countBefore 30 = .ok (.iload_n 3, 1) := by decide +kernel
theorem dX0_countBefore_31 : decode cX0_countBefore 31 = .ok (.ireturn, 1) := by decide +kernel
set_option maxRecDepth 20000 in
theorem ggX0_kartStandingAt_X0_countBefore : GoodIn wsX0_kartStandingAt wsX0_countBefore := goodIn_r _ [5, 6, 7, 8, 4, 9, 10, 11, 12, 13, 14, 15, 16, 17, 18, 19, 20, 21, 22, 23, 24, 25, 26, 27, 28, 29] (by decide +kernel) (by decide +kernel)
set_option maxRecDepth 20000 in
theorem gX0_kartStandingAt_X0_countBefore : GoodIn wsX0_kartStandingAt (wsV RX0 36 RX0 yX0_countBefore wsX0_countBefore) := goodIn_app (goodIn_of _ (by decide +kernel)) ggX0_kartStandingAt_X0_countBefore
theorem dX0_kartStandingAt_0 : decode cX0_kartStandingAt 0 = .ok (.iconst 0, 1) := by decide +kernel
theorem dX0_kartStandingAt_1 : decode cX0_kartStandingAt 1 = .ok (.istore_n 3, 1) := by decide +kernel
theorem dX0_kartStandingAt_2 : decode cX0_kartStandingAt 2 = .ok (.iconst 0, 1) := by decide +kernel
theorem dX0_kartStandingAt_3 : decode cX0_kartStandingAt 3 = .ok (.istore 4, 2) := by decide +kernel
theorem dX0_kartStandingAt_5 : decode cX0_kartStandingAt 5 = .ok (.iload 4, 2) := by decide +kernel
theorem dX0_kartStandingAt_7 : decode cX0_kartStandingAt 7 = .ok (.iload_n 2, 1) := by decide +kernel
theorem dX0_kartStandingAt_8 : decode cX0_kartStandingAt 8 = .ok (.if_icmp .ge 23, 3) := by decide +kernel
theorem dX0_kartStandingAt_11 : decode cX0_kartStandingAt 11 = .ok (.aload_n 0, 1) := by decide +kernel
theorem dX0_kartStandingAt_12 : decode cX0_kartStandingAt 12 = .ok (.iload 4, 2) := by decide +kernel
theorem dX0_kartStandingAt_14 : decode cX0_kartStandingAt 14 = .ok (.iload_n 2, 1) := by decide +kernel
theorem dX0_kartStandingAt_15 : decode cX0_kartStandingAt 15 = .ok (.invokevirtual 36, 3) := by decide +kernel
theorem dX0_kartStandingAt_18 : decode cX0_kartStandingAt 18 = .ok (.iload_n 1, 1) := by decide +kernel
theorem dX0_kartStandingAt_19 : decode cX0_kartStandingAt 19 = .ok (.if_icmp .ne 6, 3) := by decide +kernel
theorem dX0_kartStandingAt_22 : decode cX0_kartStandingAt 22 = .ok (.iload 4, 2) := by decide +kernel
theorem dX0_kartStandingAt_24 : decode cX0_kartStandingAt 24 = .ok (.istore_n 3, 1) := by decide +kernel
theorem dX0_kartStandingAt_25 : decode cX0_kartStandingAt 25 = .ok (.iinc 4 1, 3) := by decide +kernel
theorem dX0_kartStandingAt_28 : decode cX0_kartStandingAt 28 = .ok (.goto (-23), 3) := by decide +kernel
theorem dX0_kartStandingAt_31 : decode cX0_kartStandingAt 31 = .ok (.iload_n 3, 1) := by decide +kernel
theorem dX0_kartStandingAt_32 : decode cX0_kartStandingAt 32 = .ok (.ireturn, 1) := by decide +kernel
set_option maxRecDepth 20000 in
theorem ggX0_standsBefore_X0_pointsOf : GoodIn wsX0_standsBefore wsX0_pointsOf := goodIn_r _ [5, 6, 7, 8, 9, 10, 11, 4, 12, 18, 19, 20, 21] (by decide +kernel) (by decide +kernel)
set_option maxRecDepth 20000 in
theorem gX0_standsBefore_X0_pointsOf : GoodIn wsX0_standsBefore (wsV RX0 39 RX0 yX0_pointsOf wsX0_pointsOf) := goodIn_app (goodIn_of _ (by decide +kernel)) ggX0_standsBefore_X0_pointsOf
set_option maxRecDepth 20000 in
theorem ggX0_standsBefore_X0_timesAt : GoodIn wsX0_standsBefore wsX0_timesAt := goodIn_r _ [16, 6, 17, 18, 19, 20, 21] (by decide +kernel) (by decide +kernel)
set_option maxRecDepth 20000 in
theorem gX0_standsBefore_X0_timesAt : GoodIn wsX0_standsBefore (wsV RX0 43 RX0 yX0_timesAt wsX0_timesAt) := goodIn_app (goodIn_of _ (by decide +kernel)) ggX0_standsBefore_X0_timesAt
theorem dX0_standsBefore_0 : decode cX0_standsBefore 0 = .ok (.aload_n 0, 1) := by decide +kernel
theorem dX0_standsBefore_1 : decode cX0_standsBefore 1 = .ok (.iload_n 1, 1) := by decide +kernel
theorem dX0_standsBefore_2 : decode cX0_standsBefore 2 = .ok (.invokevirtual 39, 3) := by decide +kernel
theorem dX0_standsBefore_5 : decode cX0_standsBefore 5 = .ok (.istore_n 3, 1) := by decide +kernel
theorem dX0_standsBefore_6 : decode cX0_standsBefore 6 = .ok (.aload_n 0, 1) := by decide +kernel
theorem dX0_standsBefore_7 : decode cX0_standsBefore 7 = .ok (.iload_n 2, 1) := by decide +kernel
theorem dX0_standsBefore_8 : decode cX0_standsBefore 8 = .ok (.invokevirtual 39, 3) := by decide +kernel
theorem dX0_standsBefore_11 : decode cX0_standsBefore 11 = .ok (.istore 4, 2) := by decide +kernel
theorem dX0_standsBefore_13 : decode cX0_standsBefore 13 = .ok (.iload_n 3, 1) := by decide +kernel
theorem dX0_standsBefore_14 : decode cX0_standsBefore 14 = .ok (.iload 4, 2) := by decide +kernel
theorem dX0_standsBefore_16 : decode cX0_standsBefore 16 = .ok (.if_icmp .eq 15, 3) := by decide +kernel
theorem dX0_standsBefore_19 : decode cX0_standsBefore 19 = .ok (.iload_n 3, 1) := by decide +kernel
theorem dX0_standsBefore_20 : decode cX0_standsBefore 20 = .ok (.iload 4, 2) := by decide +kernel
theorem dX0_standsBefore_22 : decode cX0_standsBefore 22 = .ok (.if_icmp .le 7, 3) := by decide +kernel
theorem dX0_standsBefore_25 : decode cX0_standsBefore 25 = .ok (.iconst 1, 1) := by decide +kernel
theorem dX0_standsBefore_26 : decode cX0_standsBefore 26 = .ok (.goto 4, 3) := by decide +kernel
theorem dX0_standsBefore_29 : decode cX0_standsBefore 29 = .ok (.iconst 0, 1) := by decide +kernel
theorem dX0_standsBefore_30 : decode cX0_standsBefore 30 = .ok (.ireturn, 1) := by decide +kernel
theorem dX0_standsBefore_31 : decode cX0_standsBefore 31 = .ok (.iconst 0, 1) := by decide +kernel
theorem dX0_standsBefore_32 : decode cX0_standsBefore 32 = .ok (.istore 5, 2) := by decide +kernel
theorem dX0_standsBefore_34 : decode cX0_standsBefore 34 = .ok (.iload 5, 2) := by decide +kernel
theorem dX0_standsBefore_36 : decode cX0_standsBefore 36 = .ok (.bipush 6, 2) := by decide +kernel
theorem dX0_standsBefore_38 : decode cX0_standsBefore 38 = .ok (.if_icmp .ge 47, 3) := by decide +kernel
theorem dX0_standsBefore_41 : decode cX0_standsBefore 41 = .ok (.aload_n 0, 1) := by decide +kernel
theorem dX0_standsBefore_42 : decode cX0_standsBefore 42 = .ok (.iload 5, 2) := by decide +kernel
theorem dX0_standsBefore_44 : decode cX0_standsBefore 44 = .ok (.iload_n 1, 1) := by decide +kernel
theorem dX0_standsBefore_45 : decode cX0_standsBefore 45 = .ok (.invokevirtual 43, 3) := by decide +kernel
theorem dX0_standsBefore_48 : decode cX0_standsBefore 48 = .ok (.istore 6, 2) := by decide +kernel
theorem dX0_standsBefore_50 : decode cX0_standsBefore 50 = .ok (.aload_n 0, 1) := by decide +kernel
theorem dX0_standsBefore_51 : decode cX0_standsBefore 51 = .ok (.iload 5, 2) := by decide +kernel
theorem dX0_standsBefore_53 : decode cX0_standsBefore 53 = .ok (.iload_n 2, 1) := by decide +kernel
theorem dX0_standsBefore_54 : decode cX0_standsBefore 54 = .ok (.invokevirtual 43, 3) := by decide +kernel
theorem dX0_standsBefore_57 : decode cX0_standsBefore 57 = .ok (.istore 7, 2) := by decide +kernel
theorem dX0_standsBefore_59 : decode cX0_standsBefore 59 = .ok (.iload 6, 2) := by decide +kernel
theorem dX0_standsBefore_61 : decode cX0_standsBefore 61 = .ok (.iload 7, 2) := by decide +kernel
theorem dX0_standsBefore_63 : decode cX0_standsBefore 63 = .ok (.if_icmp .eq 16, 3) := by decide +kernel
theorem dX0_standsBefore_66 : decode cX0_standsBefore 66 = .ok (.iload 6, 2) := by decide +kernel
theorem dX0_standsBefore_68 : decode cX0_standsBefore 68 = .ok (.iload 7, 2) := by decide +kernel
theorem dX0_standsBefore_70 : decode cX0_standsBefore 70 = .ok (.if_icmp .le 7, 3) := by decide +kernel
theorem dX0_standsBefore_73 : decode cX0_standsBefore 73 = .ok (.iconst 1, 1) := by decide +kernel
theorem dX0_standsBefore_74 : decode cX0_standsBefore 74 = .ok (.goto 4, 3) := by decide +kernel
theorem dX0_standsBefore_77 : decode cX0_standsBefore 77 = .ok (.iconst 0, 1) := by decide +kernel
theorem dX0_standsBefore_78 : decode cX0_standsBefore 78 = .ok (.ireturn, 1) := by decide +kernel
theorem dX0_standsBefore_79 : decode cX0_standsBefore 79 = .ok (.iinc 5 1, 3) := by decide +kernel
theorem dX0_standsBefore_82 : decode cX0_standsBefore 82 = .ok (.goto (-48), 3) := by decide +kernel
theorem dX0_standsBefore_85 : decode cX0_standsBefore 85 = .ok (.iload_n 1, 1) := by decide +kernel
theorem dX0_standsBefore_86 : decode cX0_standsBefore 86 = .ok (.iload_n 2, 1) := by decide +kernel
theorem dX0_standsBefore_87 : decode cX0_standsBefore 87 = .ok (.if_icmp .ge 7, 3) := by decide +kernel
theorem dX0_standsBefore_90 : decode cX0_standsBefore 90 = .ok (.iconst 1, 1) := by decide +kernel
theorem dX0_standsBefore_91 : decode cX0_standsBefore 91 = .ok (.goto 4, 3) := by decide +kernel
theorem dX0_standsBefore_94 : decode cX0_standsBefore 94 = .ok (.iconst 0, 1) := by decide +kernel
theorem dX0_standsBefore_95 : decode cX0_standsBefore 95 = .ok (.ireturn, 1) := by decide +kernel
theorem dX0_timesAt_0 : decode cX0_timesAt 0 = .ok (.iconst 0, 1) := by decide +kernel
theorem dX0_timesAt_1 : decode cX0_timesAt 1 = .ok (.istore_n 3, 1) := by decide +kernel
theorem dX0_timesAt_2 : decode cX0_timesAt 2 = .ok (.iconst 0, 1) := by decide +kernel
theorem dX0_timesAt_3 : decode cX0_timesAt 3 = .ok (.istore 4, 2) := by decide +kernel
theorem dX0_timesAt_5 : decode cX0_timesAt 5 = .ok (.iload 4, 2) := by decide +kernel
theorem dX0_timesAt_7 : decode cX0_timesAt 7 = .ok (.aload_n 0, 1) := by decide +kernel
theorem dX0_timesAt_8 : decode cX0_timesAt 8 = .ok (.getfield 18, 3) := by decide +kernel
theorem dX0_timesAt_11 : decode cX0_timesAt 11 = .ok (.if_icmp .ge 28, 3) := by decide +kernel
theorem dX0_timesAt_14 : decode cX0_timesAt 14 = .ok (.aload_n 0, 1) := by decide +kernel
theorem dX0_timesAt_15 : decode cX0_timesAt 15 = .ok (.getfield 9, 3) := by decide +kernel
theorem dX0_timesAt_18 : decode cX0_timesAt 18 = .ok (.iload 4, 2) := by decide +kernel
theorem dX0_timesAt_20 : decode cX0_timesAt 20 = .ok (.bipush 6, 2) := by decide +kernel
theorem dX0_timesAt_22 : decode cX0_timesAt 22 = .ok (.imul, 1) := by decide +kernel
theorem dX0_timesAt_23 : decode cX0_timesAt 23 = .ok (.iload_n 2, 1) := by decide +kernel
theorem dX0_timesAt_24 : decode cX0_timesAt 24 = .ok (.iadd, 1) := by decide +kernel
theorem dX0_timesAt_25 : decode cX0_timesAt 25 = .ok (.iaload, 1) := by decide +kernel
theorem dX0_timesAt_26 : decode cX0_timesAt 26 = .ok (.iload_n 1, 1) := by decide +kernel
theorem dX0_timesAt_27 : decode cX0_timesAt 27 = .ok (.if_icmp .ne 6, 3) := by decide +kernel
theorem dX0_timesAt_30 : decode cX0_timesAt 30 = .ok (.iinc 3 1, 3) := by decide +kernel
theorem dX0_timesAt_33 : decode cX0_timesAt 33 = .ok (.iinc 4 1, 3) := by decide +kernel
theorem dX0_timesAt_36 : decode cX0_timesAt 36 = .ok (.goto (-31), 3) := by decide +kernel
theorem dX0_timesAt_39 : decode cX0_timesAt 39 = .ok (.iload_n 3, 1) := by decide +kernel
theorem dX0_timesAt_40 : decode cX0_timesAt 40 = .ok (.ireturn, 1) := by decide +kernel
set_option maxRecDepth 20000 in
theorem ggX1_init_X1_clear : GoodIn wsX1_init wsX1_clear := goodIn_r _ [14, 5, 7, 8, 15, 16, 17, 18] (by decide +kernel) (by decide +kernel)
set_option maxRecDepth 20000 in
theorem gX1_init_X1_clear : GoodIn wsX1_init (wsV RX1 26 RX1 yX1_clear wsX1_clear) := goodIn_app (goodIn_of _ (by decide +kernel)) ggX1_init_X1_clear
theorem dX1_init_0 : decode cX1_init 0 = .ok (.aload_n 0, 1) := by decide +kernel
theorem dX1_init_1 : decode cX1_init 1 = .ok (.invokespecial 3, 3) := by decide +kernel
theorem dX1_init_4 : decode cX1_init 4 = .ok (.aload_n 0, 1) := by decide +kernel
theorem dX1_init_5 : decode cX1_init 5 = .ok (.bipush 6, 2) := by decide +kernel
theorem dX1_init_7 : decode cX1_init 7 = .ok (.newarray .int, 2) := by decide +kernel
theorem dX1_init_9 : decode cX1_init 9 = .ok (.putfield 9, 3) := by decide +kernel
theorem dX1_init_12 : decode cX1_init 12 = .ok (.aload_n 0, 1) := by decide +kernel
theorem dX1_init_13 : decode cX1_init 13 = .ok (.bipush 6, 2) := by decide +kernel
theorem dX1_init_15 : decode cX1_init 15 = .ok (.newarray .boolean, 2) := by decide +kernel
theorem dX1_init_17 : decode cX1_init 17 = .ok (.putfield 15, 3) := by decide +kernel
theorem dX1_init_20 : decode cX1_init 20 = .ok (.aload_n 0, 1) := by decide +kernel
theorem dX1_init_21 : decode cX1_init 21 = .ok (.bipush 6, 2) := by decide +kernel
theorem dX1_init_23 : decode cX1_init 23 = .ok (.newarray .int, 2) := by decide +kernel
theorem dX1_init_25 : decode cX1_init 25 = .ok (.putfield 19, 3) := by decide +kernel
theorem dX1_init_28 : decode cX1_init 28 = .ok (.aload_n 0, 1) := by decide +kernel
theorem dX1_init_29 : decode cX1_init 29 = .ok (.iconst 0, 1) := by decide +kernel
theorem dX1_init_30 : decode cX1_init 30 = .ok (.putfield 22, 3) := by decide +kernel
theorem dX1_init_33 : decode cX1_init 33 = .ok (.aload_n 0, 1) := by decide +kernel
theorem dX1_init_34 : decode cX1_init 34 = .ok (.invokevirtual 26, 3) := by decide +kernel
theorem dX1_init_37 : decode cX1_init 37 = .ok (.return_, 1) := by decide +kernel
theorem dX1_clear_0 : decode cX1_clear 0 = .ok (.iconst 0, 1) := by decide +kernel
theorem dX1_clear_1 : decode cX1_clear 1 = .ok (.istore_n 1, 1) := by decide +kernel
theorem dX1_clear_2 : decode cX1_clear 2 = .ok (.iload_n 1, 1) := by decide +kernel
theorem dX1_clear_3 : decode cX1_clear 3 = .ok (.bipush 6, 2) := by decide +kernel
theorem dX1_clear_5 : decode cX1_clear 5 = .ok (.if_icmp .ge 30, 3) := by decide +kernel
theorem dX1_clear_8 : decode cX1_clear 8 = .ok (.aload_n 0, 1) := by decide +kernel
theorem dX1_clear_9 : decode cX1_clear 9 = .ok (.getfield 9, 3) := by decide +kernel
theorem dX1_clear_12 : decode cX1_clear 12 = .ok (.iload_n 1, 1) := by decide +kernel
theorem dX1_clear_13 : decode cX1_clear 13 = .ok (.iconst (-1), 1) := by decide +kernel
theorem dX1_clear_14 : decode cX1_clear 14 = .ok (.iastore, 1) := by decide +kernel
theorem dX1_clear_15 : decode cX1_clear 15 = .ok (.aload_n 0, 1) := by decide +kernel
theorem dX1_clear_16 : decode cX1_clear 16 = .ok (.getfield 15, 3) := by decide +kernel
theorem dX1_clear_19 : decode cX1_clear 19 = .ok (.iload_n 1, 1) := by decide +kernel
theorem dX1_clear_20 : decode cX1_clear 20 = .ok (.iconst 0, 1) := by decide +kernel
theorem dX1_clear_21 : decode cX1_clear 21 = .ok (.bastore, 1) := by decide +kernel
theorem dX1_clear_22 : decode cX1_clear 22 = .ok (.aload_n 0, 1) := by decide +kernel
theorem dX1_clear_23 : decode cX1_clear 23 = .ok (.getfield 19, 3) := by decide +kernel
theorem dX1_clear_26 : decode cX1_clear 26 = .ok (.iload_n 1, 1) := by decide +kernel
theorem dX1_clear_27 : decode cX1_clear 27 = .ok (.iconst 0, 1) := by decide +kernel
theorem dX1_clear_28 : decode cX1_clear 28 = .ok (.iastore, 1) := by decide +kernel
theorem dX1_clear_29 : decode cX1_clear 29 = .ok (.iinc 1 1, 3) := by decide +kernel
theorem dX1_clear_32 : decode cX1_clear 32 = .ok (.goto (-30), 3) := by decide +kernel
theorem dX1_clear_35 : decode cX1_clear 35 = .ok (.return_, 1) := by decide +kernel
theorem dX1_setNumber_0 : decode cX1_setNumber 0 = .ok (.aload_n 0, 1) := by decide +kernel
theorem dX1_setNumber_1 : decode cX1_setNumber 1 = .ok (.iload_n 1, 1) := by decide +kernel
theorem dX1_setNumber_2 : decode cX1_setNumber 2 = .ok (.putfield 22, 3) := by decide +kernel
theorem dX1_setNumber_5 : decode cX1_setNumber 5 = .ok (.return_, 1) := by decide +kernel
theorem dX1_heldBy_0 : decode cX1_heldBy 0 = .ok (.aload_n 0, 1) := by decide +kernel
theorem dX1_heldBy_1 : decode cX1_heldBy 1 = .ok (.getfield 9, 3) := by decide +kernel
theorem dX1_heldBy_4 : decode cX1_heldBy 4 = .ok (.iload_n 1, 1) := by decide +kernel
theorem dX1_heldBy_5 : decode cX1_heldBy 5 = .ok (.iaload, 1) := by decide +kernel
theorem dX1_heldBy_6 : decode cX1_heldBy 6 = .ok (.ireturn, 1) := by decide +kernel
theorem dX1_takeFrom_0 : decode cX1_takeFrom 0 = .ok (.aload_n 0, 1) := by decide +kernel
theorem dX1_takeFrom_1 : decode cX1_takeFrom 1 = .ok (.getfield 9, 3) := by decide +kernel
theorem dX1_takeFrom_4 : decode cX1_takeFrom 4 = .ok (.iload_n 1, 1) := by decide +kernel
theorem dX1_takeFrom_5 : decode cX1_takeFrom 5 = .ok (.iconst (-1), 1) := by decide +kernel
theorem dX1_takeFrom_6 : decode cX1_takeFrom 6 = .ok (.iastore, 1) := by decide +kernel
theorem dX1_takeFrom_7 : decode cX1_takeFrom 7 = .ok (.return_, 1) := by decide +kernel
set_option maxRecDepth 20000 in
theorem ggX1_drawFor_X1_itemAt : GoodIn wsX1_drawFor wsX1_itemAt := goodIn_r _ [7, 8, 9, 10] (by decide +kernel) (by decide +kernel)
set_option maxRecDepth 20000 in
theorem gX1_drawFor_X1_itemAt : GoodIn wsX1_drawFor (va_wsS RX1 30 yX1_itemAt wsX1_itemAt) := goodIn_app (goodIn_of _ (by decide +kernel)) ggX1_drawFor_X1_itemAt
theorem dX1_drawFor_0 : decode cX1_drawFor 0 = .ok (.aload_n 0, 1) := by decide +kernel
theorem dX1_drawFor_1 : decode cX1_drawFor 1 = .ok (.aload_n 0, 1) := by decide +kernel
theorem dX1_drawFor_2 : decode cX1_drawFor 2 = .ok (.getfield 22, 3) := by decide +kernel
theorem dX1_drawFor_5 : decode cX1_drawFor 5 = .ok (.ldc 29, 2) := by decide +kernel
theorem dX1_drawFor_7 : decode cX1_drawFor 7 = .ok (.imul, 1) := by decide +kernel
theorem dX1_drawFor_8 : decode cX1_drawFor 8 = .ok (.sipush 12345, 3) := by decide +kernel
theorem dX1_drawFor_11 : decode cX1_drawFor 11 = .ok (.iadd, 1) := by decide +kernel
theorem dX1_drawFor_12 : decode cX1_drawFor 12 = .ok (.putfield 22, 3) := by decide +kernel
theorem dX1_drawFor_15 : decode cX1_drawFor 15 = .ok (.aload_n 0, 1) := by decide +kernel
theorem dX1_drawFor_16 : decode cX1_drawFor 16 = .ok (.getfield 22, 3) := by decide +kernel
theorem dX1_drawFor_19 : decode cX1_drawFor 19 = .ok (.bipush 16, 2) := by decide +kernel
theorem dX1_drawFor_21 : decode cX1_drawFor 21 = .ok (.iushr, 1) := by decide +kernel
theorem dX1_drawFor_22 : decode cX1_drawFor 22 = .ok (.iconst 3, 1) := by decide +kernel
theorem dX1_drawFor_23 : decode cX1_drawFor 23 = .ok (.iand, 1) := by decide +kernel
theorem dX1_drawFor_24 : decode cX1_drawFor 24 = .ok (.istore_n 3, 1) := by decide +kernel
theorem dX1_drawFor_25 : decode cX1_drawFor 25 = .ok (.aload_n 0, 1) := by decide +kernel
theorem dX1_drawFor_26 : decode cX1_drawFor 26 = .ok (.getfield 9, 3) := by decide +kernel
theorem dX1_drawFor_29 : decode cX1_drawFor 29 = .ok (.iload_n 1, 1) := by decide +kernel
theorem dX1_drawFor_30 : decode cX1_drawFor 30 = .ok (.iload_n 2, 1) := by decide +kernel
theorem dX1_drawFor_31 : decode cX1_drawFor 31 = .ok (.iload_n 3, 1) := by decide +kernel
theorem dX1_drawFor_32 : decode cX1_drawFor 32 = .ok (.invokestatic 30, 3) := by decide +kernel
theorem dX1_drawFor_35 : decode cX1_drawFor 35 = .ok (.iastore, 1) := by decide +kernel
theorem dX1_drawFor_36 : decode cX1_drawFor 36 = .ok (.aload_n 0, 1) := by decide +kernel
theorem dX1_drawFor_37 : decode cX1_drawFor 37 = .ok (.getfield 9, 3) := by decide +kernel
theorem dX1_drawFor_40 : decode cX1_drawFor 40 = .ok (.iload_n 1, 1) := by decide +kernel
theorem dX1_drawFor_41 : decode cX1_drawFor 41 = .ok (.iaload, 1) := by decide +kernel
theorem dX1_drawFor_42 : decode cX1_drawFor 42 = .ok (.ireturn, 1) := by decide +kernel
theorem dX1_itemAt_0 : decode cX1_itemAt 0 = .ok (.iload_n 0, 1) := by decide +kernel
theorem dX1_itemAt_1 : decode cX1_itemAt 1 = .ok (.ifCond .ne 9, 3) := by decide +kernel
theorem dX1_itemAt_4 : decode cX1_itemAt 4 = .ok (.getstatic 34, 3) := by decide +kernel
theorem dX1_itemAt_7 : decode cX1_itemAt 7 = .ok (.iload_n 1, 1) := by decide +kernel
theorem dX1_itemAt_8 : decode cX1_itemAt 8 = .ok (.iaload, 1) := by decide +kernel
theorem dX1_itemAt_9 : decode cX1_itemAt 9 = .ok (.ireturn, 1) := by decide +kernel
theorem dX1_itemAt_10 : decode cX1_itemAt 10 = .ok (.iload_n 0, 1) := by decide +kernel
theorem dX1_itemAt_11 : decode cX1_itemAt 11 = .ok (.iconst 2, 1) := by decide +kernel
theorem dX1_itemAt_12 : decode cX1_itemAt 12 = .ok (.if_icmp .gt 11, 3) := by decide +kernel
theorem dX1_itemAt_15 : decode cX1_itemAt 15 = .ok (.getstatic 37, 3) := by decide +kernel
theorem dX1_itemAt_18 : decode cX1_itemAt 18 = .ok (.iload_n 1, 1) := by decide +kernel
theorem dX1_itemAt_19 : decode cX1_itemAt 19 = .ok (.iaload, 1) := by decide +kernel
theorem dX1_itemAt_20 : decode cX1_itemAt 20 = .ok (.goto 8, 3) := by decide +kernel
theorem dX1_itemAt_23 : decode cX1_itemAt 23 = .ok (.getstatic 40, 3) := by decide +kernel
theorem dX1_itemAt_26 : decode cX1_itemAt 26 = .ok (.iload_n 1, 1) := by decide +kernel
theorem dX1_itemAt_27 : decode cX1_itemAt 27 = .ok (.iaload, 1) := by decide +kernel
theorem dX1_itemAt_28 : decode cX1_itemAt 28 = .ok (.ireturn, 1) := by decide +kernel
theorem dX1_ticksStunned_0 : decode cX1_ticksStunned 0 = .ok (.aload_n 0, 1) := by decide +kernel
theorem dX1_ticksStunned_1 : decode cX1_ticksStunned 1 = .ok (.getfield 19, 3) := by decide +kernel
theorem dX1_ticksStunned_4 : decode cX1_ticksStunned 4 = .ok (.iload_n 1, 1) := by decide +kernel
theorem dX1_ticksStunned_5 : decode cX1_ticksStunned 5 = .ok (.iaload, 1) := by decide +kernel
theorem dX1_ticksStunned_6 : decode cX1_ticksStunned 6 = .ok (.iload_n 2, 1) := by decide +kernel
theorem dX1_ticksStunned_7 : decode cX1_ticksStunned 7 = .ok (.isub, 1) := by decide +kernel
theorem dX1_ticksStunned_8 : decode cX1_ticksStunned 8 = .ok (.iconst 0, 1) := by decide +kernel
theorem dX1_ticksStunned_9 : decode cX1_ticksStunned 9 = .ok (.invokestatic 43, 3) := by decide +kernel
theorem dX1_ticksStunned_12 : decode cX1_ticksStunned 12 = .ok (.ireturn, 1) := by decide +kernel
theorem dX1_wake_0 : decode cX1_wake 0 = .ok (.aload_n 0, 1) := by decide +kernel
theorem dX1_wake_1 : decode cX1_wake 1 = .ok (.getfield 19, 3) := by decide +kernel
theorem dX1_wake_4 : decode cX1_wake 4 = .ok (.iload_n 1, 1) := by decide +kernel
theorem dX1_wake_5 : decode cX1_wake 5 = .ok (.iconst 0, 1) := by decide +kernel
theorem dX1_wake_6 : decode cX1_wake 6 = .ok (.iastore, 1) := by decide +kernel
theorem dX1_wake_7 : decode cX1_wake 7 = .ok (.return_, 1) := by decide +kernel
theorem dX1_shield_0 : decode cX1_shield 0 = .ok (.aload_n 0, 1) := by decide +kernel
theorem dX1_shield_1 : decode cX1_shield 1 = .ok (.getfield 15, 3) := by decide +kernel
theorem dX1_shield_4 : decode cX1_shield 4 = .ok (.iload_n 1, 1) := by decide +kernel
theorem dX1_shield_5 : decode cX1_shield 5 = .ok (.iconst 1, 1) := by decide +kernel
theorem dX1_shield_6 : decode cX1_shield 6 = .ok (.bastore, 1) := by decide +kernel
theorem dX1_shield_7 : decode cX1_shield 7 = .ok (.return_, 1) := by decide +kernel
theorem dX1_hit_0 : decode cX1_hit 0 = .ok (.aload_n 0, 1) := by decide +kernel
theorem dX1_hit_1 : decode cX1_hit 1 = .ok (.getfield 15, 3) := by decide +kernel
theorem dX1_hit_4 : decode cX1_hit 4 = .ok (.iload_n 1, 1) := by decide +kernel
theorem dX1_hit_5 : decode cX1_hit 5 = .ok (.baload, 1) := by decide +kernel
theorem dX1_hit_6 : decode cX1_hit 6 = .ok (.ifCond .eq 12, 3) := by decide +kernel
theorem dX1_hit_9 : decode cX1_hit 9 = .ok (.aload_n 0, 1) := by decide +kernel
theorem dX1_hit_10 : decode cX1_hit 10 = .ok (.getfield 15, 3) := by decide +kernel
theorem dX1_hit_13 : decode cX1_hit 13 = .ok (.iload_n 1, 1) := by decide +kernel
theorem dX1_hit_14 : decode cX1_hit 14 = .ok (.iconst 0, 1) := by decide +kernel
theorem dX1_hit_15 : decode cX1_hit 15 = .ok (.bastore, 1) := by decide +kernel
theorem dX1_hit_16 : decode cX1_hit 16 = .ok (.iconst 0, 1) := by decide +kernel
theorem dX1_hit_17 : decode cX1_hit 17 = .ok (.ireturn, 1) := by decide +kernel
theorem dX1_hit_18 : decode cX1_hit 18 = .ok (.aload_n 0, 1) := by decide +kernel
theorem dX1_hit_19 : decode cX1_hit 19 = .ok (.getfield 19, 3) := by decide +kernel
theorem dX1_hit_22 : decode cX1_hit 22 = .ok (.iload_n 1, 1) := by decide +kernel
theorem dX1_hit_23 : decode cX1_hit 23 = .ok (.aload_n 0, 1) := by decide +kernel
theorem dX1_hit_24 : decode cX1_hit 24 = .ok (.getfield 19, 3) := by decide +kernel
theorem dX1_hit_27 : decode cX1_hit 27 = .ok (.iload_n 1, 1) := by decide +kernel
theorem dX1_hit_28 : decode cX1_hit 28 = .ok (.iaload, 1) := by decide +kernel
theorem dX1_hit_29 : decode cX1_hit 29 = .ok (.iload_n 2, 1) := by decide +kernel
theorem dX1_hit_30 : decode cX1_hit 30 = .ok (.invokestatic 43, 3) := by decide +kernel
theorem dX1_hit_33 : decode cX1_hit 33 = .ok (.iastore, 1) := by decide +kernel
theorem dX1_hit_34 : decode cX1_hit 34 = .ok (.iconst 1, 1) := by decide +kernel
theorem dX1_hit_35 : decode cX1_hit 35 = .ok (.ireturn, 1) := by decide +kernel
theorem dX2_init_0 : decode cX2_init 0 = .ok (.aload_n 0, 1) := by decide +kernel
theorem dX2_init_1 : decode cX2_init 1 = .ok (.invokespecial 3, 3) := by decide +kernel
theorem dX2_init_4 : decode cX2_init 4 = .ok (.aload_n 0, 1) := by decide +kernel
theorem dX2_init_5 : decode cX2_init 5 = .ok (.sipush 512, 3) := by decide +kernel
theorem dX2_init_8 : decode cX2_init 8 = .ok (.newarray .int, 2) := by decide +kernel
theorem dX2_init_10 : decode cX2_init 10 = .ok (.putfield 9, 3) := by decide +kernel
theorem dX2_init_13 : decode cX2_init 13 = .ok (.aload_n 0, 1) := by decide +kernel
theorem dX2_init_14 : decode cX2_init 14 = .ok (.sipush 512, 3) := by decide +kernel
theorem dX2_init_17 : decode cX2_init 17 = .ok (.newarray .int, 2) := by decide +kernel
theorem dX2_init_19 : decode cX2_init 19 = .ok (.putfield 15, 3) := by decide +kernel
theorem dX2_init_22 : decode cX2_init 22 = .ok (.aload_n 0, 1) := by decide +kernel
theorem dX2_init_23 : decode cX2_init 23 = .ok (.iconst 0, 1) := by decide +kernel
theorem dX2_init_24 : decode cX2_init 24 = .ok (.putfield 18, 3) := by decide +kernel
theorem dX2_init_27 : decode cX2_init 27 = .ok (.return_, 1) := by decide +kernel
theorem dX2_clear_0 : decode cX2_clear 0 = .ok (.aload_n 0, 1) := by decide +kernel
theorem dX2_clear_1 : decode cX2_clear 1 = .ok (.iconst 0, 1) := by decide +kernel
theorem dX2_clear_2 : decode cX2_clear 2 = .ok (.putfield 18, 3) := by decide +kernel
theorem dX2_clear_5 : decode cX2_clear 5 = .ok (.return_, 1) := by decide +kernel
theorem dX2_isFull_0 : decode cX2_isFull 0 = .ok (.aload_n 0, 1) := by decide +kernel
theorem dX2_isFull_1 : decode cX2_isFull 1 = .ok (.getfield 18, 3) := by decide +kernel
theorem dX2_isFull_4 : decode cX2_isFull 4 = .ok (.sipush 512, 3) := by decide +kernel
theorem dX2_isFull_7 : decode cX2_isFull 7 = .ok (.if_icmp .lt 7, 3) := by decide +kernel
theorem dX2_isFull_10 : decode cX2_isFull 10 = .ok (.iconst 1, 1) := by decide +kernel
theorem dX2_isFull_11 : decode cX2_isFull 11 = .ok (.goto 4, 3) := by decide +kernel
theorem dX2_isFull_14 : decode cX2_isFull 14 = .ok (.iconst 0, 1) := by decide +kernel
theorem dX2_isFull_15 : decode cX2_isFull 15 = .ok (.ireturn, 1) := by decide +kernel
theorem dX2_note_0 : decode cX2_note 0 = .ok (.aload_n 0, 1) := by decide +kernel
theorem dX2_note_1 : decode cX2_note 1 = .ok (.getfield 9, 3) := by decide +kernel
theorem dX2_note_4 : decode cX2_note 4 = .ok (.aload_n 0, 1) := by decide +kernel
theorem dX2_note_5 : decode cX2_note 5 = .ok (.getfield 18, 3) := by decide +kernel
theorem dX2_note_8 : decode cX2_note 8 = .ok (.iload_n 1, 1) := by decide +kernel
theorem dX2_note_9 : decode cX2_note 9 = .ok (.iastore, 1) := by decide +kernel
theorem dX2_note_10 : decode cX2_note 10 = .ok (.aload_n 0, 1) := by decide +kernel
theorem dX2_note_11 : decode cX2_note 11 = .ok (.getfield 15, 3) := by decide +kernel
theorem dX2_note_14 : decode cX2_note 14 = .ok (.aload_n 0, 1) := by decide +kernel
theorem dX2_note_15 : decode cX2_note 15 = .ok (.getfield 18, 3) := by decide +kernel
theorem dX2_note_18 : decode cX2_note 18 = .ok (.iload_n 2, 1) := by decide +kernel
theorem dX2_note_19 : decode cX2_note 19 = .ok (.iastore, 1) := by decide +kernel
theorem dX2_note_20 : decode cX2_note 20 = .ok (.aload_n 0, 1) := by decide +kernel
theorem dX2_note_21 : decode cX2_note 21 = .ok (.dup, 1) := by decide +kernel
theorem dX2_note_22 : decode cX2_note 22 = .ok (.getfield 18, 3) := by decide +kernel
theorem dX2_note_25 : decode cX2_note 25 = .ok (.iconst 1, 1) := by decide +kernel
theorem dX2_note_26 : decode cX2_note 26 = .ok (.iadd, 1) := by decide +kernel
theorem dX2_note_27 : decode cX2_note 27 = .ok (.putfield 18, 3) := by decide +kernel
theorem dX2_note_30 : decode cX2_note 30 = .ok (.return_, 1) := by decide +kernel
theorem dX2_count_0 : decode cX2_count 0 = .ok (.aload_n 0, 1) := by decide +kernel
theorem dX2_count_1 : decode cX2_count 1 = .ok (.getfield 18, 3) := by decide +kernel
theorem dX2_count_4 : decode cX2_count 4 = .ok (.ireturn, 1) := by decide +kernel
theorem dX2_kartAt_0 : decode cX2_kartAt 0 = .ok (.aload_n 0, 1) := by decide +kernel
theorem dX2_kartAt_1 : decode cX2_kartAt 1 = .ok (.getfield 9, 3) := by decide +kernel
theorem dX2_kartAt_4 : decode cX2_kartAt 4 = .ok (.iload_n 1, 1) := by decide +kernel
theorem dX2_kartAt_5 : decode cX2_kartAt 5 = .ok (.iaload, 1) := by decide +kernel
theorem dX2_kartAt_6 : decode cX2_kartAt 6 = .ok (.ireturn, 1) := by decide +kernel
theorem dX2_gateAt_0 : decode cX2_gateAt 0 = .ok (.aload_n 0, 1) := by decide +kernel
theorem dX2_gateAt_1 : decode cX2_gateAt 1 = .ok (.getfield 15, 3) := by decide +kernel
theorem dX2_gateAt_4 : decode cX2_gateAt 4 = .ok (.iload_n 1, 1) := by decide +kernel
theorem dX2_gateAt_5 : decode cX2_gateAt 5 = .ok (.iaload, 1) := by decide +kernel
theorem dX2_gateAt_6 : decode cX2_gateAt 6 = .ok (.ireturn, 1) := by decide +kernel
theorem dX3_init_0 : decode cX3_init 0 = .ok (.aload_n 0, 1) := by decide +kernel
theorem dX3_init_1 : decode cX3_init 1 = .ok (.invokespecial 3, 3) := by decide +kernel
theorem dX3_init_4 : decode cX3_init 4 = .ok (.aload_n 0, 1) := by decide +kernel
theorem dX3_init_5 : decode cX3_init 5 = .ok (.aload_n 1, 1) := by decide +kernel
theorem dX3_init_6 : decode cX3_init 6 = .ok (.putfield 9, 3) := by decide +kernel
theorem dX3_init_9 : decode cX3_init 9 = .ok (.aload_n 0, 1) := by decide +kernel
theorem dX3_init_10 : decode cX3_init 10 = .ok (.bipush 6, 2) := by decide +kernel
theorem dX3_init_12 : decode cX3_init 12 = .ok (.newarray .int, 2) := by decide +kernel
theorem dX3_init_14 : decode cX3_init 14 = .ok (.putfield 15, 3) := by decide +kernel
theorem dX3_init_17 : decode cX3_init 17 = .ok (.aload_n 0, 1) := by decide +kernel
theorem dX3_init_18 : decode cX3_init 18 = .ok (.bipush 6, 2) := by decide +kernel
theorem dX3_init_20 : decode cX3_init 20 = .ok (.newarray .int, 2) := by decide +kernel
theorem dX3_init_22 : decode cX3_init 22 = .ok (.putfield 19, 3) := by decide +kernel
theorem dX3_init_25 : decode cX3_init 25 = .ok (.aload_n 0, 1) := by decide +kernel
theorem dX3_init_26 : decode cX3_init 26 = .ok (.bipush 6, 2) := by decide +kernel
theorem dX3_init_28 : decode cX3_init 28 = .ok (.newarray .int, 2) := by decide +kernel
theorem dX3_init_30 : decode cX3_init 30 = .ok (.putfield 22, 3) := by decide +kernel
theorem dX3_init_33 : decode cX3_init 33 = .ok (.aload_n 0, 1) := by decide +kernel
theorem dX3_init_34 : decode cX3_init 34 = .ok (.bipush 6, 2) := by decide +kernel
theorem dX3_init_36 : decode cX3_init 36 = .ok (.newarray .int, 2) := by decide +kernel
theorem dX3_init_38 : decode cX3_init 38 = .ok (.putfield 25, 3) := by decide +kernel
theorem dX3_init_41 : decode cX3_init 41 = .ok (.aload_n 0, 1) := by decide +kernel
theorem dX3_init_42 : decode cX3_init 42 = .ok (.bipush 6, 2) := by decide +kernel
theorem dX3_init_44 : decode cX3_init 44 = .ok (.newarray .int, 2) := by decide +kernel
theorem dX3_init_46 : decode cX3_init 46 = .ok (.putfield 28, 3) := by decide +kernel
theorem dX3_init_49 : decode cX3_init 49 = .ok (.aload_n 0, 1) := by decide +kernel
theorem dX3_init_50 : decode cX3_init 50 = .ok (.bipush 6, 2) := by decide +kernel
theorem dX3_init_52 : decode cX3_init 52 = .ok (.newarray .int, 2) := by decide +kernel
theorem dX3_init_54 : decode cX3_init 54 = .ok (.putfield 31, 3) := by decide +kernel
theorem dX3_init_57 : decode cX3_init 57 = .ok (.aload_n 0, 1) := by decide +kernel
theorem dX3_init_58 : decode cX3_init 58 = .ok (.bipush 6, 2) := by decide +kernel
theorem dX3_init_60 : decode cX3_init 60 = .ok (.newarray .int, 2) := by decide +kernel
theorem dX3_init_62 : decode cX3_init 62 = .ok (.putfield 34, 3) := by decide +kernel
theorem dX3_init_65 : decode cX3_init 65 = .ok (.aload_n 0, 1) := by decide +kernel
theorem dX3_init_66 : decode cX3_init 66 = .ok (.iconst 0, 1) := by decide +kernel
theorem dX3_init_67 : decode cX3_init 67 = .ok (.putfield 37, 3) := by decide +kernel
theorem dX3_init_70 : decode cX3_init 70 = .ok (.aload_n 0, 1) := by decide +kernel
theorem dX3_init_71 : decode cX3_init 71 = .ok (.iconst 0, 1) := by decide +kernel
theorem dX3_init_72 : decode cX3_init 72 = .ok (.putfield 41, 3) := by decide +kernel
theorem dX3_init_75 : decode cX3_init 75 = .ok (.aload_n 0, 1) := by decide +kernel
theorem dX3_init_76 : decode cX3_init 76 = .ok (.iconst 0, 1) := by decide +kernel
theorem dX3_init_77 : decode cX3_init 77 = .ok (.putfield 44, 3) := by decide +kernel
theorem dX3_init_80 : decode cX3_init 80 = .ok (.return_, 1) := by decide +kernel
theorem dX3_begin_0 : decode cX3_begin 0 = .ok (.aload_n 0, 1) := by decide +kernel
theorem dX3_begin_1 : decode cX3_begin 1 = .ok (.iload_n 1, 1) := by decide +kernel
theorem dX3_begin_2 : decode cX3_begin 2 = .ok (.putfield 37, 3) := by decide +kernel
theorem dX3_begin_5 : decode cX3_begin 5 = .ok (.aload_n 0, 1) := by decide +kernel
theorem dX3_begin_6 : decode cX3_begin 6 = .ok (.iload_n 2, 1) := by decide +kernel
theorem dX3_begin_7 : decode cX3_begin 7 = .ok (.putfield 41, 3) := by decide +kernel
theorem dX3_begin_10 : decode cX3_begin 10 = .ok (.aload_n 0, 1) := by decide +kernel
theorem dX3_begin_11 : decode cX3_begin 11 = .ok (.iconst 0, 1) := by decide +kernel
theorem dX3_begin_12 : decode cX3_begin 12 = .ok (.putfield 44, 3) := by decide +kernel
theorem dX3_begin_15 : decode cX3_begin 15 = .ok (.iconst 0, 1) := by decide +kernel
theorem dX3_begin_16 : decode cX3_begin 16 = .ok (.istore_n 3, 1) := by decide +kernel
theorem dX3_begin_17 : decode cX3_begin 17 = .ok (.iload_n 3, 1) := by decide +kernel
theorem dX3_begin_18 : decode cX3_begin 18 = .ok (.bipush 6, 2) := by decide +kernel
theorem dX3_begin_20 : decode cX3_begin 20 = .ok (.if_icmp .ge 44, 3) := by decide +kernel
theorem dX3_begin_23 : decode cX3_begin 23 = .ok (.aload_n 0, 1) := by decide +kernel
theorem dX3_begin_24 : decode cX3_begin 24 = .ok (.getfield 15, 3) := by decide +kernel
theorem dX3_begin_27 : decode cX3_begin 27 = .ok (.iload_n 3, 1) := by decide +kernel
theorem dX3_begin_28 : decode cX3_begin 28 = .ok (.iconst 0, 1) := by decide +kernel
theorem dX3_begin_29 : decode cX3_begin 29 = .ok (.iastore, 1) := by decide +kernel
theorem dX3_begin_30 : decode cX3_begin 30 = .ok (.aload_n 0, 1) := by decide +kernel
theorem dX3_begin_31 : decode cX3_begin 31 = .ok (.getfield 19, 3) := by decide +kernel
theorem dX3_begin_34 : decode cX3_begin 34 = .ok (.iload_n 3, 1) := by decide +kernel
theorem dX3_begin_35 : decode cX3_begin 35 = .ok (.iconst 0, 1) := by decide +kernel
theorem dX3_begin_36 : decode cX3_begin 36 = .ok (.iastore, 1) := by decide +kernel
theorem dX3_begin_37 : decode cX3_begin 37 = .ok (.aload_n 0, 1) := by decide +kernel
theorem dX3_begin_38 : decode cX3_begin 38 = .ok (.getfield 22, 3) := by decide +kernel
theorem dX3_begin_41 : decode cX3_begin 41 = .ok (.iload_n 3, 1) := by decide +kernel
theorem dX3_begin_42 : decode cX3_begin 42 = .ok (.iconst 0, 1) := by decide +kernel
theorem dX3_begin_43 : decode cX3_begin 43 = .ok (.iastore, 1) := by decide +kernel
theorem dX3_begin_44 : decode cX3_begin 44 = .ok (.aload_n 0, 1) := by decide +kernel
theorem dX3_begin_45 : decode cX3_begin 45 = .ok (.getfield 25, 3) := by decide +kernel
theorem dX3_begin_48 : decode cX3_begin 48 = .ok (.iload_n 3, 1) := by decide +kernel
theorem dX3_begin_49 : decode cX3_begin 49 = .ok (.iconst 0, 1) := by decide +kernel
theorem dX3_begin_50 : decode cX3_begin 50 = .ok (.iastore, 1) := by decide +kernel
theorem dX3_begin_51 : decode cX3_begin 51 = .ok (.aload_n 0, 1) := by decide +kernel
theorem dX3_begin_52 : decode cX3_begin 52 = .ok (.getfield 28, 3) := by decide +kernel
theorem dX3_begin_55 : decode cX3_begin 55 = .ok (.iload_n 3, 1) := by decide +kernel
theorem dX3_begin_56 : decode cX3_begin 56 = .ok (.iconst 0, 1) := by decide +kernel
theorem dX3_begin_57 : decode cX3_begin 57 = .ok (.iastore, 1) := by decide +kernel
theorem dX3_begin_58 : decode cX3_begin 58 = .ok (.iinc 3 1, 3) := by decide +kernel
theorem dX3_begin_61 : decode cX3_begin 61 = .ok (.goto (-44), 3) := by decide +kernel
theorem dX3_begin_64 : decode cX3_begin 64 = .ok (.return_, 1) := by decide +kernel
theorem dX3_lapGoal_0 : decode cX3_lapGoal 0 = .ok (.aload_n 0, 1) := by decide +kernel
theorem dX3_lapGoal_1 : decode cX3_lapGoal 1 = .ok (.getfield 41, 3) := by decide +kernel
theorem dX3_lapGoal_4 : decode cX3_lapGoal 4 = .ok (.ireturn, 1) := by decide +kernel
theorem dX3_gateAt_0 : decode cX3_gateAt 0 = .ok (.aload_n 0, 1) := by decide +kernel
theorem dX3_gateAt_1 : decode cX3_gateAt 1 = .ok (.getfield 15, 3) := by decide +kernel
theorem dX3_gateAt_4 : decode cX3_gateAt 4 = .ok (.iload_n 1, 1) := by decide +kernel
theorem dX3_gateAt_5 : decode cX3_gateAt 5 = .ok (.iaload, 1) := by decide +kernel
theorem dX3_gateAt_6 : decode cX3_gateAt 6 = .ok (.ireturn, 1) := by decide +kernel
theorem dX3_netLaps_0 : decode cX3_netLaps 0 = .ok (.aload_n 0, 1) := by decide +kernel
theorem dX3_netLaps_1 : decode cX3_netLaps 1 = .ok (.getfield 19, 3) := by decide +kernel
theorem dX3_netLaps_4 : decode cX3_netLaps 4 = .ok (.iload_n 1, 1) := by decide +kernel
theorem dX3_netLaps_5 : decode cX3_netLaps 5 = .ok (.iaload, 1) := by decide +kernel
theorem dX3_netLaps_6 : decode cX3_netLaps 6 = .ok (.aload_n 0, 1) := by decide +kernel
theorem dX3_netLaps_7 : decode cX3_netLaps 7 = .ok (.getfield 22, 3) := by decide +kernel
theorem dX3_netLaps_10 : decode cX3_netLaps 10 = .ok (.iload_n 1, 1) := by decide +kernel
theorem dX3_netLaps_11 : decode cX3_netLaps 11 = .ok (.iaload, 1) := by decide +kernel
theorem dX3_netLaps_12 : decode cX3_netLaps 12 = .ok (.isub, 1) := by decide +kernel
theorem dX3_netLaps_13 : decode cX3_netLaps 13 = .ok (.ireturn, 1) := by decide +kernel
set_option maxRecDepth 20000 in
theorem ggX3_missingGates_X4_needed : GoodIn wsX3_missingGates wsX4_needed := goodIn_r _ [7, 8, 20, 21, 22, 23] (by decide +kernel) (by decide +kernel)
set_option maxRecDepth 20000 in
theorem gX3_missingGates_X4_needed : GoodIn wsX3_missingGates (wsV RX3 47 RX4 yX4_needed wsX4_needed) := goodIn_app (goodIn_of _ (by decide +kernel)) ggX3_missingGates_X4_needed
theorem dX3_missingGates_0 : decode cX3_missingGates 0 = .ok (.aload_n 0, 1) := by decide +kernel
theorem dX3_missingGates_1 : decode cX3_missingGates 1 = .ok (.getfield 9, 3) := by decide +kernel
theorem dX3_missingGates_4 : decode cX3_missingGates 4 = .ok (.invokevirtual 47, 3) := by decide +kernel
theorem dX3_missingGates_7 : decode cX3_missingGates 7 = .ok (.aload_n 0, 1) := by decide +kernel
theorem dX3_missingGates_8 : decode cX3_missingGates 8 = .ok (.getfield 25, 3) := by decide +kernel
theorem dX3_missingGates_11 : decode cX3_missingGates 11 = .ok (.iload_n 1, 1) := by decide +kernel
theorem dX3_missingGates_12 : decode cX3_missingGates 12 = .ok (.iaload, 1) := by decide +kernel
theorem dX3_missingGates_13 : decode cX3_missingGates 13 = .ok (.iconst (-1), 1) := by decide +kernel
theorem dX3_missingGates_14 : decode cX3_missingGates 14 = .ok (.ixor, 1) := by decide +kernel
theorem dX3_missingGates_15 : decode cX3_missingGates 15 = .ok (.iand, 1) := by decide +kernel
theorem dX3_missingGates_16 : decode cX3_missingGates 16 = .ok (.ireturn, 1) := by decide +kernel
theorem dX3_isFinished_0 : decode cX3_isFinished 0 = .ok (.aload_n 0, 1) := by decide +kernel
theorem dX3_isFinished_1 : decode cX3_isFinished 1 = .ok (.getfield 19, 3) := by decide +kernel
theorem dX3_isFinished_4 : decode cX3_isFinished 4 = .ok (.iload_n 1, 1) := by decide +kernel
theorem dX3_isFinished_5 : decode cX3_isFinished 5 = .ok (.iaload, 1) := by decide +kernel
theorem dX3_isFinished_6 : decode cX3_isFinished 6 = .ok (.aload_n 0, 1) := by decide +kernel
theorem dX3_isFinished_7 : decode cX3_isFinished 7 = .ok (.getfield 41, 3) := by decide +kernel
theorem dX3_isFinished_10 : decode cX3_isFinished 10 = .ok (.if_icmp .lt 7, 3) := by decide +kernel
theorem dX3_isFinished_13 : decode cX3_isFinished 13 = .ok (.iconst 1, 1) := by decide +kernel
theorem dX3_isFinished_14 : decode cX3_isFinished 14 = .ok (.goto 4, 3) := by decide +kernel
theorem dX3_isFinished_17 : decode cX3_isFinished 17 = .ok (.iconst 0, 1) := by decide +kernel
theorem dX3_isFinished_18 : decode cX3_isFinished 18 = .ok (.ireturn, 1) := by decide +kernel
set_option maxRecDepth 20000 in
theorem ggX3_isWorthPoints_X3_isFinished : GoodIn wsX3_isWorthPoints wsX3_isFinished := goodIn_r _ [5, 6, 7, 13, 14, 15, 16, 17, 18, 19, 20, 21, 22, 23] (by decide +kernel) (by decide +kernel)
set_option maxRecDepth 20000 in
theorem gX3_isWorthPoints_X3_isFinished : GoodIn wsX3_isWorthPoints (wsV RX3 53 RX3 yX3_isFinished wsX3_isFinished) := goodIn_app (goodIn_of _ (by decide +kernel)) ggX3_isWorthPoints_X3_isFinished
set_option maxRecDepth 20000 in
theorem ggX3_isWorthPoints_X3_netLaps : GoodIn wsX3_isWorthPoints wsX3_netLaps := goodIn_r _ [11, 6, 12, 13, 14, 15, 16, 17, 18, 19, 20, 21, 22, 23] (by decide +kernel) (by decide +kernel)
set_option maxRecDepth 20000 in
theorem gX3_isWorthPoints_X3_netLaps : GoodIn wsX3_isWorthPoints (wsV RX3 57 RX3 yX3_netLaps wsX3_netLaps) := goodIn_app (goodIn_of _ (by decide +kernel)) ggX3_isWorthPoints_X3_netLaps
theorem dX3_isWorthPoints_0 : decode cX3_isWorthPoints 0 = .ok (.aload_n 0, 1) := by decide +kernel
theorem dX3_isWorthPoints_1 : decode cX3_isWorthPoints 1 = .ok (.iload_n 1, 1) := by decide +kernel
theorem dX3_isWorthPoints_2 : decode cX3_isWorthPoints 2 = .ok (.invokevirtual 53, 3) := by decide +kernel
theorem dX3_isWorthPoints_5 : decode cX3_isWorthPoints 5 = .ok (.ifCond .ne 11, 3) := by decide +kernel
theorem dX3_isWorthPoints_8 : decode cX3_isWorthPoints 8 = .ok (.aload_n 0, 1) := by decide +kernel
theorem dX3_isWorthPoints_9 : decode cX3_isWorthPoints 9 = .ok (.iload_n 1, 1) := by decide +kernel
theorem dX3_isWorthPoints_10 : decode cX3_isWorthPoints 10 = .ok (.invokevirtual 57, 3) := by decide +kernel
theorem dX3_isWorthPoints_13 : decode cX3_isWorthPoints 13 = .ok (.ifCond .le 7, 3) := by decide +kernel
theorem dX3_isWorthPoints_16 : decode cX3_isWorthPoints 16 = .ok (.iconst 1, 1) := by decide +kernel
theorem dX3_isWorthPoints_17 : decode cX3_isWorthPoints 17 = .ok (.goto 4, 3) := by decide +kernel
theorem dX3_isWorthPoints_20 : decode cX3_isWorthPoints 20 = .ok (.iconst 0, 1) := by decide +kernel
theorem dX3_isWorthPoints_21 : decode cX3_isWorthPoints 21 = .ok (.ireturn, 1) := by decide +kernel
set_option maxRecDepth 20000 in
theorem ggX3_move_X4_leads : GoodIn wsX3_move wsX4_leads := goodIn_r _ [9, 10, 11, 12, 8, 13, 14, 60, 61, 62, 63] (by decide +kernel) (by decide +kernel)
set_option maxRecDepth 20000 in
theorem gX3_move_X4_leads : GoodIn wsX3_move (wsV RX3 61 RX4 yX4_leads wsX4_leads) := goodIn_app (goodIn_of _ (by decide +kernel)) ggX3_move_X4_leads
set_option maxRecDepth 20000 in
theorem ggX3_move_X3_goBack : GoodIn wsX3_move wsX3_goBack := goodIn_r _ [19, 20, 21, 49, 50, 51, 52, 53, 54, 55, 56, 57, 58, 59] (by decide +kernel) (by decide +kernel)
set_option maxRecDepth 20000 in
theorem gX3_move_X3_goBack : GoodIn wsX3_move (wsV RX3 65 RX3 yX3_goBack wsX3_goBack) := goodIn_app (goodIn_of _ (by decide +kernel)) ggX3_move_X3_goBack
set_option maxRecDepth 20000 in
theorem ggX3_move_X3_crossLine : GoodIn wsX3_move wsX3_crossLine := goodIn_r _ [25, 21, 20, 26, 27, 28, 29, 18, 30, 4, 31, 32, 33, 8, 34, 35, 36, 37, 38, 39, 40, 49, 50, 51, 52, 53, 54, 55, 56, 57, 58, 59, 60, 61, 62, 63] (by decide +kernel) (by decide +kernel)
set_option maxRecDepth 20000 in
theorem gX3_move_X3_crossLine : GoodIn wsX3_move (wsV RX3 69 RX3 yX3_crossLine wsX3_crossLine) := goodIn_app (goodIn_of _ (by decide +kernel)) ggX3_move_X3_crossLine
set_option maxRecDepth 20000 in
theorem ggX3_move_X3_reachGate : GoodIn wsX3_move wsX3_reachGate := goodIn_r _ [44, 4, 20, 21, 45, 46, 47, 8, 48, 35, 49, 50, 51, 52, 53, 54, 55, 56, 57, 58, 59, 60, 61, 62, 63] (by decide +kernel) (by decide +kernel)
set_option maxRecDepth 20000 in
theorem gX3_move_X3_reachGate : GoodIn wsX3_move (wsV RX3 72 RX3 yX3_reachGate wsX3_reachGate) := goodIn_app (goodIn_of _ (by decide +kernel)) ggX3_move_X3_reachGate
theorem dX3_move_0 : decode cX3_move 0 = .ok (.aload_n 0, 1) := by decide +kernel
theorem dX3_move_1 : decode cX3_move 1 = .ok (.getfield 15, 3) := by decide +kernel
theorem dX3_move_4 : decode cX3_move 4 = .ok (.iload_n 1, 1) := by decide +kernel
theorem dX3_move_5 : decode cX3_move 5 = .ok (.iaload, 1) := by decide +kernel
theorem dX3_move_6 : decode cX3_move 6 = .ok (.istore_n 3, 1) := by decide +kernel
theorem dX3_move_7 : decode cX3_move 7 = .ok (.aload_n 0, 1) := by decide +kernel
theorem dX3_move_8 : decode cX3_move 8 = .ok (.dup, 1) := by decide +kernel
theorem dX3_move_9 : decode cX3_move 9 = .ok (.getfield 44, 3) := by decide +kernel
theorem dX3_move_12 : decode cX3_move 12 = .ok (.iconst 1, 1) := by decide +kernel
theorem dX3_move_13 : decode cX3_move 13 = .ok (.iadd, 1) := by decide +kernel
theorem dX3_move_14 : decode cX3_move 14 = .ok (.putfield 44, 3) := by decide +kernel
theorem dX3_move_17 : decode cX3_move 17 = .ok (.aload_n 0, 1) := by decide +kernel
theorem dX3_move_18 : decode cX3_move 18 = .ok (.getfield 28, 3) := by decide +kernel
theorem dX3_move_21 : decode cX3_move 21 = .ok (.iload_n 1, 1) := by decide +kernel
theorem dX3_move_22 : decode cX3_move 22 = .ok (.aload_n 0, 1) := by decide +kernel
theorem dX3_move_23 : decode cX3_move 23 = .ok (.getfield 44, 3) := by decide +kernel
theorem dX3_move_26 : decode cX3_move 26 = .ok (.iastore, 1) := by decide +kernel
theorem dX3_move_27 : decode cX3_move 27 = .ok (.aload_n 0, 1) := by decide +kernel
theorem dX3_move_28 : decode cX3_move 28 = .ok (.getfield 15, 3) := by decide +kernel
theorem dX3_move_31 : decode cX3_move 31 = .ok (.iload_n 1, 1) := by decide +kernel
theorem dX3_move_32 : decode cX3_move 32 = .ok (.iload_n 2, 1) := by decide +kernel
theorem dX3_move_33 : decode cX3_move 33 = .ok (.iastore, 1) := by decide +kernel
theorem dX3_move_34 : decode cX3_move 34 = .ok (.aload_n 0, 1) := by decide +kernel
theorem dX3_move_35 : decode cX3_move 35 = .ok (.getfield 9, 3) := by decide +kernel
theorem dX3_move_38 : decode cX3_move 38 = .ok (.iload_n 3, 1) := by decide +kernel
theorem dX3_move_39 : decode cX3_move 39 = .ok (.iload_n 2, 1) := by decide +kernel
theorem dX3_move_40 : decode cX3_move 40 = .ok (.invokevirtual 61, 3) := by decide +kernel
theorem dX3_move_43 : decode cX3_move 43 = .ok (.ifCond .ne 10, 3) := by decide +kernel
theorem dX3_move_46 : decode cX3_move 46 = .ok (.aload_n 0, 1) := by decide +kernel
theorem dX3_move_47 : decode cX3_move 47 = .ok (.iload_n 1, 1) := by decide +kernel
theorem dX3_move_48 : decode cX3_move 48 = .ok (.iload_n 3, 1) := by decide +kernel
theorem dX3_move_49 : decode cX3_move 49 = .ok (.invokevirtual 65, 3) := by decide +kernel
theorem dX3_move_52 : decode cX3_move 52 = .ok (.ireturn, 1) := by decide +kernel
theorem dX3_move_53 : decode cX3_move 53 = .ok (.iload_n 2, 1) := by decide +kernel
theorem dX3_move_54 : decode cX3_move 54 = .ok (.ifCond .ne 11, 3) := by decide +kernel
theorem dX3_move_57 : decode cX3_move 57 = .ok (.aload_n 0, 1) := by decide +kernel
theorem dX3_move_58 : decode cX3_move 58 = .ok (.iload_n 1, 1) := by decide +kernel
theorem dX3_move_59 : decode cX3_move 59 = .ok (.invokevirtual 69, 3) := by decide +kernel
theorem dX3_move_62 : decode cX3_move 62 = .ok (.goto 9, 3) := by decide +kernel
theorem dX3_move_65 : decode cX3_move 65 = .ok (.aload_n 0, 1) := by decide +kernel
theorem dX3_move_66 : decode cX3_move 66 = .ok (.iload_n 1, 1) := by decide +kernel
theorem dX3_move_67 : decode cX3_move 67 = .ok (.iload_n 2, 1) := by decide +kernel
theorem dX3_move_68 : decode cX3_move 68 = .ok (.invokevirtual 72, 3) := by decide +kernel
theorem dX3_move_71 : decode cX3_move 71 = .ok (.ireturn, 1) := by decide +kernel
theorem dX3_goBack_0 : decode cX3_goBack 0 = .ok (.iload_n 2, 1) := by decide +kernel
theorem dX3_goBack_1 : decode cX3_goBack 1 = .ok (.ifCond .ne 16, 3) := by decide +kernel
theorem dX3_goBack_4 : decode cX3_goBack 4 = .ok (.aload_n 0, 1) := by decide +kernel
theorem dX3_goBack_5 : decode cX3_goBack 5 = .ok (.getfield 22, 3) := by decide +kernel
theorem dX3_goBack_8 : decode cX3_goBack 8 = .ok (.iload_n 1, 1) := by decide +kernel
theorem dX3_goBack_9 : decode cX3_goBack 9 = .ok (.dup2, 1) := by decide +kernel
theorem dX3_goBack_10 : decode cX3_goBack 10 = .ok (.iaload, 1) := by decide +kernel
theorem dX3_goBack_11 : decode cX3_goBack 11 = .ok (.iconst 1, 1) := by decide +kernel
theorem dX3_goBack_12 : decode cX3_goBack 12 = .ok (.iadd, 1) := by decide +kernel
theorem dX3_goBack_13 : decode cX3_goBack 13 = .ok (.iastore, 1) := by decide +kernel
theorem dX3_goBack_14 : decode cX3_goBack 14 = .ok (.goto 17, 3) := by decide +kernel
theorem dX3_goBack_17 : decode cX3_goBack 17 = .ok (.aload_n 0, 1) := by decide +kernel
theorem dX3_goBack_18 : decode cX3_goBack 18 = .ok (.getfield 25, 3) := by decide +kernel
theorem dX3_goBack_21 : decode cX3_goBack 21 = .ok (.iload_n 1, 1) := by decide +kernel
theorem dX3_goBack_22 : decode cX3_goBack 22 = .ok (.dup2, 1) := by decide +kernel
theorem dX3_goBack_23 : decode cX3_goBack 23 = .ok (.iaload, 1) := by decide +kernel
theorem dX3_goBack_24 : decode cX3_goBack 24 = .ok (.iconst 1, 1) := by decide +kernel
theorem dX3_goBack_25 : decode cX3_goBack 25 = .ok (.iload_n 2, 1) := by decide +kernel
theorem dX3_goBack_26 : decode cX3_goBack 26 = .ok (.ishl, 1) := by decide +kernel
theorem dX3_goBack_27 : decode cX3_goBack 27 = .ok (.iconst (-1), 1) := by decide +kernel
theorem dX3_goBack_28 : decode cX3_goBack 28 = .ok (.ixor, 1) := by decide +kernel
theorem dX3_goBack_29 : decode cX3_goBack 29 = .ok (.iand, 1) := by decide +kernel
theorem dX3_goBack_30 : decode cX3_goBack 30 = .ok (.iastore, 1) := by decide +kernel
theorem dX3_goBack_31 : decode cX3_goBack 31 = .ok (.iconst 3, 1) := by decide +kernel
theorem dX3_goBack_32 : decode cX3_goBack 32 = .ok (.ireturn, 1) := by decide +kernel
set_option maxRecDepth 20000 in
theorem ggX3_reachGate_X4_isNeeded : GoodIn wsX3_reachGate wsX4_isNeeded := goodIn_r _ [8, 9, 21, 22, 23, 24] (by decide +kernel) (by decide +kernel)
set_option maxRecDepth 20000 in
theorem gX3_reachGate_X4_isNeeded : GoodIn wsX3_reachGate (wsV RX3 75 RX4 yX4_isNeeded wsX4_isNeeded) := goodIn_app (goodIn_of _ (by decide +kernel)) ggX3_reachGate_X4_isNeeded
theorem dX3_reachGate_0 : decode cX3_reachGate 0 = .ok (.aload_n 0, 1) := by decide +kernel
theorem dX3_reachGate_1 : decode cX3_reachGate 1 = .ok (.getfield 9, 3) := by decide +kernel
theorem dX3_reachGate_4 : decode cX3_reachGate 4 = .ok (.iload_n 2, 1) := by decide +kernel
theorem dX3_reachGate_5 : decode cX3_reachGate 5 = .ok (.invokevirtual 75, 3) := by decide +kernel
theorem dX3_reachGate_8 : decode cX3_reachGate 8 = .ok (.ifCond .eq 24, 3) := by decide +kernel
theorem dX3_reachGate_11 : decode cX3_reachGate 11 = .ok (.aload_n 0, 1) := by decide +kernel
theorem dX3_reachGate_12 : decode cX3_reachGate 12 = .ok (.getfield 22, 3) := by decide +kernel
theorem dX3_reachGate_15 : decode cX3_reachGate 15 = .ok (.iload_n 1, 1) := by decide +kernel
theorem dX3_reachGate_16 : decode cX3_reachGate 16 = .ok (.iaload, 1) := by decide +kernel
theorem dX3_reachGate_17 : decode cX3_reachGate 17 = .ok (.ifCond .ne 15, 3) := by decide +kernel
theorem dX3_reachGate_20 : decode cX3_reachGate 20 = .ok (.aload_n 0, 1) := by decide +kernel
theorem dX3_reachGate_21 : decode cX3_reachGate 21 = .ok (.getfield 25, 3) := by decide +kernel
theorem dX3_reachGate_24 : decode cX3_reachGate 24 = .ok (.iload_n 1, 1) := by decide +kernel
theorem dX3_reachGate_25 : decode cX3_reachGate 25 = .ok (.dup2, 1) := by decide +kernel
theorem dX3_reachGate_26 : decode cX3_reachGate 26 = .ok (.iaload, 1) := by decide +kernel
theorem dX3_reachGate_27 : decode cX3_reachGate 27 = .ok (.iconst 1, 1) := by decide +kernel
theorem dX3_reachGate_28 : decode cX3_reachGate 28 = .ok (.iload_n 2, 1) := by decide +kernel
theorem dX3_reachGate_29 : decode cX3_reachGate 29 = .ok (.ishl, 1) := by decide +kernel
theorem dX3_reachGate_30 : decode cX3_reachGate 30 = .ok (.ior, 1) := by decide +kernel
theorem dX3_reachGate_31 : decode cX3_reachGate 31 = .ok (.iastore, 1) := by decide +kernel
theorem dX3_reachGate_32 : decode cX3_reachGate 32 = .ok (.iconst 0, 1) := by decide +kernel
theorem dX3_reachGate_33 : decode cX3_reachGate 33 = .ok (.ireturn, 1) := by decide +kernel
set_option maxRecDepth 20000 in
theorem ggX3_crossLine_X3_missingGates : GoodIn wsX3_crossLine wsX3_missingGates := goodIn_r _ [8, 9, 1, 10, 11, 12, 13, 14, 15, 21, 22, 23, 24, 25, 26, 27, 28, 29, 30, 31, 32, 33, 34, 35] (by decide +kernel) (by decide +kernel)
set_option maxRecDepth 20000 in
theorem gX3_crossLine_X3_missingGates : GoodIn wsX3_crossLine (wsV RX3 78 RX3 yX3_missingGates wsX3_missingGates) := goodIn_app (goodIn_of _ (by decide +kernel)) ggX3_crossLine_X3_missingGates
set_option maxRecDepth 20000 in
theorem ggX3_crossLine_X3_isFinished : GoodIn wsX3_crossLine wsX3_isFinished := goodIn_r _ [19, 3, 20, 21, 22, 23, 24, 25, 26, 27, 28, 29, 30, 31] (by decide +kernel) (by decide +kernel)
set_option maxRecDepth 20000 in
theorem gX3_crossLine_X3_isFinished : GoodIn wsX3_crossLine (wsV RX3 53 RX3 yX3_isFinished wsX3_isFinished) := goodIn_app (goodIn_of _ (by decide +kernel)) ggX3_crossLine_X3_isFinished
theorem dX3_crossLine_0 : decode cX3_crossLine 0 = .ok (.aload_n 0, 1) := by decide +kernel
theorem dX3_crossLine_1 : decode cX3_crossLine 1 = .ok (.iload_n 1, 1) := by decide +kernel
theorem dX3_crossLine_2 : decode cX3_crossLine 2 = .ok (.invokevirtual 78, 3) := by decide +kernel
theorem dX3_crossLine_5 : decode cX3_crossLine 5 = .ok (.ifCond .ne 7, 3) := by decide +kernel
theorem dX3_crossLine_8 : decode cX3_crossLine 8 = .ok (.iconst 1, 1) := by decide +kernel
theorem dX3_crossLine_9 : decode cX3_crossLine 9 = .ok (.goto 4, 3) := by decide +kernel
theorem dX3_crossLine_12 : decode cX3_crossLine 12 = .ok (.iconst 0, 1) := by decide +kernel
theorem dX3_crossLine_13 : decode cX3_crossLine 13 = .ok (.istore_n 2, 1) := by decide +kernel
theorem dX3_crossLine_14 : decode cX3_crossLine 14 = .ok (.aload_n 0, 1) := by decide +kernel
theorem dX3_crossLine_15 : decode cX3_crossLine 15 = .ok (.getfield 25, 3) := by decide +kernel
theorem dX3_crossLine_18 : decode cX3_crossLine 18 = .ok (.iload_n 1, 1) := by decide +kernel
theorem dX3_crossLine_19 : decode cX3_crossLine 19 = .ok (.iconst 0, 1) := by decide +kernel
theorem dX3_crossLine_20 : decode cX3_crossLine 20 = .ok (.iastore, 1) := by decide +kernel
theorem dX3_crossLine_21 : decode cX3_crossLine 21 = .ok (.aload_n 0, 1) := by decide +kernel
theorem dX3_crossLine_22 : decode cX3_crossLine 22 = .ok (.getfield 22, 3) := by decide +kernel
theorem dX3_crossLine_25 : decode cX3_crossLine 25 = .ok (.iload_n 1, 1) := by decide +kernel
theorem dX3_crossLine_26 : decode cX3_crossLine 26 = .ok (.iaload, 1) := by decide +kernel
theorem dX3_crossLine_27 : decode cX3_crossLine 27 = .ok (.ifCond .le 15, 3) := by decide +kernel
theorem dX3_crossLine_30 : decode cX3_crossLine 30 = .ok (.aload_n 0, 1) := by decide +kernel
theorem dX3_crossLine_31 : decode cX3_crossLine 31 = .ok (.getfield 22, 3) := by decide +kernel
theorem dX3_crossLine_34 : decode cX3_crossLine 34 = .ok (.iload_n 1, 1) := by decide +kernel
theorem dX3_crossLine_35 : decode cX3_crossLine 35 = .ok (.dup2, 1) := by decide +kernel
theorem dX3_crossLine_36 : decode cX3_crossLine 36 = .ok (.iaload, 1) := by decide +kernel
theorem dX3_crossLine_37 : decode cX3_crossLine 37 = .ok (.iconst 1, 1) := by decide +kernel
theorem dX3_crossLine_38 : decode cX3_crossLine 38 = .ok (.isub, 1) := by decide +kernel
theorem dX3_crossLine_39 : decode cX3_crossLine 39 = .ok (.iastore, 1) := by decide +kernel
theorem dX3_crossLine_40 : decode cX3_crossLine 40 = .ok (.iconst 4, 1) := by decide +kernel
theorem dX3_crossLine_41 : decode cX3_crossLine 41 = .ok (.ireturn, 1) := by decide +kernel
theorem dX3_crossLine_42 : decode cX3_crossLine 42 = .ok (.iload_n 2, 1) := by decide +kernel
theorem dX3_crossLine_43 : decode cX3_crossLine 43 = .ok (.ifCond .ne 5, 3) := by decide +kernel
theorem dX3_crossLine_46 : decode cX3_crossLine 46 = .ok (.iconst 2, 1) := by decide +kernel
theorem dX3_crossLine_47 : decode cX3_crossLine 47 = .ok (.ireturn, 1) := by decide +kernel
theorem dX3_crossLine_48 : decode cX3_crossLine 48 = .ok (.aload_n 0, 1) := by decide +kernel
theorem dX3_crossLine_49 : decode cX3_crossLine 49 = .ok (.getfield 19, 3) := by decide +kernel
theorem dX3_crossLine_52 : decode cX3_crossLine 52 = .ok (.iload_n 1, 1) := by decide +kernel
theorem dX3_crossLine_53 : decode cX3_crossLine 53 = .ok (.dup2, 1) := by decide +kernel
theorem dX3_crossLine_54 : decode cX3_crossLine 54 = .ok (.iaload, 1) := by decide +kernel
theorem dX3_crossLine_55 : decode cX3_crossLine 55 = .ok (.iconst 1, 1) := by decide +kernel
theorem dX3_crossLine_56 : decode cX3_crossLine 56 = .ok (.iadd, 1) := by decide +kernel
theorem dX3_crossLine_57 : decode cX3_crossLine 57 = .ok (.iastore, 1) := by decide +kernel
theorem dX3_crossLine_58 : decode cX3_crossLine 58 = .ok (.aload_n 0, 1) := by decide +kernel
theorem dX3_crossLine_59 : decode cX3_crossLine 59 = .ok (.iload_n 1, 1) := by decide +kernel
theorem dX3_crossLine_60 : decode cX3_crossLine 60 = .ok (.invokevirtual 53, 3) := by decide +kernel
theorem dX3_crossLine_63 : decode cX3_crossLine 63 = .ok (.ifCond .eq 7, 3) := by decide +kernel
theorem dX3_crossLine_66 : decode cX3_crossLine 66 = .ok (.iconst 5, 1) := by decide +kernel
theorem dX3_crossLine_67 : decode cX3_crossLine 67 = .ok (.goto 4, 3) := by decide +kernel
theorem dX3_crossLine_70 : decode cX3_crossLine 70 = .ok (.iconst 1, 1) := by decide +kernel
theorem dX3_crossLine_71 : decode cX3_crossLine 71 = .ok (.ireturn, 1) := by decide +kernel
set_option maxRecDepth 20000 in
theorem ggX3_countAhead_X3_isAhead : GoodIn wsX3_countAhead wsX3_isAhead := goodIn_r _ [6, 7, 8, 9, 10, 11, 12, 5, 13, 14, 15, 16, 17, 18, 19, 20, 21, 22, 23, 24, 25, 26, 27, 28, 29, 30, 31, 32, 33, 34, 35, 36, 37, 38, 39, 40, 41] (by decide +kernel) (by decide +kernel)
set_option maxRecDepth 20000 in
theorem gX3_countAhead_X3_isAhead : GoodIn wsX3_countAhead (wsV RX3 81 RX3 yX3_isAhead wsX3_isAhead) := goodIn_app (goodIn_of _ (by decide +kernel)) ggX3_countAhead_X3_isAhead
theorem dX3_countAhead_0 : decode cX3_countAhead 0 = .ok (.iconst 0, 1) := by decide +kernel
theorem dX3_countAhead_1 : decode cX3_countAhead 1 = .ok (.istore_n 2, 1) := by decide +kernel
theorem dX3_countAhead_2 : decode cX3_countAhead 2 = .ok (.iconst 0, 1) := by decide +kernel
theorem dX3_countAhead_3 : decode cX3_countAhead 3 = .ok (.istore_n 3, 1) := by decide +kernel
theorem dX3_countAhead_4 : decode cX3_countAhead 4 = .ok (.iload_n 3, 1) := by decide +kernel
theorem dX3_countAhead_5 : decode cX3_countAhead 5 = .ok (.aload_n 0, 1) := by decide +kernel
theorem dX3_countAhead_6 : decode cX3_countAhead 6 = .ok (.getfield 37, 3) := by decide +kernel
theorem dX3_countAhead_9 : decode cX3_countAhead 9 = .ok (.if_icmp .ge 21, 3) := by decide +kernel
theorem dX3_countAhead_12 : decode cX3_countAhead 12 = .ok (.aload_n 0, 1) := by decide +kernel
theorem dX3_countAhead_13 : decode cX3_countAhead 13 = .ok (.iload_n 3, 1) := by decide +kernel
theorem dX3_countAhead_14 : decode cX3_countAhead 14 = .ok (.iload_n 1, 1) := by decide +kernel
theorem dX3_countAhead_15 : decode cX3_countAhead 15 = .ok (.invokevirtual 81, 3) := by decide +kernel
theorem dX3_countAhead_18 : decode cX3_countAhead 18 = .ok (.ifCond .eq 6, 3) := by decide +kernel
theorem dX3_countAhead_21 : decode cX3_countAhead 21 = .ok (.iinc 2 1, 3) := by decide +kernel
theorem dX3_countAhead_24 : decode cX3_countAhead 24 = .ok (.iinc 3 1, 3) := by decide +kernel
theorem dX3_countAhead_27 : decode cX3_countAhead 27 = .ok (.goto (-23), 3) := by decide +kernel
theorem dX3_countAhead_30 : decode cX3_countAhead 30 = .ok (.iload_n 2, 1) := by decide +kernel
theorem dX3_countAhead_31 : decode cX3_countAhead 31 = .ok (.ireturn, 1) := by decide +kernel
set_option maxRecDepth 20000 in
theorem ggX3_isAhead_X3_isFinished : GoodIn wsX3_isAhead wsX3_isFinished := goodIn_r _ [8, 9, 10, 22, 23, 24, 25, 26, 27, 28, 29, 30, 31, 32] (by decide +kernel) (by decide +kernel)
set_option maxRecDepth 20000 in
theorem gX3_isAhead_X3_isFinished : GoodIn wsX3_isAhead (wsV RX3 53 RX3 yX3_isFinished wsX3_isFinished) := goodIn_app (goodIn_of _ (by decide +kernel)) ggX3_isAhead_X3_isFinished
set_option maxRecDepth 20000 in
theorem ggX3_isAhead_X3_netLaps : GoodIn wsX3_isAhead wsX3_netLaps := goodIn_r _ [14, 9, 15, 22, 23, 24, 25, 26, 27, 28, 29, 30, 31, 32] (by decide +kernel) (by decide +kernel)
set_option maxRecDepth 20000 in
theorem gX3_isAhead_X3_netLaps : GoodIn wsX3_isAhead (wsV RX3 57 RX3 yX3_netLaps wsX3_netLaps) := goodIn_app (goodIn_of _ (by decide +kernel)) ggX3_isAhead_X3_netLaps
set_option maxRecDepth 20000 in
theorem ggX3_isAhead_X4_restOf : GoodIn wsX3_isAhead wsX4_restOf := goodIn_r _ [20, 21, 33, 34, 35, 36] (by decide +kernel) (by decide +kernel)
set_option maxRecDepth 20000 in
theorem gX3_isAhead_X4_restOf : GoodIn wsX3_isAhead (wsV RX3 84 RX4 yX4_restOf wsX4_restOf) := goodIn_app (goodIn_of _ (by decide +kernel)) ggX3_isAhead_X4_restOf
theorem dX3_isAhead_0 : decode cX3_isAhead 0 = .ok (.aload_n 0, 1) := by decide +kernel
theorem dX3_isAhead_1 : decode cX3_isAhead 1 = .ok (.iload_n 1, 1) := by decide +kernel
theorem dX3_isAhead_2 : decode cX3_isAhead 2 = .ok (.invokevirtual 53, 3) := by decide +kernel
theorem dX3_isAhead_5 : decode cX3_isAhead 5 = .ok (.ifCond .ne 11, 3) := by decide +kernel
theorem dX3_isAhead_8 : decode cX3_isAhead 8 = .ok (.aload_n 0, 1) := by decide +kernel
theorem dX3_isAhead_9 : decode cX3_isAhead 9 = .ok (.iload_n 2, 1) := by decide +kernel
theorem dX3_isAhead_10 : decode cX3_isAhead 10 = .ok (.invokevirtual 53, 3) := by decide +kernel
theorem dX3_isAhead_13 : decode cX3_isAhead 13 = .ok (.ifCond .eq 40, 3) := by decide +kernel
theorem dX3_isAhead_16 : decode cX3_isAhead 16 = .ok (.aload_n 0, 1) := by decide +kernel
theorem dX3_isAhead_17 : decode cX3_isAhead 17 = .ok (.iload_n 1, 1) := by decide +kernel
theorem dX3_isAhead_18 : decode cX3_isAhead 18 = .ok (.invokevirtual 53, 3) := by decide +kernel
theorem dX3_isAhead_21 : decode cX3_isAhead 21 = .ok (.ifCond .eq 30, 3) := by decide +kernel
theorem dX3_isAhead_24 : decode cX3_isAhead 24 = .ok (.aload_n 0, 1) := by decide +kernel
theorem dX3_isAhead_25 : decode cX3_isAhead 25 = .ok (.iload_n 2, 1) := by decide +kernel
theorem dX3_isAhead_26 : decode cX3_isAhead 26 = .ok (.invokevirtual 53, 3) := by decide +kernel
theorem dX3_isAhead_29 : decode cX3_isAhead 29 = .ok (.ifCond .eq 18, 3) := by decide +kernel
theorem dX3_isAhead_32 : decode cX3_isAhead 32 = .ok (.aload_n 0, 1) := by decide +kernel
theorem dX3_isAhead_33 : decode cX3_isAhead 33 = .ok (.getfield 28, 3) := by decide +kernel
theorem dX3_isAhead_36 : decode cX3_isAhead 36 = .ok (.iload_n 1, 1) := by decide +kernel
theorem dX3_isAhead_37 : decode cX3_isAhead 37 = .ok (.iaload, 1) := by decide +kernel
theorem dX3_isAhead_38 : decode cX3_isAhead 38 = .ok (.aload_n 0, 1) := by decide +kernel
theorem dX3_isAhead_39 : decode cX3_isAhead 39 = .ok (.getfield 28, 3) := by decide +kernel
theorem dX3_isAhead_42 : decode cX3_isAhead 42 = .ok (.iload_n 2, 1) := by decide +kernel
theorem dX3_isAhead_43 : decode cX3_isAhead 43 = .ok (.iaload, 1) := by decide +kernel
theorem dX3_isAhead_44 : decode cX3_isAhead 44 = .ok (.if_icmp .ge 7, 3) := by decide +kernel
theorem dX3_isAhead_47 : decode cX3_isAhead 47 = .ok (.iconst 1, 1) := by decide +kernel
theorem dX3_isAhead_48 : decode cX3_isAhead 48 = .ok (.goto 4, 3) := by decide +kernel
theorem dX3_isAhead_51 : decode cX3_isAhead 51 = .ok (.iconst 0, 1) := by decide +kernel
theorem dX3_isAhead_52 : decode cX3_isAhead 52 = .ok (.ireturn, 1) := by decide +kernel
theorem dX3_isAhead_53 : decode cX3_isAhead 53 = .ok (.aload_n 0, 1) := by decide +kernel
theorem dX3_isAhead_54 : decode cX3_isAhead 54 = .ok (.iload_n 1, 1) := by decide +kernel
theorem dX3_isAhead_55 : decode cX3_isAhead 55 = .ok (.invokevirtual 57, 3) := by decide +kernel
theorem dX3_isAhead_58 : decode cX3_isAhead 58 = .ok (.aload_n 0, 1) := by decide +kernel
theorem dX3_isAhead_59 : decode cX3_isAhead 59 = .ok (.iload_n 2, 1) := by decide +kernel
theorem dX3_isAhead_60 : decode cX3_isAhead 60 = .ok (.invokevirtual 57, 3) := by decide +kernel
theorem dX3_isAhead_63 : decode cX3_isAhead 63 = .ok (.if_icmp .eq 22, 3) := by decide +kernel
theorem dX3_isAhead_66 : decode cX3_isAhead 66 = .ok (.aload_n 0, 1) := by decide +kernel
theorem dX3_isAhead_67 : decode cX3_isAhead 67 = .ok (.iload_n 1, 1) := by decide +kernel
theorem dX3_isAhead_68 : decode cX3_isAhead 68 = .ok (.invokevirtual 57, 3) := by decide +kernel
theorem dX3_isAhead_71 : decode cX3_isAhead 71 = .ok (.aload_n 0, 1) := by decide +kernel
theorem dX3_isAhead_72 : decode cX3_isAhead 72 = .ok (.iload_n 2, 1) := by decide +kernel
theorem dX3_isAhead_73 : decode cX3_isAhead 73 = .ok (.invokevirtual 57, 3) := by decide +kernel
theorem dX3_isAhead_76 : decode cX3_isAhead 76 = .ok (.if_icmp .le 7, 3) := by decide +kernel
theorem dX3_isAhead_79 : decode cX3_isAhead 79 = .ok (.iconst 1, 1) := by decide +kernel
theorem dX3_isAhead_80 : decode cX3_isAhead 80 = .ok (.goto 4, 3) := by decide +kernel
theorem dX3_isAhead_83 : decode cX3_isAhead 83 = .ok (.iconst 0, 1) := by decide +kernel
theorem dX3_isAhead_84 : decode cX3_isAhead 84 = .ok (.ireturn, 1) := by decide +kernel
theorem dX3_isAhead_85 : decode cX3_isAhead 85 = .ok (.aload_n 0, 1) := by decide +kernel
theorem dX3_isAhead_86 : decode cX3_isAhead 86 = .ok (.getfield 9, 3) := by decide +kernel
theorem dX3_isAhead_89 : decode cX3_isAhead 89 = .ok (.aload_n 0, 1) := by decide +kernel
theorem dX3_isAhead_90 : decode cX3_isAhead 90 = .ok (.getfield 15, 3) := by decide +kernel
theorem dX3_isAhead_93 : decode cX3_isAhead 93 = .ok (.iload_n 1, 1) := by decide +kernel
theorem dX3_isAhead_94 : decode cX3_isAhead 94 = .ok (.iaload, 1) := by decide +kernel
theorem dX3_isAhead_95 : decode cX3_isAhead 95 = .ok (.invokevirtual 84, 3) := by decide +kernel
theorem dX3_isAhead_98 : decode cX3_isAhead 98 = .ok (.istore_n 3, 1) := by decide +kernel
theorem dX3_isAhead_99 : decode cX3_isAhead 99 = .ok (.aload_n 0, 1) := by decide +kernel
theorem dX3_isAhead_100 : decode cX3_isAhead 100 = .ok (.getfield 9, 3) := by decide +kernel
theorem dX3_isAhead_103 : decode cX3_isAhead 103 = .ok (.aload_n 0, 1) := by decide +kernel
theorem dX3_isAhead_104 : decode cX3_isAhead 104 = .ok (.getfield 15, 3) := by decide +kernel
theorem dX3_isAhead_107 : decode cX3_isAhead 107 = .ok (.iload_n 2, 1) := by decide +kernel
theorem dX3_isAhead_108 : decode cX3_isAhead 108 = .ok (.iaload, 1) := by decide +kernel
theorem dX3_isAhead_109 : decode cX3_isAhead 109 = .ok (.invokevirtual 84, 3) := by decide +kernel
theorem dX3_isAhead_112 : decode cX3_isAhead 112 = .ok (.istore 4, 2) := by decide +kernel
theorem dX3_isAhead_114 : decode cX3_isAhead 114 = .ok (.iload_n 3, 1) := by decide +kernel
theorem dX3_isAhead_115 : decode cX3_isAhead 115 = .ok (.iload 4, 2) := by decide +kernel
theorem dX3_isAhead_117 : decode cX3_isAhead 117 = .ok (.if_icmp .eq 15, 3) := by decide +kernel
theorem dX3_isAhead_120 : decode cX3_isAhead 120 = .ok (.iload_n 3, 1) := by decide +kernel
theorem dX3_isAhead_121 : decode cX3_isAhead 121 = .ok (.iload 4, 2) := by decide +kernel
theorem dX3_isAhead_123 : decode cX3_isAhead 123 = .ok (.if_icmp .ge 7, 3) := by decide +kernel
theorem dX3_isAhead_126 : decode cX3_isAhead 126 = .ok (.iconst 1, 1) := by decide +kernel
theorem dX3_isAhead_127 : decode cX3_isAhead 127 = .ok (.goto 4, 3) := by decide +kernel
theorem dX3_isAhead_130 : decode cX3_isAhead 130 = .ok (.iconst 0, 1) := by decide +kernel
theorem dX3_isAhead_131 : decode cX3_isAhead 131 = .ok (.ireturn, 1) := by decide +kernel
theorem dX3_isAhead_132 : decode cX3_isAhead 132 = .ok (.aload_n 0, 1) := by decide +kernel
theorem dX3_isAhead_133 : decode cX3_isAhead 133 = .ok (.getfield 28, 3) := by decide +kernel
theorem dX3_isAhead_136 : decode cX3_isAhead 136 = .ok (.iload_n 1, 1) := by decide +kernel
theorem dX3_isAhead_137 : decode cX3_isAhead 137 = .ok (.iaload, 1) := by decide +kernel
theorem dX3_isAhead_138 : decode cX3_isAhead 138 = .ok (.aload_n 0, 1) := by decide +kernel
theorem dX3_isAhead_139 : decode cX3_isAhead 139 = .ok (.getfield 28, 3) := by decide +kernel
theorem dX3_isAhead_142 : decode cX3_isAhead 142 = .ok (.iload_n 2, 1) := by decide +kernel
theorem dX3_isAhead_143 : decode cX3_isAhead 143 = .ok (.iaload, 1) := by decide +kernel
theorem dX3_isAhead_144 : decode cX3_isAhead 144 = .ok (.if_icmp .eq 24, 3) := by decide +kernel
theorem dX3_isAhead_147 : decode cX3_isAhead 147 = .ok (.aload_n 0, 1) := by decide +kernel
theorem dX3_isAhead_148 : decode cX3_isAhead 148 = .ok (.getfield 28, 3) := by decide +kernel
theorem dX3_isAhead_151 : decode cX3_isAhead 151 = .ok (.iload_n 1, 1) := by decide +kernel
theorem dX3_isAhead_152 : decode cX3_isAhead 152 = .ok (.iaload, 1) := by decide +kernel
theorem dX3_isAhead_153 : decode cX3_isAhead 153 = .ok (.aload_n 0, 1) := by decide +kernel
theorem dX3_isAhead_154 : decode cX3_isAhead 154 = .ok (.getfield 28, 3) := by decide +kernel
theorem dX3_isAhead_157 : decode cX3_isAhead 157 = .ok (.iload_n 2, 1) := by decide +kernel
theorem dX3_isAhead_158 : decode cX3_isAhead 158 = .ok (.iaload, 1) := by decide +kernel
theorem dX3_isAhead_159 : decode cX3_isAhead 159 = .ok (.if_icmp .ge 7, 3) := by decide +kernel
theorem dX3_isAhead_162 : decode cX3_isAhead 162 = .ok (.iconst 1, 1) := by decide +kernel
theorem dX3_isAhead_163 : decode cX3_isAhead 163 = .ok (.goto 4, 3) := by decide +kernel
theorem dX3_isAhead_166 : decode cX3_isAhead 166 = .ok (.iconst 0, 1) := by decide +kernel
theorem dX3_isAhead_167 : decode cX3_isAhead 167 = .ok (.ireturn, 1) := by decide +kernel
theorem dX3_isAhead_168 : decode cX3_isAhead 168 = .ok (.iload_n 1, 1) := by decide +kernel
theorem dX3_isAhead_169 : decode cX3_isAhead 169 = .ok (.iload_n 2, 1) := by decide +kernel
theorem dX3_isAhead_170 : decode cX3_isAhead 170 = .ok (.if_icmp .ge 7, 3) := by decide +kernel
theorem dX3_isAhead_173 : decode cX3_isAhead 173 = .ok (.iconst 1, 1) := by decide +kernel
theorem dX3_isAhead_174 : decode cX3_isAhead 174 = .ok (.goto 4, 3) := by decide +kernel
theorem dX3_isAhead_177 : decode cX3_isAhead 177 = .ok (.iconst 0, 1) := by decide +kernel
theorem dX3_isAhead_178 : decode cX3_isAhead 178 = .ok (.ireturn, 1) := by decide +kernel
set_option maxRecDepth 20000 in
theorem ggX3_sortedRank_X3_insertInOrder : GoodIn wsX3_sortedRank wsX3_insertInOrder := goodIn_r _ [8, 3, 9, 10, 11, 7, 12, 13, 14, 15, 16, 17, 18, 19, 20, 21, 22, 23, 24, 25, 26, 27, 28, 29, 30, 31, 32, 33, 34, 35, 36, 37, 38, 39, 40, 41, 42, 43, 44, 45, 46, 47] (by decide +kernel) (by decide +kernel)
set_option maxRecDepth 20000 in
theorem gX3_sortedRank_X3_insertInOrder : GoodIn wsX3_sortedRank (wsV RX3 87 RX3 yX3_insertInOrder wsX3_insertInOrder) := goodIn_app (goodIn_of _ (by decide +kernel)) ggX3_sortedRank_X3_insertInOrder
theorem dX3_sortedRank_0 : decode cX3_sortedRank 0 = .ok (.iconst 0, 1) := by decide +kernel
theorem dX3_sortedRank_1 : decode cX3_sortedRank 1 = .ok (.istore_n 2, 1) := by decide +kernel
theorem dX3_sortedRank_2 : decode cX3_sortedRank 2 = .ok (.iload_n 2, 1) := by decide +kernel
theorem dX3_sortedRank_3 : decode cX3_sortedRank 3 = .ok (.aload_n 0, 1) := by decide +kernel
theorem dX3_sortedRank_4 : decode cX3_sortedRank 4 = .ok (.getfield 37, 3) := by decide +kernel
theorem dX3_sortedRank_7 : decode cX3_sortedRank 7 = .ok (.if_icmp .ge 14, 3) := by decide +kernel
theorem dX3_sortedRank_10 : decode cX3_sortedRank 10 = .ok (.aload_n 0, 1) := by decide +kernel
theorem dX3_sortedRank_11 : decode cX3_sortedRank 11 = .ok (.iload_n 2, 1) := by decide +kernel
theorem dX3_sortedRank_12 : decode cX3_sortedRank 12 = .ok (.invokevirtual 87, 3) := by decide +kernel
theorem dX3_sortedRank_15 : decode cX3_sortedRank 15 = .ok (.iinc 2 1, 3) := by decide +kernel
theorem dX3_sortedRank_18 : decode cX3_sortedRank 18 = .ok (.goto (-16), 3) := by decide +kernel
theorem dX3_sortedRank_21 : decode cX3_sortedRank 21 = .ok (.iconst 0, 1) := by decide +kernel
theorem dX3_sortedRank_22 : decode cX3_sortedRank 22 = .ok (.istore_n 2, 1) := by decide +kernel
theorem dX3_sortedRank_23 : decode cX3_sortedRank 23 = .ok (.iload_n 2, 1) := by decide +kernel
theorem dX3_sortedRank_24 : decode cX3_sortedRank 24 = .ok (.aload_n 0, 1) := by decide +kernel
theorem dX3_sortedRank_25 : decode cX3_sortedRank 25 = .ok (.getfield 37, 3) := by decide +kernel
theorem dX3_sortedRank_28 : decode cX3_sortedRank 28 = .ok (.if_icmp .ge 21, 3) := by decide +kernel
theorem dX3_sortedRank_31 : decode cX3_sortedRank 31 = .ok (.aload_n 0, 1) := by decide +kernel
theorem dX3_sortedRank_32 : decode cX3_sortedRank 32 = .ok (.getfield 34, 3) := by decide +kernel
theorem dX3_sortedRank_35 : decode cX3_sortedRank 35 = .ok (.aload_n 0, 1) := by decide +kernel
theorem dX3_sortedRank_36 : decode cX3_sortedRank 36 = .ok (.getfield 31, 3) := by decide +kernel
theorem dX3_sortedRank_39 : decode cX3_sortedRank 39 = .ok (.iload_n 2, 1) := by decide +kernel
theorem dX3_sortedRank_40 : decode cX3_sortedRank 40 = .ok (.iaload, 1) := by decide +kernel
theorem dX3_sortedRank_41 : decode cX3_sortedRank 41 = .ok (.iload_n 2, 1) := by decide +kernel
theorem dX3_sortedRank_42 : decode cX3_sortedRank 42 = .ok (.iastore, 1) := by decide +kernel
theorem dX3_sortedRank_43 : decode cX3_sortedRank 43 = .ok (.iinc 2 1, 3) := by decide +kernel
theorem dX3_sortedRank_46 : decode cX3_sortedRank 46 = .ok (.goto (-23), 3) := by decide +kernel
theorem dX3_sortedRank_49 : decode cX3_sortedRank 49 = .ok (.aload_n 0, 1) := by decide +kernel
theorem dX3_sortedRank_50 : decode cX3_sortedRank 50 = .ok (.getfield 34, 3) := by decide +kernel
theorem dX3_sortedRank_53 : decode cX3_sortedRank 53 = .ok (.iload_n 1, 1) := by decide +kernel
theorem dX3_sortedRank_54 : decode cX3_sortedRank 54 = .ok (.iaload, 1) := by decide +kernel
theorem dX3_sortedRank_55 : decode cX3_sortedRank 55 = .ok (.ireturn, 1) := by decide +kernel
set_option maxRecDepth 20000 in
theorem ggX3_insertInOrder_X3_isAhead : GoodIn wsX3_insertInOrder wsX3_isAhead := goodIn_r _ [6, 7, 8, 9, 10, 11, 12, 5, 13, 14, 15, 16, 17, 18, 19, 20, 21, 22, 23, 24, 25, 26, 27, 28, 29, 30, 31, 32, 33, 34, 35, 36, 37, 38, 39, 40, 41] (by decide +kernel) (by decide +kernel)
set_option maxRecDepth 20000 in
theorem gX3_insertInOrder_X3_isAhead : GoodIn wsX3_insertInOrder (wsV RX3 81 RX3 yX3_isAhead wsX3_isAhead) := goodIn_app (goodIn_of _ (by decide +kernel)) ggX3_insertInOrder_X3_isAhead
theorem dX3_insertInOrder_0 : decode cX3_insertInOrder 0 = .ok (.iload_n 1, 1) := by decide +kernel
theorem dX3_insertInOrder_1 : decode cX3_insertInOrder 1 = .ok (.istore_n 2, 1) := by decide +kernel
theorem dX3_insertInOrder_2 : decode cX3_insertInOrder 2 = .ok (.iload_n 2, 1) := by decide +kernel
theorem dX3_insertInOrder_3 : decode cX3_insertInOrder 3 = .ok (.ifCond .le 39, 3) := by decide +kernel
theorem dX3_insertInOrder_6 : decode cX3_insertInOrder 6 = .ok (.aload_n 0, 1) := by decide +kernel
theorem dX3_insertInOrder_7 : decode cX3_insertInOrder 7 = .ok (.iload_n 1, 1) := by decide +kernel
theorem dX3_insertInOrder_8 : decode cX3_insertInOrder 8 = .ok (.aload_n 0, 1) := by decide +kernel
theorem dX3_insertInOrder_9 : decode cX3_insertInOrder 9 = .ok (.getfield 31, 3) := by decide +kernel
theorem dX3_insertInOrder_12 : decode cX3_insertInOrder 12 = .ok (.iload_n 2, 1) := by decide +kernel
theorem dX3_insertInOrder_13 : decode cX3_insertInOrder 13 = .ok (.iconst 1, 1) := by decide +kernel
theorem dX3_insertInOrder_14 : decode cX3_insertInOrder 14 = .ok (.isub, 1) := by decide +kernel
theorem dX3_insertInOrder_15 : decode cX3_insertInOrder 15 = .ok (.iaload, 1) := by decide +kernel
theorem dX3_insertInOrder_16 : decode cX3_insertInOrder 16 = .ok (.invokevirtual 81, 3) := by decide +kernel
theorem dX3_insertInOrder_19 : decode cX3_insertInOrder 19 = .ok (.ifCond .eq 23, 3) := by decide +kernel
theorem dX3_insertInOrder_22 : decode cX3_insertInOrder 22 = .ok (.aload_n 0, 1) := by decide +kernel
theorem dX3_insertInOrder_23 : decode cX3_insertInOrder 23 = .ok (.getfield 31, 3) := by decide +kernel
theorem dX3_insertInOrder_26 : decode cX3_insertInOrder 26 = .ok (.iload_n 2, 1) := by decide +kernel
theorem dX3_insertInOrder_27 : decode cX3_insertInOrder 27 = .ok (.aload_n 0, 1) := by decide +kernel
theorem dX3_insertInOrder_28 : decode cX3_insertInOrder 28 = .ok (.getfield 31, 3) := by decide +kernel
theorem dX3_insertInOrder_31 : decode cX3_insertInOrder 31 = .ok (.iload_n 2, 1) := by decide +kernel
theorem dX3_insertInOrder_32 : decode cX3_insertInOrder 32 = .ok (.iconst 1, 1) := by decide +kernel
theorem dX3_insertInOrder_33 : decode cX3_insertInOrder 33 = .ok (.isub, 1) := by decide +kernel
theorem dX3_insertInOrder_34 : decode cX3_insertInOrder 34 = .ok (.iaload, 1) := by decide +kernel
theorem dX3_insertInOrder_35 : decode cX3_insertInOrder 35 = .ok (.iastore, 1) := by decide +kernel
theorem dX3_insertInOrder_36 : decode cX3_insertInOrder 36 = .ok (.iinc 2 (-1), 3) := by decide +kernel
theorem dX3_insertInOrder_39 : decode cX3_insertInOrder 39 = .ok (.goto (-37), 3) := by decide +kernel
theorem dX3_insertInOrder_42 : decode cX3_insertInOrder 42 = .ok (.aload_n 0, 1) := by decide +kernel
theorem dX3_insertInOrder_43 : decode cX3_insertInOrder 43 = .ok (.getfield 31, 3) := by decide +kernel
theorem dX3_insertInOrder_46 : decode cX3_insertInOrder 46 = .ok (.iload_n 2, 1) := by decide +kernel
theorem dX3_insertInOrder_47 : decode cX3_insertInOrder 47 = .ok (.iload_n 1, 1) := by decide +kernel
theorem dX3_insertInOrder_48 : decode cX3_insertInOrder 48 = .ok (.iastore, 1) := by decide +kernel
theorem dX3_insertInOrder_49 : decode cX3_insertInOrder 49 = .ok (.return_, 1) := by decide +kernel
set_option maxRecDepth 20000 in
theorem ggX3_leadOver_X3_countAhead : GoodIn wsX3_leadOver wsX3_countAhead := goodIn_r _ [10, 1, 11, 12, 13, 9, 14, 15, 16, 17, 18, 19, 20, 21, 22, 23, 24, 25, 26, 27, 28, 29, 30, 31, 32, 33, 34, 39, 40, 41, 42, 43, 44, 45, 46, 47, 48, 49, 50, 51, 52, 53] (by decide +kernel) (by decide +kernel)
set_option maxRecDepth 20000 in
theorem gX3_leadOver_X3_countAhead : GoodIn wsX3_leadOver (wsV RX3 91 RX3 yX3_countAhead wsX3_countAhead) := goodIn_app (goodIn_of _ (by decide +kernel)) ggX3_leadOver_X3_countAhead
set_option maxRecDepth 20000 in
theorem ggX3_leadOver_X3_wayDone : GoodIn wsX3_leadOver wsX3_wayDone := goodIn_r _ [38, 16, 17, 29, 30, 31, 32, 33, 34, 24, 25, 26, 9, 27, 22, 28, 39, 40, 41, 42, 43, 44, 45, 46, 47, 48, 49, 50, 51, 52, 53] (by decide +kernel) (by decide +kernel)
set_option maxRecDepth 20000 in
theorem gX3_leadOver_X3_wayDone : GoodIn wsX3_leadOver (wsV RX3 94 RX3 yX3_wayDone wsX3_wayDone) := goodIn_app (goodIn_of _ (by decide +kernel)) ggX3_leadOver_X3_wayDone
theorem dX3_leadOver_0 : decode cX3_leadOver 0 = .ok (.iconst 0, 1) := by decide +kernel
theorem dX3_leadOver_1 : decode cX3_leadOver 1 = .ok (.istore_n 2, 1) := by decide +kernel
theorem dX3_leadOver_2 : decode cX3_leadOver 2 = .ok (.iconst 0, 1) := by decide +kernel
theorem dX3_leadOver_3 : decode cX3_leadOver 3 = .ok (.istore_n 3, 1) := by decide +kernel
theorem dX3_leadOver_4 : decode cX3_leadOver 4 = .ok (.iload_n 3, 1) := by decide +kernel
theorem dX3_leadOver_5 : decode cX3_leadOver 5 = .ok (.aload_n 0, 1) := by decide +kernel
theorem dX3_leadOver_6 : decode cX3_leadOver 6 = .ok (.getfield 37, 3) := by decide +kernel
theorem dX3_leadOver_9 : decode cX3_leadOver 9 = .ok (.if_icmp .ge 29, 3) := by decide +kernel
theorem dX3_leadOver_12 : decode cX3_leadOver 12 = .ok (.aload_n 0, 1) := by decide +kernel
theorem dX3_leadOver_13 : decode cX3_leadOver 13 = .ok (.iload_n 3, 1) := by decide +kernel
theorem dX3_leadOver_14 : decode cX3_leadOver 14 = .ok (.invokevirtual 91, 3) := by decide +kernel
theorem dX3_leadOver_17 : decode cX3_leadOver 17 = .ok (.ifCond .ne 15, 3) := by decide +kernel
theorem dX3_leadOver_20 : decode cX3_leadOver 20 = .ok (.aload_n 0, 1) := by decide +kernel
theorem dX3_leadOver_21 : decode cX3_leadOver 21 = .ok (.iload_n 3, 1) := by decide +kernel
theorem dX3_leadOver_22 : decode cX3_leadOver 22 = .ok (.invokevirtual 94, 3) := by decide +kernel
theorem dX3_leadOver_25 : decode cX3_leadOver 25 = .ok (.aload_n 0, 1) := by decide +kernel
theorem dX3_leadOver_26 : decode cX3_leadOver 26 = .ok (.iload_n 1, 1) := by decide +kernel
theorem dX3_leadOver_27 : decode cX3_leadOver 27 = .ok (.invokevirtual 94, 3) := by decide +kernel
theorem dX3_leadOver_30 : decode cX3_leadOver 30 = .ok (.isub, 1) := by decide +kernel
theorem dX3_leadOver_31 : decode cX3_leadOver 31 = .ok (.istore_n 2, 1) := by decide +kernel
theorem dX3_leadOver_32 : decode cX3_leadOver 32 = .ok (.iinc 3 1, 3) := by decide +kernel
theorem dX3_leadOver_35 : decode cX3_leadOver 35 = .ok (.goto (-31), 3) := by decide +kernel
theorem dX3_leadOver_38 : decode cX3_leadOver 38 = .ok (.iload_n 2, 1) := by decide +kernel
theorem dX3_leadOver_39 : decode cX3_leadOver 39 = .ok (.iconst 0, 1) := by decide +kernel
theorem dX3_leadOver_40 : decode cX3_leadOver 40 = .ok (.invokestatic 97, 3) := by decide +kernel
theorem dX3_leadOver_43 : decode cX3_leadOver 43 = .ok (.ireturn, 1) := by decide +kernel
set_option maxRecDepth 20000 in
theorem ggX3_wayDone_X4_restOf : GoodIn wsX3_wayDone wsX4_restOf := goodIn_r _ [7, 8, 27, 28, 29, 30] (by decide +kernel) (by decide +kernel)
set_option maxRecDepth 20000 in
theorem gX3_wayDone_X4_restOf : GoodIn wsX3_wayDone (wsV RX3 84 RX4 yX4_restOf wsX4_restOf) := goodIn_app (goodIn_of _ (by decide +kernel)) ggX3_wayDone_X4_restOf
set_option maxRecDepth 20000 in
theorem ggX3_wayDone_X3_netLaps : GoodIn wsX3_wayDone wsX3_netLaps := goodIn_r _ [13, 14, 15, 16, 17, 18, 19, 20, 21, 22, 23, 24, 25, 26] (by decide +kernel) (by decide +kernel)
set_option maxRecDepth 20000 in
theorem gX3_wayDone_X3_netLaps : GoodIn wsX3_wayDone (wsV RX3 57 RX3 yX3_netLaps wsX3_netLaps) := goodIn_app (goodIn_of _ (by decide +kernel)) ggX3_wayDone_X3_netLaps
theorem dX3_wayDone_0 : decode cX3_wayDone 0 = .ok (.aload_n 0, 1) := by decide +kernel
theorem dX3_wayDone_1 : decode cX3_wayDone 1 = .ok (.getfield 9, 3) := by decide +kernel
theorem dX3_wayDone_4 : decode cX3_wayDone 4 = .ok (.iconst 0, 1) := by decide +kernel
theorem dX3_wayDone_5 : decode cX3_wayDone 5 = .ok (.invokevirtual 84, 3) := by decide +kernel
theorem dX3_wayDone_8 : decode cX3_wayDone 8 = .ok (.istore_n 2, 1) := by decide +kernel
theorem dX3_wayDone_9 : decode cX3_wayDone 9 = .ok (.aload_n 0, 1) := by decide +kernel
theorem dX3_wayDone_10 : decode cX3_wayDone 10 = .ok (.iload_n 1, 1) := by decide +kernel
theorem dX3_wayDone_11 : decode cX3_wayDone 11 = .ok (.invokevirtual 57, 3) := by decide +kernel
theorem dX3_wayDone_14 : decode cX3_wayDone 14 = .ok (.iload_n 2, 1) := by decide +kernel
theorem dX3_wayDone_15 : decode cX3_wayDone 15 = .ok (.imul, 1) := by decide +kernel
theorem dX3_wayDone_16 : decode cX3_wayDone 16 = .ok (.istore_n 3, 1) := by decide +kernel
theorem dX3_wayDone_17 : decode cX3_wayDone 17 = .ok (.aload_n 0, 1) := by decide +kernel
theorem dX3_wayDone_18 : decode cX3_wayDone 18 = .ok (.getfield 15, 3) := by decide +kernel
theorem dX3_wayDone_21 : decode cX3_wayDone 21 = .ok (.iload_n 1, 1) := by decide +kernel
theorem dX3_wayDone_22 : decode cX3_wayDone 22 = .ok (.iaload, 1) := by decide +kernel
theorem dX3_wayDone_23 : decode cX3_wayDone 23 = .ok (.ifCond .eq 21, 3) := by decide +kernel
theorem dX3_wayDone_26 : decode cX3_wayDone 26 = .ok (.iload_n 3, 1) := by decide +kernel
theorem dX3_wayDone_27 : decode cX3_wayDone 27 = .ok (.iload_n 2, 1) := by decide +kernel
theorem dX3_wayDone_28 : decode cX3_wayDone 28 = .ok (.aload_n 0, 1) := by decide +kernel
theorem dX3_wayDone_29 : decode cX3_wayDone 29 = .ok (.getfield 9, 3) := by decide +kernel
theorem dX3_wayDone_32 : decode cX3_wayDone 32 = .ok (.aload_n 0, 1) := by decide +kernel
theorem dX3_wayDone_33 : decode cX3_wayDone 33 = .ok (.getfield 15, 3) := by decide +kernel
theorem dX3_wayDone_36 : decode cX3_wayDone 36 = .ok (.iload_n 1, 1) := by decide +kernel
theorem dX3_wayDone_37 : decode cX3_wayDone 37 = .ok (.iaload, 1) := by decide +kernel
theorem dX3_wayDone_38 : decode cX3_wayDone 38 = .ok (.invokevirtual 84, 3) := by decide +kernel
theorem dX3_wayDone_41 : decode cX3_wayDone 41 = .ok (.isub, 1) := by decide +kernel
theorem dX3_wayDone_42 : decode cX3_wayDone 42 = .ok (.iadd, 1) := by decide +kernel
theorem dX3_wayDone_43 : decode cX3_wayDone 43 = .ok (.istore_n 3, 1) := by decide +kernel
theorem dX3_wayDone_44 : decode cX3_wayDone 44 = .ok (.iload_n 3, 1) := by decide +kernel
theorem dX3_wayDone_45 : decode cX3_wayDone 45 = .ok (.ireturn, 1) := by decide +kernel
theorem dX4_init_0 : decode cX4_init 0 = .ok (.aload_n 0, 1) := by decide +kernel
theorem dX4_init_1 : decode cX4_init 1 = .ok (.invokespecial 3, 3) := by decide +kernel
theorem dX4_init_4 : decode cX4_init 4 = .ok (.aload_n 0, 1) := by decide +kernel
theorem dX4_init_5 : decode cX4_init 5 = .ok (.sipush 144, 3) := by decide +kernel
theorem dX4_init_8 : decode cX4_init 8 = .ok (.newarray .int, 2) := by decide +kernel
theorem dX4_init_10 : decode cX4_init 10 = .ok (.putfield 9, 3) := by decide +kernel
theorem dX4_init_13 : decode cX4_init 13 = .ok (.aload_n 0, 1) := by decide +kernel
theorem dX4_init_14 : decode cX4_init 14 = .ok (.bipush 12, 2) := by decide +kernel
theorem dX4_init_16 : decode cX4_init 16 = .ok (.newarray .int, 2) := by decide +kernel
theorem dX4_init_18 : decode cX4_init 18 = .ok (.putfield 15, 3) := by decide +kernel
theorem dX4_init_21 : decode cX4_init 21 = .ok (.aload_n 0, 1) := by decide +kernel
theorem dX4_init_22 : decode cX4_init 22 = .ok (.getfield 15, 3) := by decide +kernel
theorem dX4_init_25 : decode cX4_init 25 = .ok (.iconst 0, 1) := by decide +kernel
theorem dX4_init_26 : decode cX4_init 26 = .ok (.iconst (-1), 1) := by decide +kernel
theorem dX4_init_27 : decode cX4_init 27 = .ok (.iastore, 1) := by decide +kernel
theorem dX4_init_28 : decode cX4_init 28 = .ok (.aload_n 0, 1) := by decide +kernel
theorem dX4_init_29 : decode cX4_init 29 = .ok (.iconst 1, 1) := by decide +kernel
theorem dX4_init_30 : decode cX4_init 30 = .ok (.putfield 18, 3) := by decide +kernel
theorem dX4_init_33 : decode cX4_init 33 = .ok (.aload_n 0, 1) := by decide +kernel
theorem dX4_init_34 : decode cX4_init 34 = .ok (.iconst 0, 1) := by decide +kernel
theorem dX4_init_35 : decode cX4_init 35 = .ok (.putfield 22, 3) := by decide +kernel
theorem dX4_init_38 : decode cX4_init 38 = .ok (.return_, 1) := by decide +kernel
theorem dX4_gateCount_0 : decode cX4_gateCount 0 = .ok (.aload_n 0, 1) := by decide +kernel
theorem dX4_gateCount_1 : decode cX4_gateCount 1 = .ok (.getfield 18, 3) := by decide +kernel
theorem dX4_gateCount_4 : decode cX4_gateCount 4 = .ok (.ireturn, 1) := by decide +kernel
theorem dX4_isFull_0 : decode cX4_isFull 0 = .ok (.aload_n 0, 1) := by decide +kernel
theorem dX4_isFull_1 : decode cX4_isFull 1 = .ok (.getfield 18, 3) := by decide +kernel
theorem dX4_isFull_4 : decode cX4_isFull 4 = .ok (.bipush 12, 2) := by decide +kernel
theorem dX4_isFull_6 : decode cX4_isFull 6 = .ok (.if_icmp .lt 7, 3) := by decide +kernel
theorem dX4_isFull_9 : decode cX4_isFull 9 = .ok (.iconst 1, 1) := by decide +kernel
theorem dX4_isFull_10 : decode cX4_isFull 10 = .ok (.goto 4, 3) := by decide +kernel
theorem dX4_isFull_13 : decode cX4_isFull 13 = .ok (.iconst 0, 1) := by decide +kernel
theorem dX4_isFull_14 : decode cX4_isFull 14 = .ok (.ireturn, 1) := by decide +kernel
theorem dX4_appendGate_0 : decode cX4_appendGate 0 = .ok (.aload_n 0, 1) := by decide +kernel
theorem dX4_appendGate_1 : decode cX4_appendGate 1 = .ok (.getfield 18, 3) := by decide +kernel
theorem dX4_appendGate_4 : decode cX4_appendGate 4 = .ok (.istore_n 2, 1) := by decide +kernel
theorem dX4_appendGate_5 : decode cX4_appendGate 5 = .ok (.aload_n 0, 1) := by decide +kernel
theorem dX4_appendGate_6 : decode cX4_appendGate 6 = .ok (.getfield 15, 3) := by decide +kernel
theorem dX4_appendGate_9 : decode cX4_appendGate 9 = .ok (.iload_n 2, 1) := by decide +kernel
theorem dX4_appendGate_10 : decode cX4_appendGate 10 = .ok (.iconst (-1), 1) := by decide +kernel
theorem dX4_appendGate_11 : decode cX4_appendGate 11 = .ok (.iastore, 1) := by decide +kernel
theorem dX4_appendGate_12 : decode cX4_appendGate 12 = .ok (.iload_n 1, 1) := by decide +kernel
theorem dX4_appendGate_13 : decode cX4_appendGate 13 = .ok (.ifCond .eq 15, 3) := by decide +kernel
theorem dX4_appendGate_16 : decode cX4_appendGate 16 = .ok (.aload_n 0, 1) := by decide +kernel
theorem dX4_appendGate_17 : decode cX4_appendGate 17 = .ok (.dup, 1) := by decide +kernel
theorem dX4_appendGate_18 : decode cX4_appendGate 18 = .ok (.getfield 22, 3) := by decide +kernel
theorem dX4_appendGate_21 : decode cX4_appendGate 21 = .ok (.iconst 1, 1) := by decide +kernel
theorem dX4_appendGate_22 : decode cX4_appendGate 22 = .ok (.iload_n 2, 1) := by decide +kernel
theorem dX4_appendGate_23 : decode cX4_appendGate 23 = .ok (.ishl, 1) := by decide +kernel
theorem dX4_appendGate_24 : decode cX4_appendGate 24 = .ok (.ior, 1) := by decide +kernel
theorem dX4_appendGate_25 : decode cX4_appendGate 25 = .ok (.putfield 22, 3) := by decide +kernel
theorem dX4_appendGate_28 : decode cX4_appendGate 28 = .ok (.aload_n 0, 1) := by decide +kernel
theorem dX4_appendGate_29 : decode cX4_appendGate 29 = .ok (.dup, 1) := by decide +kernel
theorem dX4_appendGate_30 : decode cX4_appendGate 30 = .ok (.getfield 18, 3) := by decide +kernel
theorem dX4_appendGate_33 : decode cX4_appendGate 33 = .ok (.iconst 1, 1) := by decide +kernel
theorem dX4_appendGate_34 : decode cX4_appendGate 34 = .ok (.iadd, 1) := by decide +kernel
theorem dX4_appendGate_35 : decode cX4_appendGate 35 = .ok (.putfield 18, 3) := by decide +kernel
theorem dX4_appendGate_38 : decode cX4_appendGate 38 = .ok (.iload_n 2, 1) := by decide +kernel
theorem dX4_appendGate_39 : decode cX4_appendGate 39 = .ok (.ireturn, 1) := by decide +kernel
theorem dX4_needed_0 : decode cX4_needed 0 = .ok (.aload_n 0, 1) := by decide +kernel
theorem dX4_needed_1 : decode cX4_needed 1 = .ok (.getfield 22, 3) := by decide +kernel
theorem dX4_needed_4 : decode cX4_needed 4 = .ok (.ireturn, 1) := by decide +kernel
theorem dX4_isNeeded_0 : decode cX4_isNeeded 0 = .ok (.aload_n 0, 1) := by decide +kernel
theorem dX4_isNeeded_1 : decode cX4_isNeeded 1 = .ok (.getfield 22, 3) := by decide +kernel
theorem dX4_isNeeded_4 : decode cX4_isNeeded 4 = .ok (.iconst 1, 1) := by decide +kernel
theorem dX4_isNeeded_5 : decode cX4_isNeeded 5 = .ok (.iload_n 1, 1) := by decide +kernel
theorem dX4_isNeeded_6 : decode cX4_isNeeded 6 = .ok (.ishl, 1) := by decide +kernel
theorem dX4_isNeeded_7 : decode cX4_isNeeded 7 = .ok (.iand, 1) := by decide +kernel
theorem dX4_isNeeded_8 : decode cX4_isNeeded 8 = .ok (.ifCond .eq 7, 3) := by decide +kernel
theorem dX4_isNeeded_11 : decode cX4_isNeeded 11 = .ok (.iconst 1, 1) := by decide +kernel
theorem dX4_isNeeded_12 : decode cX4_isNeeded 12 = .ok (.goto 4, 3) := by decide +kernel
theorem dX4_isNeeded_15 : decode cX4_isNeeded 15 = .ok (.iconst 0, 1) := by decide +kernel
theorem dX4_isNeeded_16 : decode cX4_isNeeded 16 = .ok (.ireturn, 1) := by decide +kernel
theorem dX4_wayLength_0 : decode cX4_wayLength 0 = .ok (.aload_n 0, 1) := by decide +kernel
theorem dX4_wayLength_1 : decode cX4_wayLength 1 = .ok (.getfield 9, 3) := by decide +kernel
theorem dX4_wayLength_4 : decode cX4_wayLength 4 = .ok (.iload_n 1, 1) := by decide +kernel
theorem dX4_wayLength_5 : decode cX4_wayLength 5 = .ok (.bipush 12, 2) := by decide +kernel
theorem dX4_wayLength_7 : decode cX4_wayLength 7 = .ok (.imul, 1) := by decide +kernel
theorem dX4_wayLength_8 : decode cX4_wayLength 8 = .ok (.iload_n 2, 1) := by decide +kernel
theorem dX4_wayLength_9 : decode cX4_wayLength 9 = .ok (.iadd, 1) := by decide +kernel
theorem dX4_wayLength_10 : decode cX4_wayLength 10 = .ok (.iaload, 1) := by decide +kernel
theorem dX4_wayLength_11 : decode cX4_wayLength 11 = .ok (.ireturn, 1) := by decide +kernel
set_option maxRecDepth 20000 in
theorem ggX4_leads_X4_wayLength : GoodIn wsX4_leads wsX4_wayLength := goodIn_r _ [5, 6, 7, 8, 9, 10] (by decide +kernel) (by decide +kernel)
set_option maxRecDepth 20000 in
theorem gX4_leads_X4_wayLength : GoodIn wsX4_leads (wsV RX4 25 RX4 yX4_wayLength wsX4_wayLength) := goodIn_app (goodIn_of _ (by decide +kernel)) ggX4_leads_X4_wayLength
theorem dX4_leads_0 : decode cX4_leads 0 = .ok (.aload_n 0, 1) := by decide +kernel
theorem dX4_leads_1 : decode cX4_leads 1 = .ok (.iload_n 1, 1) := by decide +kernel
theorem dX4_leads_2 : decode cX4_leads 2 = .ok (.iload_n 2, 1) := by decide +kernel
theorem dX4_leads_3 : decode cX4_leads 3 = .ok (.invokevirtual 25, 3) := by decide +kernel
theorem dX4_leads_6 : decode cX4_leads 6 = .ok (.ifCond .le 7, 3) := by decide +kernel
theorem dX4_leads_9 : decode cX4_leads 9 = .ok (.iconst 1, 1) := by decide +kernel
theorem dX4_leads_10 : decode cX4_leads 10 = .ok (.goto 4, 3) := by decide +kernel
theorem dX4_leads_13 : decode cX4_leads 13 = .ok (.iconst 0, 1) := by decide +kernel
theorem dX4_leads_14 : decode cX4_leads 14 = .ok (.ireturn, 1) := by decide +kernel
set_option maxRecDepth 20000 in
theorem ggX4_joins_X4_leads : GoodIn wsX4_joins wsX4_leads := goodIn_r _ [5, 6, 7, 8, 4, 9, 10, 11, 12, 13, 14] (by decide +kernel) (by decide +kernel)
set_option maxRecDepth 20000 in
theorem gX4_joins_X4_leads : GoodIn wsX4_joins (wsV RX4 29 RX4 yX4_leads wsX4_leads) := goodIn_app (goodIn_of _ (by decide +kernel)) ggX4_joins_X4_leads
theorem dX4_joins_0 : decode cX4_joins 0 = .ok (.aload_n 0, 1) := by decide +kernel
theorem dX4_joins_1 : decode cX4_joins 1 = .ok (.iload_n 1, 1) := by decide +kernel
theorem dX4_joins_2 : decode cX4_joins 2 = .ok (.iload_n 2, 1) := by decide +kernel
theorem dX4_joins_3 : decode cX4_joins 3 = .ok (.invokevirtual 29, 3) := by decide +kernel
theorem dX4_joins_6 : decode cX4_joins 6 = .ok (.ifCond .ne 12, 3) := by decide +kernel
theorem dX4_joins_9 : decode cX4_joins 9 = .ok (.aload_n 0, 1) := by decide +kernel
theorem dX4_joins_10 : decode cX4_joins 10 = .ok (.iload_n 2, 1) := by decide +kernel
theorem dX4_joins_11 : decode cX4_joins 11 = .ok (.iload_n 1, 1) := by decide +kernel
theorem dX4_joins_12 : decode cX4_joins 12 = .ok (.invokevirtual 29, 3) := by decide +kernel
theorem dX4_joins_15 : decode cX4_joins 15 = .ok (.ifCond .eq 7, 3) := by decide +kernel
theorem dX4_joins_18 : decode cX4_joins 18 = .ok (.iconst 1, 1) := by decide +kernel
theorem dX4_joins_19 : decode cX4_joins 19 = .ok (.goto 4, 3) := by decide +kernel
theorem dX4_joins_22 : decode cX4_joins 22 = .ok (.iconst 0, 1) := by decide +kernel
theorem dX4_joins_23 : decode cX4_joins 23 = .ok (.ireturn, 1) := by decide +kernel
set_option maxRecDepth 20000 in
theorem ggX4_layWay_X4_measureRests : GoodIn wsX4_layWay wsX4_measureRests := goodIn_r _ [6, 7, 8, 9, 10, 11, 5, 12, 13, 14, 15, 16, 17, 18, 19, 20, 21, 22, 23, 24, 1, 25, 26, 27, 28] (by decide +kernel) (by decide +kernel)
set_option maxRecDepth 20000 in
theorem gX4_layWay_X4_measureRests : GoodIn wsX4_layWay (wsV RX4 33 RX4 yX4_measureRests wsX4_measureRests) := goodIn_app (goodIn_of _ (by decide +kernel)) ggX4_layWay_X4_measureRests
theorem dX4_layWay_0 : decode cX4_layWay 0 = .ok (.aload_n 0, 1) := by decide +kernel
theorem dX4_layWay_1 : decode cX4_layWay 1 = .ok (.getfield 9, 3) := by decide +kernel
theorem dX4_layWay_4 : decode cX4_layWay 4 = .ok (.iload_n 1, 1) := by decide +kernel
theorem dX4_layWay_5 : decode cX4_layWay 5 = .ok (.bipush 12, 2) := by decide +kernel
theorem dX4_layWay_7 : decode cX4_layWay 7 = .ok (.imul, 1) := by decide +kernel
theorem dX4_layWay_8 : decode cX4_layWay 8 = .ok (.iload_n 2, 1) := by decide +kernel
theorem dX4_layWay_9 : decode cX4_layWay 9 = .ok (.iadd, 1) := by decide +kernel
theorem dX4_layWay_10 : decode cX4_layWay 10 = .ok (.iload_n 3, 1) := by decide +kernel
theorem dX4_layWay_11 : decode cX4_layWay 11 = .ok (.iastore, 1) := by decide +kernel
theorem dX4_layWay_12 : decode cX4_layWay 12 = .ok (.aload_n 0, 1) := by decide +kernel
theorem dX4_layWay_13 : decode cX4_layWay 13 = .ok (.invokevirtual 33, 3) := by decide +kernel
theorem dX4_layWay_16 : decode cX4_layWay 16 = .ok (.return_, 1) := by decide +kernel
theorem dX4_restOf_0 : decode cX4_restOf 0 = .ok (.aload_n 0, 1) := by decide +kernel
theorem dX4_restOf_1 : decode cX4_restOf 1 = .ok (.getfield 15, 3) := by decide +kernel
theorem dX4_restOf_4 : decode cX4_restOf 4 = .ok (.iload_n 1, 1) := by decide +kernel
theorem dX4_restOf_5 : decode cX4_restOf 5 = .ok (.iaload, 1) := by decide +kernel
theorem dX4_restOf_6 : decode cX4_restOf 6 = .ok (.ireturn, 1) := by decide +kernel
set_option maxRecDepth 20000 in
theorem ggX4_hasDeadEnd_X4_leadsOn : GoodIn wsX4_hasDeadEnd wsX4_leadsOn := goodIn_r _ [6, 1, 7, 8, 9, 5, 10, 11, 12, 13, 14, 15, 16, 17, 18, 19] (by decide +kernel) (by decide +kernel)
set_option maxRecDepth 20000 in
theorem gX4_hasDeadEnd_X4_leadsOn : GoodIn wsX4_hasDeadEnd (wsV RX4 36 RX4 yX4_leadsOn wsX4_leadsOn) := goodIn_app (goodIn_of _ (by decide +kernel)) ggX4_hasDeadEnd_X4_leadsOn
theorem dX4_hasDeadEnd_0 : decode cX4_hasDeadEnd 0 = .ok (.iconst 0, 1) := by decide +kernel
theorem dX4_hasDeadEnd_1 : decode cX4_hasDeadEnd 1 = .ok (.istore_n 1, 1) := by decide +kernel
theorem dX4_hasDeadEnd_2 : decode cX4_hasDeadEnd 2 = .ok (.iload_n 1, 1) := by decide +kernel
theorem dX4_hasDeadEnd_3 : decode cX4_hasDeadEnd 3 = .ok (.aload_n 0, 1) := by decide +kernel
theorem dX4_hasDeadEnd_4 : decode cX4_hasDeadEnd 4 = .ok (.getfield 18, 3) := by decide +kernel
