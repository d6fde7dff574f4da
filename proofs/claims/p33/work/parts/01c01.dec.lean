theorem dX4_hasDeadEnd_7 : decode cX4_hasDeadEnd 7 = .ok (.if_icmp .ge 19, 3) := by decide +kernel
theorem dX4_hasDeadEnd_10 : decode cX4_hasDeadEnd 10 = .ok (.aload_n 0, 1) := by decide +kernel
theorem dX4_hasDeadEnd_11 : decode cX4_hasDeadEnd 11 = .ok (.iload_n 1, 1) := by decide +kernel
theorem dX4_hasDeadEnd_12 : decode cX4_hasDeadEnd 12 = .ok (.invokevirtual 36, 3) := by decide +kernel
theorem dX4_hasDeadEnd_15 : decode cX4_hasDeadEnd 15 = .ok (.ifCond .ne 5, 3) := by decide +kernel
theorem dX4_hasDeadEnd_18 : decode cX4_hasDeadEnd 18 = .ok (.iconst 1, 1) := by decide +kernel
theorem dX4_hasDeadEnd_19 : decode cX4_hasDeadEnd 19 = .ok (.ireturn, 1) := by decide +kernel
theorem dX4_hasDeadEnd_20 : decode cX4_hasDeadEnd 20 = .ok (.iinc 1 1, 3) := by decide +kernel
theorem dX4_hasDeadEnd_23 : decode cX4_hasDeadEnd 23 = .ok (.goto (-21), 3) := by decide +kernel
theorem dX4_hasDeadEnd_26 : decode cX4_hasDeadEnd 26 = .ok (.iconst 0, 1) := by decide +kernel
theorem dX4_hasDeadEnd_27 : decode cX4_hasDeadEnd 27 = .ok (.ireturn, 1) := by decide +kernel
set_option maxRecDepth 20000 in
theorem ggX4_leadsOn_X4_leads : GoodIn wsX4_leadsOn wsX4_leads := goodIn_r _ [6, 7, 8, 9, 5, 10, 11, 12, 13, 14, 15] (by decide +kernel) (by decide +kernel)
set_option maxRecDepth 20000 in
theorem gX4_leadsOn_X4_leads : GoodIn wsX4_leadsOn (wsV RX4 29 RX4 yX4_leads wsX4_leads) := goodIn_app (goodIn_of _ (by decide +kernel)) ggX4_leadsOn_X4_leads
theorem dX4_leadsOn_0 : decode cX4_leadsOn 0 = .ok (.iconst 0, 1) := by decide +kernel
theorem dX4_leadsOn_1 : decode cX4_leadsOn 1 = .ok (.istore_n 2, 1) := by decide +kernel
theorem dX4_leadsOn_2 : decode cX4_leadsOn 2 = .ok (.iload_n 2, 1) := by decide +kernel
theorem dX4_leadsOn_3 : decode cX4_leadsOn 3 = .ok (.aload_n 0, 1) := by decide +kernel
theorem dX4_leadsOn_4 : decode cX4_leadsOn 4 = .ok (.getfield 18, 3) := by decide +kernel
theorem dX4_leadsOn_7 : decode cX4_leadsOn 7 = .ok (.if_icmp .ge 20, 3) := by decide +kernel
theorem dX4_leadsOn_10 : decode cX4_leadsOn 10 = .ok (.aload_n 0, 1) := by decide +kernel
theorem dX4_leadsOn_11 : decode cX4_leadsOn 11 = .ok (.iload_n 1, 1) := by decide +kernel
theorem dX4_leadsOn_12 : decode cX4_leadsOn 12 = .ok (.iload_n 2, 1) := by decide +kernel
theorem dX4_leadsOn_13 : decode cX4_leadsOn 13 = .ok (.invokevirtual 29, 3) := by decide +kernel
theorem dX4_leadsOn_16 : decode cX4_leadsOn 16 = .ok (.ifCond .eq 5, 3) := by decide +kernel
theorem dX4_leadsOn_19 : decode cX4_leadsOn 19 = .ok (.iconst 1, 1) := by decide +kernel
theorem dX4_leadsOn_20 : decode cX4_leadsOn 20 = .ok (.ireturn, 1) := by decide +kernel
theorem dX4_leadsOn_21 : decode cX4_leadsOn 21 = .ok (.iinc 2 1, 3) := by decide +kernel
theorem dX4_leadsOn_24 : decode cX4_leadsOn 24 = .ok (.goto (-22), 3) := by decide +kernel
theorem dX4_leadsOn_27 : decode cX4_leadsOn 27 = .ok (.iconst 0, 1) := by decide +kernel
theorem dX4_leadsOn_28 : decode cX4_leadsOn 28 = .ok (.ireturn, 1) := by decide +kernel
set_option maxRecDepth 20000 in
theorem ggX4_measureRests_X4_leastRest : GoodIn wsX4_measureRests wsX4_leastRest := goodIn_r _ [7, 1, 2, 8, 9, 10, 11, 12, 13, 14, 6, 15, 16, 17, 18, 19, 20, 21, 22, 23, 24] (by decide +kernel) (by decide +kernel)
set_option maxRecDepth 20000 in
theorem gX4_measureRests_X4_leastRest : GoodIn wsX4_measureRests (wsV RX4 40 RX4 yX4_leastRest wsX4_leastRest) := goodIn_app (goodIn_of _ (by decide +kernel)) ggX4_measureRests_X4_leastRest
theorem dX4_measureRests_0 : decode cX4_measureRests 0 = .ok (.aload_n 0, 1) := by decide +kernel
theorem dX4_measureRests_1 : decode cX4_measureRests 1 = .ok (.getfield 18, 3) := by decide +kernel
theorem dX4_measureRests_4 : decode cX4_measureRests 4 = .ok (.iconst 1, 1) := by decide +kernel
theorem dX4_measureRests_5 : decode cX4_measureRests 5 = .ok (.isub, 1) := by decide +kernel
theorem dX4_measureRests_6 : decode cX4_measureRests 6 = .ok (.istore_n 1, 1) := by decide +kernel
theorem dX4_measureRests_7 : decode cX4_measureRests 7 = .ok (.iload_n 1, 1) := by decide +kernel
theorem dX4_measureRests_8 : decode cX4_measureRests 8 = .ok (.ifCond .lt 20, 3) := by decide +kernel
theorem dX4_measureRests_11 : decode cX4_measureRests 11 = .ok (.aload_n 0, 1) := by decide +kernel
theorem dX4_measureRests_12 : decode cX4_measureRests 12 = .ok (.getfield 15, 3) := by decide +kernel
theorem dX4_measureRests_15 : decode cX4_measureRests 15 = .ok (.iload_n 1, 1) := by decide +kernel
theorem dX4_measureRests_16 : decode cX4_measureRests 16 = .ok (.aload_n 0, 1) := by decide +kernel
theorem dX4_measureRests_17 : decode cX4_measureRests 17 = .ok (.iload_n 1, 1) := by decide +kernel
theorem dX4_measureRests_18 : decode cX4_measureRests 18 = .ok (.invokevirtual 40, 3) := by decide +kernel
theorem dX4_measureRests_21 : decode cX4_measureRests 21 = .ok (.iastore, 1) := by decide +kernel
theorem dX4_measureRests_22 : decode cX4_measureRests 22 = .ok (.iinc 1 (-1), 3) := by decide +kernel
theorem dX4_measureRests_25 : decode cX4_measureRests 25 = .ok (.goto (-18), 3) := by decide +kernel
theorem dX4_measureRests_28 : decode cX4_measureRests 28 = .ok (.return_, 1) := by decide +kernel
set_option maxRecDepth 20000 in
theorem ggX4_leastRest_X4_leads : GoodIn wsX4_leastRest wsX4_leads := goodIn_r _ [11, 12, 13, 14, 10, 15, 16, 17, 18, 19, 20] (by decide +kernel) (by decide +kernel)
set_option maxRecDepth 20000 in
theorem gX4_leastRest_X4_leads : GoodIn wsX4_leastRest (wsV RX4 29 RX4 yX4_leads wsX4_leads) := goodIn_app (goodIn_of _ (by decide +kernel)) ggX4_leastRest_X4_leads
set_option maxRecDepth 20000 in
theorem ggX4_leastRest_X4_wayLength : GoodIn wsX4_leastRest wsX4_wayLength := goodIn_r _ [15, 16, 17, 18, 19, 20] (by decide +kernel) (by decide +kernel)
set_option maxRecDepth 20000 in
theorem gX4_leastRest_X4_wayLength : GoodIn wsX4_leastRest (wsV RX4 25 RX4 yX4_wayLength wsX4_wayLength) := goodIn_app (goodIn_of _ (by decide +kernel)) ggX4_leastRest_X4_wayLength
theorem dX4_leastRest_0 : decode cX4_leastRest 0 = .ok (.aload_n 0, 1) := by decide +kernel
theorem dX4_leastRest_1 : decode cX4_leastRest 1 = .ok (.iload_n 1, 1) := by decide +kernel
theorem dX4_leastRest_2 : decode cX4_leastRest 2 = .ok (.iconst 0, 1) := by decide +kernel
theorem dX4_leastRest_3 : decode cX4_leastRest 3 = .ok (.invokevirtual 29, 3) := by decide +kernel
theorem dX4_leastRest_6 : decode cX4_leastRest 6 = .ok (.ifCond .eq 12, 3) := by decide +kernel
theorem dX4_leastRest_9 : decode cX4_leastRest 9 = .ok (.aload_n 0, 1) := by decide +kernel
theorem dX4_leastRest_10 : decode cX4_leastRest 10 = .ok (.iload_n 1, 1) := by decide +kernel
theorem dX4_leastRest_11 : decode cX4_leastRest 11 = .ok (.iconst 0, 1) := by decide +kernel
theorem dX4_leastRest_12 : decode cX4_leastRest 12 = .ok (.invokevirtual 25, 3) := by decide +kernel
theorem dX4_leastRest_15 : decode cX4_leastRest 15 = .ok (.goto 4, 3) := by decide +kernel
theorem dX4_leastRest_18 : decode cX4_leastRest 18 = .ok (.iconst (-1), 1) := by decide +kernel
theorem dX4_leastRest_19 : decode cX4_leastRest 19 = .ok (.istore_n 2, 1) := by decide +kernel
theorem dX4_leastRest_20 : decode cX4_leastRest 20 = .ok (.iload_n 1, 1) := by decide +kernel
theorem dX4_leastRest_21 : decode cX4_leastRest 21 = .ok (.iconst 1, 1) := by decide +kernel
theorem dX4_leastRest_22 : decode cX4_leastRest 22 = .ok (.iadd, 1) := by decide +kernel
theorem dX4_leastRest_23 : decode cX4_leastRest 23 = .ok (.istore_n 3, 1) := by decide +kernel
theorem dX4_leastRest_24 : decode cX4_leastRest 24 = .ok (.iload_n 3, 1) := by decide +kernel
theorem dX4_leastRest_25 : decode cX4_leastRest 25 = .ok (.aload_n 0, 1) := by decide +kernel
theorem dX4_leastRest_26 : decode cX4_leastRest 26 = .ok (.getfield 18, 3) := by decide +kernel
theorem dX4_leastRest_29 : decode cX4_leastRest 29 = .ok (.if_icmp .ge 60, 3) := by decide +kernel
theorem dX4_leastRest_32 : decode cX4_leastRest 32 = .ok (.aload_n 0, 1) := by decide +kernel
theorem dX4_leastRest_33 : decode cX4_leastRest 33 = .ok (.iload_n 1, 1) := by decide +kernel
theorem dX4_leastRest_34 : decode cX4_leastRest 34 = .ok (.iload_n 3, 1) := by decide +kernel
theorem dX4_leastRest_35 : decode cX4_leastRest 35 = .ok (.invokevirtual 29, 3) := by decide +kernel
theorem dX4_leastRest_38 : decode cX4_leastRest 38 = .ok (.ifCond .eq 45, 3) := by decide +kernel
theorem dX4_leastRest_41 : decode cX4_leastRest 41 = .ok (.aload_n 0, 1) := by decide +kernel
theorem dX4_leastRest_42 : decode cX4_leastRest 42 = .ok (.getfield 15, 3) := by decide +kernel
theorem dX4_leastRest_45 : decode cX4_leastRest 45 = .ok (.iload_n 3, 1) := by decide +kernel
theorem dX4_leastRest_46 : decode cX4_leastRest 46 = .ok (.iaload, 1) := by decide +kernel
theorem dX4_leastRest_47 : decode cX4_leastRest 47 = .ok (.iconst (-1), 1) := by decide +kernel
theorem dX4_leastRest_48 : decode cX4_leastRest 48 = .ok (.if_icmp .eq 35, 3) := by decide +kernel
theorem dX4_leastRest_51 : decode cX4_leastRest 51 = .ok (.aload_n 0, 1) := by decide +kernel
theorem dX4_leastRest_52 : decode cX4_leastRest 52 = .ok (.iload_n 1, 1) := by decide +kernel
theorem dX4_leastRest_53 : decode cX4_leastRest 53 = .ok (.iload_n 3, 1) := by decide +kernel
theorem dX4_leastRest_54 : decode cX4_leastRest 54 = .ok (.invokevirtual 25, 3) := by decide +kernel
theorem dX4_leastRest_57 : decode cX4_leastRest 57 = .ok (.aload_n 0, 1) := by decide +kernel
theorem dX4_leastRest_58 : decode cX4_leastRest 58 = .ok (.getfield 15, 3) := by decide +kernel
theorem dX4_leastRest_61 : decode cX4_leastRest 61 = .ok (.iload_n 3, 1) := by decide +kernel
theorem dX4_leastRest_62 : decode cX4_leastRest 62 = .ok (.iaload, 1) := by decide +kernel
theorem dX4_leastRest_63 : decode cX4_leastRest 63 = .ok (.iadd, 1) := by decide +kernel
theorem dX4_leastRest_64 : decode cX4_leastRest 64 = .ok (.istore 4, 2) := by decide +kernel
theorem dX4_leastRest_66 : decode cX4_leastRest 66 = .ok (.iload_n 2, 1) := by decide +kernel
theorem dX4_leastRest_67 : decode cX4_leastRest 67 = .ok (.iconst (-1), 1) := by decide +kernel
theorem dX4_leastRest_68 : decode cX4_leastRest 68 = .ok (.if_icmp .ne 8, 3) := by decide +kernel
theorem dX4_leastRest_71 : decode cX4_leastRest 71 = .ok (.iload 4, 2) := by decide +kernel
theorem dX4_leastRest_73 : decode cX4_leastRest 73 = .ok (.goto 9, 3) := by decide +kernel
theorem dX4_leastRest_76 : decode cX4_leastRest 76 = .ok (.iload_n 2, 1) := by decide +kernel
theorem dX4_leastRest_77 : decode cX4_leastRest 77 = .ok (.iload 4, 2) := by decide +kernel
theorem dX4_leastRest_79 : decode cX4_leastRest 79 = .ok (.invokestatic 44, 3) := by decide +kernel
theorem dX4_leastRest_82 : decode cX4_leastRest 82 = .ok (.istore_n 2, 1) := by decide +kernel
theorem dX4_leastRest_83 : decode cX4_leastRest 83 = .ok (.iinc 3 1, 3) := by decide +kernel
theorem dX4_leastRest_86 : decode cX4_leastRest 86 = .ok (.goto (-62), 3) := by decide +kernel
theorem dX4_leastRest_89 : decode cX4_leastRest 89 = .ok (.iload_n 2, 1) := by decide +kernel
theorem dX4_leastRest_90 : decode cX4_leastRest 90 = .ok (.ireturn, 1) := by decide +kernel
set_option maxRecDepth 20000 in
theorem ggX5_init_X4_init : GoodIn wsX5_init wsX4_init := goodIn_r _ [32, 33, 2, 3, 25, 34, 35, 36, 37, 81, 82, 83, 84] (by decide +kernel) (by decide +kernel)
set_option maxRecDepth 20000 in
theorem gX5_init_X4_init : GoodIn wsX5_init (wsX4_init) := ggX5_init_X4_init
set_option maxRecDepth 20000 in
theorem ggX5_init_X3_init : GoodIn wsX5_init wsX3_init := goodIn_r _ [40, 41, 2, 3, 42, 25, 43, 44, 45, 46, 47, 48, 49, 50, 51, 52, 95, 96, 97, 98, 99, 100, 101, 102, 103, 104, 105] (by decide +kernel) (by decide +kernel)
set_option maxRecDepth 20000 in
theorem gX5_init_X3_init : GoodIn wsX5_init (wsX3_init) := ggX5_init_X3_init
set_option maxRecDepth 20000 in
theorem ggX5_init_X2_init : GoodIn wsX5_init wsX2_init := goodIn_r _ [55, 56, 2, 3, 25, 57, 58, 59, 106, 107, 108] (by decide +kernel) (by decide +kernel)
set_option maxRecDepth 20000 in
theorem gX5_init_X2_init : GoodIn wsX5_init (wsX2_init) := ggX5_init_X2_init
set_option maxRecDepth 20000 in
theorem ggX5_init_X1_init : GoodIn wsX5_init wsX1_init := goodIn_r _ [62, 63, 2, 3, 25, 64, 65, 66, 67, 68, 69, 70, 71, 19, 72, 109, 110, 111, 112] (by decide +kernel) (by decide +kernel)
set_option maxRecDepth 20000 in
theorem gX5_init_X1_init : GoodIn wsX5_init (wsX1_init) := ggX5_init_X1_init
set_option maxRecDepth 20000 in
theorem ggX5_init_X0_init : GoodIn wsX5_init wsX0_init := goodIn_r _ [75, 76, 2, 3, 25, 77, 78, 79, 80, 113, 114, 115, 116] (by decide +kernel) (by decide +kernel)
set_option maxRecDepth 20000 in
theorem gX5_init_X0_init : GoodIn wsX5_init (wsX0_init) := ggX5_init_X0_init
theorem dX5_init_0 : decode cX5_init 0 = .ok (.aload_n 0, 1) := by decide +kernel
theorem dX5_init_1 : decode cX5_init 1 = .ok (.invokespecial 1, 3) := by decide +kernel
theorem dX5_init_4 : decode cX5_init 4 = .ok (.aload_n 0, 1) := by decide +kernel
theorem dX5_init_5 : decode cX5_init 5 = .ok (.new 7, 3) := by decide +kernel
theorem dX5_init_8 : decode cX5_init 8 = .ok (.dup, 1) := by decide +kernel
theorem dX5_init_9 : decode cX5_init 9 = .ok (.invokespecial 9, 3) := by decide +kernel
theorem dX5_init_12 : decode cX5_init 12 = .ok (.putfield 10, 3) := by decide +kernel
theorem dX5_init_15 : decode cX5_init 15 = .ok (.aload_n 0, 1) := by decide +kernel
theorem dX5_init_16 : decode cX5_init 16 = .ok (.new 16, 3) := by decide +kernel
theorem dX5_init_19 : decode cX5_init 19 = .ok (.dup, 1) := by decide +kernel
theorem dX5_init_20 : decode cX5_init 20 = .ok (.aload_n 0, 1) := by decide +kernel
theorem dX5_init_21 : decode cX5_init 21 = .ok (.getfield 10, 3) := by decide +kernel
theorem dX5_init_24 : decode cX5_init 24 = .ok (.invokespecial 18, 3) := by decide +kernel
theorem dX5_init_27 : decode cX5_init 27 = .ok (.putfield 21, 3) := by decide +kernel
theorem dX5_init_30 : decode cX5_init 30 = .ok (.aload_n 0, 1) := by decide +kernel
theorem dX5_init_31 : decode cX5_init 31 = .ok (.new 16, 3) := by decide +kernel
theorem dX5_init_34 : decode cX5_init 34 = .ok (.dup, 1) := by decide +kernel
theorem dX5_init_35 : decode cX5_init 35 = .ok (.aload_n 0, 1) := by decide +kernel
theorem dX5_init_36 : decode cX5_init 36 = .ok (.getfield 10, 3) := by decide +kernel
theorem dX5_init_39 : decode cX5_init 39 = .ok (.invokespecial 18, 3) := by decide +kernel
theorem dX5_init_42 : decode cX5_init 42 = .ok (.putfield 25, 3) := by decide +kernel
theorem dX5_init_45 : decode cX5_init 45 = .ok (.aload_n 0, 1) := by decide +kernel
theorem dX5_init_46 : decode cX5_init 46 = .ok (.new 28, 3) := by decide +kernel
theorem dX5_init_49 : decode cX5_init 49 = .ok (.dup, 1) := by decide +kernel
theorem dX5_init_50 : decode cX5_init 50 = .ok (.invokespecial 30, 3) := by decide +kernel
theorem dX5_init_53 : decode cX5_init 53 = .ok (.putfield 31, 3) := by decide +kernel
theorem dX5_init_56 : decode cX5_init 56 = .ok (.aload_n 0, 1) := by decide +kernel
theorem dX5_init_57 : decode cX5_init 57 = .ok (.new 35, 3) := by decide +kernel
theorem dX5_init_60 : decode cX5_init 60 = .ok (.dup, 1) := by decide +kernel
theorem dX5_init_61 : decode cX5_init 61 = .ok (.invokespecial 37, 3) := by decide +kernel
theorem dX5_init_64 : decode cX5_init 64 = .ok (.putfield 38, 3) := by decide +kernel
theorem dX5_init_67 : decode cX5_init 67 = .ok (.aload_n 0, 1) := by decide +kernel
theorem dX5_init_68 : decode cX5_init 68 = .ok (.new 42, 3) := by decide +kernel
theorem dX5_init_71 : decode cX5_init 71 = .ok (.dup, 1) := by decide +kernel
theorem dX5_init_72 : decode cX5_init 72 = .ok (.invokespecial 44, 3) := by decide +kernel
theorem dX5_init_75 : decode cX5_init 75 = .ok (.putfield 45, 3) := by decide +kernel
theorem dX5_init_78 : decode cX5_init 78 = .ok (.aload_n 0, 1) := by decide +kernel
theorem dX5_init_79 : decode cX5_init 79 = .ok (.bipush 6, 2) := by decide +kernel
theorem dX5_init_81 : decode cX5_init 81 = .ok (.newarray .int, 2) := by decide +kernel
theorem dX5_init_83 : decode cX5_init 83 = .ok (.putfield 49, 3) := by decide +kernel
theorem dX5_init_86 : decode cX5_init 86 = .ok (.aload_n 0, 1) := by decide +kernel
theorem dX5_init_87 : decode cX5_init 87 = .ok (.iconst 0, 1) := by decide +kernel
theorem dX5_init_88 : decode cX5_init 88 = .ok (.putfield 53, 3) := by decide +kernel
theorem dX5_init_91 : decode cX5_init 91 = .ok (.aload_n 0, 1) := by decide +kernel
theorem dX5_init_92 : decode cX5_init 92 = .ok (.iconst 0, 1) := by decide +kernel
theorem dX5_init_93 : decode cX5_init 93 = .ok (.putfield 57, 3) := by decide +kernel
theorem dX5_init_96 : decode cX5_init 96 = .ok (.aload_n 0, 1) := by decide +kernel
theorem dX5_init_97 : decode cX5_init 97 = .ok (.iconst 0, 1) := by decide +kernel
theorem dX5_init_98 : decode cX5_init 98 = .ok (.putfield 61, 3) := by decide +kernel
theorem dX5_init_101 : decode cX5_init 101 = .ok (.return_, 1) := by decide +kernel
set_option maxRecDepth 20000 in
theorem ggX5_addGate_X5_checkNeverStarted : GoodIn wsX5_addGate wsX5_checkNeverStarted := goodIn_ca (goodIn_r _ [8, 1, 2, 9, 10, 11, 12, 13, 14, 15, 16, 29, 30, 31, 32, 33, 34, 35, 36, 37, 38, 39, 40, 41, 42] (by decide +kernel) (by decide +kernel)) (goodIn_sub (fun _ h => List.mem_cons_of_mem _ (List.mem_append_right _ h)) (by decide +kernel))
set_option maxRecDepth 20000 in
theorem gX5_addGate_X5_checkNeverStarted : GoodIn wsX5_addGate (wsV RX5 64 RX5 yX5_checkNeverStarted wsX5_checkNeverStarted) := goodIn_app (goodIn_of _ (by decide +kernel)) ggX5_addGate_X5_checkNeverStarted
set_option maxRecDepth 20000 in
theorem ggX5_addGate_X4_isFull : GoodIn wsX5_addGate wsX4_isFull := goodIn_r _ [21, 22, 43, 44, 45, 46] (by decide +kernel) (by decide +kernel)
set_option maxRecDepth 20000 in
theorem gX5_addGate_X4_isFull : GoodIn wsX5_addGate (wsV RX5 67 RX4 yX4_isFull wsX4_isFull) := goodIn_app (goodIn_of _ (by decide +kernel)) ggX5_addGate_X4_isFull
set_option maxRecDepth 20000 in
theorem ggX5_addGate_X4_appendGate : GoodIn wsX5_addGate wsX4_appendGate := goodIn_r _ [26, 22, 27, 28, 43, 44, 45, 46] (by decide +kernel) (by decide +kernel)
set_option maxRecDepth 20000 in
theorem gX5_addGate_X4_appendGate : GoodIn wsX5_addGate (wsV RX5 78 RX4 yX4_appendGate wsX4_appendGate) := goodIn_app (goodIn_of _ (by decide +kernel)) ggX5_addGate_X4_appendGate
theorem dX5_addGate_0 : decode cX5_addGate 0 = .ok (.aload_n 0, 1) := by decide +kernel
theorem dX5_addGate_1 : decode cX5_addGate 1 = .ok (.invokevirtual 64, 3) := by decide +kernel
theorem dX5_addGate_4 : decode cX5_addGate 4 = .ok (.aload_n 0, 1) := by decide +kernel
theorem dX5_addGate_5 : decode cX5_addGate 5 = .ok (.getfield 10, 3) := by decide +kernel
theorem dX5_addGate_8 : decode cX5_addGate 8 = .ok (.invokevirtual 67, 3) := by decide +kernel
theorem dX5_addGate_11 : decode cX5_addGate 11 = .ok (.ifCond .eq 13, 3) := by decide +kernel
theorem dX5_addGate_14 : decode cX5_addGate 14 = .ok (.new 71, 3) := by decide +kernel
theorem dX5_addGate_17 : decode cX5_addGate 17 = .ok (.dup, 1) := by decide +kernel
theorem dX5_addGate_18 : decode cX5_addGate 18 = .ok (.ldc 73, 2) := by decide +kernel
theorem dX5_addGate_20 : decode cX5_addGate 20 = .ok (.invokespecial 75, 3) := by decide +kernel
theorem dX5_addGate_23 : decode cX5_addGate 23 = .ok (.athrow, 1) := by decide +kernel
theorem dX5_addGate_24 : decode cX5_addGate 24 = .ok (.aload_n 0, 1) := by decide +kernel
theorem dX5_addGate_25 : decode cX5_addGate 25 = .ok (.getfield 10, 3) := by decide +kernel
theorem dX5_addGate_28 : decode cX5_addGate 28 = .ok (.iload_n 1, 1) := by decide +kernel
theorem dX5_addGate_29 : decode cX5_addGate 29 = .ok (.invokevirtual 78, 3) := by decide +kernel
theorem dX5_addGate_32 : decode cX5_addGate 32 = .ok (.ireturn, 1) := by decide +kernel
set_option maxRecDepth 20000 in
theorem ggX5_addWay_X5_checkGate : GoodIn wsX5_addWay wsX5_checkGate := goodIn_ca (goodIn_r _ [8, 9, 10, 3, 11, 12, 13, 14, 15, 16, 58, 59, 60, 61, 62, 63, 64, 65, 66, 67, 68, 69, 70, 71] (by decide +kernel) (by decide +kernel)) (goodIn_sub (fun _ h => List.mem_cons_of_mem _ (List.mem_append_left _ (List.mem_append_right _ h))) (by decide +kernel))
set_option maxRecDepth 20000 in
theorem gX5_addWay_X5_checkGate : GoodIn wsX5_addWay (wsV RX5 82 RX5 yX5_checkGate wsX5_checkGate) := goodIn_app (goodIn_of _ (by decide +kernel)) ggX5_addWay_X5_checkGate
set_option maxRecDepth 20000 in
theorem ggX5_addWay_X5_checkNeverStarted : GoodIn wsX5_addWay wsX5_checkNeverStarted := goodIn_ca (goodIn_r _ [20, 21, 22, 23, 24, 25, 26, 27, 28, 29, 30, 58, 59, 60, 61, 62, 63, 64, 65, 66, 67, 72, 73, 74, 75] (by decide +kernel) (by decide +kernel)) (goodIn_sub (fun _ h => List.mem_cons_of_mem _ (List.mem_append_right _ h)) (by decide +kernel))
set_option maxRecDepth 20000 in
theorem gX5_addWay_X5_checkNeverStarted : GoodIn wsX5_addWay (wsV RX5 64 RX5 yX5_checkNeverStarted wsX5_checkNeverStarted) := goodIn_app (goodIn_of _ (by decide +kernel)) ggX5_addWay_X5_checkNeverStarted
set_option maxRecDepth 20000 in
theorem ggX5_addWay_X4_wayLength : GoodIn wsX5_addWay wsX4_wayLength := goodIn_r _ [34, 35, 68, 69, 70, 71] (by decide +kernel) (by decide +kernel)
set_option maxRecDepth 20000 in
theorem gX5_addWay_X4_wayLength : GoodIn wsX5_addWay (wsV RX5 95 RX4 yX4_wayLength wsX4_wayLength) := goodIn_app (goodIn_of _ (by decide +kernel)) ggX5_addWay_X4_wayLength
set_option maxRecDepth 20000 in
theorem ggX5_addWay_X4_layWay : GoodIn wsX5_addWay wsX4_layWay := goodIn_r _ [39, 35, 40, 41, 42, 14, 43, 16, 44, 45, 46, 47, 48, 49, 50, 51, 52, 53, 54, 55, 56, 57, 32, 33, 34, 68, 69, 70, 71] (by decide +kernel) (by decide +kernel)
set_option maxRecDepth 20000 in
theorem gX5_addWay_X4_layWay : GoodIn wsX5_addWay (wsV RX5 99 RX4 yX4_layWay wsX4_layWay) := goodIn_app (goodIn_of _ (by decide +kernel)) ggX5_addWay_X4_layWay
theorem dX5_addWay_0 : decode cX5_addWay 0 = .ok (.aload_n 0, 1) := by decide +kernel
theorem dX5_addWay_1 : decode cX5_addWay 1 = .ok (.iload_n 1, 1) := by decide +kernel
theorem dX5_addWay_2 : decode cX5_addWay 2 = .ok (.invokevirtual 82, 3) := by decide +kernel
theorem dX5_addWay_5 : decode cX5_addWay 5 = .ok (.aload_n 0, 1) := by decide +kernel
theorem dX5_addWay_6 : decode cX5_addWay 6 = .ok (.iload_n 2, 1) := by decide +kernel
theorem dX5_addWay_7 : decode cX5_addWay 7 = .ok (.invokevirtual 82, 3) := by decide +kernel
theorem dX5_addWay_10 : decode cX5_addWay 10 = .ok (.iload_n 2, 1) := by decide +kernel
theorem dX5_addWay_11 : decode cX5_addWay 11 = .ok (.iload_n 1, 1) := by decide +kernel
theorem dX5_addWay_12 : decode cX5_addWay 12 = .ok (.if_icmp .gt 17, 3) := by decide +kernel
theorem dX5_addWay_15 : decode cX5_addWay 15 = .ok (.iload_n 2, 1) := by decide +kernel
theorem dX5_addWay_16 : decode cX5_addWay 16 = .ok (.ifCond .eq 13, 3) := by decide +kernel
theorem dX5_addWay_19 : decode cX5_addWay 19 = .ok (.new 86, 3) := by decide +kernel
theorem dX5_addWay_22 : decode cX5_addWay 22 = .ok (.dup, 1) := by decide +kernel
theorem dX5_addWay_23 : decode cX5_addWay 23 = .ok (.ldc 88, 2) := by decide +kernel
theorem dX5_addWay_25 : decode cX5_addWay 25 = .ok (.invokespecial 90, 3) := by decide +kernel
theorem dX5_addWay_28 : decode cX5_addWay 28 = .ok (.athrow, 1) := by decide +kernel
theorem dX5_addWay_29 : decode cX5_addWay 29 = .ok (.iload_n 1, 1) := by decide +kernel
theorem dX5_addWay_30 : decode cX5_addWay 30 = .ok (.ifCond .ne 17, 3) := by decide +kernel
theorem dX5_addWay_33 : decode cX5_addWay 33 = .ok (.iload_n 2, 1) := by decide +kernel
theorem dX5_addWay_34 : decode cX5_addWay 34 = .ok (.ifCond .ne 13, 3) := by decide +kernel
theorem dX5_addWay_37 : decode cX5_addWay 37 = .ok (.new 86, 3) := by decide +kernel
theorem dX5_addWay_40 : decode cX5_addWay 40 = .ok (.dup, 1) := by decide +kernel
theorem dX5_addWay_41 : decode cX5_addWay 41 = .ok (.ldc 91, 2) := by decide +kernel
theorem dX5_addWay_43 : decode cX5_addWay 43 = .ok (.invokespecial 90, 3) := by decide +kernel
theorem dX5_addWay_46 : decode cX5_addWay 46 = .ok (.athrow, 1) := by decide +kernel
theorem dX5_addWay_47 : decode cX5_addWay 47 = .ok (.iload_n 3, 1) := by decide +kernel
theorem dX5_addWay_48 : decode cX5_addWay 48 = .ok (.iconst 1, 1) := by decide +kernel
theorem dX5_addWay_49 : decode cX5_addWay 49 = .ok (.if_icmp .lt 9, 3) := by decide +kernel
theorem dX5_addWay_52 : decode cX5_addWay 52 = .ok (.iload_n 3, 1) := by decide +kernel
theorem dX5_addWay_53 : decode cX5_addWay 53 = .ok (.bipush 100, 2) := by decide +kernel
theorem dX5_addWay_55 : decode cX5_addWay 55 = .ok (.if_icmp .le 13, 3) := by decide +kernel
theorem dX5_addWay_58 : decode cX5_addWay 58 = .ok (.new 86, 3) := by decide +kernel
theorem dX5_addWay_61 : decode cX5_addWay 61 = .ok (.dup, 1) := by decide +kernel
theorem dX5_addWay_62 : decode cX5_addWay 62 = .ok (.ldc 93, 2) := by decide +kernel
theorem dX5_addWay_64 : decode cX5_addWay 64 = .ok (.invokespecial 90, 3) := by decide +kernel
theorem dX5_addWay_67 : decode cX5_addWay 67 = .ok (.athrow, 1) := by decide +kernel
theorem dX5_addWay_68 : decode cX5_addWay 68 = .ok (.aload_n 0, 1) := by decide +kernel
theorem dX5_addWay_69 : decode cX5_addWay 69 = .ok (.invokevirtual 64, 3) := by decide +kernel
theorem dX5_addWay_72 : decode cX5_addWay 72 = .ok (.aload_n 0, 1) := by decide +kernel
theorem dX5_addWay_73 : decode cX5_addWay 73 = .ok (.getfield 10, 3) := by decide +kernel
theorem dX5_addWay_76 : decode cX5_addWay 76 = .ok (.iload_n 1, 1) := by decide +kernel
theorem dX5_addWay_77 : decode cX5_addWay 77 = .ok (.iload_n 2, 1) := by decide +kernel
theorem dX5_addWay_78 : decode cX5_addWay 78 = .ok (.invokevirtual 95, 3) := by decide +kernel
theorem dX5_addWay_81 : decode cX5_addWay 81 = .ok (.istore 4, 2) := by decide +kernel
theorem dX5_addWay_83 : decode cX5_addWay 83 = .ok (.aload_n 0, 1) := by decide +kernel
theorem dX5_addWay_84 : decode cX5_addWay 84 = .ok (.getfield 10, 3) := by decide +kernel
theorem dX5_addWay_87 : decode cX5_addWay 87 = .ok (.iload_n 1, 1) := by decide +kernel
theorem dX5_addWay_88 : decode cX5_addWay 88 = .ok (.iload_n 2, 1) := by decide +kernel
theorem dX5_addWay_89 : decode cX5_addWay 89 = .ok (.iload_n 3, 1) := by decide +kernel
theorem dX5_addWay_90 : decode cX5_addWay 90 = .ok (.invokevirtual 99, 3) := by decide +kernel
theorem dX5_addWay_93 : decode cX5_addWay 93 = .ok (.iload 4, 2) := by decide +kernel
theorem dX5_addWay_95 : decode cX5_addWay 95 = .ok (.ifCond .ne 7, 3) := by decide +kernel
theorem dX5_addWay_98 : decode cX5_addWay 98 = .ok (.iconst (-1), 1) := by decide +kernel
theorem dX5_addWay_99 : decode cX5_addWay 99 = .ok (.goto 5, 3) := by decide +kernel
theorem dX5_addWay_102 : decode cX5_addWay 102 = .ok (.iload 4, 2) := by decide +kernel
theorem dX5_addWay_104 : decode cX5_addWay 104 = .ok (.ireturn, 1) := by decide +kernel
set_option maxRecDepth 20000 in
theorem ggX5_addKart_X5_checkTeam : GoodIn wsX5_addKart wsX5_checkTeam := goodIn_ca (goodIn_r _ [9, 10, 11] (by decide +kernel) (by decide +kernel)) (goodIn_sub (fun _ h => List.mem_cons_of_mem _ (List.mem_append_right _ h)) (by decide +kernel))
set_option maxRecDepth 20000 in
theorem gX5_addKart_X5_checkTeam : GoodIn wsX5_addKart (wsV RX5 103 RX5 yX5_checkTeam wsX5_checkTeam) := goodIn_app (goodIn_of _ (by decide +kernel)) ggX5_addKart_X5_checkTeam
set_option maxRecDepth 20000 in
theorem ggX5_addKart_X5_checkNeverStarted : GoodIn wsX5_addKart wsX5_checkNeverStarted := goodIn_ca (goodIn_r _ [15, 1, 2, 16, 17, 18, 19, 20, 21, 22, 23, 24, 25, 26, 27, 28, 29, 30, 31, 32, 33, 34, 35, 36, 37] (by decide +kernel) (by decide +kernel)) (goodIn_sub (fun _ h => List.mem_cons_of_mem _ (List.mem_append_left _ (List.mem_append_right _ h))) (by decide +kernel))
set_option maxRecDepth 20000 in
theorem gX5_addKart_X5_checkNeverStarted : GoodIn wsX5_addKart (wsV RX5 64 RX5 yX5_checkNeverStarted wsX5_checkNeverStarted) := goodIn_app (goodIn_of _ (by decide +kernel)) ggX5_addKart_X5_checkNeverStarted
theorem dX5_addKart_0 : decode cX5_addKart 0 = .ok (.aload_n 0, 1) := by decide +kernel
theorem dX5_addKart_1 : decode cX5_addKart 1 = .ok (.iload_n 1, 1) := by decide +kernel
theorem dX5_addKart_2 : decode cX5_addKart 2 = .ok (.invokevirtual 103, 3) := by decide +kernel
theorem dX5_addKart_5 : decode cX5_addKart 5 = .ok (.aload_n 0, 1) := by decide +kernel
theorem dX5_addKart_6 : decode cX5_addKart 6 = .ok (.invokevirtual 64, 3) := by decide +kernel
theorem dX5_addKart_9 : decode cX5_addKart 9 = .ok (.aload_n 0, 1) := by decide +kernel
theorem dX5_addKart_10 : decode cX5_addKart 10 = .ok (.getfield 53, 3) := by decide +kernel
theorem dX5_addKart_13 : decode cX5_addKart 13 = .ok (.bipush 6, 2) := by decide +kernel
theorem dX5_addKart_15 : decode cX5_addKart 15 = .ok (.if_icmp .lt 13, 3) := by decide +kernel
theorem dX5_addKart_18 : decode cX5_addKart 18 = .ok (.new 71, 3) := by decide +kernel
theorem dX5_addKart_21 : decode cX5_addKart 21 = .ok (.dup, 1) := by decide +kernel
theorem dX5_addKart_22 : decode cX5_addKart 22 = .ok (.ldc 106, 2) := by decide +kernel
theorem dX5_addKart_24 : decode cX5_addKart 24 = .ok (.invokespecial 75, 3) := by decide +kernel
theorem dX5_addKart_27 : decode cX5_addKart 27 = .ok (.athrow, 1) := by decide +kernel
theorem dX5_addKart_28 : decode cX5_addKart 28 = .ok (.aload_n 0, 1) := by decide +kernel
theorem dX5_addKart_29 : decode cX5_addKart 29 = .ok (.getfield 53, 3) := by decide +kernel
theorem dX5_addKart_32 : decode cX5_addKart 32 = .ok (.istore_n 2, 1) := by decide +kernel
theorem dX5_addKart_33 : decode cX5_addKart 33 = .ok (.aload_n 0, 1) := by decide +kernel
theorem dX5_addKart_34 : decode cX5_addKart 34 = .ok (.getfield 49, 3) := by decide +kernel
theorem dX5_addKart_37 : decode cX5_addKart 37 = .ok (.iload_n 2, 1) := by decide +kernel
theorem dX5_addKart_38 : decode cX5_addKart 38 = .ok (.iload_n 1, 1) := by decide +kernel
theorem dX5_addKart_39 : decode cX5_addKart 39 = .ok (.iastore, 1) := by decide +kernel
theorem dX5_addKart_40 : decode cX5_addKart 40 = .ok (.aload_n 0, 1) := by decide +kernel
theorem dX5_addKart_41 : decode cX5_addKart 41 = .ok (.dup, 1) := by decide +kernel
theorem dX5_addKart_42 : decode cX5_addKart 42 = .ok (.getfield 53, 3) := by decide +kernel
theorem dX5_addKart_45 : decode cX5_addKart 45 = .ok (.iconst 1, 1) := by decide +kernel
theorem dX5_addKart_46 : decode cX5_addKart 46 = .ok (.iadd, 1) := by decide +kernel
theorem dX5_addKart_47 : decode cX5_addKart 47 = .ok (.putfield 53, 3) := by decide +kernel
theorem dX5_addKart_50 : decode cX5_addKart 50 = .ok (.iload_n 2, 1) := by decide +kernel
theorem dX5_addKart_51 : decode cX5_addKart 51 = .ok (.ireturn, 1) := by decide +kernel
set_option maxRecDepth 20000 in
theorem ggX5_gates_X4_gateCount : GoodIn wsX5_gates wsX4_gateCount := goodIn_r _ [6, 7, 18, 19, 20, 21] (by decide +kernel) (by decide +kernel)
set_option maxRecDepth 20000 in
theorem gX5_gates_X4_gateCount : GoodIn wsX5_gates (wsV RX5 108 RX4 yX4_gateCount wsX4_gateCount) := goodIn_app (goodIn_of _ (by decide +kernel)) ggX5_gates_X4_gateCount
theorem dX5_gates_0 : decode cX5_gates 0 = .ok (.aload_n 0, 1) := by decide +kernel
theorem dX5_gates_1 : decode cX5_gates 1 = .ok (.getfield 10, 3) := by decide +kernel
theorem dX5_gates_4 : decode cX5_gates 4 = .ok (.invokevirtual 108, 3) := by decide +kernel
theorem dX5_gates_7 : decode cX5_gates 7 = .ok (.ireturn, 1) := by decide +kernel
theorem dX5_karts_0 : decode cX5_karts 0 = .ok (.aload_n 0, 1) := by decide +kernel
theorem dX5_karts_1 : decode cX5_karts 1 = .ok (.getfield 53, 3) := by decide +kernel
theorem dX5_karts_4 : decode cX5_karts 4 = .ok (.ireturn, 1) := by decide +kernel
set_option maxRecDepth 20000 in
theorem ggX5_rest_X5_checkGate : GoodIn wsX5_rest wsX5_checkGate := goodIn_ca (goodIn_r _ [6, 7, 8, 1, 9, 10, 11, 12, 13, 14, 20, 21, 22, 23, 24, 25, 26, 27, 28, 29, 30, 31, 32, 33] (by decide +kernel) (by decide +kernel)) (goodIn_sub (fun _ h => List.mem_cons_of_mem _ (List.mem_append_right _ h)) (by decide +kernel))
set_option maxRecDepth 20000 in
theorem gX5_rest_X5_checkGate : GoodIn wsX5_rest (wsV RX5 82 RX5 yX5_checkGate wsX5_checkGate) := goodIn_app (goodIn_of _ (by decide +kernel)) ggX5_rest_X5_checkGate
set_option maxRecDepth 20000 in
theorem ggX5_rest_X4_restOf : GoodIn wsX5_rest wsX4_restOf := goodIn_r _ [18, 19, 30, 31, 32, 33] (by decide +kernel) (by decide +kernel)
set_option maxRecDepth 20000 in
theorem gX5_rest_X4_restOf : GoodIn wsX5_rest (wsV RX5 112 RX4 yX4_restOf wsX4_restOf) := goodIn_app (goodIn_of _ (by decide +kernel)) ggX5_rest_X4_restOf
theorem dX5_rest_0 : decode cX5_rest 0 = .ok (.aload_n 0, 1) := by decide +kernel
theorem dX5_rest_1 : decode cX5_rest 1 = .ok (.iload_n 1, 1) := by decide +kernel
theorem dX5_rest_2 : decode cX5_rest 2 = .ok (.invokevirtual 82, 3) := by decide +kernel
theorem dX5_rest_5 : decode cX5_rest 5 = .ok (.aload_n 0, 1) := by decide +kernel
theorem dX5_rest_6 : decode cX5_rest 6 = .ok (.getfield 10, 3) := by decide +kernel
theorem dX5_rest_9 : decode cX5_rest 9 = .ok (.iload_n 1, 1) := by decide +kernel
theorem dX5_rest_10 : decode cX5_rest 10 = .ok (.invokevirtual 112, 3) := by decide +kernel
theorem dX5_rest_13 : decode cX5_rest 13 = .ok (.ireturn, 1) := by decide +kernel
set_option maxRecDepth 20000 in
theorem ggX5_start_X0_endedRaces : GoodIn wsX5_start wsX0_endedRaces := goodIn_r _ [16, 17, 74, 75, 76, 77] (by decide +kernel) (by decide +kernel)
set_option maxRecDepth 20000 in
theorem gX5_start_X0_endedRaces : GoodIn wsX5_start (wsV RX5 120 RX0 yX0_endedRaces wsX0_endedRaces) := goodIn_app (goodIn_of _ (by decide +kernel)) ggX5_start_X0_endedRaces
set_option maxRecDepth 20000 in
theorem ggX5_start_X4_hasDeadEnd : GoodIn wsX5_start wsX4_hasDeadEnd := goodIn_r _ [22, 23, 24, 25, 26, 21, 27, 28, 29, 30, 31, 32, 33, 34, 35, 36, 78, 79, 80, 81] (by decide +kernel) (by decide +kernel)
set_option maxRecDepth 20000 in
theorem gX5_start_X4_hasDeadEnd : GoodIn wsX5_start (wsV RX5 127 RX4 yX4_hasDeadEnd wsX4_hasDeadEnd) := goodIn_app (goodIn_of _ (by decide +kernel)) ggX5_start_X4_hasDeadEnd
set_option maxRecDepth 20000 in
theorem ggX5_start_X3_begin : GoodIn wsX5_start wsX3_begin := goodIn_r _ [41, 42, 43, 44, 45, 46, 47, 48, 49, 82, 83, 84, 85, 86, 87, 88, 89, 90, 91, 92] (by decide +kernel) (by decide +kernel)
set_option maxRecDepth 20000 in
theorem gX5_start_X3_begin : GoodIn wsX5_start (wsV RX5 132 RX3 yX3_begin wsX3_begin) := goodIn_app (goodIn_of _ (by decide +kernel)) ggX5_start_X3_begin
set_option maxRecDepth 20000 in
theorem ggX5_start_X2_clear : GoodIn wsX5_start wsX2_clear := goodIn_r _ [54, 55, 93, 94, 95] (by decide +kernel) (by decide +kernel)
set_option maxRecDepth 20000 in
theorem gX5_start_X2_clear : GoodIn wsX5_start (wsV RX5 136 RX2 yX2_clear wsX2_clear) := goodIn_app (goodIn_of _ (by decide +kernel)) ggX5_start_X2_clear
set_option maxRecDepth 20000 in
theorem ggX5_start_X1_clear : GoodIn wsX5_start wsX1_clear := goodIn_r _ [60, 61, 62, 63, 96, 97, 98, 99] (by decide +kernel) (by decide +kernel)
set_option maxRecDepth 20000 in
theorem gX5_start_X1_clear : GoodIn wsX5_start (wsV RX5 139 RX1 yX1_clear wsX1_clear) := goodIn_app (goodIn_of _ (by decide +kernel)) ggX5_start_X1_clear
theorem dX5_start_0 : decode cX5_start 0 = .ok (.iload_n 1, 1) := by decide +kernel
theorem dX5_start_1 : decode cX5_start 1 = .ok (.iconst 1, 1) := by decide +kernel
theorem dX5_start_2 : decode cX5_start 2 = .ok (.if_icmp .lt 9, 3) := by decide +kernel
theorem dX5_start_5 : decode cX5_start 5 = .ok (.iload_n 1, 1) := by decide +kernel
theorem dX5_start_6 : decode cX5_start 6 = .ok (.bipush 9, 2) := by decide +kernel
theorem dX5_start_8 : decode cX5_start 8 = .ok (.if_icmp .le 13, 3) := by decide +kernel
theorem dX5_start_11 : decode cX5_start 11 = .ok (.new 86, 3) := by decide +kernel
theorem dX5_start_14 : decode cX5_start 14 = .ok (.dup, 1) := by decide +kernel
theorem dX5_start_15 : decode cX5_start 15 = .ok (.ldc 116, 2) := by decide +kernel
theorem dX5_start_17 : decode cX5_start 17 = .ok (.invokespecial 90, 3) := by decide +kernel
theorem dX5_start_20 : decode cX5_start 20 = .ok (.athrow, 1) := by decide +kernel
theorem dX5_start_21 : decode cX5_start 21 = .ok (.aload_n 0, 1) := by decide +kernel
theorem dX5_start_22 : decode cX5_start 22 = .ok (.getfield 57, 3) := by decide +kernel
theorem dX5_start_25 : decode cX5_start 25 = .ok (.ifCond .eq 13, 3) := by decide +kernel
theorem dX5_start_28 : decode cX5_start 28 = .ok (.new 71, 3) := by decide +kernel
theorem dX5_start_31 : decode cX5_start 31 = .ok (.dup, 1) := by decide +kernel
theorem dX5_start_32 : decode cX5_start 32 = .ok (.ldc 118, 2) := by decide +kernel
theorem dX5_start_34 : decode cX5_start 34 = .ok (.invokespecial 75, 3) := by decide +kernel
theorem dX5_start_37 : decode cX5_start 37 = .ok (.athrow, 1) := by decide +kernel
theorem dX5_start_38 : decode cX5_start 38 = .ok (.aload_n 0, 1) := by decide +kernel
theorem dX5_start_39 : decode cX5_start 39 = .ok (.getfield 45, 3) := by decide +kernel
theorem dX5_start_42 : decode cX5_start 42 = .ok (.invokevirtual 120, 3) := by decide +kernel
theorem dX5_start_45 : decode cX5_start 45 = .ok (.bipush 8, 2) := by decide +kernel
theorem dX5_start_47 : decode cX5_start 47 = .ok (.if_icmp .lt 13, 3) := by decide +kernel
theorem dX5_start_50 : decode cX5_start 50 = .ok (.new 71, 3) := by decide +kernel
theorem dX5_start_53 : decode cX5_start 53 = .ok (.dup, 1) := by decide +kernel
theorem dX5_start_54 : decode cX5_start 54 = .ok (.ldc 123, 2) := by decide +kernel
theorem dX5_start_56 : decode cX5_start 56 = .ok (.invokespecial 75, 3) := by decide +kernel
theorem dX5_start_59 : decode cX5_start 59 = .ok (.athrow, 1) := by decide +kernel
theorem dX5_start_60 : decode cX5_start 60 = .ok (.aload_n 0, 1) := by decide +kernel
theorem dX5_start_61 : decode cX5_start 61 = .ok (.getfield 53, 3) := by decide +kernel
theorem dX5_start_64 : decode cX5_start 64 = .ok (.ifCond .ne 13, 3) := by decide +kernel
theorem dX5_start_67 : decode cX5_start 67 = .ok (.new 71, 3) := by decide +kernel
theorem dX5_start_70 : decode cX5_start 70 = .ok (.dup, 1) := by decide +kernel
theorem dX5_start_71 : decode cX5_start 71 = .ok (.ldc 125, 2) := by decide +kernel
theorem dX5_start_73 : decode cX5_start 73 = .ok (.invokespecial 75, 3) := by decide +kernel
theorem dX5_start_76 : decode cX5_start 76 = .ok (.athrow, 1) := by decide +kernel
theorem dX5_start_77 : decode cX5_start 77 = .ok (.aload_n 0, 1) := by decide +kernel
theorem dX5_start_78 : decode cX5_start 78 = .ok (.getfield 10, 3) := by decide +kernel
theorem dX5_start_81 : decode cX5_start 81 = .ok (.invokevirtual 127, 3) := by decide +kernel
theorem dX5_start_84 : decode cX5_start 84 = .ok (.ifCond .eq 13, 3) := by decide +kernel
theorem dX5_start_87 : decode cX5_start 87 = .ok (.new 71, 3) := by decide +kernel
theorem dX5_start_90 : decode cX5_start 90 = .ok (.dup, 1) := by decide +kernel
theorem dX5_start_91 : decode cX5_start 91 = .ok (.ldc 130, 2) := by decide +kernel
theorem dX5_start_93 : decode cX5_start 93 = .ok (.invokespecial 75, 3) := by decide +kernel
theorem dX5_start_96 : decode cX5_start 96 = .ok (.athrow, 1) := by decide +kernel
theorem dX5_start_97 : decode cX5_start 97 = .ok (.aload_n 0, 1) := by decide +kernel
theorem dX5_start_98 : decode cX5_start 98 = .ok (.getfield 21, 3) := by decide +kernel
theorem dX5_start_101 : decode cX5_start 101 = .ok (.aload_n 0, 1) := by decide +kernel
theorem dX5_start_102 : decode cX5_start 102 = .ok (.getfield 53, 3) := by decide +kernel
theorem dX5_start_105 : decode cX5_start 105 = .ok (.iload_n 1, 1) := by decide +kernel
theorem dX5_start_106 : decode cX5_start 106 = .ok (.invokevirtual 132, 3) := by decide +kernel
theorem dX5_start_109 : decode cX5_start 109 = .ok (.aload_n 0, 1) := by decide +kernel
theorem dX5_start_110 : decode cX5_start 110 = .ok (.getfield 31, 3) := by decide +kernel
theorem dX5_start_113 : decode cX5_start 113 = .ok (.invokevirtual 136, 3) := by decide +kernel
theorem dX5_start_116 : decode cX5_start 116 = .ok (.aload_n 0, 1) := by decide +kernel
theorem dX5_start_117 : decode cX5_start 117 = .ok (.getfield 38, 3) := by decide +kernel
theorem dX5_start_120 : decode cX5_start 120 = .ok (.invokevirtual 139, 3) := by decide +kernel
theorem dX5_start_123 : decode cX5_start 123 = .ok (.aload_n 0, 1) := by decide +kernel
theorem dX5_start_124 : decode cX5_start 124 = .ok (.iconst 1, 1) := by decide +kernel
theorem dX5_start_125 : decode cX5_start 125 = .ok (.putfield 57, 3) := by decide +kernel
theorem dX5_start_128 : decode cX5_start 128 = .ok (.aload_n 0, 1) := by decide +kernel
theorem dX5_start_129 : decode cX5_start 129 = .ok (.getfield 45, 3) := by decide +kernel
theorem dX5_start_132 : decode cX5_start 132 = .ok (.invokevirtual 120, 3) := by decide +kernel
theorem dX5_start_135 : decode cX5_start 135 = .ok (.ireturn, 1) := by decide +kernel
theorem dX5_isOn_0 : decode cX5_isOn 0 = .ok (.aload_n 0, 1) := by decide +kernel
theorem dX5_isOn_1 : decode cX5_isOn 1 = .ok (.getfield 57, 3) := by decide +kernel
theorem dX5_isOn_4 : decode cX5_isOn 4 = .ok (.ireturn, 1) := by decide +kernel
set_option maxRecDepth 20000 in
theorem ggX5_pass_X5_checkKart : GoodIn wsX5_pass wsX5_checkKart := goodIn_ca (goodIn_r _ [12, 13, 14, 15, 118, 119, 120, 121, 122, 123, 124, 125, 126, 127] (by decide +kernel) (by decide +kernel)) (goodIn_sub (fun _ h => List.mem_cons_of_mem _ (List.mem_append_right _ h)) (by decide +kernel))
set_option maxRecDepth 20000 in
theorem gX5_pass_X5_checkKart : GoodIn wsX5_pass (wsV RX5 140 RX5 yX5_checkKart wsX5_checkKart) := goodIn_app (goodIn_of _ (by decide +kernel)) ggX5_pass_X5_checkKart
set_option maxRecDepth 20000 in
theorem ggX5_pass_X5_checkGate : GoodIn wsX5_pass wsX5_checkGate := goodIn_ca (goodIn_r _ [19, 13, 14, 5, 20, 21, 22, 23, 24, 25, 118, 119, 120, 121, 122, 123, 124, 125, 126, 127, 128, 129, 130, 131] (by decide +kernel) (by decide +kernel)) (goodIn_sub (fun _ h => List.mem_cons_of_mem _ (List.mem_append_right _ h)) (by decide +kernel))
set_option maxRecDepth 20000 in
theorem gX5_pass_X5_checkGate : GoodIn wsX5_pass (wsV RX5 82 RX5 yX5_checkGate wsX5_checkGate) := goodIn_app (goodIn_of _ (by decide +kernel)) ggX5_pass_X5_checkGate
set_option maxRecDepth 20000 in
theorem ggX5_pass_X5_checkStillRacing : GoodIn wsX5_pass wsX5_checkStillRacing := goodIn_ca (goodIn_r _ [29, 1, 2, 6, 30, 31, 32, 11, 33, 34, 35, 36, 37, 38, 39, 40, 41, 118, 119, 120, 121, 122, 123, 124, 125, 126, 127, 132, 133, 134, 135, 136, 137, 138, 139, 140, 141, 142] (by decide +kernel) (by decide +kernel)) (goodIn_sub (fun _ h => List.mem_cons_of_mem _ (List.mem_append_left _ (List.mem_append_right _ h))) (by decide +kernel))
set_option maxRecDepth 20000 in
theorem gX5_pass_X5_checkStillRacing : GoodIn wsX5_pass (wsV RX5 143 RX5 yX5_checkStillRacing wsX5_checkStillRacing) := goodIn_app (goodIn_of _ (by decide +kernel)) ggX5_pass_X5_checkStillRacing
set_option maxRecDepth 20000 in
theorem ggX5_pass_X1_ticksStunned : GoodIn wsX5_pass wsX1_ticksStunned := goodIn_r _ [46, 47, 48, 49, 50, 51, 143, 144, 145, 146] (by decide +kernel) (by decide +kernel)
set_option maxRecDepth 20000 in
theorem gX5_pass_X1_ticksStunned : GoodIn wsX5_pass (wsV RX5 146 RX1 yX1_ticksStunned wsX1_ticksStunned) := goodIn_app (goodIn_of _ (by decide +kernel)) ggX5_pass_X1_ticksStunned
set_option maxRecDepth 20000 in
theorem ggX5_pass_X3_gateAt : GoodIn wsX5_pass wsX3_gateAt := goodIn_r _ [55, 56, 132, 133, 134, 135, 136, 137, 138, 139, 140, 141, 142] (by decide +kernel) (by decide +kernel)
set_option maxRecDepth 20000 in
theorem gX5_pass_X3_gateAt : GoodIn wsX5_pass (wsV RX5 151 RX3 yX3_gateAt wsX3_gateAt) := goodIn_app (goodIn_of _ (by decide +kernel)) ggX5_pass_X3_gateAt
set_option maxRecDepth 20000 in
theorem ggX5_pass_X4_joins : GoodIn wsX5_pass wsX4_joins := goodIn_r _ [60, 61, 62, 63, 23, 64, 65, 66, 67, 68, 69, 128, 129, 130, 131] (by decide +kernel) (by decide +kernel)
set_option maxRecDepth 20000 in
theorem gX5_pass_X4_joins : GoodIn wsX5_pass (wsV RX5 154 RX4 yX4_joins wsX4_joins) := goodIn_app (goodIn_of _ (by decide +kernel)) ggX5_pass_X4_joins
set_option maxRecDepth 20000 in
theorem ggX5_pass_X2_isFull : GoodIn wsX5_pass wsX2_isFull := goodIn_r _ [74, 75, 147, 148, 149] (by decide +kernel) (by decide +kernel)
set_option maxRecDepth 20000 in
theorem gX5_pass_X2_isFull : GoodIn wsX5_pass (wsV RX5 160 RX2 yX2_isFull wsX2_isFull) := goodIn_app (goodIn_of _ (by decide +kernel)) ggX5_pass_X2_isFull
set_option maxRecDepth 20000 in
theorem ggX5_pass_X2_note : GoodIn wsX5_pass wsX2_note := goodIn_r _ [79, 80, 75, 81, 147, 148, 149] (by decide +kernel) (by decide +kernel)
set_option maxRecDepth 20000 in
theorem gX5_pass_X2_note : GoodIn wsX5_pass (wsV RX5 163 RX2 yX2_note wsX2_note) := goodIn_app (goodIn_of _ (by decide +kernel)) ggX5_pass_X2_note
set_option maxRecDepth 20000 in
theorem ggX5_pass_X3_move : GoodIn wsX5_pass wsX3_move := goodIn_r _ [85, 56, 86, 87, 88, 89, 62, 63, 23, 64, 65, 66, 67, 68, 69, 90, 91, 92, 38, 93, 94, 95, 96, 97, 98, 99, 40, 100, 101, 102, 103, 104, 105, 106, 107, 108, 109, 36, 37, 39, 41, 110, 111, 112, 113, 114, 115, 116, 117, 132, 133, 134, 135, 136, 137, 138, 139, 140, 141, 142, 128, 129, 130, 131] (by decide +kernel) (by decide +kernel)
set_option maxRecDepth 20000 in
theorem gX5_pass_X3_move : GoodIn wsX5_pass (wsV RX5 166 RX3 yX3_move wsX3_move) := goodIn_app (goodIn_of _ (by decide +kernel)) ggX5_pass_X3_move
theorem dX5_pass_0 : decode cX5_pass 0 = .ok (.aload_n 0, 1) := by decide +kernel
theorem dX5_pass_1 : decode cX5_pass 1 = .ok (.iload_n 1, 1) := by decide +kernel
theorem dX5_pass_2 : decode cX5_pass 2 = .ok (.invokevirtual 140, 3) := by decide +kernel
theorem dX5_pass_5 : decode cX5_pass 5 = .ok (.aload_n 0, 1) := by decide +kernel
theorem dX5_pass_6 : decode cX5_pass 6 = .ok (.iload_n 2, 1) := by decide +kernel
theorem dX5_pass_7 : decode cX5_pass 7 = .ok (.invokevirtual 82, 3) := by decide +kernel
theorem dX5_pass_10 : decode cX5_pass 10 = .ok (.aload_n 0, 1) := by decide +kernel
theorem dX5_pass_11 : decode cX5_pass 11 = .ok (.iload_n 1, 1) := by decide +kernel
theorem dX5_pass_12 : decode cX5_pass 12 = .ok (.invokevirtual 143, 3) := by decide +kernel
theorem dX5_pass_15 : decode cX5_pass 15 = .ok (.aload_n 0, 1) := by decide +kernel
theorem dX5_pass_16 : decode cX5_pass 16 = .ok (.getfield 38, 3) := by decide +kernel
theorem dX5_pass_19 : decode cX5_pass 19 = .ok (.iload_n 1, 1) := by decide +kernel
theorem dX5_pass_20 : decode cX5_pass 20 = .ok (.aload_n 0, 1) := by decide +kernel
theorem dX5_pass_21 : decode cX5_pass 21 = .ok (.getfield 61, 3) := by decide +kernel
theorem dX5_pass_24 : decode cX5_pass 24 = .ok (.invokevirtual 146, 3) := by decide +kernel
theorem dX5_pass_27 : decode cX5_pass 27 = .ok (.ifCond .le 13, 3) := by decide +kernel
theorem dX5_pass_30 : decode cX5_pass 30 = .ok (.new 71, 3) := by decide +kernel
theorem dX5_pass_33 : decode cX5_pass 33 = .ok (.dup, 1) := by decide +kernel
theorem dX5_pass_34 : decode cX5_pass 34 = .ok (.ldc 149, 2) := by decide +kernel
theorem dX5_pass_36 : decode cX5_pass 36 = .ok (.invokespecial 75, 3) := by decide +kernel
theorem dX5_pass_39 : decode cX5_pass 39 = .ok (.athrow, 1) := by decide +kernel
theorem dX5_pass_40 : decode cX5_pass 40 = .ok (.aload_n 0, 1) := by decide +kernel
theorem dX5_pass_41 : decode cX5_pass 41 = .ok (.getfield 10, 3) := by decide +kernel
theorem dX5_pass_44 : decode cX5_pass 44 = .ok (.aload_n 0, 1) := by decide +kernel
theorem dX5_pass_45 : decode cX5_pass 45 = .ok (.getfield 21, 3) := by decide +kernel
theorem dX5_pass_48 : decode cX5_pass 48 = .ok (.iload_n 1, 1) := by decide +kernel
theorem dX5_pass_49 : decode cX5_pass 49 = .ok (.invokevirtual 151, 3) := by decide +kernel
theorem dX5_pass_52 : decode cX5_pass 52 = .ok (.iload_n 2, 1) := by decide +kernel
theorem dX5_pass_53 : decode cX5_pass 53 = .ok (.invokevirtual 154, 3) := by decide +kernel
theorem dX5_pass_56 : decode cX5_pass 56 = .ok (.ifCond .ne 13, 3) := by decide +kernel
theorem dX5_pass_59 : decode cX5_pass 59 = .ok (.new 71, 3) := by decide +kernel
theorem dX5_pass_62 : decode cX5_pass 62 = .ok (.dup, 1) := by decide +kernel
theorem dX5_pass_63 : decode cX5_pass 63 = .ok (.ldc 158, 2) := by decide +kernel
theorem dX5_pass_65 : decode cX5_pass 65 = .ok (.invokespecial 75, 3) := by decide +kernel
theorem dX5_pass_68 : decode cX5_pass 68 = .ok (.athrow, 1) := by decide +kernel
theorem dX5_pass_69 : decode cX5_pass 69 = .ok (.aload_n 0, 1) := by decide +kernel
theorem dX5_pass_70 : decode cX5_pass 70 = .ok (.getfield 31, 3) := by decide +kernel
theorem dX5_pass_73 : decode cX5_pass 73 = .ok (.invokevirtual 160, 3) := by decide +kernel
theorem dX5_pass_76 : decode cX5_pass 76 = .ok (.ifCond .eq 13, 3) := by decide +kernel
theorem dX5_pass_79 : decode cX5_pass 79 = .ok (.new 71, 3) := by decide +kernel
theorem dX5_pass_82 : decode cX5_pass 82 = .ok (.dup, 1) := by decide +kernel
theorem dX5_pass_83 : decode cX5_pass 83 = .ok (.ldc 161, 2) := by decide +kernel
theorem dX5_pass_85 : decode cX5_pass 85 = .ok (.invokespecial 75, 3) := by decide +kernel
theorem dX5_pass_88 : decode cX5_pass 88 = .ok (.athrow, 1) := by decide +kernel
theorem dX5_pass_89 : decode cX5_pass 89 = .ok (.aload_n 0, 1) := by decide +kernel
theorem dX5_pass_90 : decode cX5_pass 90 = .ok (.getfield 31, 3) := by decide +kernel
theorem dX5_pass_93 : decode cX5_pass 93 = .ok (.iload_n 1, 1) := by decide +kernel
theorem dX5_pass_94 : decode cX5_pass 94 = .ok (.iload_n 2, 1) := by decide +kernel
theorem dX5_pass_95 : decode cX5_pass 95 = .ok (.invokevirtual 163, 3) := by decide +kernel
theorem dX5_pass_98 : decode cX5_pass 98 = .ok (.aload_n 0, 1) := by decide +kernel
theorem dX5_pass_99 : decode cX5_pass 99 = .ok (.getfield 21, 3) := by decide +kernel
theorem dX5_pass_102 : decode cX5_pass 102 = .ok (.iload_n 1, 1) := by decide +kernel
theorem dX5_pass_103 : decode cX5_pass 103 = .ok (.iload_n 2, 1) := by decide +kernel
theorem dX5_pass_104 : decode cX5_pass 104 = .ok (.invokevirtual 166, 3) := by decide +kernel
theorem dX5_pass_107 : decode cX5_pass 107 = .ok (.ireturn, 1) := by decide +kernel
theorem dX5_idle_0 : decode cX5_idle 0 = .ok (.iload_n 1, 1) := by decide +kernel
theorem dX5_idle_1 : decode cX5_idle 1 = .ok (.iconst 1, 1) := by decide +kernel
theorem dX5_idle_2 : decode cX5_idle 2 = .ok (.if_icmp .lt 9, 3) := by decide +kernel
theorem dX5_idle_5 : decode cX5_idle 5 = .ok (.iload_n 1, 1) := by decide +kernel
theorem dX5_idle_6 : decode cX5_idle 6 = .ok (.bipush 100, 2) := by decide +kernel
theorem dX5_idle_8 : decode cX5_idle 8 = .ok (.if_icmp .le 13, 3) := by decide +kernel
theorem dX5_idle_11 : decode cX5_idle 11 = .ok (.new 86, 3) := by decide +kernel
theorem dX5_idle_14 : decode cX5_idle 14 = .ok (.dup, 1) := by decide +kernel
theorem dX5_idle_15 : decode cX5_idle 15 = .ok (.ldc 169, 2) := by decide +kernel
theorem dX5_idle_17 : decode cX5_idle 17 = .ok (.invokespecial 90, 3) := by decide +kernel
theorem dX5_idle_20 : decode cX5_idle 20 = .ok (.athrow, 1) := by decide +kernel
theorem dX5_idle_21 : decode cX5_idle 21 = .ok (.aload_n 0, 1) := by decide +kernel
theorem dX5_idle_22 : decode cX5_idle 22 = .ok (.dup, 1) := by decide +kernel
theorem dX5_idle_23 : decode cX5_idle 23 = .ok (.getfield 61, 3) := by decide +kernel
theorem dX5_idle_26 : decode cX5_idle 26 = .ok (.iload_n 1, 1) := by decide +kernel
theorem dX5_idle_27 : decode cX5_idle 27 = .ok (.iadd, 1) := by decide +kernel
theorem dX5_idle_28 : decode cX5_idle 28 = .ok (.putfield 61, 3) := by decide +kernel
theorem dX5_idle_31 : decode cX5_idle 31 = .ok (.aload_n 0, 1) := by decide +kernel
theorem dX5_idle_32 : decode cX5_idle 32 = .ok (.getfield 61, 3) := by decide +kernel
theorem dX5_idle_35 : decode cX5_idle 35 = .ok (.ireturn, 1) := by decide +kernel
set_option maxRecDepth 20000 in
theorem ggX5_gateOf_X5_checkKart : GoodIn wsX5_gateOf wsX5_checkKart := goodIn_ca (goodIn_r _ [6, 7, 8, 9, 23, 24, 25, 26, 27, 28, 29, 30, 31, 32] (by decide +kernel) (by decide +kernel)) (goodIn_sub (fun _ h => List.mem_cons_of_mem _ (List.mem_append_left _ (List.mem_append_right _ h))) (by decide +kernel))
set_option maxRecDepth 20000 in
theorem gX5_gateOf_X5_checkKart : GoodIn wsX5_gateOf (wsV RX5 140 RX5 yX5_checkKart wsX5_checkKart) := goodIn_app (goodIn_of _ (by decide +kernel)) ggX5_gateOf_X5_checkKart
set_option maxRecDepth 20000 in
theorem ggX5_gateOf_X5_checkRaceIsOn : GoodIn wsX5_gateOf wsX5_checkRaceIsOn := goodIn_ca (goodIn_r _ [13, 14, 15, 16, 23, 24, 25, 26, 27, 28, 29, 30, 31, 32] (by decide +kernel) (by decide +kernel)) (goodIn_sub (fun _ h => List.mem_cons_of_mem _ (List.mem_append_right _ h)) (by decide +kernel))
set_option maxRecDepth 20000 in
theorem gX5_gateOf_X5_checkRaceIsOn : GoodIn wsX5_gateOf (wsV RX5 171 RX5 yX5_checkRaceIsOn wsX5_checkRaceIsOn) := goodIn_app (goodIn_of _ (by decide +kernel)) ggX5_gateOf_X5_checkRaceIsOn
set_option maxRecDepth 20000 in
theorem ggX5_gateOf_X3_gateAt : GoodIn wsX5_gateOf wsX3_gateAt := goodIn_r _ [21, 22, 33, 34, 35, 36, 37, 38, 39, 40, 41, 42, 43] (by decide +kernel) (by decide +kernel)
set_option maxRecDepth 20000 in
theorem gX5_gateOf_X3_gateAt : GoodIn wsX5_gateOf (wsV RX5 151 RX3 yX3_gateAt wsX3_gateAt) := goodIn_app (goodIn_of _ (by decide +kernel)) ggX5_gateOf_X3_gateAt
theorem dX5_gateOf_0 : decode cX5_gateOf 0 = .ok (.aload_n 0, 1) := by decide +kernel
theorem dX5_gateOf_1 : decode cX5_gateOf 1 = .ok (.iload_n 1, 1) := by decide +kernel
theorem dX5_gateOf_2 : decode cX5_gateOf 2 = .ok (.invokevirtual 140, 3) := by decide +kernel
theorem dX5_gateOf_5 : decode cX5_gateOf 5 = .ok (.aload_n 0, 1) := by decide +kernel
theorem dX5_gateOf_6 : decode cX5_gateOf 6 = .ok (.invokevirtual 171, 3) := by decide +kernel
theorem dX5_gateOf_9 : decode cX5_gateOf 9 = .ok (.aload_n 0, 1) := by decide +kernel
theorem dX5_gateOf_10 : decode cX5_gateOf 10 = .ok (.getfield 21, 3) := by decide +kernel
theorem dX5_gateOf_13 : decode cX5_gateOf 13 = .ok (.iload_n 1, 1) := by decide +kernel
theorem dX5_gateOf_14 : decode cX5_gateOf 14 = .ok (.invokevirtual 151, 3) := by decide +kernel
theorem dX5_gateOf_17 : decode cX5_gateOf 17 = .ok (.ireturn, 1) := by decide +kernel
set_option maxRecDepth 20000 in
theorem ggX5_lapsOf_X5_checkKart : GoodIn wsX5_lapsOf wsX5_checkKart := goodIn_ca (goodIn_r _ [6, 7, 8, 9, 24, 25, 26, 27, 28, 29, 30, 31, 32, 33] (by decide +kernel) (by decide +kernel)) (goodIn_sub (fun _ h => List.mem_cons_of_mem _ (List.mem_append_left _ (List.mem_append_right _ h))) (by decide +kernel))
set_option maxRecDepth 20000 in
theorem gX5_lapsOf_X5_checkKart : GoodIn wsX5_lapsOf (wsV RX5 140 RX5 yX5_checkKart wsX5_checkKart) := goodIn_app (goodIn_of _ (by decide +kernel)) ggX5_lapsOf_X5_checkKart
set_option maxRecDepth 20000 in
theorem ggX5_lapsOf_X5_checkRaceIsOn : GoodIn wsX5_lapsOf wsX5_checkRaceIsOn := goodIn_ca (goodIn_r _ [13, 14, 15, 16, 24, 25, 26, 27, 28, 29, 30, 31, 32, 33] (by decide +kernel) (by decide +kernel)) (goodIn_sub (fun _ h => List.mem_cons_of_mem _ (List.mem_append_right _ h)) (by decide +kernel))
set_option maxRecDepth 20000 in
theorem gX5_lapsOf_X5_checkRaceIsOn : GoodIn wsX5_lapsOf (wsV RX5 171 RX5 yX5_checkRaceIsOn wsX5_checkRaceIsOn) := goodIn_app (goodIn_of _ (by decide +kernel)) ggX5_lapsOf_X5_checkRaceIsOn
set_option maxRecDepth 20000 in
theorem ggX5_lapsOf_X3_netLaps : GoodIn wsX5_lapsOf wsX3_netLaps := goodIn_r _ [21, 22, 23, 34, 35, 36, 37, 38, 39, 40, 41, 42, 43, 44] (by decide +kernel) (by decide +kernel)
set_option maxRecDepth 20000 in
theorem gX5_lapsOf_X3_netLaps : GoodIn wsX5_lapsOf (wsV RX5 174 RX3 yX3_netLaps wsX3_netLaps) := goodIn_app (goodIn_of _ (by decide +kernel)) ggX5_lapsOf_X3_netLaps
theorem dX5_lapsOf_0 : decode cX5_lapsOf 0 = .ok (.aload_n 0, 1) := by decide +kernel
theorem dX5_lapsOf_1 : decode cX5_lapsOf 1 = .ok (.iload_n 1, 1) := by decide +kernel
theorem dX5_lapsOf_2 : decode cX5_lapsOf 2 = .ok (.invokevirtual 140, 3) := by decide +kernel
theorem dX5_lapsOf_5 : decode cX5_lapsOf 5 = .ok (.aload_n 0, 1) := by decide +kernel
theorem dX5_lapsOf_6 : decode cX5_lapsOf 6 = .ok (.invokevirtual 171, 3) := by decide +kernel
theorem dX5_lapsOf_9 : decode cX5_lapsOf 9 = .ok (.aload_n 0, 1) := by decide +kernel
theorem dX5_lapsOf_10 : decode cX5_lapsOf 10 = .ok (.getfield 21, 3) := by decide +kernel
theorem dX5_lapsOf_13 : decode cX5_lapsOf 13 = .ok (.iload_n 1, 1) := by decide +kernel
theorem dX5_lapsOf_14 : decode cX5_lapsOf 14 = .ok (.invokevirtual 174, 3) := by decide +kernel
theorem dX5_lapsOf_17 : decode cX5_lapsOf 17 = .ok (.ireturn, 1) := by decide +kernel
set_option maxRecDepth 20000 in
theorem ggX5_missing_X5_checkKart : GoodIn wsX5_missing wsX5_checkKart := goodIn_ca (goodIn_r _ [6, 7, 8, 9, 30, 31, 32, 33, 34, 35, 36, 37, 38, 39] (by decide +kernel) (by decide +kernel)) (goodIn_sub (fun _ h => List.mem_cons_of_mem _ (List.mem_append_left _ (List.mem_append_right _ h))) (by decide +kernel))
set_option maxRecDepth 20000 in
theorem gX5_missing_X5_checkKart : GoodIn wsX5_missing (wsV RX5 140 RX5 yX5_checkKart wsX5_checkKart) := goodIn_app (goodIn_of _ (by decide +kernel)) ggX5_missing_X5_checkKart
set_option maxRecDepth 20000 in
theorem ggX5_missing_X5_checkRaceIsOn : GoodIn wsX5_missing wsX5_checkRaceIsOn := goodIn_ca (goodIn_r _ [13, 14, 15, 16, 30, 31, 32, 33, 34, 35, 36, 37, 38, 39] (by decide +kernel) (by decide +kernel)) (goodIn_sub (fun _ h => List.mem_cons_of_mem _ (List.mem_append_right _ h)) (by decide +kernel))
set_option maxRecDepth 20000 in
theorem gX5_missing_X5_checkRaceIsOn : GoodIn wsX5_missing (wsV RX5 171 RX5 yX5_checkRaceIsOn wsX5_checkRaceIsOn) := goodIn_app (goodIn_of _ (by decide +kernel)) ggX5_missing_X5_checkRaceIsOn
set_option maxRecDepth 20000 in
theorem ggX5_missing_X3_missingGates : GoodIn wsX5_missing wsX3_missingGates := goodIn_r _ [21, 22, 23, 24, 25, 26, 27, 28, 29, 40, 41, 42, 43, 44, 45, 46, 47, 48, 49, 50, 51, 52, 53, 54] (by decide +kernel) (by decide +kernel)
set_option maxRecDepth 20000 in
theorem gX5_missing_X3_missingGates : GoodIn wsX5_missing (wsV RX5 177 RX3 yX3_missingGates wsX3_missingGates) := goodIn_app (goodIn_of _ (by decide +kernel)) ggX5_missing_X3_missingGates
theorem dX5_missing_0 : decode cX5_missing 0 = .ok (.aload_n 0, 1) := by decide +kernel
theorem dX5_missing_1 : decode cX5_missing 1 = .ok (.iload_n 1, 1) := by decide +kernel
theorem dX5_missing_2 : decode cX5_missing 2 = .ok (.invokevirtual 140, 3) := by decide +kernel
theorem dX5_missing_5 : decode cX5_missing 5 = .ok (.aload_n 0, 1) := by decide +kernel
theorem dX5_missing_6 : decode cX5_missing 6 = .ok (.invokevirtual 171, 3) := by decide +kernel
theorem dX5_missing_9 : decode cX5_missing 9 = .ok (.aload_n 0, 1) := by decide +kernel
theorem dX5_missing_10 : decode cX5_missing 10 = .ok (.getfield 21, 3) := by decide +kernel
theorem dX5_missing_13 : decode cX5_missing 13 = .ok (.iload_n 1, 1) := by decide +kernel
theorem dX5_missing_14 : decode cX5_missing 14 = .ok (.invokevirtual 177, 3) := by decide +kernel
theorem dX5_missing_17 : decode cX5_missing 17 = .ok (.ireturn, 1) := by decide +kernel
set_option maxRecDepth 20000 in
theorem ggX5_rank_X5_checkKart : GoodIn wsX5_rank wsX5_checkKart := goodIn_ca (goodIn_r _ [6, 7, 8, 9, 47, 48, 49, 50, 51, 52, 53, 54, 55, 56] (by decide +kernel) (by decide +kernel)) (goodIn_sub (fun _ h => List.mem_cons_of_mem _ (List.mem_append_left _ (List.mem_append_right _ h))) (by decide +kernel))
set_option maxRecDepth 20000 in
theorem gX5_rank_X5_checkKart : GoodIn wsX5_rank (wsV RX5 140 RX5 yX5_checkKart wsX5_checkKart) := goodIn_app (goodIn_of _ (by decide +kernel)) ggX5_rank_X5_checkKart
set_option maxRecDepth 20000 in
theorem ggX5_rank_X5_checkRaceIsOn : GoodIn wsX5_rank wsX5_checkRaceIsOn := goodIn_ca (goodIn_r _ [13, 14, 15, 16, 47, 48, 49, 50, 51, 52, 53, 54, 55, 56] (by decide +kernel) (by decide +kernel)) (goodIn_sub (fun _ h => List.mem_cons_of_mem _ (List.mem_append_right _ h)) (by decide +kernel))
set_option maxRecDepth 20000 in
theorem gX5_rank_X5_checkRaceIsOn : GoodIn wsX5_rank (wsV RX5 171 RX5 yX5_checkRaceIsOn wsX5_checkRaceIsOn) := goodIn_app (goodIn_of _ (by decide +kernel)) ggX5_rank_X5_checkRaceIsOn
set_option maxRecDepth 20000 in
theorem ggX5_rank_X3_countAhead : GoodIn wsX5_rank wsX3_countAhead := goodIn_r _ [21, 22, 23, 24, 25, 20, 26, 27, 28, 29, 30, 31, 32, 33, 34, 35, 36, 37, 38, 39, 40, 41, 42, 43, 44, 45, 46, 57, 58, 59, 60, 61, 62, 63, 64, 65, 66, 67, 68, 69, 70, 71] (by decide +kernel) (by decide +kernel)
set_option maxRecDepth 20000 in
theorem gX5_rank_X3_countAhead : GoodIn wsX5_rank (wsV RX5 180 RX3 yX3_countAhead wsX3_countAhead) := goodIn_app (goodIn_of _ (by decide +kernel)) ggX5_rank_X3_countAhead
theorem dX5_rank_0 : decode cX5_rank 0 = .ok (.aload_n 0, 1) := by decide +kernel
theorem dX5_rank_1 : decode cX5_rank 1 = .ok (.iload_n 1, 1) := by decide +kernel
theorem dX5_rank_2 : decode cX5_rank 2 = .ok (.invokevirtual 140, 3) := by decide +kernel
theorem dX5_rank_5 : decode cX5_rank 5 = .ok (.aload_n 0, 1) := by decide +kernel
theorem dX5_rank_6 : decode cX5_rank 6 = .ok (.invokevirtual 171, 3) := by decide +kernel
theorem dX5_rank_9 : decode cX5_rank 9 = .ok (.aload_n 0, 1) := by decide +kernel
theorem dX5_rank_10 : decode cX5_rank 10 = .ok (.getfield 21, 3) := by decide +kernel
theorem dX5_rank_13 : decode cX5_rank 13 = .ok (.iload_n 1, 1) := by decide +kernel
theorem dX5_rank_14 : decode cX5_rank 14 = .ok (.invokevirtual 180, 3) := by decide +kernel
theorem dX5_rank_17 : decode cX5_rank 17 = .ok (.ireturn, 1) := by decide +kernel
set_option maxRecDepth 20000 in
theorem ggX5_rankByRecord_X5_checkKart : GoodIn wsX5_rankByRecord wsX5_checkKart := goodIn_ca (goodIn_r _ [9, 10, 11, 2, 119, 120, 121, 122, 123, 124, 125, 126, 127, 128] (by decide +kernel) (by decide +kernel)) (goodIn_sub (fun _ h => List.mem_cons_of_mem _ (List.mem_append_left _ (List.mem_append_right _ h))) (by decide +kernel))
set_option maxRecDepth 20000 in
theorem gX5_rankByRecord_X5_checkKart : GoodIn wsX5_rankByRecord (wsV RX5 140 RX5 yX5_checkKart wsX5_checkKart) := goodIn_app (goodIn_of _ (by decide +kernel)) ggX5_rankByRecord_X5_checkKart
set_option maxRecDepth 20000 in
theorem ggX5_rankByRecord_X5_checkRaceIsOn : GoodIn wsX5_rankByRecord wsX5_checkRaceIsOn := goodIn_ca (goodIn_r _ [15, 16, 17, 18, 119, 120, 121, 122, 123, 124, 125, 126, 127, 128] (by decide +kernel) (by decide +kernel)) (goodIn_sub (fun _ h => List.mem_cons_of_mem _ (List.mem_append_right _ h)) (by decide +kernel))
set_option maxRecDepth 20000 in
theorem gX5_rankByRecord_X5_checkRaceIsOn : GoodIn wsX5_rankByRecord (wsV RX5 171 RX5 yX5_checkRaceIsOn wsX5_checkRaceIsOn) := goodIn_app (goodIn_of _ (by decide +kernel)) ggX5_rankByRecord_X5_checkRaceIsOn
set_option maxRecDepth 20000 in
theorem ggX5_rankByRecord_X3_lapGoal : GoodIn wsX5_rankByRecord wsX3_lapGoal := goodIn_r _ [23, 24, 129, 130, 131, 132, 133, 134, 135, 136, 137, 138, 139] (by decide +kernel) (by decide +kernel)
set_option maxRecDepth 20000 in
theorem gX5_rankByRecord_X3_lapGoal : GoodIn wsX5_rankByRecord (wsV RX5 183 RX3 yX3_lapGoal wsX3_lapGoal) := goodIn_app (goodIn_of _ (by decide +kernel)) ggX5_rankByRecord_X3_lapGoal
set_option maxRecDepth 20000 in
theorem ggX5_rankByRecord_X3_begin : GoodIn wsX5_rankByRecord wsX3_begin := goodIn_r _ [28, 29, 24, 30, 31, 32, 33, 34, 35, 129, 130, 131, 132, 133, 134, 135, 136, 137, 138, 139] (by decide +kernel) (by decide +kernel)
set_option maxRecDepth 20000 in
theorem gX5_rankByRecord_X3_begin : GoodIn wsX5_rankByRecord (wsV RX5 132 RX3 yX3_begin wsX3_begin) := goodIn_app (goodIn_of _ (by decide +kernel)) ggX5_rankByRecord_X3_begin
set_option maxRecDepth 20000 in
theorem ggX5_rankByRecord_X2_count : GoodIn wsX5_rankByRecord wsX2_count := goodIn_r _ [40, 41, 140, 141, 142] (by decide +kernel) (by decide +kernel)
set_option maxRecDepth 20000 in
theorem gX5_rankByRecord_X2_count : GoodIn wsX5_rankByRecord (wsV RX5 186 RX2 yX2_count wsX2_count) := goodIn_app (goodIn_of _ (by decide +kernel)) ggX5_rankByRecord_X2_count
set_option maxRecDepth 20000 in
theorem ggX5_rankByRecord_X2_kartAt : GoodIn wsX5_rankByRecord wsX2_kartAt := goodIn_r _ [45, 46, 140, 141, 142] (by decide +kernel) (by decide +kernel)
set_option maxRecDepth 20000 in
theorem gX5_rankByRecord_X2_kartAt : GoodIn wsX5_rankByRecord (wsV RX5 189 RX2 yX2_kartAt wsX2_kartAt) := goodIn_app (goodIn_of _ (by decide +kernel)) ggX5_rankByRecord_X2_kartAt
set_option maxRecDepth 20000 in
theorem ggX5_rankByRecord_X2_gateAt : GoodIn wsX5_rankByRecord wsX2_gateAt := goodIn_r _ [50, 51, 140, 141, 142] (by decide +kernel) (by decide +kernel)
set_option maxRecDepth 20000 in
theorem gX5_rankByRecord_X2_gateAt : GoodIn wsX5_rankByRecord (wsV RX5 192 RX2 yX2_gateAt wsX2_gateAt) := goodIn_app (goodIn_of _ (by decide +kernel)) ggX5_rankByRecord_X2_gateAt
set_option maxRecDepth 20000 in
theorem ggX5_rankByRecord_X3_move : GoodIn wsX5_rankByRecord wsX3_move := goodIn_r _ [55, 31, 30, 35, 56, 57, 58, 59, 60, 61, 62, 63, 64, 65, 66, 67, 68, 69, 22, 70, 33, 34, 71, 72, 73, 74, 32, 75, 76, 77, 78, 79, 80, 81, 82, 83, 84, 85, 86, 87, 24, 88, 89, 90, 91, 92, 93, 94, 95, 129, 130, 131, 132, 133, 134, 135, 136, 137, 138, 139, 143, 144, 145, 146] (by decide +kernel) (by decide +kernel)
set_option maxRecDepth 20000 in
theorem gX5_rankByRecord_X3_move : GoodIn wsX5_rankByRecord (wsV RX5 166 RX3 yX3_move wsX3_move) := goodIn_app (goodIn_of _ (by decide +kernel)) ggX5_rankByRecord_X3_move
set_option maxRecDepth 20000 in
theorem ggX5_rankByRecord_X3_sortedRank : GoodIn wsX5_rankByRecord wsX3_sortedRank := goodIn_r _ [99, 29, 100, 101, 102, 103, 104, 22, 105, 106, 107, 108, 109, 35, 56, 31, 84, 85, 86, 87, 32, 24, 110, 111, 112, 113, 33, 114, 115, 116, 60, 117, 118, 129, 130, 131, 132, 133, 134, 135, 136, 137, 138, 139, 143, 144, 145, 146] (by decide +kernel) (by decide +kernel)
set_option maxRecDepth 20000 in
theorem gX5_rankByRecord_X3_sortedRank : GoodIn wsX5_rankByRecord (wsV RX5 193 RX3 yX3_sortedRank wsX3_sortedRank) := goodIn_app (goodIn_of _ (by decide +kernel)) ggX5_rankByRecord_X3_sortedRank
theorem dX5_rankByRecord_0 : decode cX5_rankByRecord 0 = .ok (.aload_n 0, 1) := by decide +kernel
theorem dX5_rankByRecord_1 : decode cX5_rankByRecord 1 = .ok (.iload_n 1, 1) := by decide +kernel
theorem dX5_rankByRecord_2 : decode cX5_rankByRecord 2 = .ok (.invokevirtual 140, 3) := by decide +kernel
theorem dX5_rankByRecord_5 : decode cX5_rankByRecord 5 = .ok (.aload_n 0, 1) := by decide +kernel
theorem dX5_rankByRecord_6 : decode cX5_rankByRecord 6 = .ok (.invokevirtual 171, 3) := by decide +kernel
theorem dX5_rankByRecord_9 : decode cX5_rankByRecord 9 = .ok (.aload_n 0, 1) := by decide +kernel
theorem dX5_rankByRecord_10 : decode cX5_rankByRecord 10 = .ok (.getfield 25, 3) := by decide +kernel
theorem dX5_rankByRecord_13 : decode cX5_rankByRecord 13 = .ok (.aload_n 0, 1) := by decide +kernel
theorem dX5_rankByRecord_14 : decode cX5_rankByRecord 14 = .ok (.getfield 53, 3) := by decide +kernel
theorem dX5_rankByRecord_17 : decode cX5_rankByRecord 17 = .ok (.aload_n 0, 1) := by decide +kernel
theorem dX5_rankByRecord_18 : decode cX5_rankByRecord 18 = .ok (.getfield 21, 3) := by decide +kernel
theorem dX5_rankByRecord_21 : decode cX5_rankByRecord 21 = .ok (.invokevirtual 183, 3) := by decide +kernel
theorem dX5_rankByRecord_24 : decode cX5_rankByRecord 24 = .ok (.invokevirtual 132, 3) := by decide +kernel
theorem dX5_rankByRecord_27 : decode cX5_rankByRecord 27 = .ok (.iconst 0, 1) := by decide +kernel
theorem dX5_rankByRecord_28 : decode cX5_rankByRecord 28 = .ok (.istore_n 2, 1) := by decide +kernel
theorem dX5_rankByRecord_29 : decode cX5_rankByRecord 29 = .ok (.iload_n 2, 1) := by decide +kernel
theorem dX5_rankByRecord_30 : decode cX5_rankByRecord 30 = .ok (.aload_n 0, 1) := by decide +kernel
theorem dX5_rankByRecord_31 : decode cX5_rankByRecord 31 = .ok (.getfield 31, 3) := by decide +kernel
theorem dX5_rankByRecord_34 : decode cX5_rankByRecord 34 = .ok (.invokevirtual 186, 3) := by decide +kernel
theorem dX5_rankByRecord_37 : decode cX5_rankByRecord 37 = .ok (.if_icmp .ge 33, 3) := by decide +kernel
theorem dX5_rankByRecord_40 : decode cX5_rankByRecord 40 = .ok (.aload_n 0, 1) := by decide +kernel
theorem dX5_rankByRecord_41 : decode cX5_rankByRecord 41 = .ok (.getfield 25, 3) := by decide +kernel
theorem dX5_rankByRecord_44 : decode cX5_rankByRecord 44 = .ok (.aload_n 0, 1) := by decide +kernel
theorem dX5_rankByRecord_45 : decode cX5_rankByRecord 45 = .ok (.getfield 31, 3) := by decide +kernel
theorem dX5_rankByRecord_48 : decode cX5_rankByRecord 48 = .ok (.iload_n 2, 1) := by decide +kernel
theorem dX5_rankByRecord_49 : decode cX5_rankByRecord 49 = .ok (.invokevirtual 189, 3) := by decide +kernel
theorem dX5_rankByRecord_52 : decode cX5_rankByRecord 52 = .ok (.aload_n 0, 1) := by decide +kernel
theorem dX5_rankByRecord_53 : decode cX5_rankByRecord 53 = .ok (.getfield 31, 3) := by decide +kernel
theorem dX5_rankByRecord_56 : decode cX5_rankByRecord 56 = .ok (.iload_n 2, 1) := by decide +kernel
theorem dX5_rankByRecord_57 : decode cX5_rankByRecord 57 = .ok (.invokevirtual 192, 3) := by decide +kernel
theorem dX5_rankByRecord_60 : decode cX5_rankByRecord 60 = .ok (.invokevirtual 166, 3) := by decide +kernel
theorem dX5_rankByRecord_63 : decode cX5_rankByRecord 63 = .ok (.pop, 1) := by decide +kernel
theorem dX5_rankByRecord_64 : decode cX5_rankByRecord 64 = .ok (.iinc 2 1, 3) := by decide +kernel
theorem dX5_rankByRecord_67 : decode cX5_rankByRecord 67 = .ok (.goto (-38), 3) := by decide +kernel
theorem dX5_rankByRecord_70 : decode cX5_rankByRecord 70 = .ok (.aload_n 0, 1) := by decide +kernel
theorem dX5_rankByRecord_71 : decode cX5_rankByRecord 71 = .ok (.getfield 25, 3) := by decide +kernel
theorem dX5_rankByRecord_74 : decode cX5_rankByRecord 74 = .ok (.iload_n 1, 1) := by decide +kernel
theorem dX5_rankByRecord_75 : decode cX5_rankByRecord 75 = .ok (.invokevirtual 193, 3) := by decide +kernel
theorem dX5_rankByRecord_78 : decode cX5_rankByRecord 78 = .ok (.ireturn, 1) := by decide +kernel
set_option maxRecDepth 20000 in
theorem ggX5_catchUp_X5_checkKart : GoodIn wsX5_catchUp wsX5_checkKart := goodIn_ca (goodIn_r _ [10, 11, 12, 13, 62, 63, 64, 65, 66, 67, 68, 69, 70, 71] (by decide +kernel) (by decide +kernel)) (goodIn_sub (fun _ h => List.mem_cons_of_mem _ (List.mem_append_left _ (List.mem_append_right _ h))) (by decide +kernel))
set_option maxRecDepth 20000 in
theorem gX5_catchUp_X5_checkKart : GoodIn wsX5_catchUp (wsV RX5 140 RX5 yX5_checkKart wsX5_checkKart) := goodIn_app (goodIn_of _ (by decide +kernel)) ggX5_catchUp_X5_checkKart
set_option maxRecDepth 20000 in
theorem ggX5_catchUp_X5_checkRaceIsOn : GoodIn wsX5_catchUp wsX5_checkRaceIsOn := goodIn_ca (goodIn_r _ [17, 18, 19, 20, 62, 63, 64, 65, 66, 67, 68, 69, 70, 71] (by decide +kernel) (by decide +kernel)) (goodIn_sub (fun _ h => List.mem_cons_of_mem _ (List.mem_append_right _ h)) (by decide +kernel))
set_option maxRecDepth 20000 in
theorem gX5_catchUp_X5_checkRaceIsOn : GoodIn wsX5_catchUp (wsV RX5 171 RX5 yX5_checkRaceIsOn wsX5_checkRaceIsOn) := goodIn_app (goodIn_of _ (by decide +kernel)) ggX5_catchUp_X5_checkRaceIsOn
set_option maxRecDepth 20000 in
theorem ggX5_catchUp_X3_leadOver : GoodIn wsX5_catchUp wsX3_leadOver := goodIn_r _ [25, 26, 27, 28, 4, 29, 30, 31, 32, 24, 33, 34, 35, 36, 37, 38, 39, 40, 41, 42, 43, 44, 45, 46, 47, 48, 49, 50, 51, 52, 53, 54, 55, 56, 57, 58, 59, 60, 61, 72, 73, 74, 75, 76, 77, 78, 79, 80, 81, 82, 83, 84, 85, 86] (by decide +kernel) (by decide +kernel)
set_option maxRecDepth 20000 in
theorem gX5_catchUp_X3_leadOver : GoodIn wsX5_catchUp (wsV RX5 196 RX3 yX3_leadOver wsX3_leadOver) := goodIn_app (goodIn_of _ (by decide +kernel)) ggX5_catchUp_X3_leadOver
theorem dX5_catchUp_0 : decode cX5_catchUp 0 = .ok (.aload_n 0, 1) := by decide +kernel
theorem dX5_catchUp_1 : decode cX5_catchUp 1 = .ok (.iload_n 1, 1) := by decide +kernel
theorem dX5_catchUp_2 : decode cX5_catchUp 2 = .ok (.invokevirtual 140, 3) := by decide +kernel
theorem dX5_catchUp_5 : decode cX5_catchUp 5 = .ok (.aload_n 0, 1) := by decide +kernel
theorem dX5_catchUp_6 : decode cX5_catchUp 6 = .ok (.invokevirtual 171, 3) := by decide +kernel
theorem dX5_catchUp_9 : decode cX5_catchUp 9 = .ok (.aload_n 0, 1) := by decide +kernel
theorem dX5_catchUp_10 : decode cX5_catchUp 10 = .ok (.getfield 21, 3) := by decide +kernel
theorem dX5_catchUp_13 : decode cX5_catchUp 13 = .ok (.iload_n 1, 1) := by decide +kernel
theorem dX5_catchUp_14 : decode cX5_catchUp 14 = .ok (.invokevirtual 196, 3) := by decide +kernel
theorem dX5_catchUp_17 : decode cX5_catchUp 17 = .ok (.bipush 10, 2) := by decide +kernel
theorem dX5_catchUp_19 : decode cX5_catchUp 19 = .ok (.idiv, 1) := by decide +kernel
theorem dX5_catchUp_20 : decode cX5_catchUp 20 = .ok (.bipush 25, 2) := by decide +kernel
theorem dX5_catchUp_22 : decode cX5_catchUp 22 = .ok (.invokestatic 199, 3) := by decide +kernel
theorem dX5_catchUp_25 : decode cX5_catchUp 25 = .ok (.ireturn, 1) := by decide +kernel
set_option maxRecDepth 20000 in
theorem ggX5_setDraw_X1_setNumber : GoodIn wsX5_setDraw wsX1_setNumber := goodIn_r _ [6, 7, 18, 19, 20, 21] (by decide +kernel) (by decide +kernel)
set_option maxRecDepth 20000 in
theorem gX5_setDraw_X1_setNumber : GoodIn wsX5_setDraw (wsV RX5 204 RX1 yX1_setNumber wsX1_setNumber) := goodIn_app (goodIn_of _ (by decide +kernel)) ggX5_setDraw_X1_setNumber
theorem dX5_setDraw_0 : decode cX5_setDraw 0 = .ok (.aload_n 0, 1) := by decide +kernel
theorem dX5_setDraw_1 : decode cX5_setDraw 1 = .ok (.getfield 38, 3) := by decide +kernel
theorem dX5_setDraw_4 : decode cX5_setDraw 4 = .ok (.iload_n 1, 1) := by decide +kernel
theorem dX5_setDraw_5 : decode cX5_setDraw 5 = .ok (.invokevirtual 204, 3) := by decide +kernel
theorem dX5_setDraw_8 : decode cX5_setDraw 8 = .ok (.return_, 1) := by decide +kernel
set_option maxRecDepth 20000 in
theorem ggX5_draw_X5_checkKart : GoodIn wsX5_draw wsX5_checkKart := goodIn_ca (goodIn_r _ [9, 10, 11, 12, 71, 72, 73, 74, 75, 76, 77, 78, 79, 80] (by decide +kernel) (by decide +kernel)) (goodIn_sub (fun _ h => List.mem_cons_of_mem _ (List.mem_append_right _ h)) (by decide +kernel))
set_option maxRecDepth 20000 in
theorem gX5_draw_X5_checkKart : GoodIn wsX5_draw (wsV RX5 140 RX5 yX5_checkKart wsX5_checkKart) := goodIn_app (goodIn_of _ (by decide +kernel)) ggX5_draw_X5_checkKart
set_option maxRecDepth 20000 in
theorem ggX5_draw_X5_checkStillRacing : GoodIn wsX5_draw wsX5_checkStillRacing := goodIn_ca (goodIn_r _ [16, 1, 2, 4, 17, 18, 19, 8, 20, 21, 22, 23, 24, 25, 26, 27, 28, 71, 72, 73, 74, 75, 76, 77, 78, 79, 80, 81, 82, 83, 84, 85, 86, 87, 88, 89, 90, 91] (by decide +kernel) (by decide +kernel)) (goodIn_sub (fun _ h => List.mem_cons_of_mem _ (List.mem_append_left _ (List.mem_append_right _ h))) (by decide +kernel))
set_option maxRecDepth 20000 in
theorem gX5_draw_X5_checkStillRacing : GoodIn wsX5_draw (wsV RX5 143 RX5 yX5_checkStillRacing wsX5_checkStillRacing) := goodIn_app (goodIn_of _ (by decide +kernel)) ggX5_draw_X5_checkStillRacing
set_option maxRecDepth 20000 in
theorem ggX5_draw_X1_heldBy : GoodIn wsX5_draw wsX1_heldBy := goodIn_r _ [33, 34, 92, 93, 94, 95] (by decide +kernel) (by decide +kernel)
set_option maxRecDepth 20000 in
theorem gX5_draw_X1_heldBy : GoodIn wsX5_draw (wsV RX5 207 RX1 yX1_heldBy wsX1_heldBy) := goodIn_app (goodIn_of _ (by decide +kernel)) ggX5_draw_X1_heldBy
set_option maxRecDepth 20000 in
theorem ggX5_draw_X3_countAhead : GoodIn wsX5_draw wsX3_countAhead := goodIn_r _ [38, 39, 40, 41, 42, 25, 43, 44, 45, 46, 47, 23, 24, 26, 27, 28, 48, 49, 50, 51, 52, 53, 54, 55, 56, 57, 58, 81, 82, 83, 84, 85, 86, 87, 88, 89, 90, 91, 96, 97, 98, 99] (by decide +kernel) (by decide +kernel)
set_option maxRecDepth 20000 in
theorem gX5_draw_X3_countAhead : GoodIn wsX5_draw (wsV RX5 180 RX3 yX3_countAhead wsX3_countAhead) := goodIn_app (goodIn_of _ (by decide +kernel)) ggX5_draw_X3_countAhead
set_option maxRecDepth 20000 in
theorem ggX5_draw_X1_drawFor : GoodIn wsX5_draw wsX1_drawFor := goodIn_r _ [62, 63, 64, 34, 65, 66, 32, 67, 68, 69, 70, 92, 93, 94, 95] (by decide +kernel) (by decide +kernel)
set_option maxRecDepth 20000 in
theorem gX5_draw_X1_drawFor : GoodIn wsX5_draw (wsV RX5 212 RX1 yX1_drawFor wsX1_drawFor) := goodIn_app (goodIn_of _ (by decide +kernel)) ggX5_draw_X1_drawFor
theorem dX5_draw_0 : decode cX5_draw 0 = .ok (.aload_n 0, 1) := by decide +kernel
theorem dX5_draw_1 : decode cX5_draw 1 = .ok (.iload_n 1, 1) := by decide +kernel
theorem dX5_draw_2 : decode cX5_draw 2 = .ok (.invokevirtual 140, 3) := by decide +kernel
theorem dX5_draw_5 : decode cX5_draw 5 = .ok (.aload_n 0, 1) := by decide +kernel
theorem dX5_draw_6 : decode cX5_draw 6 = .ok (.iload_n 1, 1) := by decide +kernel
theorem dX5_draw_7 : decode cX5_draw 7 = .ok (.invokevirtual 143, 3) := by decide +kernel
theorem dX5_draw_10 : decode cX5_draw 10 = .ok (.aload_n 0, 1) := by decide +kernel
theorem dX5_draw_11 : decode cX5_draw 11 = .ok (.getfield 38, 3) := by decide +kernel
theorem dX5_draw_14 : decode cX5_draw 14 = .ok (.iload_n 1, 1) := by decide +kernel
theorem dX5_draw_15 : decode cX5_draw 15 = .ok (.invokevirtual 207, 3) := by decide +kernel
theorem dX5_draw_18 : decode cX5_draw 18 = .ok (.iconst (-1), 1) := by decide +kernel
theorem dX5_draw_19 : decode cX5_draw 19 = .ok (.if_icmp .eq 13, 3) := by decide +kernel
theorem dX5_draw_22 : decode cX5_draw 22 = .ok (.new 71, 3) := by decide +kernel
theorem dX5_draw_25 : decode cX5_draw 25 = .ok (.dup, 1) := by decide +kernel
theorem dX5_draw_26 : decode cX5_draw 26 = .ok (.ldc 210, 2) := by decide +kernel
theorem dX5_draw_28 : decode cX5_draw 28 = .ok (.invokespecial 75, 3) := by decide +kernel
theorem dX5_draw_31 : decode cX5_draw 31 = .ok (.athrow, 1) := by decide +kernel
theorem dX5_draw_32 : decode cX5_draw 32 = .ok (.aload_n 0, 1) := by decide +kernel
theorem dX5_draw_33 : decode cX5_draw 33 = .ok (.getfield 38, 3) := by decide +kernel
theorem dX5_draw_36 : decode cX5_draw 36 = .ok (.iload_n 1, 1) := by decide +kernel
theorem dX5_draw_37 : decode cX5_draw 37 = .ok (.aload_n 0, 1) := by decide +kernel
theorem dX5_draw_38 : decode cX5_draw 38 = .ok (.getfield 21, 3) := by decide +kernel
theorem dX5_draw_41 : decode cX5_draw 41 = .ok (.iload_n 1, 1) := by decide +kernel
theorem dX5_draw_42 : decode cX5_draw 42 = .ok (.invokevirtual 180, 3) := by decide +kernel
theorem dX5_draw_45 : decode cX5_draw 45 = .ok (.invokevirtual 212, 3) := by decide +kernel
theorem dX5_draw_48 : decode cX5_draw 48 = .ok (.ireturn, 1) := by decide +kernel
set_option maxRecDepth 20000 in
theorem ggX5_use_X5_checkKart : GoodIn wsX5_use wsX5_checkKart := goodIn_ca (goodIn_r _ [10, 11, 12, 13, 86, 87, 88, 89, 90, 91, 92, 93, 94, 95] (by decide +kernel) (by decide +kernel)) (goodIn_sub (fun _ h => List.mem_cons_of_mem _ (List.mem_append_right _ h)) (by decide +kernel))
set_option maxRecDepth 20000 in
theorem gX5_use_X5_checkKart : GoodIn wsX5_use (wsV RX5 140 RX5 yX5_checkKart wsX5_checkKart) := goodIn_app (goodIn_of _ (by decide +kernel)) ggX5_use_X5_checkKart
set_option maxRecDepth 20000 in
theorem ggX5_use_X5_checkStillRacing : GoodIn wsX5_use wsX5_checkStillRacing := goodIn_ca (goodIn_r _ [17, 1, 2, 4, 18, 19, 20, 9, 21, 22, 23, 24, 25, 26, 27, 28, 29, 86, 87, 88, 89, 90, 91, 92, 93, 94, 95, 96, 97, 98, 99, 100, 101, 102, 103, 104, 105, 106] (by decide +kernel) (by decide +kernel)) (goodIn_sub (fun _ h => List.mem_cons_of_mem _ (List.mem_append_left _ (List.mem_append_right _ h))) (by decide +kernel))
set_option maxRecDepth 20000 in
theorem gX5_use_X5_checkStillRacing : GoodIn wsX5_use (wsV RX5 143 RX5 yX5_checkStillRacing wsX5_checkStillRacing) := goodIn_app (goodIn_of _ (by decide +kernel)) ggX5_use_X5_checkStillRacing
set_option maxRecDepth 20000 in
theorem ggX5_use_X1_heldBy : GoodIn wsX5_use wsX1_heldBy := goodIn_r _ [34, 35, 107, 108, 109, 110] (by decide +kernel) (by decide +kernel)
set_option maxRecDepth 20000 in
theorem gX5_use_X1_heldBy : GoodIn wsX5_use (wsV RX5 207 RX1 yX1_heldBy wsX1_heldBy) := goodIn_app (goodIn_of _ (by decide +kernel)) ggX5_use_X1_heldBy
set_option maxRecDepth 20000 in
theorem ggX5_use_X1_takeFrom : GoodIn wsX5_use wsX1_takeFrom := goodIn_r _ [39, 35, 107, 108, 109, 110] (by decide +kernel) (by decide +kernel)
set_option maxRecDepth 20000 in
theorem gX5_use_X1_takeFrom : GoodIn wsX5_use (wsV RX5 217 RX1 yX1_takeFrom wsX1_takeFrom) := goodIn_app (goodIn_of _ (by decide +kernel)) ggX5_use_X1_takeFrom
set_option maxRecDepth 20000 in
theorem ggX5_use_X3_countAhead : GoodIn wsX5_use wsX3_countAhead := goodIn_r _ [43, 44, 45, 46, 47, 26, 48, 49, 50, 51, 52, 24, 25, 27, 28, 29, 53, 54, 55, 56, 57, 58, 59, 60, 61, 62, 63, 96, 97, 98, 99, 100, 101, 102, 103, 104, 105, 106, 111, 112, 113, 114] (by decide +kernel) (by decide +kernel)
set_option maxRecDepth 20000 in
theorem gX5_use_X3_countAhead : GoodIn wsX5_use (wsV RX5 180 RX3 yX3_countAhead wsX3_countAhead) := goodIn_app (goodIn_of _ (by decide +kernel)) ggX5_use_X3_countAhead
set_option maxRecDepth 20000 in
theorem ggX5_use_X1_wake : GoodIn wsX5_use wsX1_wake := goodIn_r _ [67, 68, 107, 108, 109, 110] (by decide +kernel) (by decide +kernel)
set_option maxRecDepth 20000 in
theorem gX5_use_X1_wake : GoodIn wsX5_use (wsV RX5 220 RX1 yX1_wake wsX1_wake) := goodIn_app (goodIn_of _ (by decide +kernel)) ggX5_use_X1_wake
set_option maxRecDepth 20000 in
theorem ggX5_use_X1_shield : GoodIn wsX5_use wsX1_shield := goodIn_r _ [72, 73, 107, 108, 109, 110] (by decide +kernel) (by decide +kernel)
set_option maxRecDepth 20000 in
theorem gX5_use_X1_shield : GoodIn wsX5_use (wsV RX5 223 RX1 yX1_shield wsX1_shield) := goodIn_app (goodIn_of _ (by decide +kernel)) ggX5_use_X1_shield
set_option maxRecDepth 20000 in
theorem ggX5_use_X5_hitRanks : GoodIn wsX5_use wsX5_hitRanks := goodIn_r _ [77, 13, 4, 3, 40, 41, 42, 26, 43, 44, 45, 46, 47, 48, 49, 50, 51, 52, 24, 25, 27, 28, 29, 53, 54, 55, 56, 57, 58, 59, 60, 61, 62, 63, 23, 78, 79, 80, 33, 81, 73, 68, 82, 83, 84, 85, 86, 87, 88, 89, 90, 91, 92, 93, 94, 95, 96, 97, 98, 99, 100, 101, 102, 103, 104, 105, 106, 111, 112, 113, 114, 107, 108, 109, 110] (by decide +kernel) (by decide +kernel)
set_option maxRecDepth 20000 in
theorem gX5_use_X5_hitRanks : GoodIn wsX5_use (wsV RX5 226 RX5 yX5_hitRanks wsX5_hitRanks) := goodIn_app (goodIn_of _ (by decide +kernel)) ggX5_use_X5_hitRanks
theorem dX5_use_0 : decode cX5_use 0 = .ok (.aload_n 0, 1) := by decide +kernel
theorem dX5_use_1 : decode cX5_use 1 = .ok (.iload_n 1, 1) := by decide +kernel
theorem dX5_use_2 : decode cX5_use 2 = .ok (.invokevirtual 140, 3) := by decide +kernel
theorem dX5_use_5 : decode cX5_use 5 = .ok (.aload_n 0, 1) := by decide +kernel
theorem dX5_use_6 : decode cX5_use 6 = .ok (.iload_n 1, 1) := by decide +kernel
theorem dX5_use_7 : decode cX5_use 7 = .ok (.invokevirtual 143, 3) := by decide +kernel
theorem dX5_use_10 : decode cX5_use 10 = .ok (.aload_n 0, 1) := by decide +kernel
theorem dX5_use_11 : decode cX5_use 11 = .ok (.getfield 38, 3) := by decide +kernel
theorem dX5_use_14 : decode cX5_use 14 = .ok (.iload_n 1, 1) := by decide +kernel
theorem dX5_use_15 : decode cX5_use 15 = .ok (.invokevirtual 207, 3) := by decide +kernel
theorem dX5_use_18 : decode cX5_use 18 = .ok (.istore_n 2, 1) := by decide +kernel
theorem dX5_use_19 : decode cX5_use 19 = .ok (.iload_n 2, 1) := by decide +kernel
theorem dX5_use_20 : decode cX5_use 20 = .ok (.iconst (-1), 1) := by decide +kernel
theorem dX5_use_21 : decode cX5_use 21 = .ok (.if_icmp .ne 13, 3) := by decide +kernel
theorem dX5_use_24 : decode cX5_use 24 = .ok (.new 71, 3) := by decide +kernel
theorem dX5_use_27 : decode cX5_use 27 = .ok (.dup, 1) := by decide +kernel
theorem dX5_use_28 : decode cX5_use 28 = .ok (.ldc 215, 2) := by decide +kernel
theorem dX5_use_30 : decode cX5_use 30 = .ok (.invokespecial 75, 3) := by decide +kernel
theorem dX5_use_33 : decode cX5_use 33 = .ok (.athrow, 1) := by decide +kernel
theorem dX5_use_34 : decode cX5_use 34 = .ok (.aload_n 0, 1) := by decide +kernel
theorem dX5_use_35 : decode cX5_use 35 = .ok (.getfield 38, 3) := by decide +kernel
theorem dX5_use_38 : decode cX5_use 38 = .ok (.iload_n 1, 1) := by decide +kernel
theorem dX5_use_39 : decode cX5_use 39 = .ok (.invokevirtual 217, 3) := by decide +kernel
theorem dX5_use_42 : decode cX5_use 42 = .ok (.aload_n 0, 1) := by decide +kernel
theorem dX5_use_43 : decode cX5_use 43 = .ok (.getfield 21, 3) := by decide +kernel
theorem dX5_use_46 : decode cX5_use 46 = .ok (.iload_n 1, 1) := by decide +kernel
theorem dX5_use_47 : decode cX5_use 47 = .ok (.invokevirtual 180, 3) := by decide +kernel
theorem dX5_use_50 : decode cX5_use 50 = .ok (.istore_n 3, 1) := by decide +kernel
theorem dX5_use_51 : decode cX5_use 51 = .ok (.iload_n 2, 1) := by decide +kernel
theorem dX5_use_52 : decode cX5_use 52 = .ok (.tableswitch 63 0 2 #[28, 48, 38], 28) := by decide +kernel
theorem dX5_use_80 : decode cX5_use 80 = .ok (.aload_n 0, 1) := by decide +kernel
theorem dX5_use_81 : decode cX5_use 81 = .ok (.getfield 38, 3) := by decide +kernel
theorem dX5_use_84 : decode cX5_use 84 = .ok (.iload_n 1, 1) := by decide +kernel
theorem dX5_use_85 : decode cX5_use 85 = .ok (.invokevirtual 220, 3) := by decide +kernel
theorem dX5_use_88 : decode cX5_use 88 = .ok (.iconst 0, 1) := by decide +kernel
theorem dX5_use_89 : decode cX5_use 89 = .ok (.ireturn, 1) := by decide +kernel
theorem dX5_use_90 : decode cX5_use 90 = .ok (.aload_n 0, 1) := by decide +kernel
theorem dX5_use_91 : decode cX5_use 91 = .ok (.getfield 38, 3) := by decide +kernel
theorem dX5_use_94 : decode cX5_use 94 = .ok (.iload_n 1, 1) := by decide +kernel
theorem dX5_use_95 : decode cX5_use 95 = .ok (.invokevirtual 223, 3) := by decide +kernel
theorem dX5_use_98 : decode cX5_use 98 = .ok (.iconst 0, 1) := by decide +kernel
theorem dX5_use_99 : decode cX5_use 99 = .ok (.ireturn, 1) := by decide +kernel
theorem dX5_use_100 : decode cX5_use 100 = .ok (.aload_n 0, 1) := by decide +kernel
theorem dX5_use_101 : decode cX5_use 101 = .ok (.iload_n 3, 1) := by decide +kernel
theorem dX5_use_102 : decode cX5_use 102 = .ok (.iconst 1, 1) := by decide +kernel
theorem dX5_use_103 : decode cX5_use 103 = .ok (.isub, 1) := by decide +kernel
theorem dX5_use_104 : decode cX5_use 104 = .ok (.iload_n 3, 1) := by decide +kernel
theorem dX5_use_105 : decode cX5_use 105 = .ok (.aload_n 0, 1) := by decide +kernel
theorem dX5_use_106 : decode cX5_use 106 = .ok (.getfield 61, 3) := by decide +kernel
theorem dX5_use_109 : decode cX5_use 109 = .ok (.iconst 5, 1) := by decide +kernel
theorem dX5_use_110 : decode cX5_use 110 = .ok (.iadd, 1) := by decide +kernel
theorem dX5_use_111 : decode cX5_use 111 = .ok (.invokevirtual 226, 3) := by decide +kernel
theorem dX5_use_114 : decode cX5_use 114 = .ok (.ireturn, 1) := by decide +kernel
theorem dX5_use_115 : decode cX5_use 115 = .ok (.aload_n 0, 1) := by decide +kernel
theorem dX5_use_116 : decode cX5_use 116 = .ok (.iconst 0, 1) := by decide +kernel
theorem dX5_use_117 : decode cX5_use 117 = .ok (.iload_n 3, 1) := by decide +kernel
theorem dX5_use_118 : decode cX5_use 118 = .ok (.aload_n 0, 1) := by decide +kernel
theorem dX5_use_119 : decode cX5_use 119 = .ok (.getfield 61, 3) := by decide +kernel
theorem dX5_use_122 : decode cX5_use 122 = .ok (.iconst 2, 1) := by decide +kernel
theorem dX5_use_123 : decode cX5_use 123 = .ok (.iadd, 1) := by decide +kernel
theorem dX5_use_124 : decode cX5_use 124 = .ok (.invokevirtual 226, 3) := by decide +kernel
theorem dX5_use_127 : decode cX5_use 127 = .ok (.ireturn, 1) := by decide +kernel
set_option maxRecDepth 20000 in
theorem ggX5_itemOf_X5_checkKart : GoodIn wsX5_itemOf wsX5_checkKart := goodIn_ca (goodIn_r _ [7, 8, 9, 10, 17, 18, 19, 20, 21, 22, 23, 24, 25, 26] (by decide +kernel) (by decide +kernel)) (goodIn_sub (fun _ h => List.mem_cons_of_mem _ (List.mem_append_right _ h)) (by decide +kernel))
set_option maxRecDepth 20000 in
theorem gX5_itemOf_X5_checkKart : GoodIn wsX5_itemOf (wsV RX5 140 RX5 yX5_checkKart wsX5_checkKart) := goodIn_app (goodIn_of _ (by decide +kernel)) ggX5_itemOf_X5_checkKart
set_option maxRecDepth 20000 in
theorem ggX5_itemOf_X1_heldBy : GoodIn wsX5_itemOf wsX1_heldBy := goodIn_r _ [15, 16, 27, 28, 29, 30] (by decide +kernel) (by decide +kernel)
set_option maxRecDepth 20000 in
theorem gX5_itemOf_X1_heldBy : GoodIn wsX5_itemOf (wsV RX5 207 RX1 yX1_heldBy wsX1_heldBy) := goodIn_app (goodIn_of _ (by decide +kernel)) ggX5_itemOf_X1_heldBy
theorem dX5_itemOf_0 : decode cX5_itemOf 0 = .ok (.aload_n 0, 1) := by decide +kernel
theorem dX5_itemOf_1 : decode cX5_itemOf 1 = .ok (.iload_n 1, 1) := by decide +kernel
theorem dX5_itemOf_2 : decode cX5_itemOf 2 = .ok (.invokevirtual 140, 3) := by decide +kernel
theorem dX5_itemOf_5 : decode cX5_itemOf 5 = .ok (.aload_n 0, 1) := by decide +kernel
theorem dX5_itemOf_6 : decode cX5_itemOf 6 = .ok (.getfield 57, 3) := by decide +kernel
theorem dX5_itemOf_9 : decode cX5_itemOf 9 = .ok (.ifCond .eq 14, 3) := by decide +kernel
theorem dX5_itemOf_12 : decode cX5_itemOf 12 = .ok (.aload_n 0, 1) := by decide +kernel
theorem dX5_itemOf_13 : decode cX5_itemOf 13 = .ok (.getfield 38, 3) := by decide +kernel
theorem dX5_itemOf_16 : decode cX5_itemOf 16 = .ok (.iload_n 1, 1) := by decide +kernel
theorem dX5_itemOf_17 : decode cX5_itemOf 17 = .ok (.invokevirtual 207, 3) := by decide +kernel
theorem dX5_itemOf_20 : decode cX5_itemOf 20 = .ok (.goto 4, 3) := by decide +kernel
theorem dX5_itemOf_23 : decode cX5_itemOf 23 = .ok (.iconst (-1), 1) := by decide +kernel
theorem dX5_itemOf_24 : decode cX5_itemOf 24 = .ok (.ireturn, 1) := by decide +kernel
set_option maxRecDepth 20000 in
theorem ggX5_stunned_X5_checkKart : GoodIn wsX5_stunned wsX5_checkKart := goodIn_ca (goodIn_r _ [8, 9, 10, 11, 22, 23, 24, 25, 26, 27, 28, 29, 30, 31] (by decide +kernel) (by decide +kernel)) (goodIn_sub (fun _ h => List.mem_cons_of_mem _ (List.mem_append_right _ h)) (by decide +kernel))
set_option maxRecDepth 20000 in
theorem gX5_stunned_X5_checkKart : GoodIn wsX5_stunned (wsV RX5 140 RX5 yX5_checkKart wsX5_checkKart) := goodIn_app (goodIn_of _ (by decide +kernel)) ggX5_stunned_X5_checkKart
set_option maxRecDepth 20000 in
theorem ggX5_stunned_X1_ticksStunned : GoodIn wsX5_stunned wsX1_ticksStunned := goodIn_r _ [16, 17, 18, 19, 20, 21, 32, 33, 34, 35] (by decide +kernel) (by decide +kernel)
set_option maxRecDepth 20000 in
theorem gX5_stunned_X1_ticksStunned : GoodIn wsX5_stunned (wsV RX5 146 RX1 yX1_ticksStunned wsX1_ticksStunned) := goodIn_app (goodIn_of _ (by decide +kernel)) ggX5_stunned_X1_ticksStunned
theorem dX5_stunned_0 : decode cX5_stunned 0 = .ok (.aload_n 0, 1) := by decide +kernel
theorem dX5_stunned_1 : decode cX5_stunned 1 = .ok (.iload_n 1, 1) := by decide +kernel
theorem dX5_stunned_2 : decode cX5_stunned 2 = .ok (.invokevirtual 140, 3) := by decide +kernel
theorem dX5_stunned_5 : decode cX5_stunned 5 = .ok (.aload_n 0, 1) := by decide +kernel
theorem dX5_stunned_6 : decode cX5_stunned 6 = .ok (.getfield 57, 3) := by decide +kernel
theorem dX5_stunned_9 : decode cX5_stunned 9 = .ok (.ifCond .eq 18, 3) := by decide +kernel
theorem dX5_stunned_12 : decode cX5_stunned 12 = .ok (.aload_n 0, 1) := by decide +kernel
theorem dX5_stunned_13 : decode cX5_stunned 13 = .ok (.getfield 38, 3) := by decide +kernel
theorem dX5_stunned_16 : decode cX5_stunned 16 = .ok (.iload_n 1, 1) := by decide +kernel
theorem dX5_stunned_17 : decode cX5_stunned 17 = .ok (.aload_n 0, 1) := by decide +kernel
theorem dX5_stunned_18 : decode cX5_stunned 18 = .ok (.getfield 61, 3) := by decide +kernel
theorem dX5_stunned_21 : decode cX5_stunned 21 = .ok (.invokevirtual 146, 3) := by decide +kernel
theorem dX5_stunned_24 : decode cX5_stunned 24 = .ok (.goto 4, 3) := by decide +kernel
theorem dX5_stunned_27 : decode cX5_stunned 27 = .ok (.iconst 0, 1) := by decide +kernel
theorem dX5_stunned_28 : decode cX5_stunned 28 = .ok (.ireturn, 1) := by decide +kernel
set_option maxRecDepth 20000 in
theorem ggX5_end_X5_checkRaceIsOn : GoodIn wsX5_end wsX5_checkRaceIsOn := goodIn_ca (goodIn_r _ [9, 10, 11, 4, 59, 60, 61, 62, 63, 64, 65, 66, 67, 68] (by decide +kernel) (by decide +kernel)) (goodIn_sub (fun _ h => List.mem_cons_of_mem _ (List.mem_append_right _ h)) (by decide +kernel))
set_option maxRecDepth 20000 in
theorem gX5_end_X5_checkRaceIsOn : GoodIn wsX5_end (wsV RX5 171 RX5 yX5_checkRaceIsOn wsX5_checkRaceIsOn) := goodIn_app (goodIn_of _ (by decide +kernel)) ggX5_end_X5_checkRaceIsOn
set_option maxRecDepth 20000 in
theorem ggX5_end_X3_countAhead : GoodIn wsX5_end wsX3_countAhead := goodIn_r _ [16, 17, 18, 19, 20, 15, 21, 22, 23, 24, 25, 26, 27, 28, 29, 30, 31, 32, 33, 34, 35, 36, 37, 38, 39, 40, 41, 69, 70, 71, 72, 73, 74, 75, 76, 77, 78, 79, 80, 81, 82, 83] (by decide +kernel) (by decide +kernel)
set_option maxRecDepth 20000 in
theorem gX5_end_X3_countAhead : GoodIn wsX5_end (wsV RX5 180 RX3 yX3_countAhead wsX3_countAhead) := goodIn_app (goodIn_of _ (by decide +kernel)) ggX5_end_X3_countAhead
set_option maxRecDepth 20000 in
theorem ggX5_end_X3_isWorthPoints : GoodIn wsX5_end wsX3_isWorthPoints := goodIn_r _ [45, 25, 26, 27, 15, 28, 29, 30, 31, 32, 33, 34, 35, 69, 70, 71, 72, 73, 74, 75, 76, 77, 78, 79] (by decide +kernel) (by decide +kernel)
set_option maxRecDepth 20000 in
theorem gX5_end_X3_isWorthPoints : GoodIn wsX5_end (wsV RX5 230 RX3 yX3_isWorthPoints wsX3_isWorthPoints) := goodIn_app (goodIn_of _ (by decide +kernel)) ggX5_end_X3_isWorthPoints
set_option maxRecDepth 20000 in
theorem ggX5_end_X0_noteResult : GoodIn wsX5_end wsX0_noteResult := goodIn_r _ [50, 51, 52, 53, 54, 84, 85, 86, 87] (by decide +kernel) (by decide +kernel)
set_option maxRecDepth 20000 in
theorem gX5_end_X0_noteResult : GoodIn wsX5_end (wsV RX5 234 RX0 yX0_noteResult wsX0_noteResult) := goodIn_app (goodIn_of _ (by decide +kernel)) ggX5_end_X0_noteResult
set_option maxRecDepth 20000 in
theorem ggX5_end_X0_closeRace : GoodIn wsX5_end wsX0_closeRace := goodIn_r _ [58, 52, 84, 85, 86, 87] (by decide +kernel) (by decide +kernel)
set_option maxRecDepth 20000 in
theorem gX5_end_X0_closeRace : GoodIn wsX5_end (wsV RX5 238 RX0 yX0_closeRace wsX0_closeRace) := goodIn_app (goodIn_of _ (by decide +kernel)) ggX5_end_X0_closeRace
theorem dX5_end_0 : decode cX5_end 0 = .ok (.aload_n 0, 1) := by decide +kernel
theorem dX5_end_1 : decode cX5_end 1 = .ok (.invokevirtual 171, 3) := by decide +kernel
theorem dX5_end_4 : decode cX5_end 4 = .ok (.iconst 0, 1) := by decide +kernel
theorem dX5_end_5 : decode cX5_end 5 = .ok (.istore_n 1, 1) := by decide +kernel
theorem dX5_end_6 : decode cX5_end 6 = .ok (.iconst 0, 1) := by decide +kernel
theorem dX5_end_7 : decode cX5_end 7 = .ok (.istore_n 2, 1) := by decide +kernel
theorem dX5_end_8 : decode cX5_end 8 = .ok (.iload_n 2, 1) := by decide +kernel
theorem dX5_end_9 : decode cX5_end 9 = .ok (.aload_n 0, 1) := by decide +kernel
theorem dX5_end_10 : decode cX5_end 10 = .ok (.getfield 53, 3) := by decide +kernel
theorem dX5_end_13 : decode cX5_end 13 = .ok (.if_icmp .ge 41, 3) := by decide +kernel
theorem dX5_end_16 : decode cX5_end 16 = .ok (.aload_n 0, 1) := by decide +kernel
theorem dX5_end_17 : decode cX5_end 17 = .ok (.getfield 21, 3) := by decide +kernel
theorem dX5_end_20 : decode cX5_end 20 = .ok (.iload_n 2, 1) := by decide +kernel
theorem dX5_end_21 : decode cX5_end 21 = .ok (.invokevirtual 180, 3) := by decide +kernel
theorem dX5_end_24 : decode cX5_end 24 = .ok (.istore_n 3, 1) := by decide +kernel
theorem dX5_end_25 : decode cX5_end 25 = .ok (.aload_n 0, 1) := by decide +kernel
theorem dX5_end_26 : decode cX5_end 26 = .ok (.getfield 45, 3) := by decide +kernel
theorem dX5_end_29 : decode cX5_end 29 = .ok (.iload_n 2, 1) := by decide +kernel
theorem dX5_end_30 : decode cX5_end 30 = .ok (.iload_n 3, 1) := by decide +kernel
theorem dX5_end_31 : decode cX5_end 31 = .ok (.aload_n 0, 1) := by decide +kernel
theorem dX5_end_32 : decode cX5_end 32 = .ok (.getfield 21, 3) := by decide +kernel
theorem dX5_end_35 : decode cX5_end 35 = .ok (.iload_n 2, 1) := by decide +kernel
theorem dX5_end_36 : decode cX5_end 36 = .ok (.invokevirtual 230, 3) := by decide +kernel
theorem dX5_end_39 : decode cX5_end 39 = .ok (.invokevirtual 234, 3) := by decide +kernel
theorem dX5_end_42 : decode cX5_end 42 = .ok (.iload_n 3, 1) := by decide +kernel
theorem dX5_end_43 : decode cX5_end 43 = .ok (.ifCond .ne 5, 3) := by decide +kernel
theorem dX5_end_46 : decode cX5_end 46 = .ok (.iload_n 2, 1) := by decide +kernel
theorem dX5_end_47 : decode cX5_end 47 = .ok (.istore_n 1, 1) := by decide +kernel
theorem dX5_end_48 : decode cX5_end 48 = .ok (.iinc 2 1, 3) := by decide +kernel
theorem dX5_end_51 : decode cX5_end 51 = .ok (.goto (-43), 3) := by decide +kernel
theorem dX5_end_54 : decode cX5_end 54 = .ok (.aload_n 0, 1) := by decide +kernel
theorem dX5_end_55 : decode cX5_end 55 = .ok (.getfield 45, 3) := by decide +kernel
theorem dX5_end_58 : decode cX5_end 58 = .ok (.invokevirtual 238, 3) := by decide +kernel
theorem dX5_end_61 : decode cX5_end 61 = .ok (.aload_n 0, 1) := by decide +kernel
theorem dX5_end_62 : decode cX5_end 62 = .ok (.iconst 0, 1) := by decide +kernel
theorem dX5_end_63 : decode cX5_end 63 = .ok (.putfield 57, 3) := by decide +kernel
theorem dX5_end_66 : decode cX5_end 66 = .ok (.iload_n 1, 1) := by decide +kernel
theorem dX5_end_67 : decode cX5_end 67 = .ok (.ireturn, 1) := by decide +kernel
set_option maxRecDepth 20000 in
theorem ggX5_races_X0_endedRaces : GoodIn wsX5_races wsX0_endedRaces := goodIn_r _ [6, 7, 18, 19, 20, 21] (by decide +kernel) (by decide +kernel)
set_option maxRecDepth 20000 in
theorem gX5_races_X0_endedRaces : GoodIn wsX5_races (wsV RX5 120 RX0 yX0_endedRaces wsX0_endedRaces) := goodIn_app (goodIn_of _ (by decide +kernel)) ggX5_races_X0_endedRaces
theorem dX5_races_0 : decode cX5_races 0 = .ok (.aload_n 0, 1) := by decide +kernel
theorem dX5_races_1 : decode cX5_races 1 = .ok (.getfield 45, 3) := by decide +kernel
theorem dX5_races_4 : decode cX5_races 4 = .ok (.invokevirtual 120, 3) := by decide +kernel
theorem dX5_races_7 : decode cX5_races 7 = .ok (.ireturn, 1) := by decide +kernel
set_option maxRecDepth 20000 in
theorem ggX5_place_X0_endedRaces : GoodIn wsX5_place wsX0_endedRaces := goodIn_r _ [8, 9, 31, 32, 33, 34] (by decide +kernel) (by decide +kernel)
set_option maxRecDepth 20000 in
theorem gX5_place_X0_endedRaces : GoodIn wsX5_place (wsV RX5 120 RX0 yX0_endedRaces wsX0_endedRaces) := goodIn_app (goodIn_of _ (by decide +kernel)) ggX5_place_X0_endedRaces
set_option maxRecDepth 20000 in
theorem ggX5_place_X5_checkKart : GoodIn wsX5_place wsX5_checkKart := goodIn_ca (goodIn_r _ [14, 1, 2, 15, 21, 22, 23, 24, 25, 26, 27, 28, 29, 30] (by decide +kernel) (by decide +kernel)) (goodIn_sub (fun _ h => List.mem_cons_of_mem _ (List.mem_append_right _ h)) (by decide +kernel))
set_option maxRecDepth 20000 in
theorem gX5_place_X5_checkKart : GoodIn wsX5_place (wsV RX5 140 RX5 yX5_checkKart wsX5_checkKart) := goodIn_app (goodIn_of _ (by decide +kernel)) ggX5_place_X5_checkKart
set_option maxRecDepth 20000 in
theorem ggX5_place_X0_placeIn : GoodIn wsX5_place wsX0_placeIn := goodIn_r _ [19, 20, 31, 32, 33, 34] (by decide +kernel) (by decide +kernel)
set_option maxRecDepth 20000 in
theorem gX5_place_X0_placeIn : GoodIn wsX5_place (wsV RX5 246 RX0 yX0_placeIn wsX0_placeIn) := goodIn_app (goodIn_of _ (by decide +kernel)) ggX5_place_X0_placeIn
theorem dX5_place_0 : decode cX5_place 0 = .ok (.iload_n 1, 1) := by decide +kernel
theorem dX5_place_1 : decode cX5_place 1 = .ok (.ifCond .lt 14, 3) := by decide +kernel
theorem dX5_place_4 : decode cX5_place 4 = .ok (.iload_n 1, 1) := by decide +kernel
theorem dX5_place_5 : decode cX5_place 5 = .ok (.aload_n 0, 1) := by decide +kernel
theorem dX5_place_6 : decode cX5_place 6 = .ok (.getfield 45, 3) := by decide +kernel
theorem dX5_place_9 : decode cX5_place 9 = .ok (.invokevirtual 120, 3) := by decide +kernel
theorem dX5_place_12 : decode cX5_place 12 = .ok (.if_icmp .lt 13, 3) := by decide +kernel
theorem dX5_place_15 : decode cX5_place 15 = .ok (.new 241, 3) := by decide +kernel
theorem dX5_place_18 : decode cX5_place 18 = .ok (.dup, 1) := by decide +kernel
theorem dX5_place_19 : decode cX5_place 19 = .ok (.ldc 243, 2) := by decide +kernel
theorem dX5_place_21 : decode cX5_place 21 = .ok (.invokespecial 245, 3) := by decide +kernel
theorem dX5_place_24 : decode cX5_place 24 = .ok (.athrow, 1) := by decide +kernel
theorem dX5_place_25 : decode cX5_place 25 = .ok (.aload_n 0, 1) := by decide +kernel
