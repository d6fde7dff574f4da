set_option maxRecDepth 20000 in
theorem ggL_addGate_X5_addGate : GoodIn wsL_addGate wsX5_addGate := goodIn_ca (goodIn_r _ [6, 7, 8, 9, 10, 11, 12, 5, 13, 14, 15, 16, 17, 18, 19, 20, 21, 22, 23, 24, 25, 26, 27, 28, 29, 30, 31, 32, 33, 34, 35, 36, 37, 38, 39, 40, 41, 42, 43, 44, 45, 46, 47, 48, 49, 50, 51] (by decide +kernel) (by decide +kernel)) (goodIn_sub (fun _ h => List.mem_cons_of_mem _ (List.mem_append_right _ h)) (by decide +kernel))
set_option maxRecDepth 20000 in
theorem gL_addGate_X5_addGate : GoodIn wsL_addGate (wsV RL 7 RX5 yX5_addGate wsX5_addGate) := goodIn_app (goodIn_of _ (by decide +kernel)) ggL_addGate_X5_addGate
theorem dL_addGate_0 : decode cL_addGate 0 = .ok (.aload_n 2, 1) := by decide +kernel
theorem dL_addGate_1 : decode cL_addGate 1 = .ok (.iconst 0, 1) := by decide +kernel
theorem dL_addGate_2 : decode cL_addGate 2 = .ok (.aload_n 0, 1) := by decide +kernel
theorem dL_addGate_3 : decode cL_addGate 3 = .ok (.iload_n 1, 1) := by decide +kernel
theorem dL_addGate_4 : decode cL_addGate 4 = .ok (.invokevirtual 7, 3) := by decide +kernel
theorem dL_addGate_7 : decode cL_addGate 7 = .ok (.i2l, 1) := by decide +kernel
theorem dL_addGate_8 : decode cL_addGate 8 = .ok (.lastore, 1) := by decide +kernel
theorem dL_addGate_9 : decode cL_addGate 9 = .ok (.goto 6, 3) := by decide +kernel
theorem dL_addGate_12 : decode cL_addGate 12 = .ok (.astore_n 3, 1) := by decide +kernel
theorem dL_addGate_13 : decode cL_addGate 13 = .ok (.iconst 1, 1) := by decide +kernel
theorem dL_addGate_14 : decode cL_addGate 14 = .ok (.ireturn, 1) := by decide +kernel
theorem dL_addGate_15 : decode cL_addGate 15 = .ok (.iconst 0, 1) := by decide +kernel
theorem dL_addGate_16 : decode cL_addGate 16 = .ok (.ireturn, 1) := by decide +kernel
set_option maxRecDepth 20000 in
theorem ggL_addWay_X5_addWay : GoodIn wsL_addWay wsX5_addWay := goodIn_ca (goodIn_ca (goodIn_ca (goodIn_r _ [8, 9, 10, 11, 12, 13, 14, 7, 15, 16, 17, 18, 19, 20, 21, 22, 23, 24, 25, 26, 27, 28, 29, 30, 31, 32, 33, 34, 35, 36, 37, 38, 39, 40, 41, 42, 43, 44, 45, 46, 47, 48, 49, 50, 51, 52, 53, 54, 55, 56, 57, 58, 59, 60, 61, 62, 63, 64, 65, 66, 67, 68, 69, 70, 71, 72, 73, 74, 75, 76, 77, 78, 79, 80, 81, 82] (by decide +kernel) (by decide +kernel)) (goodIn_sub (fun _ h => List.mem_cons_of_mem _ (List.mem_append_left _ (List.mem_append_left _ (List.mem_append_right _ h)))) (by decide +kernel))) (goodIn_sub (fun _ h => List.mem_cons_of_mem _ (List.mem_append_left _ (List.mem_append_right _ h))) (by decide +kernel))) (goodIn_sub (fun _ h => List.mem_cons_of_mem _ (List.mem_append_right _ h)) (by decide +kernel))
set_option maxRecDepth 20000 in
theorem gL_addWay_X5_addWay : GoodIn wsL_addWay (wsV RL 15 RX5 yX5_addWay wsX5_addWay) := goodIn_app (goodIn_of _ (by decide +kernel)) ggL_addWay_X5_addWay
theorem dL_addWay_0 : decode cL_addWay 0 = .ok (.aload 4, 2) := by decide +kernel
theorem dL_addWay_2 : decode cL_addWay 2 = .ok (.iconst 0, 1) := by decide +kernel
theorem dL_addWay_3 : decode cL_addWay 3 = .ok (.aload_n 0, 1) := by decide +kernel
theorem dL_addWay_4 : decode cL_addWay 4 = .ok (.iload_n 1, 1) := by decide +kernel
theorem dL_addWay_5 : decode cL_addWay 5 = .ok (.iload_n 2, 1) := by decide +kernel
theorem dL_addWay_6 : decode cL_addWay 6 = .ok (.iload_n 3, 1) := by decide +kernel
theorem dL_addWay_7 : decode cL_addWay 7 = .ok (.invokevirtual 15, 3) := by decide +kernel
theorem dL_addWay_10 : decode cL_addWay 10 = .ok (.i2l, 1) := by decide +kernel
theorem dL_addWay_11 : decode cL_addWay 11 = .ok (.lastore, 1) := by decide +kernel
theorem dL_addWay_12 : decode cL_addWay 12 = .ok (.goto 15, 3) := by decide +kernel
theorem dL_addWay_15 : decode cL_addWay 15 = .ok (.astore 5, 2) := by decide +kernel
theorem dL_addWay_17 : decode cL_addWay 17 = .ok (.iconst 1, 1) := by decide +kernel
theorem dL_addWay_18 : decode cL_addWay 18 = .ok (.ireturn, 1) := by decide +kernel
theorem dL_addWay_19 : decode cL_addWay 19 = .ok (.astore 5, 2) := by decide +kernel
theorem dL_addWay_21 : decode cL_addWay 21 = .ok (.iconst 2, 1) := by decide +kernel
theorem dL_addWay_22 : decode cL_addWay 22 = .ok (.ireturn, 1) := by decide +kernel
theorem dL_addWay_23 : decode cL_addWay 23 = .ok (.astore 5, 2) := by decide +kernel
theorem dL_addWay_25 : decode cL_addWay 25 = .ok (.iconst 3, 1) := by decide +kernel
theorem dL_addWay_26 : decode cL_addWay 26 = .ok (.ireturn, 1) := by decide +kernel
theorem dL_addWay_27 : decode cL_addWay 27 = .ok (.iconst 0, 1) := by decide +kernel
theorem dL_addWay_28 : decode cL_addWay 28 = .ok (.ireturn, 1) := by decide +kernel
set_option maxRecDepth 20000 in
theorem ggL_addKart_X5_addKart : GoodIn wsL_addKart wsX5_addKart := goodIn_ca (goodIn_ca (goodIn_r _ [7, 8, 9, 10, 11, 12, 13, 14, 6, 15, 16, 17, 18, 19, 20, 21, 22, 23, 24, 25, 26, 27, 28, 29, 30, 31, 32, 33, 34, 35, 36, 37, 38, 39, 40, 41, 42, 43] (by decide +kernel) (by decide +kernel)) (goodIn_sub (fun _ h => List.mem_cons_of_mem _ (List.mem_append_left _ (List.mem_append_right _ h))) (by decide +kernel))) (goodIn_sub (fun _ h => List.mem_cons_of_mem _ (List.mem_append_right _ h)) (by decide +kernel))
set_option maxRecDepth 20000 in
theorem gL_addKart_X5_addKart : GoodIn wsL_addKart (wsV RL 23 RX5 yX5_addKart wsX5_addKart) := goodIn_app (goodIn_of _ (by decide +kernel)) ggL_addKart_X5_addKart
theorem dL_addKart_0 : decode cL_addKart 0 = .ok (.aload_n 2, 1) := by decide +kernel
theorem dL_addKart_1 : decode cL_addKart 1 = .ok (.iconst 0, 1) := by decide +kernel
theorem dL_addKart_2 : decode cL_addKart 2 = .ok (.aload_n 0, 1) := by decide +kernel
theorem dL_addKart_3 : decode cL_addKart 3 = .ok (.iload_n 1, 1) := by decide +kernel
theorem dL_addKart_4 : decode cL_addKart 4 = .ok (.invokevirtual 23, 3) := by decide +kernel
theorem dL_addKart_7 : decode cL_addKart 7 = .ok (.i2l, 1) := by decide +kernel
theorem dL_addKart_8 : decode cL_addKart 8 = .ok (.lastore, 1) := by decide +kernel
theorem dL_addKart_9 : decode cL_addKart 9 = .ok (.goto 9, 3) := by decide +kernel
theorem dL_addKart_12 : decode cL_addKart 12 = .ok (.astore_n 3, 1) := by decide +kernel
theorem dL_addKart_13 : decode cL_addKart 13 = .ok (.iconst 1, 1) := by decide +kernel
theorem dL_addKart_14 : decode cL_addKart 14 = .ok (.ireturn, 1) := by decide +kernel
theorem dL_addKart_15 : decode cL_addKart 15 = .ok (.astore_n 3, 1) := by decide +kernel
theorem dL_addKart_16 : decode cL_addKart 16 = .ok (.iconst 2, 1) := by decide +kernel
theorem dL_addKart_17 : decode cL_addKart 17 = .ok (.ireturn, 1) := by decide +kernel
theorem dL_addKart_18 : decode cL_addKart 18 = .ok (.iconst 0, 1) := by decide +kernel
theorem dL_addKart_19 : decode cL_addKart 19 = .ok (.ireturn, 1) := by decide +kernel
set_option maxRecDepth 20000 in
theorem ggL_rest_X5_rest : GoodIn wsL_rest wsX5_rest := goodIn_ca (goodIn_r _ [6, 7, 8, 9, 10, 5, 11, 12, 13, 14, 15, 16, 17, 18, 19, 20, 21, 22, 23, 24, 25, 26, 27, 28, 29, 30, 31, 32, 33, 34, 35, 36, 37, 38] (by decide +kernel) (by decide +kernel)) (goodIn_sub (fun _ h => List.mem_cons_of_mem _ (List.mem_append_right _ h)) (by decide +kernel))
set_option maxRecDepth 20000 in
theorem gL_rest_X5_rest : GoodIn wsL_rest (wsV RL 27 RX5 yX5_rest wsX5_rest) := goodIn_app (goodIn_of _ (by decide +kernel)) ggL_rest_X5_rest
theorem dL_rest_0 : decode cL_rest 0 = .ok (.aload_n 2, 1) := by decide +kernel
theorem dL_rest_1 : decode cL_rest 1 = .ok (.iconst 0, 1) := by decide +kernel
theorem dL_rest_2 : decode cL_rest 2 = .ok (.aload_n 0, 1) := by decide +kernel
theorem dL_rest_3 : decode cL_rest 3 = .ok (.iload_n 1, 1) := by decide +kernel
theorem dL_rest_4 : decode cL_rest 4 = .ok (.invokevirtual 27, 3) := by decide +kernel
theorem dL_rest_7 : decode cL_rest 7 = .ok (.i2l, 1) := by decide +kernel
theorem dL_rest_8 : decode cL_rest 8 = .ok (.lastore, 1) := by decide +kernel
theorem dL_rest_9 : decode cL_rest 9 = .ok (.goto 6, 3) := by decide +kernel
theorem dL_rest_12 : decode cL_rest 12 = .ok (.astore_n 3, 1) := by decide +kernel
theorem dL_rest_13 : decode cL_rest 13 = .ok (.iconst 1, 1) := by decide +kernel
theorem dL_rest_14 : decode cL_rest 14 = .ok (.ireturn, 1) := by decide +kernel
theorem dL_rest_15 : decode cL_rest 15 = .ok (.iconst 0, 1) := by decide +kernel
theorem dL_rest_16 : decode cL_rest 16 = .ok (.ireturn, 1) := by decide +kernel
set_option maxRecDepth 20000 in
theorem ggL_start_X5_start : GoodIn wsL_start wsX5_start := goodIn_ca (goodIn_ca (goodIn_r _ [7, 8, 9, 10, 11, 12, 13, 14, 15, 16, 17, 18, 19, 20, 21, 22, 23, 24, 25, 26, 27, 28, 29, 30, 31, 32, 33, 34, 35, 36, 37, 38, 39, 40, 41, 42, 43, 44, 45, 46, 47, 48, 49, 50, 51, 52, 53, 54, 55, 56, 57, 58, 59, 60, 61, 62, 63, 64, 65, 66, 67, 68, 69, 70, 71, 72, 73, 74, 75, 76, 77, 78, 79, 80, 81, 82, 83, 84, 85, 86, 87, 88, 89, 90, 91, 92, 93, 94, 95, 96, 97, 98, 99, 100, 101, 102, 103, 104, 105, 106] (by decide +kernel) (by decide +kernel)) (goodIn_sub (fun _ h => List.mem_cons_of_mem _ (List.mem_append_left _ (List.mem_append_right _ h))) (by decide +kernel))) (goodIn_sub (fun _ h => List.mem_cons_of_mem _ (List.mem_append_right _ h)) (by decide +kernel))
set_option maxRecDepth 20000 in
theorem gL_start_X5_start : GoodIn wsL_start (wsV RL 30 RX5 yX5_start wsX5_start) := goodIn_app (goodIn_of _ (by decide +kernel)) ggL_start_X5_start
theorem dL_start_0 : decode cL_start 0 = .ok (.aload_n 2, 1) := by decide +kernel
theorem dL_start_1 : decode cL_start 1 = .ok (.iconst 0, 1) := by decide +kernel
theorem dL_start_2 : decode cL_start 2 = .ok (.aload_n 0, 1) := by decide +kernel
theorem dL_start_3 : decode cL_start 3 = .ok (.iload_n 1, 1) := by decide +kernel
theorem dL_start_4 : decode cL_start 4 = .ok (.invokevirtual 30, 3) := by decide +kernel
theorem dL_start_7 : decode cL_start 7 = .ok (.i2l, 1) := by decide +kernel
theorem dL_start_8 : decode cL_start 8 = .ok (.lastore, 1) := by decide +kernel
theorem dL_start_9 : decode cL_start 9 = .ok (.goto 9, 3) := by decide +kernel
theorem dL_start_12 : decode cL_start 12 = .ok (.astore_n 3, 1) := by decide +kernel
theorem dL_start_13 : decode cL_start 13 = .ok (.iconst 1, 1) := by decide +kernel
theorem dL_start_14 : decode cL_start 14 = .ok (.ireturn, 1) := by decide +kernel
theorem dL_start_15 : decode cL_start 15 = .ok (.astore_n 3, 1) := by decide +kernel
theorem dL_start_16 : decode cL_start 16 = .ok (.iconst 2, 1) := by decide +kernel
theorem dL_start_17 : decode cL_start 17 = .ok (.ireturn, 1) := by decide +kernel
theorem dL_start_18 : decode cL_start 18 = .ok (.iconst 0, 1) := by decide +kernel
theorem dL_start_19 : decode cL_start 19 = .ok (.ireturn, 1) := by decide +kernel
set_option maxRecDepth 20000 in
theorem ggL_pass_X5_pass : GoodIn wsL_pass wsX5_pass := goodIn_ca (goodIn_ca (goodIn_r _ [7, 8, 9, 10, 11, 12, 13, 14, 15, 16, 17, 6, 18, 19, 20, 21, 22, 23, 24, 25, 26, 27, 28, 29, 30, 31, 32, 33, 34, 35, 36, 37, 38, 39, 40, 41, 42, 43, 44, 45, 46, 47, 48, 49, 50, 51, 52, 53, 54, 55, 56, 57, 58, 59, 60, 61, 62, 63, 64, 65, 66, 67, 68, 69, 70, 71, 72, 73, 74, 75, 76, 77, 78, 79, 80, 81, 82, 83, 84, 85, 86, 87, 88, 89, 90, 91, 92, 93, 94, 95, 96, 97, 98, 99, 100, 101, 102, 103, 104, 105, 106, 107, 108, 109, 110, 111, 112, 113, 114, 115, 116, 117, 118, 119, 120, 121, 122, 123, 124, 125, 126, 127, 128, 129, 130, 131, 132, 133, 134, 135, 136, 137, 138, 139, 140, 141, 142, 143, 144, 145, 146, 147, 148, 149, 150, 151, 152, 153, 154, 155] (by decide +kernel) (by decide +kernel)) (goodIn_sub (fun _ h => List.mem_cons_of_mem _ (List.mem_append_left _ (List.mem_append_right _ h))) (by decide +kernel))) (goodIn_sub (fun _ h => List.mem_cons_of_mem _ (List.mem_append_right _ h)) (by decide +kernel))
set_option maxRecDepth 20000 in
theorem gL_pass_X5_pass : GoodIn wsL_pass (wsV RL 33 RX5 yX5_pass wsX5_pass) := goodIn_app (goodIn_of _ (by decide +kernel)) ggL_pass_X5_pass
theorem dL_pass_0 : decode cL_pass 0 = .ok (.aload_n 3, 1) := by decide +kernel
theorem dL_pass_1 : decode cL_pass 1 = .ok (.iconst 0, 1) := by decide +kernel
theorem dL_pass_2 : decode cL_pass 2 = .ok (.aload_n 0, 1) := by decide +kernel
theorem dL_pass_3 : decode cL_pass 3 = .ok (.iload_n 1, 1) := by decide +kernel
theorem dL_pass_4 : decode cL_pass 4 = .ok (.iload_n 2, 1) := by decide +kernel
theorem dL_pass_5 : decode cL_pass 5 = .ok (.invokevirtual 33, 3) := by decide +kernel
theorem dL_pass_8 : decode cL_pass 8 = .ok (.i2l, 1) := by decide +kernel
theorem dL_pass_9 : decode cL_pass 9 = .ok (.lastore, 1) := by decide +kernel
theorem dL_pass_10 : decode cL_pass 10 = .ok (.goto 11, 3) := by decide +kernel
theorem dL_pass_13 : decode cL_pass 13 = .ok (.astore 4, 2) := by decide +kernel
theorem dL_pass_15 : decode cL_pass 15 = .ok (.iconst 1, 1) := by decide +kernel
theorem dL_pass_16 : decode cL_pass 16 = .ok (.ireturn, 1) := by decide +kernel
theorem dL_pass_17 : decode cL_pass 17 = .ok (.astore 4, 2) := by decide +kernel
theorem dL_pass_19 : decode cL_pass 19 = .ok (.iconst 2, 1) := by decide +kernel
theorem dL_pass_20 : decode cL_pass 20 = .ok (.ireturn, 1) := by decide +kernel
theorem dL_pass_21 : decode cL_pass 21 = .ok (.iconst 0, 1) := by decide +kernel
theorem dL_pass_22 : decode cL_pass 22 = .ok (.ireturn, 1) := by decide +kernel
set_option maxRecDepth 20000 in
theorem ggL_idle_X5_idle : GoodIn wsL_idle wsX5_idle := goodIn_ca (goodIn_r _ [6, 7, 8, 9, 10, 11, 12, 13, 14, 15, 16, 17, 18, 19] (by decide +kernel) (by decide +kernel)) (goodIn_sub (fun _ h => List.mem_cons_of_mem _ (List.mem_append_right _ h)) (by decide +kernel))
set_option maxRecDepth 20000 in
theorem gL_idle_X5_idle : GoodIn wsL_idle (wsV RL 37 RX5 yX5_idle wsX5_idle) := goodIn_app (goodIn_of _ (by decide +kernel)) ggL_idle_X5_idle
theorem dL_idle_0 : decode cL_idle 0 = .ok (.aload_n 2, 1) := by decide +kernel
theorem dL_idle_1 : decode cL_idle 1 = .ok (.iconst 0, 1) := by decide +kernel
theorem dL_idle_2 : decode cL_idle 2 = .ok (.aload_n 0, 1) := by decide +kernel
theorem dL_idle_3 : decode cL_idle 3 = .ok (.iload_n 1, 1) := by decide +kernel
theorem dL_idle_4 : decode cL_idle 4 = .ok (.invokevirtual 37, 3) := by decide +kernel
theorem dL_idle_7 : decode cL_idle 7 = .ok (.i2l, 1) := by decide +kernel
theorem dL_idle_8 : decode cL_idle 8 = .ok (.lastore, 1) := by decide +kernel
theorem dL_idle_9 : decode cL_idle 9 = .ok (.goto 6, 3) := by decide +kernel
theorem dL_idle_12 : decode cL_idle 12 = .ok (.astore_n 3, 1) := by decide +kernel
theorem dL_idle_13 : decode cL_idle 13 = .ok (.iconst 1, 1) := by decide +kernel
theorem dL_idle_14 : decode cL_idle 14 = .ok (.ireturn, 1) := by decide +kernel
theorem dL_idle_15 : decode cL_idle 15 = .ok (.iconst 0, 1) := by decide +kernel
theorem dL_idle_16 : decode cL_idle 16 = .ok (.ireturn, 1) := by decide +kernel
set_option maxRecDepth 20000 in
theorem ggL_gateOf_X5_gateOf : GoodIn wsL_gateOf wsX5_gateOf := goodIn_ca (goodIn_ca (goodIn_r _ [7, 8, 9, 10, 11, 6, 12, 13, 14, 15, 16, 17, 18, 19, 20, 21, 22, 23, 24, 25, 26, 27, 28, 29, 30, 31, 32, 33, 34, 35, 36, 37, 38, 39, 40, 41, 42, 43, 44, 45, 46, 47, 48, 49] (by decide +kernel) (by decide +kernel)) (goodIn_sub (fun _ h => List.mem_cons_of_mem _ (List.mem_append_left _ (List.mem_append_right _ h))) (by decide +kernel))) (goodIn_sub (fun _ h => List.mem_cons_of_mem _ (List.mem_append_right _ h)) (by decide +kernel))
set_option maxRecDepth 20000 in
theorem gL_gateOf_X5_gateOf : GoodIn wsL_gateOf (wsV RL 40 RX5 yX5_gateOf wsX5_gateOf) := goodIn_app (goodIn_of _ (by decide +kernel)) ggL_gateOf_X5_gateOf
theorem dL_gateOf_0 : decode cL_gateOf 0 = .ok (.aload_n 2, 1) := by decide +kernel
theorem dL_gateOf_1 : decode cL_gateOf 1 = .ok (.iconst 0, 1) := by decide +kernel
theorem dL_gateOf_2 : decode cL_gateOf 2 = .ok (.aload_n 0, 1) := by decide +kernel
theorem dL_gateOf_3 : decode cL_gateOf 3 = .ok (.iload_n 1, 1) := by decide +kernel
theorem dL_gateOf_4 : decode cL_gateOf 4 = .ok (.invokevirtual 40, 3) := by decide +kernel
theorem dL_gateOf_7 : decode cL_gateOf 7 = .ok (.i2l, 1) := by decide +kernel
theorem dL_gateOf_8 : decode cL_gateOf 8 = .ok (.lastore, 1) := by decide +kernel
theorem dL_gateOf_9 : decode cL_gateOf 9 = .ok (.goto 9, 3) := by decide +kernel
theorem dL_gateOf_12 : decode cL_gateOf 12 = .ok (.astore_n 3, 1) := by decide +kernel
theorem dL_gateOf_13 : decode cL_gateOf 13 = .ok (.iconst 1, 1) := by decide +kernel
theorem dL_gateOf_14 : decode cL_gateOf 14 = .ok (.ireturn, 1) := by decide +kernel
theorem dL_gateOf_15 : decode cL_gateOf 15 = .ok (.astore_n 3, 1) := by decide +kernel
theorem dL_gateOf_16 : decode cL_gateOf 16 = .ok (.iconst 2, 1) := by decide +kernel
theorem dL_gateOf_17 : decode cL_gateOf 17 = .ok (.ireturn, 1) := by decide +kernel
theorem dL_gateOf_18 : decode cL_gateOf 18 = .ok (.iconst 0, 1) := by decide +kernel
theorem dL_gateOf_19 : decode cL_gateOf 19 = .ok (.ireturn, 1) := by decide +kernel
set_option maxRecDepth 20000 in
theorem ggL_lapsOf_X5_lapsOf : GoodIn wsL_lapsOf wsX5_lapsOf := goodIn_ca (goodIn_ca (goodIn_r _ [7, 8, 9, 10, 11, 6, 12, 13, 14, 15, 16, 17, 18, 19, 20, 21, 22, 23, 24, 25, 26, 27, 28, 29, 30, 31, 32, 33, 34, 35, 36, 37, 38, 39, 40, 41, 42, 43, 44, 45, 46, 47, 48, 49, 50] (by decide +kernel) (by decide +kernel)) (goodIn_sub (fun _ h => List.mem_cons_of_mem _ (List.mem_append_left _ (List.mem_append_right _ h))) (by decide +kernel))) (goodIn_sub (fun _ h => List.mem_cons_of_mem _ (List.mem_append_right _ h)) (by decide +kernel))
set_option maxRecDepth 20000 in
theorem gL_lapsOf_X5_lapsOf : GoodIn wsL_lapsOf (wsV RL 43 RX5 yX5_lapsOf wsX5_lapsOf) := goodIn_app (goodIn_of _ (by decide +kernel)) ggL_lapsOf_X5_lapsOf
theorem dL_lapsOf_0 : decode cL_lapsOf 0 = .ok (.aload_n 2, 1) := by decide +kernel
theorem dL_lapsOf_1 : decode cL_lapsOf 1 = .ok (.iconst 0, 1) := by decide +kernel
theorem dL_lapsOf_2 : decode cL_lapsOf 2 = .ok (.aload_n 0, 1) := by decide +kernel
theorem dL_lapsOf_3 : decode cL_lapsOf 3 = .ok (.iload_n 1, 1) := by decide +kernel
theorem dL_lapsOf_4 : decode cL_lapsOf 4 = .ok (.invokevirtual 43, 3) := by decide +kernel
theorem dL_lapsOf_7 : decode cL_lapsOf 7 = .ok (.i2l, 1) := by decide +kernel
theorem dL_lapsOf_8 : decode cL_lapsOf 8 = .ok (.lastore, 1) := by decide +kernel
theorem dL_lapsOf_9 : decode cL_lapsOf 9 = .ok (.goto 9, 3) := by decide +kernel
theorem dL_lapsOf_12 : decode cL_lapsOf 12 = .ok (.astore_n 3, 1) := by decide +kernel
theorem dL_lapsOf_13 : decode cL_lapsOf 13 = .ok (.iconst 1, 1) := by decide +kernel
theorem dL_lapsOf_14 : decode cL_lapsOf 14 = .ok (.ireturn, 1) := by decide +kernel
theorem dL_lapsOf_15 : decode cL_lapsOf 15 = .ok (.astore_n 3, 1) := by decide +kernel
theorem dL_lapsOf_16 : decode cL_lapsOf 16 = .ok (.iconst 2, 1) := by decide +kernel
theorem dL_lapsOf_17 : decode cL_lapsOf 17 = .ok (.ireturn, 1) := by decide +kernel
theorem dL_lapsOf_18 : decode cL_lapsOf 18 = .ok (.iconst 0, 1) := by decide +kernel
theorem dL_lapsOf_19 : decode cL_lapsOf 19 = .ok (.ireturn, 1) := by decide +kernel
set_option maxRecDepth 20000 in
theorem ggL_missing_X5_missing : GoodIn wsL_missing wsX5_missing := goodIn_ca (goodIn_ca (goodIn_r _ [7, 8, 9, 10, 11, 6, 12, 13, 14, 15, 16, 17, 18, 19, 20, 21, 22, 23, 24, 25, 26, 27, 28, 29, 30, 31, 32, 33, 34, 35, 36, 37, 38, 39, 40, 41, 42, 43, 44, 45, 46, 47, 48, 49, 50, 51, 52, 53, 54, 55, 56, 57, 58, 59, 60] (by decide +kernel) (by decide +kernel)) (goodIn_sub (fun _ h => List.mem_cons_of_mem _ (List.mem_append_left _ (List.mem_append_right _ h))) (by decide +kernel))) (goodIn_sub (fun _ h => List.mem_cons_of_mem _ (List.mem_append_right _ h)) (by decide +kernel))
set_option maxRecDepth 20000 in
theorem gL_missing_X5_missing : GoodIn wsL_missing (wsV RL 46 RX5 yX5_missing wsX5_missing) := goodIn_app (goodIn_of _ (by decide +kernel)) ggL_missing_X5_missing
theorem dL_missing_0 : decode cL_missing 0 = .ok (.aload_n 2, 1) := by decide +kernel
theorem dL_missing_1 : decode cL_missing 1 = .ok (.iconst 0, 1) := by decide +kernel
theorem dL_missing_2 : decode cL_missing 2 = .ok (.aload_n 0, 1) := by decide +kernel
theorem dL_missing_3 : decode cL_missing 3 = .ok (.iload_n 1, 1) := by decide +kernel
theorem dL_missing_4 : decode cL_missing 4 = .ok (.invokevirtual 46, 3) := by decide +kernel
theorem dL_missing_7 : decode cL_missing 7 = .ok (.i2l, 1) := by decide +kernel
theorem dL_missing_8 : decode cL_missing 8 = .ok (.lastore, 1) := by decide +kernel
theorem dL_missing_9 : decode cL_missing 9 = .ok (.goto 9, 3) := by decide +kernel
theorem dL_missing_12 : decode cL_missing 12 = .ok (.astore_n 3, 1) := by decide +kernel
theorem dL_missing_13 : decode cL_missing 13 = .ok (.iconst 1, 1) := by decide +kernel
theorem dL_missing_14 : decode cL_missing 14 = .ok (.ireturn, 1) := by decide +kernel
theorem dL_missing_15 : decode cL_missing 15 = .ok (.astore_n 3, 1) := by decide +kernel
theorem dL_missing_16 : decode cL_missing 16 = .ok (.iconst 2, 1) := by decide +kernel
theorem dL_missing_17 : decode cL_missing 17 = .ok (.ireturn, 1) := by decide +kernel
theorem dL_missing_18 : decode cL_missing 18 = .ok (.iconst 0, 1) := by decide +kernel
theorem dL_missing_19 : decode cL_missing 19 = .ok (.ireturn, 1) := by decide +kernel
set_option maxRecDepth 20000 in
theorem ggL_rank_X5_rank : GoodIn wsL_rank wsX5_rank := goodIn_ca (goodIn_ca (goodIn_r _ [7, 8, 9, 10, 11, 6, 12, 13, 14, 15, 16, 17, 18, 19, 20, 21, 22, 23, 24, 25, 26, 27, 28, 29, 30, 31, 32, 33, 34, 35, 36, 37, 38, 39, 40, 41, 42, 43, 44, 45, 46, 47, 48, 49, 50, 51, 52, 53, 54, 55, 56, 57, 58, 59, 60, 61, 62, 63, 64, 65, 66, 67, 68, 69, 70, 71, 72, 73, 74, 75, 76, 77] (by decide +kernel) (by decide +kernel)) (goodIn_sub (fun _ h => List.mem_cons_of_mem _ (List.mem_append_left _ (List.mem_append_right _ h))) (by decide +kernel))) (goodIn_sub (fun _ h => List.mem_cons_of_mem _ (List.mem_append_right _ h)) (by decide +kernel))
set_option maxRecDepth 20000 in
theorem gL_rank_X5_rank : GoodIn wsL_rank (wsV RL 49 RX5 yX5_rank wsX5_rank) := goodIn_app (goodIn_of _ (by decide +kernel)) ggL_rank_X5_rank
theorem dL_rank_0 : decode cL_rank 0 = .ok (.aload_n 2, 1) := by decide +kernel
theorem dL_rank_1 : decode cL_rank 1 = .ok (.iconst 0, 1) := by decide +kernel
theorem dL_rank_2 : decode cL_rank 2 = .ok (.aload_n 0, 1) := by decide +kernel
theorem dL_rank_3 : decode cL_rank 3 = .ok (.iload_n 1, 1) := by decide +kernel
theorem dL_rank_4 : decode cL_rank 4 = .ok (.invokevirtual 49, 3) := by decide +kernel
theorem dL_rank_7 : decode cL_rank 7 = .ok (.i2l, 1) := by decide +kernel
theorem dL_rank_8 : decode cL_rank 8 = .ok (.lastore, 1) := by decide +kernel
theorem dL_rank_9 : decode cL_rank 9 = .ok (.goto 9, 3) := by decide +kernel
theorem dL_rank_12 : decode cL_rank 12 = .ok (.astore_n 3, 1) := by decide +kernel
theorem dL_rank_13 : decode cL_rank 13 = .ok (.iconst 1, 1) := by decide +kernel
theorem dL_rank_14 : decode cL_rank 14 = .ok (.ireturn, 1) := by decide +kernel
theorem dL_rank_15 : decode cL_rank 15 = .ok (.astore_n 3, 1) := by decide +kernel
theorem dL_rank_16 : decode cL_rank 16 = .ok (.iconst 2, 1) := by decide +kernel
theorem dL_rank_17 : decode cL_rank 17 = .ok (.ireturn, 1) := by decide +kernel
theorem dL_rank_18 : decode cL_rank 18 = .ok (.iconst 0, 1) := by decide +kernel
theorem dL_rank_19 : decode cL_rank 19 = .ok (.ireturn, 1) := by decide +kernel
set_option maxRecDepth 20000 in
theorem ggL_rankByRecord_X5_rankByRecord : GoodIn wsL_rankByRecord wsX5_rankByRecord := goodIn_ca (goodIn_ca (goodIn_r _ [7, 8, 9, 10, 11, 12, 13, 14, 6, 15, 16, 17, 18, 19, 20, 21, 22, 23, 24, 25, 26, 27, 28, 29, 30, 31, 32, 33, 34, 35, 36, 37, 38, 39, 40, 41, 42, 43, 44, 45, 46, 47, 48, 49, 50, 51, 52, 53, 54, 55, 56, 57, 58, 59, 60, 61, 62, 63, 64, 65, 66, 67, 68, 69, 70, 71, 72, 73, 74, 75, 76, 77, 78, 79, 80, 81, 82, 83, 84, 85, 86, 87, 88, 89, 90, 91, 92, 93, 94, 95, 96, 97, 98, 99, 100, 101, 102, 103, 104, 105, 106, 107, 108, 109, 110, 111, 112, 113, 114, 115, 116, 117, 118, 119, 120, 121, 122, 123, 124, 125, 126, 127, 128, 129, 130, 131, 132, 133, 134, 135, 136, 137, 138, 139, 140, 141, 142, 143, 144, 145, 146, 147, 148, 149, 150, 151, 152] (by decide +kernel) (by decide +kernel)) (goodIn_sub (fun _ h => List.mem_cons_of_mem _ (List.mem_append_left _ (List.mem_append_right _ h))) (by decide +kernel))) (goodIn_sub (fun _ h => List.mem_cons_of_mem _ (List.mem_append_right _ h)) (by decide +kernel))
set_option maxRecDepth 20000 in
theorem gL_rankByRecord_X5_rankByRecord : GoodIn wsL_rankByRecord (wsV RL 52 RX5 yX5_rankByRecord wsX5_rankByRecord) := goodIn_app (goodIn_of _ (by decide +kernel)) ggL_rankByRecord_X5_rankByRecord
theorem dL_rankByRecord_0 : decode cL_rankByRecord 0 = .ok (.aload_n 2, 1) := by decide +kernel
theorem dL_rankByRecord_1 : decode cL_rankByRecord 1 = .ok (.iconst 0, 1) := by decide +kernel
theorem dL_rankByRecord_2 : decode cL_rankByRecord 2 = .ok (.aload_n 0, 1) := by decide +kernel
theorem dL_rankByRecord_3 : decode cL_rankByRecord 3 = .ok (.iload_n 1, 1) := by decide +kernel
theorem dL_rankByRecord_4 : decode cL_rankByRecord 4 = .ok (.invokevirtual 52, 3) := by decide +kernel
theorem dL_rankByRecord_7 : decode cL_rankByRecord 7 = .ok (.i2l, 1) := by decide +kernel
theorem dL_rankByRecord_8 : decode cL_rankByRecord 8 = .ok (.lastore, 1) := by decide +kernel
theorem dL_rankByRecord_9 : decode cL_rankByRecord 9 = .ok (.goto 9, 3) := by decide +kernel
theorem dL_rankByRecord_12 : decode cL_rankByRecord 12 = .ok (.astore_n 3, 1) := by decide +kernel
theorem dL_rankByRecord_13 : decode cL_rankByRecord 13 = .ok (.iconst 1, 1) := by decide +kernel
theorem dL_rankByRecord_14 : decode cL_rankByRecord 14 = .ok (.ireturn, 1) := by decide +kernel
theorem dL_rankByRecord_15 : decode cL_rankByRecord 15 = .ok (.astore_n 3, 1) := by decide +kernel
theorem dL_rankByRecord_16 : decode cL_rankByRecord 16 = .ok (.iconst 2, 1) := by decide +kernel
theorem dL_rankByRecord_17 : decode cL_rankByRecord 17 = .ok (.ireturn, 1) := by decide +kernel
theorem dL_rankByRecord_18 : decode cL_rankByRecord 18 = .ok (.iconst 0, 1) := by decide +kernel
theorem dL_rankByRecord_19 : decode cL_rankByRecord 19 = .ok (.ireturn, 1) := by decide +kernel
set_option maxRecDepth 20000 in
theorem ggL_catchUp_X5_catchUp : GoodIn wsL_catchUp wsX5_catchUp := goodIn_ca (goodIn_ca (goodIn_r _ [7, 8, 9, 10, 11, 12, 13, 14, 15, 6, 16, 17, 18, 19, 20, 21, 22, 23, 24, 25, 26, 27, 28, 29, 30, 31, 32, 33, 34, 35, 36, 37, 38, 39, 40, 41, 42, 43, 44, 45, 46, 47, 48, 49, 50, 51, 52, 53, 54, 55, 56, 57, 58, 59, 60, 61, 62, 63, 64, 65, 66, 67, 68, 69, 70, 71, 72, 73, 74, 75, 76, 77, 78, 79, 80, 81, 82, 83, 84, 85, 86, 87, 88, 89, 90, 91, 92] (by decide +kernel) (by decide +kernel)) (goodIn_sub (fun _ h => List.mem_cons_of_mem _ (List.mem_append_left _ (List.mem_append_right _ h))) (by decide +kernel))) (goodIn_sub (fun _ h => List.mem_cons_of_mem _ (List.mem_append_right _ h)) (by decide +kernel))
set_option maxRecDepth 20000 in
theorem gL_catchUp_X5_catchUp : GoodIn wsL_catchUp (wsV RL 55 RX5 yX5_catchUp wsX5_catchUp) := goodIn_app (goodIn_of _ (by decide +kernel)) ggL_catchUp_X5_catchUp
theorem dL_catchUp_0 : decode cL_catchUp 0 = .ok (.aload_n 2, 1) := by decide +kernel
theorem dL_catchUp_1 : decode cL_catchUp 1 = .ok (.iconst 0, 1) := by decide +kernel
theorem dL_catchUp_2 : decode cL_catchUp 2 = .ok (.aload_n 0, 1) := by decide +kernel
theorem dL_catchUp_3 : decode cL_catchUp 3 = .ok (.iload_n 1, 1) := by decide +kernel
theorem dL_catchUp_4 : decode cL_catchUp 4 = .ok (.invokevirtual 55, 3) := by decide +kernel
theorem dL_catchUp_7 : decode cL_catchUp 7 = .ok (.i2l, 1) := by decide +kernel
theorem dL_catchUp_8 : decode cL_catchUp 8 = .ok (.lastore, 1) := by decide +kernel
theorem dL_catchUp_9 : decode cL_catchUp 9 = .ok (.goto 9, 3) := by decide +kernel
theorem dL_catchUp_12 : decode cL_catchUp 12 = .ok (.astore_n 3, 1) := by decide +kernel
theorem dL_catchUp_13 : decode cL_catchUp 13 = .ok (.iconst 1, 1) := by decide +kernel
theorem dL_catchUp_14 : decode cL_catchUp 14 = .ok (.ireturn, 1) := by decide +kernel
theorem dL_catchUp_15 : decode cL_catchUp 15 = .ok (.astore_n 3, 1) := by decide +kernel
theorem dL_catchUp_16 : decode cL_catchUp 16 = .ok (.iconst 2, 1) := by decide +kernel
theorem dL_catchUp_17 : decode cL_catchUp 17 = .ok (.ireturn, 1) := by decide +kernel
theorem dL_catchUp_18 : decode cL_catchUp 18 = .ok (.iconst 0, 1) := by decide +kernel
theorem dL_catchUp_19 : decode cL_catchUp 19 = .ok (.ireturn, 1) := by decide +kernel
set_option maxRecDepth 20000 in
theorem ggL_draw_X5_draw : GoodIn wsL_draw wsX5_draw := goodIn_ca (goodIn_ca (goodIn_r _ [7, 8, 9, 10, 11, 12, 13, 14, 6, 15, 16, 17, 18, 19, 20, 21, 22, 23, 24, 25, 26, 27, 28, 29, 30, 31, 32, 33, 34, 35, 36, 37, 38, 39, 40, 41, 42, 43, 44, 45, 46, 47, 48, 49, 50, 51, 52, 53, 54, 55, 56, 57, 58, 59, 60, 61, 62, 63, 64, 65, 66, 67, 68, 69, 70, 71, 72, 73, 74, 75, 76, 77, 78, 79, 80, 81, 82, 83, 84, 85, 86, 87, 88, 89, 90, 91, 92, 93, 94, 95, 96, 97, 98, 99, 100, 101, 102, 103, 104, 105] (by decide +kernel) (by decide +kernel)) (goodIn_sub (fun _ h => List.mem_cons_of_mem _ (List.mem_append_left _ (List.mem_append_right _ h))) (by decide +kernel))) (goodIn_sub (fun _ h => List.mem_cons_of_mem _ (List.mem_append_right _ h)) (by decide +kernel))
set_option maxRecDepth 20000 in
theorem gL_draw_X5_draw : GoodIn wsL_draw (wsV RL 58 RX5 yX5_draw wsX5_draw) := goodIn_app (goodIn_of _ (by decide +kernel)) ggL_draw_X5_draw
theorem dL_draw_0 : decode cL_draw 0 = .ok (.aload_n 2, 1) := by decide +kernel
theorem dL_draw_1 : decode cL_draw 1 = .ok (.iconst 0, 1) := by decide +kernel
theorem dL_draw_2 : decode cL_draw 2 = .ok (.aload_n 0, 1) := by decide +kernel
theorem dL_draw_3 : decode cL_draw 3 = .ok (.iload_n 1, 1) := by decide +kernel
theorem dL_draw_4 : decode cL_draw 4 = .ok (.invokevirtual 58, 3) := by decide +kernel
theorem dL_draw_7 : decode cL_draw 7 = .ok (.i2l, 1) := by decide +kernel
theorem dL_draw_8 : decode cL_draw 8 = .ok (.lastore, 1) := by decide +kernel
theorem dL_draw_9 : decode cL_draw 9 = .ok (.goto 9, 3) := by decide +kernel
theorem dL_draw_12 : decode cL_draw 12 = .ok (.astore_n 3, 1) := by decide +kernel
theorem dL_draw_13 : decode cL_draw 13 = .ok (.iconst 1, 1) := by decide +kernel
theorem dL_draw_14 : decode cL_draw 14 = .ok (.ireturn, 1) := by decide +kernel
theorem dL_draw_15 : decode cL_draw 15 = .ok (.astore_n 3, 1) := by decide +kernel
theorem dL_draw_16 : decode cL_draw 16 = .ok (.iconst 2, 1) := by decide +kernel
theorem dL_draw_17 : decode cL_draw 17 = .ok (.ireturn, 1) := by decide +kernel
theorem dL_draw_18 : decode cL_draw 18 = .ok (.iconst 0, 1) := by decide +kernel
theorem dL_draw_19 : decode cL_draw 19 = .ok (.ireturn, 1) := by decide +kernel
set_option maxRecDepth 20000 in
theorem ggL_use_X5_use : GoodIn wsL_use wsX5_use := goodIn_ca (goodIn_ca (goodIn_r _ [7, 8, 9, 10, 11, 12, 13, 14, 15, 6, 16, 17, 18, 19, 20, 21, 22, 23, 24, 25, 26, 27, 28, 29, 30, 31, 32, 33, 34, 35, 36, 37, 38, 39, 40, 41, 42, 43, 44, 45, 46, 47, 48, 49, 50, 51, 52, 53, 54, 55, 56, 57, 58, 59, 60, 61, 62, 63, 64, 65, 66, 67, 68, 69, 70, 71, 72, 73, 74, 75, 76, 77, 78, 79, 80, 81, 82, 83, 84, 85, 86, 87, 88, 89, 90, 91, 92, 93, 94, 95, 96, 97, 98, 99, 100, 101, 102, 103, 104, 105, 106, 107, 108, 109, 110, 111, 112, 113, 114, 115, 116, 117, 118, 119, 120] (by decide +kernel) (by decide +kernel)) (goodIn_sub (fun _ h => List.mem_cons_of_mem _ (List.mem_append_left _ (List.mem_append_right _ h))) (by decide +kernel))) (goodIn_sub (fun _ h => List.mem_cons_of_mem _ (List.mem_append_right _ h)) (by decide +kernel))
set_option maxRecDepth 20000 in
theorem gL_use_X5_use : GoodIn wsL_use (wsV RL 61 RX5 yX5_use wsX5_use) := goodIn_app (goodIn_of _ (by decide +kernel)) ggL_use_X5_use
theorem dL_use_0 : decode cL_use 0 = .ok (.aload_n 2, 1) := by decide +kernel
theorem dL_use_1 : decode cL_use 1 = .ok (.iconst 0, 1) := by decide +kernel
theorem dL_use_2 : decode cL_use 2 = .ok (.aload_n 0, 1) := by decide +kernel
theorem dL_use_3 : decode cL_use 3 = .ok (.iload_n 1, 1) := by decide +kernel
theorem dL_use_4 : decode cL_use 4 = .ok (.invokevirtual 61, 3) := by decide +kernel
theorem dL_use_7 : decode cL_use 7 = .ok (.i2l, 1) := by decide +kernel
theorem dL_use_8 : decode cL_use 8 = .ok (.lastore, 1) := by decide +kernel
theorem dL_use_9 : decode cL_use 9 = .ok (.goto 9, 3) := by decide +kernel
theorem dL_use_12 : decode cL_use 12 = .ok (.astore_n 3, 1) := by decide +kernel
theorem dL_use_13 : decode cL_use 13 = .ok (.iconst 1, 1) := by decide +kernel
theorem dL_use_14 : decode cL_use 14 = .ok (.ireturn, 1) := by decide +kernel
theorem dL_use_15 : decode cL_use 15 = .ok (.astore_n 3, 1) := by decide +kernel
theorem dL_use_16 : decode cL_use 16 = .ok (.iconst 2, 1) := by decide +kernel
theorem dL_use_17 : decode cL_use 17 = .ok (.ireturn, 1) := by decide +kernel
theorem dL_use_18 : decode cL_use 18 = .ok (.iconst 0, 1) := by decide +kernel
theorem dL_use_19 : decode cL_use 19 = .ok (.ireturn, 1) := by decide +kernel
set_option maxRecDepth 20000 in
theorem ggL_itemOf_X5_itemOf : GoodIn wsL_itemOf wsX5_itemOf := goodIn_ca (goodIn_r _ [6, 7, 8, 9, 10, 11, 5, 12, 13, 14, 15, 16, 17, 18, 19, 20, 21, 22, 23, 24, 25, 26, 27, 28, 29, 30, 31, 32, 33, 34, 35] (by decide +kernel) (by decide +kernel)) (goodIn_sub (fun _ h => List.mem_cons_of_mem _ (List.mem_append_right _ h)) (by decide +kernel))
set_option maxRecDepth 20000 in
theorem gL_itemOf_X5_itemOf : GoodIn wsL_itemOf (wsV RL 64 RX5 yX5_itemOf wsX5_itemOf) := goodIn_app (goodIn_of _ (by decide +kernel)) ggL_itemOf_X5_itemOf
theorem dL_itemOf_0 : decode cL_itemOf 0 = .ok (.aload_n 2, 1) := by decide +kernel
theorem dL_itemOf_1 : decode cL_itemOf 1 = .ok (.iconst 0, 1) := by decide +kernel
theorem dL_itemOf_2 : decode cL_itemOf 2 = .ok (.aload_n 0, 1) := by decide +kernel
theorem dL_itemOf_3 : decode cL_itemOf 3 = .ok (.iload_n 1, 1) := by decide +kernel
theorem dL_itemOf_4 : decode cL_itemOf 4 = .ok (.invokevirtual 64, 3) := by decide +kernel
theorem dL_itemOf_7 : decode cL_itemOf 7 = .ok (.i2l, 1) := by decide +kernel
theorem dL_itemOf_8 : decode cL_itemOf 8 = .ok (.lastore, 1) := by decide +kernel
theorem dL_itemOf_9 : decode cL_itemOf 9 = .ok (.goto 6, 3) := by decide +kernel
theorem dL_itemOf_12 : decode cL_itemOf 12 = .ok (.astore_n 3, 1) := by decide +kernel
theorem dL_itemOf_13 : decode cL_itemOf 13 = .ok (.iconst 1, 1) := by decide +kernel
theorem dL_itemOf_14 : decode cL_itemOf 14 = .ok (.ireturn, 1) := by decide +kernel
theorem dL_itemOf_15 : decode cL_itemOf 15 = .ok (.iconst 0, 1) := by decide +kernel
theorem dL_itemOf_16 : decode cL_itemOf 16 = .ok (.ireturn, 1) := by decide +kernel
set_option maxRecDepth 20000 in
theorem ggL_stunned_X5_stunned : GoodIn wsL_stunned wsX5_stunned := goodIn_ca (goodIn_r _ [6, 7, 8, 9, 10, 11, 12, 5, 13, 14, 15, 16, 17, 18, 19, 20, 21, 22, 23, 24, 25, 26, 27, 28, 29, 30, 31, 32, 33, 34, 35, 36, 37, 38, 39, 40] (by decide +kernel) (by decide +kernel)) (goodIn_sub (fun _ h => List.mem_cons_of_mem _ (List.mem_append_right _ h)) (by decide +kernel))
set_option maxRecDepth 20000 in
theorem gL_stunned_X5_stunned : GoodIn wsL_stunned (wsV RL 67 RX5 yX5_stunned wsX5_stunned) := goodIn_app (goodIn_of _ (by decide +kernel)) ggL_stunned_X5_stunned
theorem dL_stunned_0 : decode cL_stunned 0 = .ok (.aload_n 2, 1) := by decide +kernel
theorem dL_stunned_1 : decode cL_stunned 1 = .ok (.iconst 0, 1) := by decide +kernel
theorem dL_stunned_2 : decode cL_stunned 2 = .ok (.aload_n 0, 1) := by decide +kernel
theorem dL_stunned_3 : decode cL_stunned 3 = .ok (.iload_n 1, 1) := by decide +kernel
theorem dL_stunned_4 : decode cL_stunned 4 = .ok (.invokevirtual 67, 3) := by decide +kernel
theorem dL_stunned_7 : decode cL_stunned 7 = .ok (.i2l, 1) := by decide +kernel
theorem dL_stunned_8 : decode cL_stunned 8 = .ok (.lastore, 1) := by decide +kernel
theorem dL_stunned_9 : decode cL_stunned 9 = .ok (.goto 6, 3) := by decide +kernel
theorem dL_stunned_12 : decode cL_stunned 12 = .ok (.astore_n 3, 1) := by decide +kernel
theorem dL_stunned_13 : decode cL_stunned 13 = .ok (.iconst 1, 1) := by decide +kernel
theorem dL_stunned_14 : decode cL_stunned 14 = .ok (.ireturn, 1) := by decide +kernel
theorem dL_stunned_15 : decode cL_stunned 15 = .ok (.iconst 0, 1) := by decide +kernel
theorem dL_stunned_16 : decode cL_stunned 16 = .ok (.ireturn, 1) := by decide +kernel
set_option maxRecDepth 20000 in
theorem ggL_end_X5_end : GoodIn wsL_end wsX5_end := goodIn_ca (goodIn_r _ [6, 7, 8, 9, 10, 11, 12, 13, 5, 14, 15, 16, 17, 18, 19, 20, 21, 22, 23, 24, 25, 26, 27, 28, 29, 30, 31, 32, 33, 34, 35, 36, 37, 38, 39, 40, 41, 42, 43, 44, 45, 46, 47, 48, 49, 50, 51, 52, 53, 54, 55, 56, 57, 58, 59, 60, 61, 62, 63, 64, 65, 66, 67, 68, 69, 70, 71, 72, 73, 74, 75, 76, 77, 78, 79, 80, 81, 82, 83, 84, 85, 86, 87, 88, 89, 90, 91, 92] (by decide +kernel) (by decide +kernel)) (goodIn_sub (fun _ h => List.mem_cons_of_mem _ (List.mem_append_right _ h)) (by decide +kernel))
set_option maxRecDepth 20000 in
theorem gL_end_X5_end : GoodIn wsL_end (wsV RL 70 RX5 yX5_end wsX5_end) := goodIn_app (goodIn_of _ (by decide +kernel)) ggL_end_X5_end
theorem dL_end_0 : decode cL_end 0 = .ok (.aload_n 1, 1) := by decide +kernel
theorem dL_end_1 : decode cL_end 1 = .ok (.iconst 0, 1) := by decide +kernel
theorem dL_end_2 : decode cL_end 2 = .ok (.aload_n 0, 1) := by decide +kernel
theorem dL_end_3 : decode cL_end 3 = .ok (.invokevirtual 70, 3) := by decide +kernel
theorem dL_end_6 : decode cL_end 6 = .ok (.i2l, 1) := by decide +kernel
theorem dL_end_7 : decode cL_end 7 = .ok (.lastore, 1) := by decide +kernel
theorem dL_end_8 : decode cL_end 8 = .ok (.goto 6, 3) := by decide +kernel
theorem dL_end_11 : decode cL_end 11 = .ok (.astore_n 2, 1) := by decide +kernel
theorem dL_end_12 : decode cL_end 12 = .ok (.iconst 1, 1) := by decide +kernel
theorem dL_end_13 : decode cL_end 13 = .ok (.ireturn, 1) := by decide +kernel
theorem dL_end_14 : decode cL_end 14 = .ok (.iconst 0, 1) := by decide +kernel
theorem dL_end_15 : decode cL_end 15 = .ok (.ireturn, 1) := by decide +kernel
set_option maxRecDepth 20000 in
theorem ggL_place_X5_place : GoodIn wsL_place wsX5_place := goodIn_ca (goodIn_r _ [6, 7, 8, 9, 10, 11, 12, 13, 14, 15, 16, 17, 18, 5, 19, 20, 21, 22, 23, 24, 25, 26, 27, 28, 29, 30, 31, 32, 33, 34, 35, 36, 37, 38, 39] (by decide +kernel) (by decide +kernel)) (goodIn_sub (fun _ h => List.mem_cons_of_mem _ (List.mem_append_right _ h)) (by decide +kernel))
set_option maxRecDepth 20000 in
theorem gL_place_X5_place : GoodIn wsL_place (wsV RL 74 RX5 yX5_place wsX5_place) := goodIn_app (goodIn_of _ (by decide +kernel)) ggL_place_X5_place
theorem dL_place_0 : decode cL_place 0 = .ok (.aload_n 3, 1) := by decide +kernel
theorem dL_place_1 : decode cL_place 1 = .ok (.iconst 0, 1) := by decide +kernel
theorem dL_place_2 : decode cL_place 2 = .ok (.aload_n 0, 1) := by decide +kernel
theorem dL_place_3 : decode cL_place 3 = .ok (.iload_n 1, 1) := by decide +kernel
theorem dL_place_4 : decode cL_place 4 = .ok (.iload_n 2, 1) := by decide +kernel
theorem dL_place_5 : decode cL_place 5 = .ok (.invokevirtual 74, 3) := by decide +kernel
theorem dL_place_8 : decode cL_place 8 = .ok (.i2l, 1) := by decide +kernel
theorem dL_place_9 : decode cL_place 9 = .ok (.lastore, 1) := by decide +kernel
theorem dL_place_10 : decode cL_place 10 = .ok (.goto 7, 3) := by decide +kernel
theorem dL_place_13 : decode cL_place 13 = .ok (.astore 4, 2) := by decide +kernel
theorem dL_place_15 : decode cL_place 15 = .ok (.iconst 1, 1) := by decide +kernel
theorem dL_place_16 : decode cL_place 16 = .ok (.ireturn, 1) := by decide +kernel
theorem dL_place_17 : decode cL_place 17 = .ok (.iconst 0, 1) := by decide +kernel
theorem dL_place_18 : decode cL_place 18 = .ok (.ireturn, 1) := by decide +kernel
set_option maxRecDepth 20000 in
theorem ggL_setDropped_X5_setDropped : GoodIn wsL_setDropped wsX5_setDropped := goodIn_ca (goodIn_r _ [6, 7, 8, 9, 10, 11, 12, 13, 14, 15, 16, 17, 18, 19, 20, 21, 22, 23, 24, 25, 26, 27, 28, 29] (by decide +kernel) (by decide +kernel)) (goodIn_sub (fun _ h => List.mem_cons_of_mem _ (List.mem_append_right _ h)) (by decide +kernel))
set_option maxRecDepth 20000 in
theorem gL_setDropped_X5_setDropped : GoodIn wsL_setDropped (wsV RL 77 RX5 yX5_setDropped wsX5_setDropped) := goodIn_app (goodIn_of _ (by decide +kernel)) ggL_setDropped_X5_setDropped
theorem dL_setDropped_0 : decode cL_setDropped 0 = .ok (.aload_n 2, 1) := by decide +kernel
theorem dL_setDropped_1 : decode cL_setDropped 1 = .ok (.iconst 0, 1) := by decide +kernel
theorem dL_setDropped_2 : decode cL_setDropped 2 = .ok (.aload_n 0, 1) := by decide +kernel
theorem dL_setDropped_3 : decode cL_setDropped 3 = .ok (.iload_n 1, 1) := by decide +kernel
theorem dL_setDropped_4 : decode cL_setDropped 4 = .ok (.invokevirtual 77, 3) := by decide +kernel
theorem dL_setDropped_7 : decode cL_setDropped 7 = .ok (.i2l, 1) := by decide +kernel
theorem dL_setDropped_8 : decode cL_setDropped 8 = .ok (.lastore, 1) := by decide +kernel
theorem dL_setDropped_9 : decode cL_setDropped 9 = .ok (.goto 6, 3) := by decide +kernel
theorem dL_setDropped_12 : decode cL_setDropped 12 = .ok (.astore_n 3, 1) := by decide +kernel
theorem dL_setDropped_13 : decode cL_setDropped 13 = .ok (.iconst 1, 1) := by decide +kernel
theorem dL_setDropped_14 : decode cL_setDropped 14 = .ok (.ireturn, 1) := by decide +kernel
theorem dL_setDropped_15 : decode cL_setDropped 15 = .ok (.iconst 0, 1) := by decide +kernel
theorem dL_setDropped_16 : decode cL_setDropped 16 = .ok (.ireturn, 1) := by decide +kernel
set_option maxRecDepth 20000 in
theorem ggL_points_X5_points : GoodIn wsL_points wsX5_points := goodIn_ca (goodIn_r _ [6, 7, 8, 9, 10, 5, 11, 12, 13, 14, 15, 16, 17, 18, 19, 20, 21, 22, 23, 24, 25, 26, 27, 28, 29, 30, 31, 32, 33, 34, 35, 36, 37, 38, 39, 40] (by decide +kernel) (by decide +kernel)) (goodIn_sub (fun _ h => List.mem_cons_of_mem _ (List.mem_append_right _ h)) (by decide +kernel))
set_option maxRecDepth 20000 in
theorem gL_points_X5_points : GoodIn wsL_points (wsV RL 80 RX5 yX5_points wsX5_points) := goodIn_app (goodIn_of _ (by decide +kernel)) ggL_points_X5_points
theorem dL_points_0 : decode cL_points 0 = .ok (.aload_n 2, 1) := by decide +kernel
theorem dL_points_1 : decode cL_points 1 = .ok (.iconst 0, 1) := by decide +kernel
theorem dL_points_2 : decode cL_points 2 = .ok (.aload_n 0, 1) := by decide +kernel
theorem dL_points_3 : decode cL_points 3 = .ok (.iload_n 1, 1) := by decide +kernel
theorem dL_points_4 : decode cL_points 4 = .ok (.invokevirtual 80, 3) := by decide +kernel
theorem dL_points_7 : decode cL_points 7 = .ok (.i2l, 1) := by decide +kernel
theorem dL_points_8 : decode cL_points 8 = .ok (.lastore, 1) := by decide +kernel
theorem dL_points_9 : decode cL_points 9 = .ok (.goto 6, 3) := by decide +kernel
theorem dL_points_12 : decode cL_points 12 = .ok (.astore_n 3, 1) := by decide +kernel
theorem dL_points_13 : decode cL_points 13 = .ok (.iconst 1, 1) := by decide +kernel
theorem dL_points_14 : decode cL_points 14 = .ok (.ireturn, 1) := by decide +kernel
theorem dL_points_15 : decode cL_points 15 = .ok (.iconst 0, 1) := by decide +kernel
theorem dL_points_16 : decode cL_points 16 = .ok (.ireturn, 1) := by decide +kernel
set_option maxRecDepth 20000 in
theorem ggL_teamPoints_X5_teamPoints : GoodIn wsL_teamPoints wsX5_teamPoints := goodIn_ca (goodIn_r _ [6, 7, 8, 9, 10, 11, 12, 5, 13, 14, 15, 16, 17, 18, 19, 20, 21, 22, 23, 24, 25, 26, 27, 28, 29, 30, 31, 32, 33, 34, 35, 36, 37, 38, 39, 40, 41] (by decide +kernel) (by decide +kernel)) (goodIn_sub (fun _ h => List.mem_cons_of_mem _ (List.mem_append_right _ h)) (by decide +kernel))
set_option maxRecDepth 20000 in
theorem gL_teamPoints_X5_teamPoints : GoodIn wsL_teamPoints (wsV RL 83 RX5 yX5_teamPoints wsX5_teamPoints) := goodIn_app (goodIn_of _ (by decide +kernel)) ggL_teamPoints_X5_teamPoints
theorem dL_teamPoints_0 : decode cL_teamPoints 0 = .ok (.aload_n 2, 1) := by decide +kernel
theorem dL_teamPoints_1 : decode cL_teamPoints 1 = .ok (.iconst 0, 1) := by decide +kernel
theorem dL_teamPoints_2 : decode cL_teamPoints 2 = .ok (.aload_n 0, 1) := by decide +kernel
theorem dL_teamPoints_3 : decode cL_teamPoints 3 = .ok (.iload_n 1, 1) := by decide +kernel
theorem dL_teamPoints_4 : decode cL_teamPoints 4 = .ok (.invokevirtual 83, 3) := by decide +kernel
theorem dL_teamPoints_7 : decode cL_teamPoints 7 = .ok (.i2l, 1) := by decide +kernel
theorem dL_teamPoints_8 : decode cL_teamPoints 8 = .ok (.lastore, 1) := by decide +kernel
theorem dL_teamPoints_9 : decode cL_teamPoints 9 = .ok (.goto 6, 3) := by decide +kernel
theorem dL_teamPoints_12 : decode cL_teamPoints 12 = .ok (.astore_n 3, 1) := by decide +kernel
theorem dL_teamPoints_13 : decode cL_teamPoints 13 = .ok (.iconst 1, 1) := by decide +kernel
theorem dL_teamPoints_14 : decode cL_teamPoints 14 = .ok (.ireturn, 1) := by decide +kernel
theorem dL_teamPoints_15 : decode cL_teamPoints 15 = .ok (.iconst 0, 1) := by decide +kernel
theorem dL_teamPoints_16 : decode cL_teamPoints 16 = .ok (.ireturn, 1) := by decide +kernel
set_option maxRecDepth 20000 in
theorem ggL_standing_X5_standing : GoodIn wsL_standing wsX5_standing := goodIn_ca (goodIn_r _ [6, 7, 8, 9, 10, 11, 5, 12, 13, 14, 15, 16, 17, 18, 19, 20, 21, 22, 23, 24, 25, 26, 27, 28, 29, 30, 31, 32, 33, 34, 35, 36, 37, 38, 39, 40, 41, 42, 43, 44, 45, 46, 47, 48, 49, 50, 51, 52, 53] (by decide +kernel) (by decide +kernel)) (goodIn_sub (fun _ h => List.mem_cons_of_mem _ (List.mem_append_right _ h)) (by decide +kernel))
set_option maxRecDepth 20000 in
theorem gL_standing_X5_standing : GoodIn wsL_standing (wsV RL 86 RX5 yX5_standing wsX5_standing) := goodIn_app (goodIn_of _ (by decide +kernel)) ggL_standing_X5_standing
theorem dL_standing_0 : decode cL_standing 0 = .ok (.aload_n 2, 1) := by decide +kernel
theorem dL_standing_1 : decode cL_standing 1 = .ok (.iconst 0, 1) := by decide +kernel
theorem dL_standing_2 : decode cL_standing 2 = .ok (.aload_n 0, 1) := by decide +kernel
theorem dL_standing_3 : decode cL_standing 3 = .ok (.iload_n 1, 1) := by decide +kernel
theorem dL_standing_4 : decode cL_standing 4 = .ok (.invokevirtual 86, 3) := by decide +kernel
theorem dL_standing_7 : decode cL_standing 7 = .ok (.i2l, 1) := by decide +kernel
theorem dL_standing_8 : decode cL_standing 8 = .ok (.lastore, 1) := by decide +kernel
theorem dL_standing_9 : decode cL_standing 9 = .ok (.goto 6, 3) := by decide +kernel
theorem dL_standing_12 : decode cL_standing 12 = .ok (.astore_n 3, 1) := by decide +kernel
theorem dL_standing_13 : decode cL_standing 13 = .ok (.iconst 1, 1) := by decide +kernel
theorem dL_standing_14 : decode cL_standing 14 = .ok (.ireturn, 1) := by decide +kernel
theorem dL_standing_15 : decode cL_standing 15 = .ok (.iconst 0, 1) := by decide +kernel
theorem dL_standing_16 : decode cL_standing 16 = .ok (.ireturn, 1) := by decide +kernel
set_option maxRecDepth 20000 in
theorem ggL_textAt_X5_textAt : GoodIn wsL_textAt wsX5_textAt := goodIn_ca (goodIn_r _ [6, 7, 8, 9, 10, 11, 12, 13, 14, 15, 16, 17, 18, 19, 20, 21, 22, 23, 24, 25, 26, 27, 28, 29, 30, 31, 32, 33, 34, 35, 36, 37, 38, 39, 40, 41, 42, 43, 44, 45, 46, 47, 48, 49, 50, 51, 52, 53] (by decide +kernel) (by decide +kernel)) (goodIn_sub (fun _ h => List.mem_cons_of_mem _ (List.mem_append_right _ h)) (by decide +kernel))
set_option maxRecDepth 20000 in
theorem gL_textAt_X5_textAt : GoodIn wsL_textAt (wsV RL 89 RX5 yX5_textAt wsX5_textAt) := goodIn_app (goodIn_of _ (by decide +kernel)) ggL_textAt_X5_textAt
theorem dL_textAt_0 : decode cL_textAt 0 = .ok (.aload_n 2, 1) := by decide +kernel
theorem dL_textAt_1 : decode cL_textAt 1 = .ok (.iconst 0, 1) := by decide +kernel
theorem dL_textAt_2 : decode cL_textAt 2 = .ok (.aload_n 0, 1) := by decide +kernel
theorem dL_textAt_3 : decode cL_textAt 3 = .ok (.iload_n 1, 1) := by decide +kernel
theorem dL_textAt_4 : decode cL_textAt 4 = .ok (.invokevirtual 89, 3) := by decide +kernel
theorem dL_textAt_7 : decode cL_textAt 7 = .ok (.i2l, 1) := by decide +kernel
theorem dL_textAt_8 : decode cL_textAt 8 = .ok (.lastore, 1) := by decide +kernel
theorem dL_textAt_9 : decode cL_textAt 9 = .ok (.goto 6, 3) := by decide +kernel
theorem dL_textAt_12 : decode cL_textAt 12 = .ok (.astore_n 3, 1) := by decide +kernel
theorem dL_textAt_13 : decode cL_textAt 13 = .ok (.iconst 1, 1) := by decide +kernel
theorem dL_textAt_14 : decode cL_textAt 14 = .ok (.ireturn, 1) := by decide +kernel
theorem dL_textAt_15 : decode cL_textAt 15 = .ok (.iconst 0, 1) := by decide +kernel
theorem dL_textAt_16 : decode cL_textAt 16 = .ok (.ireturn, 1) := by decide +kernel
