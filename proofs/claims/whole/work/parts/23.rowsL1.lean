set_option maxRecDepth 20000 in
theorem ggL_setUnits_X2_setUnits : GoodIn wsL_setUnits wsX2_setUnits := goodIn_ca (goodIn_ca (goodIn_r _ [7, 8, 9, 10, 11, 12, 13, 14, 6, 15, 16, 17, 18, 19, 20, 21, 22, 23, 24, 25, 26, 27, 28, 29, 30, 31, 32, 33, 34, 35, 36, 37, 38, 39, 40, 41, 42, 43, 44] (by decide +kernel) (by decide +kernel)) (goodIn_sub (fun _ h => List.mem_cons_of_mem _ (List.mem_append_left _ (List.mem_append_right _ h))) (by decide +kernel))) (goodIn_sub (fun _ h => List.mem_cons_of_mem _ (List.mem_append_right _ h)) (by decide +kernel))
set_option maxRecDepth 20000 in
theorem gL_setUnits_X2_setUnits : GoodIn wsL_setUnits (wsV RL 7 RX2 yX2_setUnits wsX2_setUnits) := goodIn_app (goodIn_of _ (by decide +kernel)) ggL_setUnits_X2_setUnits
theorem dL_setUnits_0 : decode cL_setUnits 0 = .ok (.aload_n 3, 1) := by decide +kernel
theorem dL_setUnits_1 : decode cL_setUnits 1 = .ok (.iconst 0, 1) := by decide +kernel
theorem dL_setUnits_2 : decode cL_setUnits 2 = .ok (.aload_n 0, 1) := by decide +kernel
theorem dL_setUnits_3 : decode cL_setUnits 3 = .ok (.iload_n 1, 1) := by decide +kernel
theorem dL_setUnits_4 : decode cL_setUnits 4 = .ok (.iload_n 2, 1) := by decide +kernel
theorem dL_setUnits_5 : decode cL_setUnits 5 = .ok (.invokevirtual 7, 3) := by decide +kernel
theorem dL_setUnits_8 : decode cL_setUnits 8 = .ok (.i2l, 1) := by decide +kernel
theorem dL_setUnits_9 : decode cL_setUnits 9 = .ok (.lastore, 1) := by decide +kernel
theorem dL_setUnits_10 : decode cL_setUnits 10 = .ok (.goto 11, 3) := by decide +kernel
theorem dL_setUnits_13 : decode cL_setUnits 13 = .ok (.astore 4, 2) := by decide +kernel
theorem dL_setUnits_15 : decode cL_setUnits 15 = .ok (.iconst 1, 1) := by decide +kernel
theorem dL_setUnits_16 : decode cL_setUnits 16 = .ok (.ireturn, 1) := by decide +kernel
theorem dL_setUnits_17 : decode cL_setUnits 17 = .ok (.astore 4, 2) := by decide +kernel
theorem dL_setUnits_19 : decode cL_setUnits 19 = .ok (.iconst 2, 1) := by decide +kernel
theorem dL_setUnits_20 : decode cL_setUnits 20 = .ok (.ireturn, 1) := by decide +kernel
theorem dL_setUnits_21 : decode cL_setUnits 21 = .ok (.iconst 0, 1) := by decide +kernel
theorem dL_setUnits_22 : decode cL_setUnits 22 = .ok (.ireturn, 1) := by decide +kernel
set_option maxRecDepth 20000 in
theorem ggL_addOperation_X2_addOperation : GoodIn wsL_addOperation wsX2_addOperation := goodIn_ca (goodIn_ca (goodIn_r _ [7, 8, 9, 10, 11, 12, 13, 14, 15, 16, 6, 17, 18, 19, 20, 21, 22, 23, 24, 25, 26, 27, 28, 29, 30, 31, 32, 33, 34, 35, 36, 37, 38, 39, 40, 41, 42, 43, 44, 45, 46, 47, 48, 49] (by decide +kernel) (by decide +kernel)) (goodIn_sub (fun _ h => List.mem_cons_of_mem _ (List.mem_append_left _ (List.mem_append_right _ h))) (by decide +kernel))) (goodIn_sub (fun _ h => List.mem_cons_of_mem _ (List.mem_append_right _ h)) (by decide +kernel))
set_option maxRecDepth 20000 in
theorem gL_addOperation_X2_addOperation : GoodIn wsL_addOperation (wsV RL 17 RX2 yX2_addOperation wsX2_addOperation) := goodIn_app (goodIn_of _ (by decide +kernel)) ggL_addOperation_X2_addOperation
theorem dL_addOperation_0 : decode cL_addOperation 0 = .ok (.aload_n 3, 1) := by decide +kernel
theorem dL_addOperation_1 : decode cL_addOperation 1 = .ok (.iconst 0, 1) := by decide +kernel
theorem dL_addOperation_2 : decode cL_addOperation 2 = .ok (.aload_n 0, 1) := by decide +kernel
theorem dL_addOperation_3 : decode cL_addOperation 3 = .ok (.iload_n 1, 1) := by decide +kernel
theorem dL_addOperation_4 : decode cL_addOperation 4 = .ok (.iload_n 2, 1) := by decide +kernel
theorem dL_addOperation_5 : decode cL_addOperation 5 = .ok (.invokevirtual 17, 3) := by decide +kernel
theorem dL_addOperation_8 : decode cL_addOperation 8 = .ok (.i2l, 1) := by decide +kernel
theorem dL_addOperation_9 : decode cL_addOperation 9 = .ok (.lastore, 1) := by decide +kernel
theorem dL_addOperation_10 : decode cL_addOperation 10 = .ok (.goto 11, 3) := by decide +kernel
theorem dL_addOperation_13 : decode cL_addOperation 13 = .ok (.astore 4, 2) := by decide +kernel
theorem dL_addOperation_15 : decode cL_addOperation 15 = .ok (.iconst 1, 1) := by decide +kernel
theorem dL_addOperation_16 : decode cL_addOperation 16 = .ok (.ireturn, 1) := by decide +kernel
theorem dL_addOperation_17 : decode cL_addOperation 17 = .ok (.astore 4, 2) := by decide +kernel
theorem dL_addOperation_19 : decode cL_addOperation 19 = .ok (.iconst 2, 1) := by decide +kernel
theorem dL_addOperation_20 : decode cL_addOperation 20 = .ok (.ireturn, 1) := by decide +kernel
theorem dL_addOperation_21 : decode cL_addOperation 21 = .ok (.iconst 0, 1) := by decide +kernel
theorem dL_addOperation_22 : decode cL_addOperation 22 = .ok (.ireturn, 1) := by decide +kernel
set_option maxRecDepth 20000 in
theorem ggL_addDependence_X2_addDependence : GoodIn wsL_addDependence wsX2_addDependence := goodIn_ca (goodIn_ca (goodIn_ca (goodIn_r _ [8, 9, 10, 11, 12, 13, 14, 15, 16, 17, 18, 7, 19, 20, 21, 22, 23, 24, 25, 26, 27, 28, 29, 30, 31, 32, 33, 34, 35, 36, 37, 38, 39, 40, 41, 42, 43, 44, 45, 46, 47, 48, 49, 50, 51, 52, 53, 54, 55, 56, 57, 58, 59] (by decide +kernel) (by decide +kernel)) (goodIn_sub (fun _ h => List.mem_cons_of_mem _ (List.mem_append_left _ (List.mem_append_left _ (List.mem_append_right _ h)))) (by decide +kernel))) (goodIn_sub (fun _ h => List.mem_cons_of_mem _ (List.mem_append_left _ (List.mem_append_right _ h))) (by decide +kernel))) (goodIn_sub (fun _ h => List.mem_cons_of_mem _ (List.mem_append_right _ h)) (by decide +kernel))
set_option maxRecDepth 20000 in
theorem gL_addDependence_X2_addDependence : GoodIn wsL_addDependence (wsV RL 22 RX2 yX2_addDependence wsX2_addDependence) := goodIn_app (goodIn_of _ (by decide +kernel)) ggL_addDependence_X2_addDependence
theorem dL_addDependence_0 : decode cL_addDependence 0 = .ok (.aload 5, 2) := by decide +kernel
theorem dL_addDependence_2 : decode cL_addDependence 2 = .ok (.iconst 0, 1) := by decide +kernel
theorem dL_addDependence_3 : decode cL_addDependence 3 = .ok (.aload_n 0, 1) := by decide +kernel
theorem dL_addDependence_4 : decode cL_addDependence 4 = .ok (.iload_n 1, 1) := by decide +kernel
theorem dL_addDependence_5 : decode cL_addDependence 5 = .ok (.iload_n 2, 1) := by decide +kernel
theorem dL_addDependence_6 : decode cL_addDependence 6 = .ok (.iload_n 3, 1) := by decide +kernel
theorem dL_addDependence_7 : decode cL_addDependence 7 = .ok (.iload 4, 2) := by decide +kernel
theorem dL_addDependence_9 : decode cL_addDependence 9 = .ok (.invokevirtual 22, 3) := by decide +kernel
theorem dL_addDependence_12 : decode cL_addDependence 12 = .ok (.i2l, 1) := by decide +kernel
theorem dL_addDependence_13 : decode cL_addDependence 13 = .ok (.lastore, 1) := by decide +kernel
theorem dL_addDependence_14 : decode cL_addDependence 14 = .ok (.goto 15, 3) := by decide +kernel
theorem dL_addDependence_17 : decode cL_addDependence 17 = .ok (.astore 6, 2) := by decide +kernel
theorem dL_addDependence_19 : decode cL_addDependence 19 = .ok (.iconst 1, 1) := by decide +kernel
theorem dL_addDependence_20 : decode cL_addDependence 20 = .ok (.ireturn, 1) := by decide +kernel
theorem dL_addDependence_21 : decode cL_addDependence 21 = .ok (.astore 6, 2) := by decide +kernel
theorem dL_addDependence_23 : decode cL_addDependence 23 = .ok (.iconst 2, 1) := by decide +kernel
theorem dL_addDependence_24 : decode cL_addDependence 24 = .ok (.ireturn, 1) := by decide +kernel
theorem dL_addDependence_25 : decode cL_addDependence 25 = .ok (.astore 6, 2) := by decide +kernel
theorem dL_addDependence_27 : decode cL_addDependence 27 = .ok (.iconst 3, 1) := by decide +kernel
theorem dL_addDependence_28 : decode cL_addDependence 28 = .ok (.ireturn, 1) := by decide +kernel
theorem dL_addDependence_29 : decode cL_addDependence 29 = .ok (.iconst 0, 1) := by decide +kernel
theorem dL_addDependence_30 : decode cL_addDependence 30 = .ok (.ireturn, 1) := by decide +kernel
set_option maxRecDepth 20000 in
theorem ggL_setDelay_X2_setDelay : GoodIn wsL_setDelay wsX2_setDelay := goodIn_ca (goodIn_ca (goodIn_r _ [7, 8, 9, 10, 11, 12, 13, 14, 15, 6, 16, 17, 18, 19, 20, 21, 22, 23, 24, 25, 26, 27, 28, 29, 30, 31, 32, 33, 34, 35, 36, 37, 38, 39, 40, 41, 42] (by decide +kernel) (by decide +kernel)) (goodIn_sub (fun _ h => List.mem_cons_of_mem _ (List.mem_append_left _ (List.mem_append_right _ h))) (by decide +kernel))) (goodIn_sub (fun _ h => List.mem_cons_of_mem _ (List.mem_append_right _ h)) (by decide +kernel))
set_option maxRecDepth 20000 in
theorem gL_setDelay_X2_setDelay : GoodIn wsL_setDelay (wsV RL 26 RX2 yX2_setDelay wsX2_setDelay) := goodIn_app (goodIn_of _ (by decide +kernel)) ggL_setDelay_X2_setDelay
theorem dL_setDelay_0 : decode cL_setDelay 0 = .ok (.aload_n 3, 1) := by decide +kernel
theorem dL_setDelay_1 : decode cL_setDelay 1 = .ok (.iconst 0, 1) := by decide +kernel
theorem dL_setDelay_2 : decode cL_setDelay 2 = .ok (.aload_n 0, 1) := by decide +kernel
theorem dL_setDelay_3 : decode cL_setDelay 3 = .ok (.iload_n 1, 1) := by decide +kernel
theorem dL_setDelay_4 : decode cL_setDelay 4 = .ok (.iload_n 2, 1) := by decide +kernel
theorem dL_setDelay_5 : decode cL_setDelay 5 = .ok (.invokevirtual 26, 3) := by decide +kernel
theorem dL_setDelay_8 : decode cL_setDelay 8 = .ok (.i2l, 1) := by decide +kernel
theorem dL_setDelay_9 : decode cL_setDelay 9 = .ok (.lastore, 1) := by decide +kernel
theorem dL_setDelay_10 : decode cL_setDelay 10 = .ok (.goto 11, 3) := by decide +kernel
theorem dL_setDelay_13 : decode cL_setDelay 13 = .ok (.astore 4, 2) := by decide +kernel
theorem dL_setDelay_15 : decode cL_setDelay 15 = .ok (.iconst 1, 1) := by decide +kernel
theorem dL_setDelay_16 : decode cL_setDelay 16 = .ok (.ireturn, 1) := by decide +kernel
theorem dL_setDelay_17 : decode cL_setDelay 17 = .ok (.astore 4, 2) := by decide +kernel
theorem dL_setDelay_19 : decode cL_setDelay 19 = .ok (.iconst 2, 1) := by decide +kernel
theorem dL_setDelay_20 : decode cL_setDelay 20 = .ok (.ireturn, 1) := by decide +kernel
theorem dL_setDelay_21 : decode cL_setDelay 21 = .ok (.iconst 0, 1) := by decide +kernel
theorem dL_setDelay_22 : decode cL_setDelay 22 = .ok (.ireturn, 1) := by decide +kernel
set_option maxRecDepth 20000 in
theorem ggL_height_X2_height : GoodIn wsL_height wsX2_height := goodIn_ca (goodIn_ca (goodIn_r _ [7, 8, 9, 10, 11, 12, 13, 14, 6, 15, 16, 17, 18, 19, 20, 21, 22, 23, 24, 25, 26, 27, 28, 29, 30, 31, 32, 33, 34, 35, 36, 37, 38, 39, 40, 41, 42, 43, 44, 45, 46, 47, 48, 49, 50, 51, 52, 53, 54, 55, 56] (by decide +kernel) (by decide +kernel)) (goodIn_sub (fun _ h => List.mem_cons_of_mem _ (List.mem_append_left _ (List.mem_append_right _ h))) (by decide +kernel))) (goodIn_sub (fun _ h => List.mem_cons_of_mem _ (List.mem_append_right _ h)) (by decide +kernel))
set_option maxRecDepth 20000 in
theorem gL_height_X2_height : GoodIn wsL_height (wsV RL 29 RX2 yX2_height wsX2_height) := goodIn_app (goodIn_of _ (by decide +kernel)) ggL_height_X2_height
theorem dL_height_0 : decode cL_height 0 = .ok (.aload_n 3, 1) := by decide +kernel
theorem dL_height_1 : decode cL_height 1 = .ok (.iconst 0, 1) := by decide +kernel
theorem dL_height_2 : decode cL_height 2 = .ok (.aload_n 0, 1) := by decide +kernel
theorem dL_height_3 : decode cL_height 3 = .ok (.iload_n 1, 1) := by decide +kernel
theorem dL_height_4 : decode cL_height 4 = .ok (.iload_n 2, 1) := by decide +kernel
theorem dL_height_5 : decode cL_height 5 = .ok (.invokevirtual 29, 3) := by decide +kernel
theorem dL_height_8 : decode cL_height 8 = .ok (.i2l, 1) := by decide +kernel
theorem dL_height_9 : decode cL_height 9 = .ok (.lastore, 1) := by decide +kernel
theorem dL_height_10 : decode cL_height 10 = .ok (.goto 11, 3) := by decide +kernel
theorem dL_height_13 : decode cL_height 13 = .ok (.astore 4, 2) := by decide +kernel
theorem dL_height_15 : decode cL_height 15 = .ok (.iconst 1, 1) := by decide +kernel
theorem dL_height_16 : decode cL_height 16 = .ok (.ireturn, 1) := by decide +kernel
theorem dL_height_17 : decode cL_height 17 = .ok (.astore 4, 2) := by decide +kernel
theorem dL_height_19 : decode cL_height 19 = .ok (.iconst 2, 1) := by decide +kernel
theorem dL_height_20 : decode cL_height 20 = .ok (.ireturn, 1) := by decide +kernel
theorem dL_height_21 : decode cL_height 21 = .ok (.iconst 0, 1) := by decide +kernel
theorem dL_height_22 : decode cL_height 22 = .ok (.ireturn, 1) := by decide +kernel
set_option maxRecDepth 20000 in
theorem ggL_schedule_X2_schedule : GoodIn wsL_schedule wsX2_schedule := goodIn_ca (goodIn_r _ [6, 7, 8, 9, 10, 11, 12, 13, 14, 15, 16, 17, 18, 19, 20, 21, 22, 23, 24, 25, 26, 27, 28, 29, 30, 31, 32, 33, 34, 35, 36, 37, 38, 39, 40, 41, 42, 43, 44, 45, 46, 47, 48, 49, 50, 51, 52, 53, 54, 55, 56, 57, 58, 59, 60, 61, 62, 63, 64, 65, 66, 67, 68, 69, 70, 71, 72, 73, 74, 75, 76, 77, 78, 79, 80, 81, 82, 83, 84, 85, 86, 87, 88, 89, 90, 91, 92, 93, 94, 95, 96, 97, 98, 99, 100, 101, 102, 103, 104, 105, 106, 107, 108, 109, 110, 111, 112, 113, 114, 115, 116, 117, 118, 119, 120, 121, 122, 123, 124, 125, 126, 127] (by decide +kernel) (by decide +kernel)) (goodIn_sub (fun _ h => List.mem_cons_of_mem _ (List.mem_append_right _ h)) (by decide +kernel))
set_option maxRecDepth 20000 in
theorem gL_schedule_X2_schedule : GoodIn wsL_schedule (wsV RL 32 RX2 yX2_schedule wsX2_schedule) := goodIn_app (goodIn_of _ (by decide +kernel)) ggL_schedule_X2_schedule
theorem dL_schedule_0 : decode cL_schedule 0 = .ok (.aload_n 2, 1) := by decide +kernel
theorem dL_schedule_1 : decode cL_schedule 1 = .ok (.iconst 0, 1) := by decide +kernel
theorem dL_schedule_2 : decode cL_schedule 2 = .ok (.aload_n 0, 1) := by decide +kernel
theorem dL_schedule_3 : decode cL_schedule 3 = .ok (.iload_n 1, 1) := by decide +kernel
theorem dL_schedule_4 : decode cL_schedule 4 = .ok (.invokevirtual 32, 3) := by decide +kernel
theorem dL_schedule_7 : decode cL_schedule 7 = .ok (.i2l, 1) := by decide +kernel
theorem dL_schedule_8 : decode cL_schedule 8 = .ok (.lastore, 1) := by decide +kernel
theorem dL_schedule_9 : decode cL_schedule 9 = .ok (.goto 6, 3) := by decide +kernel
theorem dL_schedule_12 : decode cL_schedule 12 = .ok (.astore_n 3, 1) := by decide +kernel
theorem dL_schedule_13 : decode cL_schedule 13 = .ok (.iconst 1, 1) := by decide +kernel
theorem dL_schedule_14 : decode cL_schedule 14 = .ok (.ireturn, 1) := by decide +kernel
theorem dL_schedule_15 : decode cL_schedule 15 = .ok (.iconst 0, 1) := by decide +kernel
theorem dL_schedule_16 : decode cL_schedule 16 = .ok (.ireturn, 1) := by decide +kernel
set_option maxRecDepth 20000 in
theorem ggL_interval_X2_interval : GoodIn wsL_interval wsX2_interval := goodIn_ca (goodIn_r _ [6, 7, 8, 9, 10, 11, 5, 12, 13, 14, 15, 16, 17, 18, 19, 20, 21, 22] (by decide +kernel) (by decide +kernel)) (goodIn_sub (fun _ h => List.mem_cons_of_mem _ (List.mem_append_right _ h)) (by decide +kernel))
set_option maxRecDepth 20000 in
theorem gL_interval_X2_interval : GoodIn wsL_interval (wsV RL 36 RX2 yX2_interval wsX2_interval) := goodIn_app (goodIn_of _ (by decide +kernel)) ggL_interval_X2_interval
theorem dL_interval_0 : decode cL_interval 0 = .ok (.aload_n 1, 1) := by decide +kernel
theorem dL_interval_1 : decode cL_interval 1 = .ok (.iconst 0, 1) := by decide +kernel
theorem dL_interval_2 : decode cL_interval 2 = .ok (.aload_n 0, 1) := by decide +kernel
theorem dL_interval_3 : decode cL_interval 3 = .ok (.invokevirtual 36, 3) := by decide +kernel
theorem dL_interval_6 : decode cL_interval 6 = .ok (.i2l, 1) := by decide +kernel
theorem dL_interval_7 : decode cL_interval 7 = .ok (.lastore, 1) := by decide +kernel
theorem dL_interval_8 : decode cL_interval 8 = .ok (.goto 6, 3) := by decide +kernel
theorem dL_interval_11 : decode cL_interval 11 = .ok (.astore_n 2, 1) := by decide +kernel
theorem dL_interval_12 : decode cL_interval 12 = .ok (.iconst 1, 1) := by decide +kernel
theorem dL_interval_13 : decode cL_interval 13 = .ok (.ireturn, 1) := by decide +kernel
theorem dL_interval_14 : decode cL_interval 14 = .ok (.iconst 0, 1) := by decide +kernel
theorem dL_interval_15 : decode cL_interval 15 = .ok (.ireturn, 1) := by decide +kernel
set_option maxRecDepth 20000 in
theorem ggL_time_X2_time : GoodIn wsL_time wsX2_time := goodIn_ca (goodIn_ca (goodIn_r _ [7, 8, 9, 10, 11, 12, 6, 13, 14, 15, 16, 17, 18, 19, 20, 21, 22, 23, 24, 25, 26, 27, 28, 29, 30, 31, 32, 33, 34, 35, 36, 37, 38, 39, 40, 41, 42] (by decide +kernel) (by decide +kernel)) (goodIn_sub (fun _ h => List.mem_cons_of_mem _ (List.mem_append_left _ (List.mem_append_right _ h))) (by decide +kernel))) (goodIn_sub (fun _ h => List.mem_cons_of_mem _ (List.mem_append_right _ h)) (by decide +kernel))
set_option maxRecDepth 20000 in
theorem gL_time_X2_time : GoodIn wsL_time (wsV RL 40 RX2 yX2_time wsX2_time) := goodIn_app (goodIn_of _ (by decide +kernel)) ggL_time_X2_time
theorem dL_time_0 : decode cL_time 0 = .ok (.aload_n 2, 1) := by decide +kernel
theorem dL_time_1 : decode cL_time 1 = .ok (.iconst 0, 1) := by decide +kernel
theorem dL_time_2 : decode cL_time 2 = .ok (.aload_n 0, 1) := by decide +kernel
theorem dL_time_3 : decode cL_time 3 = .ok (.iload_n 1, 1) := by decide +kernel
theorem dL_time_4 : decode cL_time 4 = .ok (.invokevirtual 40, 3) := by decide +kernel
theorem dL_time_7 : decode cL_time 7 = .ok (.i2l, 1) := by decide +kernel
theorem dL_time_8 : decode cL_time 8 = .ok (.lastore, 1) := by decide +kernel
theorem dL_time_9 : decode cL_time 9 = .ok (.goto 9, 3) := by decide +kernel
theorem dL_time_12 : decode cL_time 12 = .ok (.astore_n 3, 1) := by decide +kernel
theorem dL_time_13 : decode cL_time 13 = .ok (.iconst 1, 1) := by decide +kernel
theorem dL_time_14 : decode cL_time 14 = .ok (.ireturn, 1) := by decide +kernel
theorem dL_time_15 : decode cL_time 15 = .ok (.astore_n 3, 1) := by decide +kernel
theorem dL_time_16 : decode cL_time 16 = .ok (.iconst 2, 1) := by decide +kernel
theorem dL_time_17 : decode cL_time 17 = .ok (.ireturn, 1) := by decide +kernel
theorem dL_time_18 : decode cL_time 18 = .ok (.iconst 0, 1) := by decide +kernel
theorem dL_time_19 : decode cL_time 19 = .ok (.ireturn, 1) := by decide +kernel
set_option maxRecDepth 20000 in
theorem ggL_move_X2_move : GoodIn wsL_move wsX2_move := goodIn_ca (goodIn_ca (goodIn_ca (goodIn_r _ [8, 9, 10, 11, 12, 13, 14, 7, 15, 16, 17, 18, 19, 20, 21, 22, 23, 24, 25, 26, 27, 28, 29, 30, 31, 32, 33, 34, 35, 36, 37, 38, 39, 40, 41, 42, 43, 44, 45, 46, 47, 48, 49, 50, 51, 52, 53, 54, 55, 56, 57, 58, 59, 60, 61, 62, 63, 64, 65, 66, 67, 68, 69, 70, 71, 72, 73, 74, 75, 76, 77, 78, 79, 80, 81, 82, 83, 84, 85, 86, 87, 88, 89, 90, 91, 92] (by decide +kernel) (by decide +kernel)) (goodIn_sub (fun _ h => List.mem_cons_of_mem _ (List.mem_append_left _ (List.mem_append_left _ (List.mem_append_right _ h)))) (by decide +kernel))) (goodIn_sub (fun _ h => List.mem_cons_of_mem _ (List.mem_append_left _ (List.mem_append_right _ h))) (by decide +kernel))) (goodIn_sub (fun _ h => List.mem_cons_of_mem _ (List.mem_append_right _ h)) (by decide +kernel))
set_option maxRecDepth 20000 in
theorem gL_move_X2_move : GoodIn wsL_move (wsV RL 43 RX2 yX2_move wsX2_move) := goodIn_app (goodIn_of _ (by decide +kernel)) ggL_move_X2_move
theorem dL_move_0 : decode cL_move 0 = .ok (.aload_n 3, 1) := by decide +kernel
theorem dL_move_1 : decode cL_move 1 = .ok (.iconst 0, 1) := by decide +kernel
theorem dL_move_2 : decode cL_move 2 = .ok (.aload_n 0, 1) := by decide +kernel
theorem dL_move_3 : decode cL_move 3 = .ok (.iload_n 1, 1) := by decide +kernel
theorem dL_move_4 : decode cL_move 4 = .ok (.iload_n 2, 1) := by decide +kernel
theorem dL_move_5 : decode cL_move 5 = .ok (.invokevirtual 43, 3) := by decide +kernel
theorem dL_move_8 : decode cL_move 8 = .ok (.ifCond .eq 7, 3) := by decide +kernel
theorem dL_move_11 : decode cL_move 11 = .ok (.lconst 1, 1) := by decide +kernel
theorem dL_move_12 : decode cL_move 12 = .ok (.goto 4, 3) := by decide +kernel
theorem dL_move_15 : decode cL_move 15 = .ok (.lconst 0, 1) := by decide +kernel
theorem dL_move_16 : decode cL_move 16 = .ok (.lastore, 1) := by decide +kernel
theorem dL_move_17 : decode cL_move 17 = .ok (.goto 15, 3) := by decide +kernel
theorem dL_move_20 : decode cL_move 20 = .ok (.astore 4, 2) := by decide +kernel
theorem dL_move_22 : decode cL_move 22 = .ok (.iconst 1, 1) := by decide +kernel
theorem dL_move_23 : decode cL_move 23 = .ok (.ireturn, 1) := by decide +kernel
theorem dL_move_24 : decode cL_move 24 = .ok (.astore 4, 2) := by decide +kernel
theorem dL_move_26 : decode cL_move 26 = .ok (.iconst 2, 1) := by decide +kernel
theorem dL_move_27 : decode cL_move 27 = .ok (.ireturn, 1) := by decide +kernel
theorem dL_move_28 : decode cL_move 28 = .ok (.astore 4, 2) := by decide +kernel
theorem dL_move_30 : decode cL_move 30 = .ok (.iconst 3, 1) := by decide +kernel
theorem dL_move_31 : decode cL_move 31 = .ok (.ireturn, 1) := by decide +kernel
theorem dL_move_32 : decode cL_move 32 = .ok (.iconst 0, 1) := by decide +kernel
theorem dL_move_33 : decode cL_move 33 = .ok (.ireturn, 1) := by decide +kernel
set_option maxRecDepth 20000 in
theorem ggL_freedom_X2_freedom : GoodIn wsL_freedom wsX2_freedom := goodIn_ca (goodIn_ca (goodIn_r _ [7, 8, 9, 10, 11, 6, 12, 13, 14, 15, 16, 17, 18, 19, 20, 21, 22, 23, 24, 25, 26, 27, 28, 29, 30, 31, 32, 33, 34, 35, 36, 37, 38, 39, 40, 41, 42, 43, 44, 45, 46, 47, 48, 49, 50, 51, 52, 53, 54, 55, 56, 57, 58, 59, 60, 61, 62, 63, 64, 65, 66, 67, 68, 69, 70, 71, 72, 73, 74, 75, 76, 77, 78, 79, 80, 81, 82, 83, 84, 85, 86, 87, 88, 89] (by decide +kernel) (by decide +kernel)) (goodIn_sub (fun _ h => List.mem_cons_of_mem _ (List.mem_append_left _ (List.mem_append_right _ h))) (by decide +kernel))) (goodIn_sub (fun _ h => List.mem_cons_of_mem _ (List.mem_append_right _ h)) (by decide +kernel))
set_option maxRecDepth 20000 in
theorem gL_freedom_X2_freedom : GoodIn wsL_freedom (wsV RL 47 RX2 yX2_freedom wsX2_freedom) := goodIn_app (goodIn_of _ (by decide +kernel)) ggL_freedom_X2_freedom
theorem dL_freedom_0 : decode cL_freedom 0 = .ok (.aload_n 2, 1) := by decide +kernel
theorem dL_freedom_1 : decode cL_freedom 1 = .ok (.iconst 0, 1) := by decide +kernel
theorem dL_freedom_2 : decode cL_freedom 2 = .ok (.aload_n 0, 1) := by decide +kernel
theorem dL_freedom_3 : decode cL_freedom 3 = .ok (.iload_n 1, 1) := by decide +kernel
theorem dL_freedom_4 : decode cL_freedom 4 = .ok (.invokevirtual 47, 3) := by decide +kernel
theorem dL_freedom_7 : decode cL_freedom 7 = .ok (.i2l, 1) := by decide +kernel
theorem dL_freedom_8 : decode cL_freedom 8 = .ok (.lastore, 1) := by decide +kernel
theorem dL_freedom_9 : decode cL_freedom 9 = .ok (.goto 9, 3) := by decide +kernel
theorem dL_freedom_12 : decode cL_freedom 12 = .ok (.astore_n 3, 1) := by decide +kernel
theorem dL_freedom_13 : decode cL_freedom 13 = .ok (.iconst 1, 1) := by decide +kernel
theorem dL_freedom_14 : decode cL_freedom 14 = .ok (.ireturn, 1) := by decide +kernel
theorem dL_freedom_15 : decode cL_freedom 15 = .ok (.astore_n 3, 1) := by decide +kernel
theorem dL_freedom_16 : decode cL_freedom 16 = .ok (.iconst 2, 1) := by decide +kernel
theorem dL_freedom_17 : decode cL_freedom 17 = .ok (.ireturn, 1) := by decide +kernel
theorem dL_freedom_18 : decode cL_freedom 18 = .ok (.iconst 0, 1) := by decide +kernel
theorem dL_freedom_19 : decode cL_freedom 19 = .ok (.ireturn, 1) := by decide +kernel
set_option maxRecDepth 20000 in
theorem ggL_stages_X2_stages : GoodIn wsL_stages wsX2_stages := goodIn_ca (goodIn_r _ [6, 7, 8, 9, 10, 5, 11, 12, 13, 14, 15, 16, 17, 18, 19, 20, 21, 22, 23, 24, 25, 26, 27, 28, 29, 30, 31, 32, 33, 34, 35, 36, 37, 38, 39, 40, 41, 42, 43, 44, 45, 46, 47, 48, 49] (by decide +kernel) (by decide +kernel)) (goodIn_sub (fun _ h => List.mem_cons_of_mem _ (List.mem_append_right _ h)) (by decide +kernel))
set_option maxRecDepth 20000 in
theorem gL_stages_X2_stages : GoodIn wsL_stages (wsV RL 50 RX2 yX2_stages wsX2_stages) := goodIn_app (goodIn_of _ (by decide +kernel)) ggL_stages_X2_stages
theorem dL_stages_0 : decode cL_stages 0 = .ok (.aload_n 1, 1) := by decide +kernel
theorem dL_stages_1 : decode cL_stages 1 = .ok (.iconst 0, 1) := by decide +kernel
theorem dL_stages_2 : decode cL_stages 2 = .ok (.aload_n 0, 1) := by decide +kernel
theorem dL_stages_3 : decode cL_stages 3 = .ok (.invokevirtual 50, 3) := by decide +kernel
theorem dL_stages_6 : decode cL_stages 6 = .ok (.i2l, 1) := by decide +kernel
theorem dL_stages_7 : decode cL_stages 7 = .ok (.lastore, 1) := by decide +kernel
theorem dL_stages_8 : decode cL_stages 8 = .ok (.goto 6, 3) := by decide +kernel
theorem dL_stages_11 : decode cL_stages 11 = .ok (.astore_n 2, 1) := by decide +kernel
theorem dL_stages_12 : decode cL_stages 12 = .ok (.iconst 1, 1) := by decide +kernel
theorem dL_stages_13 : decode cL_stages 13 = .ok (.ireturn, 1) := by decide +kernel
theorem dL_stages_14 : decode cL_stages 14 = .ok (.iconst 0, 1) := by decide +kernel
theorem dL_stages_15 : decode cL_stages 15 = .ok (.ireturn, 1) := by decide +kernel
set_option maxRecDepth 20000 in
theorem ggL_taken_X2_taken : GoodIn wsL_taken wsX2_taken := goodIn_ca (goodIn_ca (goodIn_ca (goodIn_r _ [8, 9, 10, 11, 12, 7, 13, 14, 15, 16, 17, 18, 19, 20, 21, 22, 23, 24, 25, 26, 27, 28, 29, 30, 31, 32, 33, 34, 35, 36, 37, 38, 39] (by decide +kernel) (by decide +kernel)) (goodIn_sub (fun _ h => List.mem_cons_of_mem _ (List.mem_append_left _ (List.mem_append_left _ (List.mem_append_right _ h)))) (by decide +kernel))) (goodIn_sub (fun _ h => List.mem_cons_of_mem _ (List.mem_append_left _ (List.mem_append_right _ h))) (by decide +kernel))) (goodIn_sub (fun _ h => List.mem_cons_of_mem _ (List.mem_append_right _ h)) (by decide +kernel))
set_option maxRecDepth 20000 in
theorem gL_taken_X2_taken : GoodIn wsL_taken (wsV RL 53 RX2 yX2_taken wsX2_taken) := goodIn_app (goodIn_of _ (by decide +kernel)) ggL_taken_X2_taken
theorem dL_taken_0 : decode cL_taken 0 = .ok (.aload_n 3, 1) := by decide +kernel
theorem dL_taken_1 : decode cL_taken 1 = .ok (.iconst 0, 1) := by decide +kernel
theorem dL_taken_2 : decode cL_taken 2 = .ok (.aload_n 0, 1) := by decide +kernel
theorem dL_taken_3 : decode cL_taken 3 = .ok (.iload_n 1, 1) := by decide +kernel
theorem dL_taken_4 : decode cL_taken 4 = .ok (.iload_n 2, 1) := by decide +kernel
theorem dL_taken_5 : decode cL_taken 5 = .ok (.invokevirtual 53, 3) := by decide +kernel
theorem dL_taken_8 : decode cL_taken 8 = .ok (.i2l, 1) := by decide +kernel
theorem dL_taken_9 : decode cL_taken 9 = .ok (.lastore, 1) := by decide +kernel
theorem dL_taken_10 : decode cL_taken 10 = .ok (.goto 15, 3) := by decide +kernel
theorem dL_taken_13 : decode cL_taken 13 = .ok (.astore 4, 2) := by decide +kernel
theorem dL_taken_15 : decode cL_taken 15 = .ok (.iconst 1, 1) := by decide +kernel
theorem dL_taken_16 : decode cL_taken 16 = .ok (.ireturn, 1) := by decide +kernel
theorem dL_taken_17 : decode cL_taken 17 = .ok (.astore 4, 2) := by decide +kernel
theorem dL_taken_19 : decode cL_taken 19 = .ok (.iconst 2, 1) := by decide +kernel
theorem dL_taken_20 : decode cL_taken 20 = .ok (.ireturn, 1) := by decide +kernel
theorem dL_taken_21 : decode cL_taken 21 = .ok (.astore 4, 2) := by decide +kernel
theorem dL_taken_23 : decode cL_taken 23 = .ok (.iconst 3, 1) := by decide +kernel
theorem dL_taken_24 : decode cL_taken 24 = .ok (.ireturn, 1) := by decide +kernel
theorem dL_taken_25 : decode cL_taken 25 = .ok (.iconst 0, 1) := by decide +kernel
theorem dL_taken_26 : decode cL_taken 26 = .ok (.ireturn, 1) := by decide +kernel
set_option maxRecDepth 20000 in
theorem ggL_lifetime_X2_lifetime : GoodIn wsL_lifetime wsX2_lifetime := goodIn_ca (goodIn_ca (goodIn_r _ [7, 8, 9, 10, 11, 12, 6, 13, 14, 15, 16, 17, 18, 19, 20, 21, 22, 23, 24, 25, 26, 27, 28, 29, 30, 31, 32, 33, 34, 35, 36, 37, 38, 39, 40, 41, 42, 43, 44, 45, 46, 47, 48, 49, 50, 51, 52, 53, 54, 55, 56, 57, 58, 59, 60, 61, 62, 63] (by decide +kernel) (by decide +kernel)) (goodIn_sub (fun _ h => List.mem_cons_of_mem _ (List.mem_append_left _ (List.mem_append_right _ h))) (by decide +kernel))) (goodIn_sub (fun _ h => List.mem_cons_of_mem _ (List.mem_append_right _ h)) (by decide +kernel))
set_option maxRecDepth 20000 in
theorem gL_lifetime_X2_lifetime : GoodIn wsL_lifetime (wsV RL 56 RX2 yX2_lifetime wsX2_lifetime) := goodIn_app (goodIn_of _ (by decide +kernel)) ggL_lifetime_X2_lifetime
theorem dL_lifetime_0 : decode cL_lifetime 0 = .ok (.aload_n 2, 1) := by decide +kernel
theorem dL_lifetime_1 : decode cL_lifetime 1 = .ok (.iconst 0, 1) := by decide +kernel
theorem dL_lifetime_2 : decode cL_lifetime 2 = .ok (.aload_n 0, 1) := by decide +kernel
theorem dL_lifetime_3 : decode cL_lifetime 3 = .ok (.iload_n 1, 1) := by decide +kernel
theorem dL_lifetime_4 : decode cL_lifetime 4 = .ok (.invokevirtual 56, 3) := by decide +kernel
theorem dL_lifetime_7 : decode cL_lifetime 7 = .ok (.i2l, 1) := by decide +kernel
theorem dL_lifetime_8 : decode cL_lifetime 8 = .ok (.lastore, 1) := by decide +kernel
theorem dL_lifetime_9 : decode cL_lifetime 9 = .ok (.goto 9, 3) := by decide +kernel
theorem dL_lifetime_12 : decode cL_lifetime 12 = .ok (.astore_n 3, 1) := by decide +kernel
theorem dL_lifetime_13 : decode cL_lifetime 13 = .ok (.iconst 1, 1) := by decide +kernel
theorem dL_lifetime_14 : decode cL_lifetime 14 = .ok (.ireturn, 1) := by decide +kernel
theorem dL_lifetime_15 : decode cL_lifetime 15 = .ok (.astore_n 3, 1) := by decide +kernel
theorem dL_lifetime_16 : decode cL_lifetime 16 = .ok (.iconst 2, 1) := by decide +kernel
theorem dL_lifetime_17 : decode cL_lifetime 17 = .ok (.ireturn, 1) := by decide +kernel
theorem dL_lifetime_18 : decode cL_lifetime 18 = .ok (.iconst 0, 1) := by decide +kernel
theorem dL_lifetime_19 : decode cL_lifetime 19 = .ok (.ireturn, 1) := by decide +kernel
set_option maxRecDepth 20000 in
theorem ggL_live_X2_live : GoodIn wsL_live wsX2_live := goodIn_ca (goodIn_ca (goodIn_r _ [7, 8, 9, 10, 11, 6, 12, 13, 14, 15, 16, 17, 18, 19, 20, 21, 22, 23, 24, 25, 26, 27, 28, 29, 30, 31, 32, 33, 34, 35, 36, 37, 38, 39, 40, 41, 42, 43, 44, 45, 46, 47, 48, 49, 50, 51, 52, 53, 54, 55, 56, 57, 58, 59, 60, 61, 62, 63, 64, 65, 66, 67, 68, 69] (by decide +kernel) (by decide +kernel)) (goodIn_sub (fun _ h => List.mem_cons_of_mem _ (List.mem_append_left _ (List.mem_append_right _ h))) (by decide +kernel))) (goodIn_sub (fun _ h => List.mem_cons_of_mem _ (List.mem_append_right _ h)) (by decide +kernel))
set_option maxRecDepth 20000 in
theorem gL_live_X2_live : GoodIn wsL_live (wsV RL 59 RX2 yX2_live wsX2_live) := goodIn_app (goodIn_of _ (by decide +kernel)) ggL_live_X2_live
theorem dL_live_0 : decode cL_live 0 = .ok (.aload_n 2, 1) := by decide +kernel
theorem dL_live_1 : decode cL_live 1 = .ok (.iconst 0, 1) := by decide +kernel
theorem dL_live_2 : decode cL_live 2 = .ok (.aload_n 0, 1) := by decide +kernel
theorem dL_live_3 : decode cL_live 3 = .ok (.iload_n 1, 1) := by decide +kernel
theorem dL_live_4 : decode cL_live 4 = .ok (.invokevirtual 59, 3) := by decide +kernel
theorem dL_live_7 : decode cL_live 7 = .ok (.i2l, 1) := by decide +kernel
theorem dL_live_8 : decode cL_live 8 = .ok (.lastore, 1) := by decide +kernel
theorem dL_live_9 : decode cL_live 9 = .ok (.goto 9, 3) := by decide +kernel
theorem dL_live_12 : decode cL_live 12 = .ok (.astore_n 3, 1) := by decide +kernel
theorem dL_live_13 : decode cL_live 13 = .ok (.iconst 1, 1) := by decide +kernel
theorem dL_live_14 : decode cL_live 14 = .ok (.ireturn, 1) := by decide +kernel
theorem dL_live_15 : decode cL_live 15 = .ok (.astore_n 3, 1) := by decide +kernel
theorem dL_live_16 : decode cL_live 16 = .ok (.iconst 2, 1) := by decide +kernel
theorem dL_live_17 : decode cL_live 17 = .ok (.ireturn, 1) := by decide +kernel
theorem dL_live_18 : decode cL_live 18 = .ok (.iconst 0, 1) := by decide +kernel
theorem dL_live_19 : decode cL_live 19 = .ok (.ireturn, 1) := by decide +kernel
set_option maxRecDepth 20000 in
theorem ggL_registers_X2_registers : GoodIn wsL_registers wsX2_registers := goodIn_ca (goodIn_r _ [6, 7, 8, 9, 10, 11, 12, 13, 14, 15, 5, 16, 17, 18, 19, 20, 21, 22, 23, 24, 25, 26, 27, 28, 29, 30, 31, 32, 33, 34, 35, 36, 37, 38, 39, 40, 41, 42, 43, 44, 45, 46, 47, 48, 49, 50, 51, 52, 53, 54, 55, 56, 57, 58, 59, 60, 61, 62, 63] (by decide +kernel) (by decide +kernel)) (goodIn_sub (fun _ h => List.mem_cons_of_mem _ (List.mem_append_right _ h)) (by decide +kernel))
set_option maxRecDepth 20000 in
theorem gL_registers_X2_registers : GoodIn wsL_registers (wsV RL 62 RX2 yX2_registers wsX2_registers) := goodIn_app (goodIn_of _ (by decide +kernel)) ggL_registers_X2_registers
theorem dL_registers_0 : decode cL_registers 0 = .ok (.aload_n 1, 1) := by decide +kernel
theorem dL_registers_1 : decode cL_registers 1 = .ok (.iconst 0, 1) := by decide +kernel
theorem dL_registers_2 : decode cL_registers 2 = .ok (.aload_n 0, 1) := by decide +kernel
theorem dL_registers_3 : decode cL_registers 3 = .ok (.invokevirtual 62, 3) := by decide +kernel
theorem dL_registers_6 : decode cL_registers 6 = .ok (.i2l, 1) := by decide +kernel
theorem dL_registers_7 : decode cL_registers 7 = .ok (.lastore, 1) := by decide +kernel
theorem dL_registers_8 : decode cL_registers 8 = .ok (.goto 6, 3) := by decide +kernel
theorem dL_registers_11 : decode cL_registers 11 = .ok (.astore_n 2, 1) := by decide +kernel
theorem dL_registers_12 : decode cL_registers 12 = .ok (.iconst 1, 1) := by decide +kernel
theorem dL_registers_13 : decode cL_registers 13 = .ok (.ireturn, 1) := by decide +kernel
theorem dL_registers_14 : decode cL_registers 14 = .ok (.iconst 0, 1) := by decide +kernel
theorem dL_registers_15 : decode cL_registers 15 = .ok (.ireturn, 1) := by decide +kernel
set_option maxRecDepth 20000 in
theorem ggL_copies_X2_copies : GoodIn wsL_copies wsX2_copies := goodIn_ca (goodIn_ca (goodIn_r _ [7, 8, 9, 10, 11, 6, 12, 13, 14, 15, 16, 17, 18, 19, 20, 21, 22, 23, 24, 25, 26, 27, 28, 29, 30, 31, 32, 33, 34, 35, 36, 37, 38, 39, 40, 41, 42, 43, 44, 45, 46, 47, 48, 49, 50, 51, 52, 53, 54, 55, 56, 57, 58, 59, 60, 61, 62, 63, 64, 65, 66] (by decide +kernel) (by decide +kernel)) (goodIn_sub (fun _ h => List.mem_cons_of_mem _ (List.mem_append_left _ (List.mem_append_right _ h))) (by decide +kernel))) (goodIn_sub (fun _ h => List.mem_cons_of_mem _ (List.mem_append_right _ h)) (by decide +kernel))
set_option maxRecDepth 20000 in
theorem gL_copies_X2_copies : GoodIn wsL_copies (wsV RL 65 RX2 yX2_copies wsX2_copies) := goodIn_app (goodIn_of _ (by decide +kernel)) ggL_copies_X2_copies
theorem dL_copies_0 : decode cL_copies 0 = .ok (.aload_n 2, 1) := by decide +kernel
theorem dL_copies_1 : decode cL_copies 1 = .ok (.iconst 0, 1) := by decide +kernel
theorem dL_copies_2 : decode cL_copies 2 = .ok (.aload_n 0, 1) := by decide +kernel
theorem dL_copies_3 : decode cL_copies 3 = .ok (.iload_n 1, 1) := by decide +kernel
theorem dL_copies_4 : decode cL_copies 4 = .ok (.invokevirtual 65, 3) := by decide +kernel
theorem dL_copies_7 : decode cL_copies 7 = .ok (.i2l, 1) := by decide +kernel
theorem dL_copies_8 : decode cL_copies 8 = .ok (.lastore, 1) := by decide +kernel
theorem dL_copies_9 : decode cL_copies 9 = .ok (.goto 9, 3) := by decide +kernel
theorem dL_copies_12 : decode cL_copies 12 = .ok (.astore_n 3, 1) := by decide +kernel
theorem dL_copies_13 : decode cL_copies 13 = .ok (.iconst 1, 1) := by decide +kernel
theorem dL_copies_14 : decode cL_copies 14 = .ok (.ireturn, 1) := by decide +kernel
theorem dL_copies_15 : decode cL_copies 15 = .ok (.astore_n 3, 1) := by decide +kernel
theorem dL_copies_16 : decode cL_copies 16 = .ok (.iconst 2, 1) := by decide +kernel
theorem dL_copies_17 : decode cL_copies 17 = .ok (.ireturn, 1) := by decide +kernel
theorem dL_copies_18 : decode cL_copies 18 = .ok (.iconst 0, 1) := by decide +kernel
theorem dL_copies_19 : decode cL_copies 19 = .ok (.ireturn, 1) := by decide +kernel
set_option maxRecDepth 20000 in
theorem ggL_unrolling_X2_unrolling : GoodIn wsL_unrolling wsX2_unrolling := goodIn_ca (goodIn_r _ [6, 7, 8, 9, 10, 11, 12, 13, 14, 5, 15, 16, 17, 18, 19, 20, 21, 22, 23, 24, 25, 26, 27, 28, 29, 30, 31, 32, 33, 34, 35, 36, 37, 38, 39, 40, 41, 42, 43, 44, 45, 46, 47, 48, 49, 50, 51, 52, 53, 54, 55, 56, 57, 58, 59, 60, 61, 62, 63, 64] (by decide +kernel) (by decide +kernel)) (goodIn_sub (fun _ h => List.mem_cons_of_mem _ (List.mem_append_right _ h)) (by decide +kernel))
set_option maxRecDepth 20000 in
theorem gL_unrolling_X2_unrolling : GoodIn wsL_unrolling (wsV RL 68 RX2 yX2_unrolling wsX2_unrolling) := goodIn_app (goodIn_of _ (by decide +kernel)) ggL_unrolling_X2_unrolling
theorem dL_unrolling_0 : decode cL_unrolling 0 = .ok (.aload_n 1, 1) := by decide +kernel
theorem dL_unrolling_1 : decode cL_unrolling 1 = .ok (.iconst 0, 1) := by decide +kernel
theorem dL_unrolling_2 : decode cL_unrolling 2 = .ok (.aload_n 0, 1) := by decide +kernel
theorem dL_unrolling_3 : decode cL_unrolling 3 = .ok (.invokevirtual 68, 3) := by decide +kernel
theorem dL_unrolling_6 : decode cL_unrolling 6 = .ok (.i2l, 1) := by decide +kernel
theorem dL_unrolling_7 : decode cL_unrolling 7 = .ok (.lastore, 1) := by decide +kernel
theorem dL_unrolling_8 : decode cL_unrolling 8 = .ok (.goto 6, 3) := by decide +kernel
theorem dL_unrolling_11 : decode cL_unrolling 11 = .ok (.astore_n 2, 1) := by decide +kernel
theorem dL_unrolling_12 : decode cL_unrolling 12 = .ok (.iconst 1, 1) := by decide +kernel
theorem dL_unrolling_13 : decode cL_unrolling 13 = .ok (.ireturn, 1) := by decide +kernel
theorem dL_unrolling_14 : decode cL_unrolling 14 = .ok (.iconst 0, 1) := by decide +kernel
theorem dL_unrolling_15 : decode cL_unrolling 15 = .ok (.ireturn, 1) := by decide +kernel
set_option maxRecDepth 20000 in
theorem ggL_cycles_X2_cycles : GoodIn wsL_cycles wsX2_cycles := goodIn_ca (goodIn_ca (goodIn_r _ [7, 8, 9, 10, 11, 12, 13, 14, 6, 15, 16, 17, 18, 19, 20, 21, 22, 23, 24, 25, 26, 27, 28, 29, 30, 31, 32, 33, 34, 35, 36, 37, 38, 39, 40, 41, 42, 43, 44, 45, 46, 47, 48, 49, 50, 51, 52] (by decide +kernel) (by decide +kernel)) (goodIn_sub (fun _ h => List.mem_cons_of_mem _ (List.mem_append_left _ (List.mem_append_right _ h))) (by decide +kernel))) (goodIn_sub (fun _ h => List.mem_cons_of_mem _ (List.mem_append_right _ h)) (by decide +kernel))
set_option maxRecDepth 20000 in
theorem gL_cycles_X2_cycles : GoodIn wsL_cycles (wsV RL 71 RX2 yX2_cycles wsX2_cycles) := goodIn_app (goodIn_of _ (by decide +kernel)) ggL_cycles_X2_cycles
theorem dL_cycles_0 : decode cL_cycles 0 = .ok (.aload_n 2, 1) := by decide +kernel
theorem dL_cycles_1 : decode cL_cycles 1 = .ok (.iconst 0, 1) := by decide +kernel
theorem dL_cycles_2 : decode cL_cycles 2 = .ok (.aload_n 0, 1) := by decide +kernel
theorem dL_cycles_3 : decode cL_cycles 3 = .ok (.iload_n 1, 1) := by decide +kernel
theorem dL_cycles_4 : decode cL_cycles 4 = .ok (.invokevirtual 71, 3) := by decide +kernel
theorem dL_cycles_7 : decode cL_cycles 7 = .ok (.i2l, 1) := by decide +kernel
theorem dL_cycles_8 : decode cL_cycles 8 = .ok (.lastore, 1) := by decide +kernel
theorem dL_cycles_9 : decode cL_cycles 9 = .ok (.goto 9, 3) := by decide +kernel
theorem dL_cycles_12 : decode cL_cycles 12 = .ok (.astore_n 3, 1) := by decide +kernel
theorem dL_cycles_13 : decode cL_cycles 13 = .ok (.iconst 1, 1) := by decide +kernel
theorem dL_cycles_14 : decode cL_cycles 14 = .ok (.ireturn, 1) := by decide +kernel
theorem dL_cycles_15 : decode cL_cycles 15 = .ok (.astore_n 3, 1) := by decide +kernel
theorem dL_cycles_16 : decode cL_cycles 16 = .ok (.iconst 2, 1) := by decide +kernel
theorem dL_cycles_17 : decode cL_cycles 17 = .ok (.ireturn, 1) := by decide +kernel
theorem dL_cycles_18 : decode cL_cycles 18 = .ok (.iconst 0, 1) := by decide +kernel
theorem dL_cycles_19 : decode cL_cycles 19 = .ok (.ireturn, 1) := by decide +kernel
set_option maxRecDepth 20000 in
theorem ggL_issued_X2_issued : GoodIn wsL_issued wsX2_issued := goodIn_ca (goodIn_ca (goodIn_r _ [7, 8, 9, 10, 11, 12, 6, 13, 14, 15, 16, 17, 18, 19, 20, 21, 22, 23, 24, 25, 26, 27, 28, 29, 30, 31, 32, 33, 34, 35, 36, 37, 38, 39, 40, 41, 42, 43, 44, 45, 46, 47, 48] (by decide +kernel) (by decide +kernel)) (goodIn_sub (fun _ h => List.mem_cons_of_mem _ (List.mem_append_left _ (List.mem_append_right _ h))) (by decide +kernel))) (goodIn_sub (fun _ h => List.mem_cons_of_mem _ (List.mem_append_right _ h)) (by decide +kernel))
set_option maxRecDepth 20000 in
theorem gL_issued_X2_issued : GoodIn wsL_issued (wsV RL 74 RX2 yX2_issued wsX2_issued) := goodIn_app (goodIn_of _ (by decide +kernel)) ggL_issued_X2_issued
theorem dL_issued_0 : decode cL_issued 0 = .ok (.aload_n 3, 1) := by decide +kernel
theorem dL_issued_1 : decode cL_issued 1 = .ok (.iconst 0, 1) := by decide +kernel
theorem dL_issued_2 : decode cL_issued 2 = .ok (.aload_n 0, 1) := by decide +kernel
theorem dL_issued_3 : decode cL_issued 3 = .ok (.iload_n 1, 1) := by decide +kernel
theorem dL_issued_4 : decode cL_issued 4 = .ok (.iload_n 2, 1) := by decide +kernel
theorem dL_issued_5 : decode cL_issued 5 = .ok (.invokevirtual 74, 3) := by decide +kernel
theorem dL_issued_8 : decode cL_issued 8 = .ok (.i2l, 1) := by decide +kernel
theorem dL_issued_9 : decode cL_issued 9 = .ok (.lastore, 1) := by decide +kernel
theorem dL_issued_10 : decode cL_issued 10 = .ok (.goto 11, 3) := by decide +kernel
theorem dL_issued_13 : decode cL_issued 13 = .ok (.astore 4, 2) := by decide +kernel
theorem dL_issued_15 : decode cL_issued 15 = .ok (.iconst 1, 1) := by decide +kernel
theorem dL_issued_16 : decode cL_issued 16 = .ok (.ireturn, 1) := by decide +kernel
theorem dL_issued_17 : decode cL_issued 17 = .ok (.astore 4, 2) := by decide +kernel
theorem dL_issued_19 : decode cL_issued 19 = .ok (.iconst 2, 1) := by decide +kernel
theorem dL_issued_20 : decode cL_issued 20 = .ok (.ireturn, 1) := by decide +kernel
theorem dL_issued_21 : decode cL_issued 21 = .ok (.iconst 0, 1) := by decide +kernel
theorem dL_issued_22 : decode cL_issued 22 = .ok (.ireturn, 1) := by decide +kernel
set_option maxRecDepth 20000 in
theorem ggL_issue_X2_issue : GoodIn wsL_issue wsX2_issue := goodIn_ca (goodIn_ca (goodIn_ca (goodIn_r _ [8, 9, 10, 11, 12, 13, 14, 15, 7, 16, 17, 18, 19, 20, 21, 22, 23, 24, 25, 26, 27, 28, 29, 30, 31, 32, 33, 34, 35, 36, 37, 38, 39, 40, 41, 42, 43, 44, 45, 46, 47, 48, 49, 50, 51, 52, 53, 54, 55, 56, 57, 58, 59] (by decide +kernel) (by decide +kernel)) (goodIn_sub (fun _ h => List.mem_cons_of_mem _ (List.mem_append_left _ (List.mem_append_left _ (List.mem_append_right _ h)))) (by decide +kernel))) (goodIn_sub (fun _ h => List.mem_cons_of_mem _ (List.mem_append_left _ (List.mem_append_right _ h))) (by decide +kernel))) (goodIn_sub (fun _ h => List.mem_cons_of_mem _ (List.mem_append_right _ h)) (by decide +kernel))
set_option maxRecDepth 20000 in
theorem gL_issue_X2_issue : GoodIn wsL_issue (wsV RL 77 RX2 yX2_issue wsX2_issue) := goodIn_app (goodIn_of _ (by decide +kernel)) ggL_issue_X2_issue
theorem dL_issue_0 : decode cL_issue 0 = .ok (.aload 4, 2) := by decide +kernel
theorem dL_issue_2 : decode cL_issue 2 = .ok (.iconst 0, 1) := by decide +kernel
theorem dL_issue_3 : decode cL_issue 3 = .ok (.aload_n 0, 1) := by decide +kernel
theorem dL_issue_4 : decode cL_issue 4 = .ok (.iload_n 1, 1) := by decide +kernel
theorem dL_issue_5 : decode cL_issue 5 = .ok (.iload_n 2, 1) := by decide +kernel
theorem dL_issue_6 : decode cL_issue 6 = .ok (.iload_n 3, 1) := by decide +kernel
theorem dL_issue_7 : decode cL_issue 7 = .ok (.invokevirtual 77, 3) := by decide +kernel
theorem dL_issue_10 : decode cL_issue 10 = .ok (.i2l, 1) := by decide +kernel
theorem dL_issue_11 : decode cL_issue 11 = .ok (.lastore, 1) := by decide +kernel
theorem dL_issue_12 : decode cL_issue 12 = .ok (.goto 15, 3) := by decide +kernel
theorem dL_issue_15 : decode cL_issue 15 = .ok (.astore 5, 2) := by decide +kernel
theorem dL_issue_17 : decode cL_issue 17 = .ok (.iconst 1, 1) := by decide +kernel
theorem dL_issue_18 : decode cL_issue 18 = .ok (.ireturn, 1) := by decide +kernel
theorem dL_issue_19 : decode cL_issue 19 = .ok (.astore 5, 2) := by decide +kernel
theorem dL_issue_21 : decode cL_issue 21 = .ok (.iconst 2, 1) := by decide +kernel
theorem dL_issue_22 : decode cL_issue 22 = .ok (.ireturn, 1) := by decide +kernel
theorem dL_issue_23 : decode cL_issue 23 = .ok (.astore 5, 2) := by decide +kernel
theorem dL_issue_25 : decode cL_issue 25 = .ok (.iconst 3, 1) := by decide +kernel
theorem dL_issue_26 : decode cL_issue 26 = .ok (.ireturn, 1) := by decide +kernel
theorem dL_issue_27 : decode cL_issue 27 = .ok (.iconst 0, 1) := by decide +kernel
theorem dL_issue_28 : decode cL_issue 28 = .ok (.ireturn, 1) := by decide +kernel
set_option maxRecDepth 20000 in
theorem ggL_prologue_X2_prologue : GoodIn wsL_prologue wsX2_prologue := goodIn_ca (goodIn_r _ [6, 7, 8, 9, 10, 11, 12, 5, 13, 14, 15, 16, 17, 18, 19, 20, 21, 22, 23, 24, 25, 26, 27, 28, 29, 30, 31, 32, 33, 34, 35, 36, 37, 38, 39, 40, 41, 42, 43, 44, 45, 46, 47, 48, 49, 50, 51, 52, 53, 54, 55] (by decide +kernel) (by decide +kernel)) (goodIn_sub (fun _ h => List.mem_cons_of_mem _ (List.mem_append_right _ h)) (by decide +kernel))
set_option maxRecDepth 20000 in
theorem gL_prologue_X2_prologue : GoodIn wsL_prologue (wsV RL 81 RX2 yX2_prologue wsX2_prologue) := goodIn_app (goodIn_of _ (by decide +kernel)) ggL_prologue_X2_prologue
theorem dL_prologue_0 : decode cL_prologue 0 = .ok (.aload_n 1, 1) := by decide +kernel
theorem dL_prologue_1 : decode cL_prologue 1 = .ok (.iconst 0, 1) := by decide +kernel
theorem dL_prologue_2 : decode cL_prologue 2 = .ok (.aload_n 0, 1) := by decide +kernel
theorem dL_prologue_3 : decode cL_prologue 3 = .ok (.invokevirtual 81, 3) := by decide +kernel
theorem dL_prologue_6 : decode cL_prologue 6 = .ok (.i2l, 1) := by decide +kernel
theorem dL_prologue_7 : decode cL_prologue 7 = .ok (.lastore, 1) := by decide +kernel
theorem dL_prologue_8 : decode cL_prologue 8 = .ok (.goto 6, 3) := by decide +kernel
theorem dL_prologue_11 : decode cL_prologue 11 = .ok (.astore_n 2, 1) := by decide +kernel
theorem dL_prologue_12 : decode cL_prologue 12 = .ok (.iconst 1, 1) := by decide +kernel
theorem dL_prologue_13 : decode cL_prologue 13 = .ok (.ireturn, 1) := by decide +kernel
theorem dL_prologue_14 : decode cL_prologue 14 = .ok (.iconst 0, 1) := by decide +kernel
theorem dL_prologue_15 : decode cL_prologue 15 = .ok (.ireturn, 1) := by decide +kernel
set_option maxRecDepth 20000 in
theorem ggL_epilogue_X2_epilogue : GoodIn wsL_epilogue wsX2_epilogue := goodIn_ca (goodIn_r _ [6, 7, 8, 9, 10, 11, 12, 5, 13, 14, 15, 16, 17, 18, 19, 20, 21, 22, 23, 24, 25, 26, 27, 28, 29, 30, 31, 32, 33, 34, 35, 36, 37, 38, 39, 40, 41] (by decide +kernel) (by decide +kernel)) (goodIn_sub (fun _ h => List.mem_cons_of_mem _ (List.mem_append_right _ h)) (by decide +kernel))
set_option maxRecDepth 20000 in
theorem gL_epilogue_X2_epilogue : GoodIn wsL_epilogue (wsV RL 84 RX2 yX2_epilogue wsX2_epilogue) := goodIn_app (goodIn_of _ (by decide +kernel)) ggL_epilogue_X2_epilogue
theorem dL_epilogue_0 : decode cL_epilogue 0 = .ok (.aload_n 1, 1) := by decide +kernel
theorem dL_epilogue_1 : decode cL_epilogue 1 = .ok (.iconst 0, 1) := by decide +kernel
theorem dL_epilogue_2 : decode cL_epilogue 2 = .ok (.aload_n 0, 1) := by decide +kernel
theorem dL_epilogue_3 : decode cL_epilogue 3 = .ok (.invokevirtual 84, 3) := by decide +kernel
theorem dL_epilogue_6 : decode cL_epilogue 6 = .ok (.i2l, 1) := by decide +kernel
theorem dL_epilogue_7 : decode cL_epilogue 7 = .ok (.lastore, 1) := by decide +kernel
theorem dL_epilogue_8 : decode cL_epilogue 8 = .ok (.goto 6, 3) := by decide +kernel
theorem dL_epilogue_11 : decode cL_epilogue 11 = .ok (.astore_n 2, 1) := by decide +kernel
theorem dL_epilogue_12 : decode cL_epilogue 12 = .ok (.iconst 1, 1) := by decide +kernel
theorem dL_epilogue_13 : decode cL_epilogue 13 = .ok (.ireturn, 1) := by decide +kernel
theorem dL_epilogue_14 : decode cL_epilogue 14 = .ok (.iconst 0, 1) := by decide +kernel
theorem dL_epilogue_15 : decode cL_epilogue 15 = .ok (.ireturn, 1) := by decide +kernel
