set_option maxRecDepth 20000 in
theorem ggX2_init_X0_init : GoodIn wsX2_init wsX0_init := goodIn_r _ [14, 15, 2, 3, 16, 17, 18, 19, 20, 21, 22, 23, 24, 34, 35, 36, 37, 38, 39, 40, 41, 42, 43] (by decide +kernel) (by decide +kernel)
set_option maxRecDepth 20000 in
theorem gX2_init_X0_init : GoodIn wsX2_init (wsX0_init) := ggX2_init_X0_init
set_option maxRecDepth 20000 in
theorem ggX2_init_X1_init : GoodIn wsX2_init wsX1_init := goodIn_r _ [27, 28, 2, 3, 16, 29, 30, 31, 32, 33, 47, 48, 49, 50, 51] (by decide +kernel) (by decide +kernel)
set_option maxRecDepth 20000 in
theorem gX2_init_X1_init : GoodIn wsX2_init (wsX1_init) := ggX2_init_X1_init
theorem dX2_init_0 : decode cX2_init 0 = .ok (.aload_n 0, 1) := by decide +kernel
theorem dX2_init_1 : decode cX2_init 1 = .ok (.invokespecial 1, 3) := by decide +kernel
theorem dX2_init_4 : decode cX2_init 4 = .ok (.aload_n 0, 1) := by decide +kernel
theorem dX2_init_5 : decode cX2_init 5 = .ok (.new 7, 3) := by decide +kernel
theorem dX2_init_8 : decode cX2_init 8 = .ok (.dup, 1) := by decide +kernel
theorem dX2_init_9 : decode cX2_init 9 = .ok (.invokespecial 9, 3) := by decide +kernel
theorem dX2_init_12 : decode cX2_init 12 = .ok (.putfield 10, 3) := by decide +kernel
theorem dX2_init_15 : decode cX2_init 15 = .ok (.aload_n 0, 1) := by decide +kernel
theorem dX2_init_16 : decode cX2_init 16 = .ok (.new 16, 3) := by decide +kernel
theorem dX2_init_19 : decode cX2_init 19 = .ok (.dup, 1) := by decide +kernel
theorem dX2_init_20 : decode cX2_init 20 = .ok (.aload_n 0, 1) := by decide +kernel
theorem dX2_init_21 : decode cX2_init 21 = .ok (.getfield 10, 3) := by decide +kernel
theorem dX2_init_24 : decode cX2_init 24 = .ok (.invokespecial 18, 3) := by decide +kernel
theorem dX2_init_27 : decode cX2_init 27 = .ok (.putfield 21, 3) := by decide +kernel
theorem dX2_init_30 : decode cX2_init 30 = .ok (.return_, 1) := by decide +kernel
set_option maxRecDepth 20000 in
theorem ggX2_setUnits_X2_requireKind : GoodIn wsX2_setUnits wsX2_requireKind := goodIn_ca (goodIn_r _ [9, 10, 11, 12, 13, 8, 14] (by decide +kernel) (by decide +kernel)) (goodIn_sub (fun _ h => List.mem_cons_of_mem _ (List.mem_append_right _ h)) (by decide +kernel))
set_option maxRecDepth 20000 in
theorem gX2_setUnits_X2_requireKind : GoodIn wsX2_setUnits (va_wsS RX2 25 yX2_requireKind wsX2_requireKind) := goodIn_app (goodIn_of _ (by decide +kernel)) ggX2_setUnits_X2_requireKind
set_option maxRecDepth 20000 in
theorem ggX2_setUnits_X1_drop : GoodIn wsX2_setUnits wsX1_drop := goodIn_r _ [19, 20, 34, 35, 36, 37, 38] (by decide +kernel) (by decide +kernel)
set_option maxRecDepth 20000 in
theorem gX2_setUnits_X1_drop : GoodIn wsX2_setUnits (wsV RX2 40 RX1 yX1_drop wsX1_drop) := goodIn_app (goodIn_of _ (by decide +kernel)) ggX2_setUnits_X1_drop
theorem dX2_setUnits_0 : decode cX2_setUnits 0 = .ok (.iload_n 1, 1) := by decide +kernel
theorem dX2_setUnits_1 : decode cX2_setUnits 1 = .ok (.invokestatic 25, 3) := by decide +kernel
theorem dX2_setUnits_4 : decode cX2_setUnits 4 = .ok (.iload_n 2, 1) := by decide +kernel
theorem dX2_setUnits_5 : decode cX2_setUnits 5 = .ok (.iconst 1, 1) := by decide +kernel
theorem dX2_setUnits_6 : decode cX2_setUnits 6 = .ok (.if_icmp .lt 8, 3) := by decide +kernel
theorem dX2_setUnits_9 : decode cX2_setUnits 9 = .ok (.iload_n 2, 1) := by decide +kernel
theorem dX2_setUnits_10 : decode cX2_setUnits 10 = .ok (.iconst 3, 1) := by decide +kernel
theorem dX2_setUnits_11 : decode cX2_setUnits 11 = .ok (.if_icmp .le 13, 3) := by decide +kernel
theorem dX2_setUnits_14 : decode cX2_setUnits 14 = .ok (.new 29, 3) := by decide +kernel
theorem dX2_setUnits_17 : decode cX2_setUnits 17 = .ok (.dup, 1) := by decide +kernel
theorem dX2_setUnits_18 : decode cX2_setUnits 18 = .ok (.ldc 31, 2) := by decide +kernel
theorem dX2_setUnits_20 : decode cX2_setUnits 20 = .ok (.invokespecial 33, 3) := by decide +kernel
theorem dX2_setUnits_23 : decode cX2_setUnits 23 = .ok (.athrow, 1) := by decide +kernel
theorem dX2_setUnits_24 : decode cX2_setUnits 24 = .ok (.aload_n 0, 1) := by decide +kernel
theorem dX2_setUnits_25 : decode cX2_setUnits 25 = .ok (.getfield 10, 3) := by decide +kernel
theorem dX2_setUnits_28 : decode cX2_setUnits 28 = .ok (.getfield 36, 3) := by decide +kernel
theorem dX2_setUnits_31 : decode cX2_setUnits 31 = .ok (.iload_n 1, 1) := by decide +kernel
theorem dX2_setUnits_32 : decode cX2_setUnits 32 = .ok (.iaload, 1) := by decide +kernel
theorem dX2_setUnits_33 : decode cX2_setUnits 33 = .ok (.istore_n 3, 1) := by decide +kernel
theorem dX2_setUnits_34 : decode cX2_setUnits 34 = .ok (.aload_n 0, 1) := by decide +kernel
theorem dX2_setUnits_35 : decode cX2_setUnits 35 = .ok (.getfield 10, 3) := by decide +kernel
theorem dX2_setUnits_38 : decode cX2_setUnits 38 = .ok (.getfield 36, 3) := by decide +kernel
theorem dX2_setUnits_41 : decode cX2_setUnits 41 = .ok (.iload_n 1, 1) := by decide +kernel
theorem dX2_setUnits_42 : decode cX2_setUnits 42 = .ok (.iload_n 2, 1) := by decide +kernel
theorem dX2_setUnits_43 : decode cX2_setUnits 43 = .ok (.iastore, 1) := by decide +kernel
theorem dX2_setUnits_44 : decode cX2_setUnits 44 = .ok (.aload_n 0, 1) := by decide +kernel
theorem dX2_setUnits_45 : decode cX2_setUnits 45 = .ok (.getfield 21, 3) := by decide +kernel
theorem dX2_setUnits_48 : decode cX2_setUnits 48 = .ok (.invokevirtual 40, 3) := by decide +kernel
theorem dX2_setUnits_51 : decode cX2_setUnits 51 = .ok (.iload_n 3, 1) := by decide +kernel
theorem dX2_setUnits_52 : decode cX2_setUnits 52 = .ok (.ireturn, 1) := by decide +kernel
set_option maxRecDepth 20000 in
theorem ggX2_addOperation_X2_isKind : GoodIn wsX2_addOperation wsX2_isKind := goodIn_r _ [11] (by decide +kernel) (by decide +kernel)
set_option maxRecDepth 20000 in
theorem gX2_addOperation_X2_isKind : GoodIn wsX2_addOperation (va_wsS RX2 43 yX2_isKind wsX2_isKind) := goodIn_app (goodIn_of _ (by decide +kernel)) ggX2_addOperation_X2_isKind
set_option maxRecDepth 20000 in
theorem ggX2_addOperation_X1_drop : GoodIn wsX2_addOperation wsX1_drop := goodIn_r _ [16, 17, 39, 40, 41, 42, 43] (by decide +kernel) (by decide +kernel)
set_option maxRecDepth 20000 in
theorem gX2_addOperation_X1_drop : GoodIn wsX2_addOperation (wsV RX2 40 RX1 yX1_drop wsX1_drop) := goodIn_app (goodIn_of _ (by decide +kernel)) ggX2_addOperation_X1_drop
set_option maxRecDepth 20000 in
theorem ggX2_addOperation_X0_appendOperation : GoodIn wsX2_addOperation wsX0_appendOperation := goodIn_r _ [22, 23, 24, 25, 29, 30, 31, 32, 33, 34, 35, 36, 37, 38] (by decide +kernel) (by decide +kernel)
set_option maxRecDepth 20000 in
theorem gX2_addOperation_X0_appendOperation : GoodIn wsX2_addOperation (wsV RX2 60 RX0 yX0_appendOperation wsX0_appendOperation) := goodIn_app (goodIn_of _ (by decide +kernel)) ggX2_addOperation_X0_appendOperation
theorem dX2_addOperation_0 : decode cX2_addOperation 0 = .ok (.iload_n 1, 1) := by decide +kernel
theorem dX2_addOperation_1 : decode cX2_addOperation 1 = .ok (.invokestatic 43, 3) := by decide +kernel
theorem dX2_addOperation_4 : decode cX2_addOperation 4 = .ok (.ifCond .ne 13, 3) := by decide +kernel
theorem dX2_addOperation_7 : decode cX2_addOperation 7 = .ok (.new 29, 3) := by decide +kernel
theorem dX2_addOperation_10 : decode cX2_addOperation 10 = .ok (.dup, 1) := by decide +kernel
theorem dX2_addOperation_11 : decode cX2_addOperation 11 = .ok (.ldc 47, 2) := by decide +kernel
theorem dX2_addOperation_13 : decode cX2_addOperation 13 = .ok (.invokespecial 33, 3) := by decide +kernel
theorem dX2_addOperation_16 : decode cX2_addOperation 16 = .ok (.athrow, 1) := by decide +kernel
theorem dX2_addOperation_17 : decode cX2_addOperation 17 = .ok (.iload_n 2, 1) := by decide +kernel
theorem dX2_addOperation_18 : decode cX2_addOperation 18 = .ok (.iconst 1, 1) := by decide +kernel
theorem dX2_addOperation_19 : decode cX2_addOperation 19 = .ok (.if_icmp .lt 8, 3) := by decide +kernel
theorem dX2_addOperation_22 : decode cX2_addOperation 22 = .ok (.iload_n 2, 1) := by decide +kernel
theorem dX2_addOperation_23 : decode cX2_addOperation 23 = .ok (.iconst 4, 1) := by decide +kernel
theorem dX2_addOperation_24 : decode cX2_addOperation 24 = .ok (.if_icmp .le 13, 3) := by decide +kernel
theorem dX2_addOperation_27 : decode cX2_addOperation 27 = .ok (.new 29, 3) := by decide +kernel
theorem dX2_addOperation_30 : decode cX2_addOperation 30 = .ok (.dup, 1) := by decide +kernel
theorem dX2_addOperation_31 : decode cX2_addOperation 31 = .ok (.ldc 49, 2) := by decide +kernel
theorem dX2_addOperation_33 : decode cX2_addOperation 33 = .ok (.invokespecial 33, 3) := by decide +kernel
theorem dX2_addOperation_36 : decode cX2_addOperation 36 = .ok (.athrow, 1) := by decide +kernel
theorem dX2_addOperation_37 : decode cX2_addOperation 37 = .ok (.aload_n 0, 1) := by decide +kernel
theorem dX2_addOperation_38 : decode cX2_addOperation 38 = .ok (.getfield 10, 3) := by decide +kernel
theorem dX2_addOperation_41 : decode cX2_addOperation 41 = .ok (.getfield 51, 3) := by decide +kernel
theorem dX2_addOperation_44 : decode cX2_addOperation 44 = .ok (.bipush 14, 2) := by decide +kernel
theorem dX2_addOperation_46 : decode cX2_addOperation 46 = .ok (.if_icmp .lt 13, 3) := by decide +kernel
theorem dX2_addOperation_49 : decode cX2_addOperation 49 = .ok (.new 55, 3) := by decide +kernel
theorem dX2_addOperation_52 : decode cX2_addOperation 52 = .ok (.dup, 1) := by decide +kernel
theorem dX2_addOperation_53 : decode cX2_addOperation 53 = .ok (.ldc 57, 2) := by decide +kernel
theorem dX2_addOperation_55 : decode cX2_addOperation 55 = .ok (.invokespecial 59, 3) := by decide +kernel
theorem dX2_addOperation_58 : decode cX2_addOperation 58 = .ok (.athrow, 1) := by decide +kernel
theorem dX2_addOperation_59 : decode cX2_addOperation 59 = .ok (.aload_n 0, 1) := by decide +kernel
theorem dX2_addOperation_60 : decode cX2_addOperation 60 = .ok (.getfield 21, 3) := by decide +kernel
theorem dX2_addOperation_63 : decode cX2_addOperation 63 = .ok (.invokevirtual 40, 3) := by decide +kernel
theorem dX2_addOperation_66 : decode cX2_addOperation 66 = .ok (.aload_n 0, 1) := by decide +kernel
theorem dX2_addOperation_67 : decode cX2_addOperation 67 = .ok (.getfield 10, 3) := by decide +kernel
theorem dX2_addOperation_70 : decode cX2_addOperation 70 = .ok (.iload_n 1, 1) := by decide +kernel
theorem dX2_addOperation_71 : decode cX2_addOperation 71 = .ok (.iload_n 2, 1) := by decide +kernel
theorem dX2_addOperation_72 : decode cX2_addOperation 72 = .ok (.invokevirtual 60, 3) := by decide +kernel
theorem dX2_addOperation_75 : decode cX2_addOperation 75 = .ok (.ireturn, 1) := by decide +kernel
set_option maxRecDepth 20000 in
theorem ggX2_addDependence_X2_requireOperation : GoodIn wsX2_addDependence wsX2_requireOperation := goodIn_ca (goodIn_r _ [12, 13, 14, 5, 15, 35, 36, 37, 38, 39, 40, 41, 42, 43, 44, 45, 46, 47] (by decide +kernel) (by decide +kernel)) (goodIn_sub (fun _ h => List.mem_cons_of_mem _ (List.mem_append_right _ h)) (by decide +kernel))
set_option maxRecDepth 20000 in
theorem gX2_addDependence_X2_requireOperation : GoodIn wsX2_addDependence (wsV RX2 64 RX2 yX2_requireOperation wsX2_requireOperation) := goodIn_app (goodIn_of _ (by decide +kernel)) ggX2_addDependence_X2_requireOperation
set_option maxRecDepth 20000 in
theorem ggX2_addDependence_X2_requireDelay : GoodIn wsX2_addDependence wsX2_requireDelay := goodIn_ca (goodIn_r _ [18, 1, 2] (by decide +kernel) (by decide +kernel)) (goodIn_sub (fun _ h => List.mem_cons_of_mem _ (List.mem_append_left _ (List.mem_append_left _ (List.mem_append_right _ h)))) (by decide +kernel))
set_option maxRecDepth 20000 in
theorem gX2_addDependence_X2_requireDelay : GoodIn wsX2_addDependence (va_wsS RX2 67 yX2_requireDelay wsX2_requireDelay) := goodIn_app (goodIn_of _ (by decide +kernel)) ggX2_addDependence_X2_requireDelay
set_option maxRecDepth 20000 in
theorem ggX2_addDependence_X1_drop : GoodIn wsX2_addDependence wsX1_drop := goodIn_r _ [23, 24, 48, 49, 50, 51, 52] (by decide +kernel) (by decide +kernel)
set_option maxRecDepth 20000 in
theorem gX2_addDependence_X1_drop : GoodIn wsX2_addDependence (wsV RX2 40 RX1 yX1_drop wsX1_drop) := goodIn_app (goodIn_of _ (by decide +kernel)) ggX2_addDependence_X1_drop
set_option maxRecDepth 20000 in
theorem ggX2_addDependence_X0_appendDependence : GoodIn wsX2_addDependence wsX0_appendDependence := goodIn_r _ [29, 30, 31, 32, 33, 34, 38, 39, 40, 41, 42, 43, 44, 45, 46, 47] (by decide +kernel) (by decide +kernel)
set_option maxRecDepth 20000 in
theorem gX2_addDependence_X0_appendDependence : GoodIn wsX2_addDependence (wsV RX2 77 RX0 yX0_appendDependence wsX0_appendDependence) := goodIn_app (goodIn_of _ (by decide +kernel)) ggX2_addDependence_X0_appendDependence
theorem dX2_addDependence_0 : decode cX2_addDependence 0 = .ok (.aload_n 0, 1) := by decide +kernel
theorem dX2_addDependence_1 : decode cX2_addDependence 1 = .ok (.iload_n 1, 1) := by decide +kernel
theorem dX2_addDependence_2 : decode cX2_addDependence 2 = .ok (.invokevirtual 64, 3) := by decide +kernel
theorem dX2_addDependence_5 : decode cX2_addDependence 5 = .ok (.aload_n 0, 1) := by decide +kernel
theorem dX2_addDependence_6 : decode cX2_addDependence 6 = .ok (.iload_n 2, 1) := by decide +kernel
theorem dX2_addDependence_7 : decode cX2_addDependence 7 = .ok (.invokevirtual 64, 3) := by decide +kernel
theorem dX2_addDependence_10 : decode cX2_addDependence 10 = .ok (.iload_n 3, 1) := by decide +kernel
theorem dX2_addDependence_11 : decode cX2_addDependence 11 = .ok (.invokestatic 67, 3) := by decide +kernel
theorem dX2_addDependence_14 : decode cX2_addDependence 14 = .ok (.iload 4, 2) := by decide +kernel
theorem dX2_addDependence_16 : decode cX2_addDependence 16 = .ok (.ifCond .lt 9, 3) := by decide +kernel
theorem dX2_addDependence_19 : decode cX2_addDependence 19 = .ok (.iload 4, 2) := by decide +kernel
theorem dX2_addDependence_21 : decode cX2_addDependence 21 = .ok (.iconst 3, 1) := by decide +kernel
theorem dX2_addDependence_22 : decode cX2_addDependence 22 = .ok (.if_icmp .le 13, 3) := by decide +kernel
theorem dX2_addDependence_25 : decode cX2_addDependence 25 = .ok (.new 29, 3) := by decide +kernel
theorem dX2_addDependence_28 : decode cX2_addDependence 28 = .ok (.dup, 1) := by decide +kernel
theorem dX2_addDependence_29 : decode cX2_addDependence 29 = .ok (.ldc 70, 2) := by decide +kernel
theorem dX2_addDependence_31 : decode cX2_addDependence 31 = .ok (.invokespecial 33, 3) := by decide +kernel
theorem dX2_addDependence_34 : decode cX2_addDependence 34 = .ok (.athrow, 1) := by decide +kernel
theorem dX2_addDependence_35 : decode cX2_addDependence 35 = .ok (.aload_n 0, 1) := by decide +kernel
theorem dX2_addDependence_36 : decode cX2_addDependence 36 = .ok (.getfield 10, 3) := by decide +kernel
theorem dX2_addDependence_39 : decode cX2_addDependence 39 = .ok (.getfield 72, 3) := by decide +kernel
theorem dX2_addDependence_42 : decode cX2_addDependence 42 = .ok (.bipush 40, 2) := by decide +kernel
theorem dX2_addDependence_44 : decode cX2_addDependence 44 = .ok (.if_icmp .lt 13, 3) := by decide +kernel
theorem dX2_addDependence_47 : decode cX2_addDependence 47 = .ok (.new 55, 3) := by decide +kernel
theorem dX2_addDependence_50 : decode cX2_addDependence 50 = .ok (.dup, 1) := by decide +kernel
theorem dX2_addDependence_51 : decode cX2_addDependence 51 = .ok (.ldc 75, 2) := by decide +kernel
theorem dX2_addDependence_53 : decode cX2_addDependence 53 = .ok (.invokespecial 59, 3) := by decide +kernel
theorem dX2_addDependence_56 : decode cX2_addDependence 56 = .ok (.athrow, 1) := by decide +kernel
theorem dX2_addDependence_57 : decode cX2_addDependence 57 = .ok (.aload_n 0, 1) := by decide +kernel
theorem dX2_addDependence_58 : decode cX2_addDependence 58 = .ok (.getfield 21, 3) := by decide +kernel
theorem dX2_addDependence_61 : decode cX2_addDependence 61 = .ok (.invokevirtual 40, 3) := by decide +kernel
theorem dX2_addDependence_64 : decode cX2_addDependence 64 = .ok (.aload_n 0, 1) := by decide +kernel
theorem dX2_addDependence_65 : decode cX2_addDependence 65 = .ok (.getfield 10, 3) := by decide +kernel
theorem dX2_addDependence_68 : decode cX2_addDependence 68 = .ok (.iload_n 1, 1) := by decide +kernel
theorem dX2_addDependence_69 : decode cX2_addDependence 69 = .ok (.iload_n 2, 1) := by decide +kernel
theorem dX2_addDependence_70 : decode cX2_addDependence 70 = .ok (.iload_n 3, 1) := by decide +kernel
theorem dX2_addDependence_71 : decode cX2_addDependence 71 = .ok (.iload 4, 2) := by decide +kernel
theorem dX2_addDependence_73 : decode cX2_addDependence 73 = .ok (.invokevirtual 77, 3) := by decide +kernel
theorem dX2_addDependence_76 : decode cX2_addDependence 76 = .ok (.ireturn, 1) := by decide +kernel
set_option maxRecDepth 20000 in
theorem ggX2_schedule_X1_drop : GoodIn wsX2_schedule wsX1_drop := goodIn_r _ [14, 15, 107, 108, 109, 110, 111] (by decide +kernel) (by decide +kernel)
set_option maxRecDepth 20000 in
theorem gX2_schedule_X1_drop : GoodIn wsX2_schedule (wsV RX2 40 RX1 yX1_drop wsX1_drop) := goodIn_app (goodIn_of _ (by decide +kernel)) ggX2_schedule_X1_drop
set_option maxRecDepth 20000 in
theorem ggX2_schedule_X0_leastIntervalOfRecurrences : GoodIn wsX2_schedule wsX0_leastIntervalOfRecurrences := goodIn_r _ [20, 21, 22, 23, 19, 24, 25, 26, 27, 28, 29, 30, 31, 32, 33, 34, 35, 36, 37, 38, 39, 112, 113, 114, 115, 116, 117, 118, 119, 120, 121] (by decide +kernel) (by decide +kernel)
set_option maxRecDepth 20000 in
theorem gX2_schedule_X0_leastIntervalOfRecurrences : GoodIn wsX2_schedule (wsV RX2 93 RX0 yX0_leastIntervalOfRecurrences wsX0_leastIntervalOfRecurrences) := goodIn_app (goodIn_of _ (by decide +kernel)) ggX2_schedule_X0_leastIntervalOfRecurrences
set_option maxRecDepth 20000 in
theorem ggX2_schedule_X0_leastIntervalOfResources : GoodIn wsX2_schedule wsX0_leastIntervalOfResources := goodIn_r _ [43, 44, 45, 7, 8, 9, 46, 47, 48, 19, 49, 26, 50, 51, 112, 113, 114, 115, 116, 117, 118, 119, 120, 121] (by decide +kernel) (by decide +kernel)
set_option maxRecDepth 20000 in
theorem gX2_schedule_X0_leastIntervalOfResources : GoodIn wsX2_schedule (wsV RX2 89 RX0 yX0_leastIntervalOfResources wsX0_leastIntervalOfResources) := goodIn_app (goodIn_of _ (by decide +kernel)) ggX2_schedule_X0_leastIntervalOfResources
set_option maxRecDepth 20000 in
theorem ggX2_schedule_X1_attempt : GoodIn wsX2_schedule wsX1_attempt := goodIn_r _ [55, 15, 56, 57, 58, 59, 60, 22, 23, 19, 24, 25, 26, 27, 28, 29, 30, 31, 32, 33, 34, 35, 36, 37, 38, 39, 61, 62, 63, 64, 13, 65, 66, 67, 68, 69, 70, 71, 72, 73, 74, 75, 76, 77, 78, 79, 80, 7, 8, 9, 81, 82, 83, 84, 85, 86, 87, 88, 89, 90, 91, 92, 93, 94, 95, 96, 97, 98, 99, 100, 101, 102, 103, 11, 12, 14, 107, 108, 109, 110, 111, 112, 113, 114, 115, 116, 117, 118, 119, 120, 121] (by decide +kernel) (by decide +kernel)
set_option maxRecDepth 20000 in
theorem gX2_schedule_X1_attempt : GoodIn wsX2_schedule (wsV RX2 114 RX1 yX1_attempt wsX1_attempt) := goodIn_app (goodIn_of _ (by decide +kernel)) ggX2_schedule_X1_attempt
theorem dX2_schedule_0 : decode cX2_schedule 0 = .ok (.iload_n 1, 1) := by decide +kernel
theorem dX2_schedule_1 : decode cX2_schedule 1 = .ok (.iconst 1, 1) := by decide +kernel
theorem dX2_schedule_2 : decode cX2_schedule 2 = .ok (.if_icmp .lt 10, 3) := by decide +kernel
theorem dX2_schedule_5 : decode cX2_schedule 5 = .ok (.iload_n 1, 1) := by decide +kernel
theorem dX2_schedule_6 : decode cX2_schedule 6 = .ok (.sipush 200, 3) := by decide +kernel
theorem dX2_schedule_9 : decode cX2_schedule 9 = .ok (.if_icmp .le 13, 3) := by decide +kernel
theorem dX2_schedule_12 : decode cX2_schedule 12 = .ok (.new 29, 3) := by decide +kernel
theorem dX2_schedule_15 : decode cX2_schedule 15 = .ok (.dup, 1) := by decide +kernel
theorem dX2_schedule_16 : decode cX2_schedule 16 = .ok (.ldc 104, 2) := by decide +kernel
theorem dX2_schedule_18 : decode cX2_schedule 18 = .ok (.invokespecial 33, 3) := by decide +kernel
theorem dX2_schedule_21 : decode cX2_schedule 21 = .ok (.athrow, 1) := by decide +kernel
theorem dX2_schedule_22 : decode cX2_schedule 22 = .ok (.aload_n 0, 1) := by decide +kernel
theorem dX2_schedule_23 : decode cX2_schedule 23 = .ok (.getfield 21, 3) := by decide +kernel
theorem dX2_schedule_26 : decode cX2_schedule 26 = .ok (.invokevirtual 40, 3) := by decide +kernel
theorem dX2_schedule_29 : decode cX2_schedule 29 = .ok (.aload_n 0, 1) := by decide +kernel
theorem dX2_schedule_30 : decode cX2_schedule 30 = .ok (.iconst 0, 1) := by decide +kernel
theorem dX2_schedule_31 : decode cX2_schedule 31 = .ok (.putfield 106, 3) := by decide +kernel
theorem dX2_schedule_34 : decode cX2_schedule 34 = .ok (.aload_n 0, 1) := by decide +kernel
theorem dX2_schedule_35 : decode cX2_schedule 35 = .ok (.getfield 10, 3) := by decide +kernel
theorem dX2_schedule_38 : decode cX2_schedule 38 = .ok (.invokevirtual 93, 3) := by decide +kernel
theorem dX2_schedule_41 : decode cX2_schedule 41 = .ok (.istore_n 2, 1) := by decide +kernel
theorem dX2_schedule_42 : decode cX2_schedule 42 = .ok (.iload_n 2, 1) := by decide +kernel
theorem dX2_schedule_43 : decode cX2_schedule 43 = .ok (.iconst (-1), 1) := by decide +kernel
theorem dX2_schedule_44 : decode cX2_schedule 44 = .ok (.if_icmp .ne 5, 3) := by decide +kernel
theorem dX2_schedule_47 : decode cX2_schedule 47 = .ok (.iconst (-1), 1) := by decide +kernel
theorem dX2_schedule_48 : decode cX2_schedule 48 = .ok (.ireturn, 1) := by decide +kernel
theorem dX2_schedule_49 : decode cX2_schedule 49 = .ok (.iload_n 2, 1) := by decide +kernel
theorem dX2_schedule_50 : decode cX2_schedule 50 = .ok (.aload_n 0, 1) := by decide +kernel
theorem dX2_schedule_51 : decode cX2_schedule 51 = .ok (.getfield 10, 3) := by decide +kernel
theorem dX2_schedule_54 : decode cX2_schedule 54 = .ok (.invokevirtual 89, 3) := by decide +kernel
theorem dX2_schedule_57 : decode cX2_schedule 57 = .ok (.invokestatic 109, 3) := by decide +kernel
theorem dX2_schedule_60 : decode cX2_schedule 60 = .ok (.istore_n 3, 1) := by decide +kernel
theorem dX2_schedule_61 : decode cX2_schedule 61 = .ok (.iload_n 3, 1) := by decide +kernel
theorem dX2_schedule_62 : decode cX2_schedule 62 = .ok (.istore 4, 2) := by decide +kernel
theorem dX2_schedule_64 : decode cX2_schedule 64 = .ok (.iload 4, 2) := by decide +kernel
theorem dX2_schedule_66 : decode cX2_schedule 66 = .ok (.iload_n 1, 1) := by decide +kernel
theorem dX2_schedule_67 : decode cX2_schedule 67 = .ok (.if_icmp .gt 34, 3) := by decide +kernel
theorem dX2_schedule_70 : decode cX2_schedule 70 = .ok (.aload_n 0, 1) := by decide +kernel
theorem dX2_schedule_71 : decode cX2_schedule 71 = .ok (.dup, 1) := by decide +kernel
theorem dX2_schedule_72 : decode cX2_schedule 72 = .ok (.getfield 106, 3) := by decide +kernel
theorem dX2_schedule_75 : decode cX2_schedule 75 = .ok (.iconst 1, 1) := by decide +kernel
theorem dX2_schedule_76 : decode cX2_schedule 76 = .ok (.iadd, 1) := by decide +kernel
theorem dX2_schedule_77 : decode cX2_schedule 77 = .ok (.putfield 106, 3) := by decide +kernel
theorem dX2_schedule_80 : decode cX2_schedule 80 = .ok (.aload_n 0, 1) := by decide +kernel
theorem dX2_schedule_81 : decode cX2_schedule 81 = .ok (.getfield 21, 3) := by decide +kernel
theorem dX2_schedule_84 : decode cX2_schedule 84 = .ok (.iload 4, 2) := by decide +kernel
theorem dX2_schedule_86 : decode cX2_schedule 86 = .ok (.invokevirtual 114, 3) := by decide +kernel
theorem dX2_schedule_89 : decode cX2_schedule 89 = .ok (.ifCond .eq 6, 3) := by decide +kernel
theorem dX2_schedule_92 : decode cX2_schedule 92 = .ok (.iload 4, 2) := by decide +kernel
theorem dX2_schedule_94 : decode cX2_schedule 94 = .ok (.ireturn, 1) := by decide +kernel
theorem dX2_schedule_95 : decode cX2_schedule 95 = .ok (.iinc 4 1, 3) := by decide +kernel
theorem dX2_schedule_98 : decode cX2_schedule 98 = .ok (.goto (-34), 3) := by decide +kernel
theorem dX2_schedule_101 : decode cX2_schedule 101 = .ok (.iconst (-1), 1) := by decide +kernel
theorem dX2_schedule_102 : decode cX2_schedule 102 = .ok (.ireturn, 1) := by decide +kernel
set_option maxRecDepth 20000 in
theorem ggX2_time_X2_requireOperation : GoodIn wsX2_time wsX2_requireOperation := goodIn_ca (goodIn_r _ [7, 8, 9, 10, 11, 19, 20, 21, 27, 28, 29, 30, 31, 32, 33, 34, 35, 36] (by decide +kernel) (by decide +kernel)) (goodIn_sub (fun _ h => List.mem_cons_of_mem _ (List.mem_append_left _ (List.mem_append_right _ h))) (by decide +kernel))
set_option maxRecDepth 20000 in
theorem gX2_time_X2_requireOperation : GoodIn wsX2_time (wsV RX2 64 RX2 yX2_requireOperation wsX2_requireOperation) := goodIn_app (goodIn_of _ (by decide +kernel)) ggX2_time_X2_requireOperation
set_option maxRecDepth 20000 in
theorem ggX2_time_X2_requireSchedule : GoodIn wsX2_time wsX2_requireSchedule := goodIn_ca (goodIn_r _ [15, 16, 17, 1, 18, 19, 20, 21, 22, 23, 24, 25, 26] (by decide +kernel) (by decide +kernel)) (goodIn_sub (fun _ h => List.mem_cons_of_mem _ (List.mem_append_right _ h)) (by decide +kernel))
set_option maxRecDepth 20000 in
theorem gX2_time_X2_requireSchedule : GoodIn wsX2_time (wsV RX2 120 RX2 yX2_requireSchedule wsX2_requireSchedule) := goodIn_app (goodIn_of _ (by decide +kernel)) ggX2_time_X2_requireSchedule
theorem dX2_time_0 : decode cX2_time 0 = .ok (.aload_n 0, 1) := by decide +kernel
theorem dX2_time_1 : decode cX2_time 1 = .ok (.iload_n 1, 1) := by decide +kernel
theorem dX2_time_2 : decode cX2_time 2 = .ok (.invokevirtual 64, 3) := by decide +kernel
theorem dX2_time_5 : decode cX2_time 5 = .ok (.aload_n 0, 1) := by decide +kernel
theorem dX2_time_6 : decode cX2_time 6 = .ok (.invokevirtual 120, 3) := by decide +kernel
theorem dX2_time_9 : decode cX2_time 9 = .ok (.aload_n 0, 1) := by decide +kernel
theorem dX2_time_10 : decode cX2_time 10 = .ok (.getfield 21, 3) := by decide +kernel
theorem dX2_time_13 : decode cX2_time 13 = .ok (.getfield 123, 3) := by decide +kernel
theorem dX2_time_16 : decode cX2_time 16 = .ok (.iload_n 1, 1) := by decide +kernel
theorem dX2_time_17 : decode cX2_time 17 = .ok (.iaload, 1) := by decide +kernel
theorem dX2_time_18 : decode cX2_time 18 = .ok (.ireturn, 1) := by decide +kernel
set_option maxRecDepth 20000 in
theorem ggX2_move_X2_requireOperation : GoodIn wsX2_move wsX2_requireOperation := goodIn_ca (goodIn_r _ [8, 9, 10, 11, 12, 68, 69, 70, 71, 72, 73, 74, 75, 76, 77, 78, 79, 80] (by decide +kernel) (by decide +kernel)) (goodIn_sub (fun _ h => List.mem_cons_of_mem _ (List.mem_append_left _ (List.mem_append_right _ h))) (by decide +kernel))
set_option maxRecDepth 20000 in
theorem gX2_move_X2_requireOperation : GoodIn wsX2_move (wsV RX2 64 RX2 yX2_requireOperation wsX2_requireOperation) := goodIn_app (goodIn_of _ (by decide +kernel)) ggX2_move_X2_requireOperation
set_option maxRecDepth 20000 in
theorem ggX2_move_X2_requireSchedule : GoodIn wsX2_move wsX2_requireSchedule := goodIn_ca (goodIn_r _ [16, 17, 18, 3, 19, 68, 69, 70, 81, 82, 83, 84, 85] (by decide +kernel) (by decide +kernel)) (goodIn_sub (fun _ h => List.mem_cons_of_mem _ (List.mem_append_right _ h)) (by decide +kernel))
set_option maxRecDepth 20000 in
theorem gX2_move_X2_requireSchedule : GoodIn wsX2_move (wsV RX2 120 RX2 yX2_requireSchedule wsX2_requireSchedule) := goodIn_app (goodIn_of _ (by decide +kernel)) ggX2_move_X2_requireSchedule
set_option maxRecDepth 20000 in
theorem ggX2_move_X1_replace : GoodIn wsX2_move wsX1_replace := goodIn_r _ [24, 25, 26, 27, 28, 23, 29, 30, 31, 32, 33, 34, 35, 36, 37, 38, 39, 40, 41, 42, 43, 44, 45, 46, 47, 48, 49, 50, 51, 52, 53, 54, 55, 56, 57, 58, 59, 60, 61, 62, 63, 64, 65, 66, 67, 81, 82, 83, 84, 85, 71, 72, 73, 74, 75, 76, 77, 78, 79, 80] (by decide +kernel) (by decide +kernel)
set_option maxRecDepth 20000 in
theorem gX2_move_X1_replace : GoodIn wsX2_move (wsV RX2 128 RX1 yX1_replace wsX1_replace) := goodIn_app (goodIn_of _ (by decide +kernel)) ggX2_move_X1_replace
theorem dX2_move_0 : decode cX2_move 0 = .ok (.aload_n 0, 1) := by decide +kernel
theorem dX2_move_1 : decode cX2_move 1 = .ok (.iload_n 1, 1) := by decide +kernel
theorem dX2_move_2 : decode cX2_move 2 = .ok (.invokevirtual 64, 3) := by decide +kernel
theorem dX2_move_5 : decode cX2_move 5 = .ok (.iload_n 2, 1) := by decide +kernel
theorem dX2_move_6 : decode cX2_move 6 = .ok (.ifCond .lt 10, 3) := by decide +kernel
theorem dX2_move_9 : decode cX2_move 9 = .ok (.iload_n 2, 1) := by decide +kernel
theorem dX2_move_10 : decode cX2_move 10 = .ok (.sipush 1000, 3) := by decide +kernel
theorem dX2_move_13 : decode cX2_move 13 = .ok (.if_icmp .le 13, 3) := by decide +kernel
theorem dX2_move_16 : decode cX2_move 16 = .ok (.new 29, 3) := by decide +kernel
theorem dX2_move_19 : decode cX2_move 19 = .ok (.dup, 1) := by decide +kernel
theorem dX2_move_20 : decode cX2_move 20 = .ok (.ldc 126, 2) := by decide +kernel
theorem dX2_move_22 : decode cX2_move 22 = .ok (.invokespecial 33, 3) := by decide +kernel
theorem dX2_move_25 : decode cX2_move 25 = .ok (.athrow, 1) := by decide +kernel
theorem dX2_move_26 : decode cX2_move 26 = .ok (.aload_n 0, 1) := by decide +kernel
theorem dX2_move_27 : decode cX2_move 27 = .ok (.invokevirtual 120, 3) := by decide +kernel
theorem dX2_move_30 : decode cX2_move 30 = .ok (.aload_n 0, 1) := by decide +kernel
theorem dX2_move_31 : decode cX2_move 31 = .ok (.getfield 21, 3) := by decide +kernel
theorem dX2_move_34 : decode cX2_move 34 = .ok (.iload_n 1, 1) := by decide +kernel
theorem dX2_move_35 : decode cX2_move 35 = .ok (.iload_n 2, 1) := by decide +kernel
theorem dX2_move_36 : decode cX2_move 36 = .ok (.invokevirtual 128, 3) := by decide +kernel
theorem dX2_move_39 : decode cX2_move 39 = .ok (.ireturn, 1) := by decide +kernel
set_option maxRecDepth 20000 in
theorem ggX2_stages_X2_requireSchedule : GoodIn wsX2_stages wsX2_requireSchedule := goodIn_ca (goodIn_r _ [6, 7, 8, 1, 9, 27, 28, 29, 30, 31, 32, 33, 34] (by decide +kernel) (by decide +kernel)) (goodIn_sub (fun _ h => List.mem_cons_of_mem _ (List.mem_append_right _ h)) (by decide +kernel))
set_option maxRecDepth 20000 in
theorem gX2_stages_X2_requireSchedule : GoodIn wsX2_stages (wsV RX2 120 RX2 yX2_requireSchedule wsX2_requireSchedule) := goodIn_app (goodIn_of _ (by decide +kernel)) ggX2_stages_X2_requireSchedule
set_option maxRecDepth 20000 in
theorem ggX2_stages_X1_countStages : GoodIn wsX2_stages wsX1_countStages := goodIn_r _ [14, 15, 16, 17, 18, 19, 20, 13, 21, 22, 23, 24, 25, 26, 30, 31, 32, 33, 34, 35, 36, 37, 38, 39, 40, 41, 42, 43, 44] (by decide +kernel) (by decide +kernel)
set_option maxRecDepth 20000 in
theorem gX2_stages_X1_countStages : GoodIn wsX2_stages (wsV RX2 136 RX1 yX1_countStages wsX1_countStages) := goodIn_app (goodIn_of _ (by decide +kernel)) ggX2_stages_X1_countStages
theorem dX2_stages_0 : decode cX2_stages 0 = .ok (.aload_n 0, 1) := by decide +kernel
theorem dX2_stages_1 : decode cX2_stages 1 = .ok (.invokevirtual 120, 3) := by decide +kernel
theorem dX2_stages_4 : decode cX2_stages 4 = .ok (.aload_n 0, 1) := by decide +kernel
theorem dX2_stages_5 : decode cX2_stages 5 = .ok (.getfield 21, 3) := by decide +kernel
theorem dX2_stages_8 : decode cX2_stages 8 = .ok (.invokevirtual 136, 3) := by decide +kernel
theorem dX2_stages_11 : decode cX2_stages 11 = .ok (.ireturn, 1) := by decide +kernel
set_option maxRecDepth 20000 in
theorem ggX2_cycles_X2_requireSchedule : GoodIn wsX2_cycles wsX2_requireSchedule := goodIn_ca (goodIn_r _ [9, 10, 11, 3, 4, 29, 30, 31, 42, 43, 44, 45, 46] (by decide +kernel) (by decide +kernel)) (goodIn_sub (fun _ h => List.mem_cons_of_mem _ (List.mem_append_left _ (List.mem_append_right _ h))) (by decide +kernel))
set_option maxRecDepth 20000 in
theorem gX2_cycles_X2_requireSchedule : GoodIn wsX2_cycles (wsV RX2 120 RX2 yX2_requireSchedule wsX2_requireSchedule) := goodIn_app (goodIn_of _ (by decide +kernel)) ggX2_cycles_X2_requireSchedule
set_option maxRecDepth 20000 in
theorem ggX2_cycles_X2_requireIterations : GoodIn wsX2_cycles wsX2_requireIterations := goodIn_ca (goodIn_r _ [14, 15, 16] (by decide +kernel) (by decide +kernel)) (goodIn_sub (fun _ h => List.mem_cons_of_mem _ (List.mem_append_right _ h)) (by decide +kernel))
set_option maxRecDepth 20000 in
theorem gX2_cycles_X2_requireIterations : GoodIn wsX2_cycles (va_wsS RX2 165 yX2_requireIterations wsX2_requireIterations) := goodIn_app (goodIn_of _ (by decide +kernel)) ggX2_cycles_X2_requireIterations
set_option maxRecDepth 20000 in
theorem ggX2_cycles_X1_greatestTime : GoodIn wsX2_cycles wsX1_greatestTime := goodIn_r _ [21, 22, 23, 24, 25, 26, 27, 28, 42, 43, 44, 45, 46, 32, 33, 34, 35, 36, 37, 38, 39, 40, 41] (by decide +kernel) (by decide +kernel)
set_option maxRecDepth 20000 in
theorem gX2_cycles_X1_greatestTime : GoodIn wsX2_cycles (wsV RX2 168 RX1 yX1_greatestTime wsX1_greatestTime) := goodIn_app (goodIn_of _ (by decide +kernel)) ggX2_cycles_X1_greatestTime
theorem dX2_cycles_0 : decode cX2_cycles 0 = .ok (.aload_n 0, 1) := by decide +kernel
theorem dX2_cycles_1 : decode cX2_cycles 1 = .ok (.invokevirtual 120, 3) := by decide +kernel
theorem dX2_cycles_4 : decode cX2_cycles 4 = .ok (.iload_n 1, 1) := by decide +kernel
theorem dX2_cycles_5 : decode cX2_cycles 5 = .ok (.invokestatic 165, 3) := by decide +kernel
theorem dX2_cycles_8 : decode cX2_cycles 8 = .ok (.aload_n 0, 1) := by decide +kernel
theorem dX2_cycles_9 : decode cX2_cycles 9 = .ok (.getfield 10, 3) := by decide +kernel
theorem dX2_cycles_12 : decode cX2_cycles 12 = .ok (.getfield 51, 3) := by decide +kernel
theorem dX2_cycles_15 : decode cX2_cycles 15 = .ok (.ifCond .ne 5, 3) := by decide +kernel
theorem dX2_cycles_18 : decode cX2_cycles 18 = .ok (.iconst 0, 1) := by decide +kernel
theorem dX2_cycles_19 : decode cX2_cycles 19 = .ok (.ireturn, 1) := by decide +kernel
theorem dX2_cycles_20 : decode cX2_cycles 20 = .ok (.aload_n 0, 1) := by decide +kernel
theorem dX2_cycles_21 : decode cX2_cycles 21 = .ok (.getfield 21, 3) := by decide +kernel
theorem dX2_cycles_24 : decode cX2_cycles 24 = .ok (.invokevirtual 168, 3) := by decide +kernel
theorem dX2_cycles_27 : decode cX2_cycles 27 = .ok (.iload_n 1, 1) := by decide +kernel
theorem dX2_cycles_28 : decode cX2_cycles 28 = .ok (.iconst 1, 1) := by decide +kernel
theorem dX2_cycles_29 : decode cX2_cycles 29 = .ok (.isub, 1) := by decide +kernel
theorem dX2_cycles_30 : decode cX2_cycles 30 = .ok (.aload_n 0, 1) := by decide +kernel
theorem dX2_cycles_31 : decode cX2_cycles 31 = .ok (.getfield 21, 3) := by decide +kernel
theorem dX2_cycles_34 : decode cX2_cycles 34 = .ok (.getfield 117, 3) := by decide +kernel
theorem dX2_cycles_37 : decode cX2_cycles 37 = .ok (.imul, 1) := by decide +kernel
theorem dX2_cycles_38 : decode cX2_cycles 38 = .ok (.iadd, 1) := by decide +kernel
theorem dX2_cycles_39 : decode cX2_cycles 39 = .ok (.iconst 1, 1) := by decide +kernel
theorem dX2_cycles_40 : decode cX2_cycles 40 = .ok (.iadd, 1) := by decide +kernel
theorem dX2_cycles_41 : decode cX2_cycles 41 = .ok (.ireturn, 1) := by decide +kernel
set_option maxRecDepth 20000 in
theorem ggX2_issued_X2_requireSchedule : GoodIn wsX2_issued wsX2_requireSchedule := goodIn_ca (goodIn_r _ [7, 8, 9, 10, 11, 25, 26, 27, 38, 39, 40, 41, 42] (by decide +kernel) (by decide +kernel)) (goodIn_sub (fun _ h => List.mem_cons_of_mem _ (List.mem_append_left _ (List.mem_append_right _ h))) (by decide +kernel))
set_option maxRecDepth 20000 in
theorem gX2_issued_X2_requireSchedule : GoodIn wsX2_issued (wsV RX2 120 RX2 yX2_requireSchedule wsX2_requireSchedule) := goodIn_app (goodIn_of _ (by decide +kernel)) ggX2_issued_X2_requireSchedule
set_option maxRecDepth 20000 in
theorem ggX2_issued_X2_requireIterations : GoodIn wsX2_issued wsX2_requireIterations := goodIn_ca (goodIn_r _ [14, 15, 16] (by decide +kernel) (by decide +kernel)) (goodIn_sub (fun _ h => List.mem_cons_of_mem _ (List.mem_append_right _ h)) (by decide +kernel))
set_option maxRecDepth 20000 in
theorem gX2_issued_X2_requireIterations : GoodIn wsX2_issued (va_wsS RX2 165 yX2_requireIterations wsX2_requireIterations) := goodIn_app (goodIn_of _ (by decide +kernel)) ggX2_issued_X2_requireIterations
set_option maxRecDepth 20000 in
theorem ggX2_issued_X2_requireCycle : GoodIn wsX2_issued wsX2_requireCycle := goodIn_ca (goodIn_r _ [19, 15, 16] (by decide +kernel) (by decide +kernel)) (goodIn_sub (fun _ h => List.mem_cons_of_mem _ (List.mem_append_right _ h)) (by decide +kernel))
set_option maxRecDepth 20000 in
theorem gX2_issued_X2_requireCycle : GoodIn wsX2_issued (va_wsS RX2 171 yX2_requireCycle wsX2_requireCycle) := goodIn_app (goodIn_of _ (by decide +kernel)) ggX2_issued_X2_requireCycle
set_option maxRecDepth 20000 in
theorem ggX2_issued_X2_isIssued : GoodIn wsX2_issued wsX2_isIssued := goodIn_r _ [23, 10, 24, 11, 25, 26, 27, 38, 39, 40, 41, 42] (by decide +kernel) (by decide +kernel)
set_option maxRecDepth 20000 in
theorem gX2_issued_X2_isIssued : GoodIn wsX2_issued (wsV RX2 174 RX2 yX2_isIssued wsX2_isIssued) := goodIn_app (goodIn_of _ (by decide +kernel)) ggX2_issued_X2_isIssued
theorem dX2_issued_0 : decode cX2_issued 0 = .ok (.aload_n 0, 1) := by decide +kernel
theorem dX2_issued_1 : decode cX2_issued 1 = .ok (.invokevirtual 120, 3) := by decide +kernel
theorem dX2_issued_4 : decode cX2_issued 4 = .ok (.iload_n 1, 1) := by decide +kernel
theorem dX2_issued_5 : decode cX2_issued 5 = .ok (.invokestatic 165, 3) := by decide +kernel
theorem dX2_issued_8 : decode cX2_issued 8 = .ok (.iload_n 2, 1) := by decide +kernel
theorem dX2_issued_9 : decode cX2_issued 9 = .ok (.invokestatic 171, 3) := by decide +kernel
theorem dX2_issued_12 : decode cX2_issued 12 = .ok (.iconst 0, 1) := by decide +kernel
theorem dX2_issued_13 : decode cX2_issued 13 = .ok (.istore_n 3, 1) := by decide +kernel
theorem dX2_issued_14 : decode cX2_issued 14 = .ok (.iconst 0, 1) := by decide +kernel
theorem dX2_issued_15 : decode cX2_issued 15 = .ok (.istore 4, 2) := by decide +kernel
theorem dX2_issued_17 : decode cX2_issued 17 = .ok (.iload 4, 2) := by decide +kernel
theorem dX2_issued_19 : decode cX2_issued 19 = .ok (.aload_n 0, 1) := by decide +kernel
theorem dX2_issued_20 : decode cX2_issued 20 = .ok (.getfield 10, 3) := by decide +kernel
theorem dX2_issued_23 : decode cX2_issued 23 = .ok (.getfield 51, 3) := by decide +kernel
theorem dX2_issued_26 : decode cX2_issued 26 = .ok (.if_icmp .ge 23, 3) := by decide +kernel
theorem dX2_issued_29 : decode cX2_issued 29 = .ok (.aload_n 0, 1) := by decide +kernel
theorem dX2_issued_30 : decode cX2_issued 30 = .ok (.iload 4, 2) := by decide +kernel
theorem dX2_issued_32 : decode cX2_issued 32 = .ok (.iload_n 1, 1) := by decide +kernel
theorem dX2_issued_33 : decode cX2_issued 33 = .ok (.iload_n 2, 1) := by decide +kernel
theorem dX2_issued_34 : decode cX2_issued 34 = .ok (.invokevirtual 174, 3) := by decide +kernel
theorem dX2_issued_37 : decode cX2_issued 37 = .ok (.ifCond .eq 6, 3) := by decide +kernel
theorem dX2_issued_40 : decode cX2_issued 40 = .ok (.iinc 3 1, 3) := by decide +kernel
theorem dX2_issued_43 : decode cX2_issued 43 = .ok (.iinc 4 1, 3) := by decide +kernel
theorem dX2_issued_46 : decode cX2_issued 46 = .ok (.goto (-29), 3) := by decide +kernel
theorem dX2_issued_49 : decode cX2_issued 49 = .ok (.iload_n 3, 1) := by decide +kernel
theorem dX2_issued_50 : decode cX2_issued 50 = .ok (.ireturn, 1) := by decide +kernel
theorem dX2_isIssued_0 : decode cX2_isIssued 0 = .ok (.iload_n 3, 1) := by decide +kernel
theorem dX2_isIssued_1 : decode cX2_isIssued 1 = .ok (.aload_n 0, 1) := by decide +kernel
theorem dX2_isIssued_2 : decode cX2_isIssued 2 = .ok (.getfield 21, 3) := by decide +kernel
theorem dX2_isIssued_5 : decode cX2_isIssued 5 = .ok (.getfield 123, 3) := by decide +kernel
theorem dX2_isIssued_8 : decode cX2_isIssued 8 = .ok (.iload_n 1, 1) := by decide +kernel
theorem dX2_isIssued_9 : decode cX2_isIssued 9 = .ok (.iaload, 1) := by decide +kernel
theorem dX2_isIssued_10 : decode cX2_isIssued 10 = .ok (.isub, 1) := by decide +kernel
theorem dX2_isIssued_11 : decode cX2_isIssued 11 = .ok (.istore 4, 2) := by decide +kernel
theorem dX2_isIssued_13 : decode cX2_isIssued 13 = .ok (.iload 4, 2) := by decide +kernel
theorem dX2_isIssued_15 : decode cX2_isIssued 15 = .ok (.ifCond .lt 34, 3) := by decide +kernel
theorem dX2_isIssued_18 : decode cX2_isIssued 18 = .ok (.iload 4, 2) := by decide +kernel
theorem dX2_isIssued_20 : decode cX2_isIssued 20 = .ok (.aload_n 0, 1) := by decide +kernel
theorem dX2_isIssued_21 : decode cX2_isIssued 21 = .ok (.getfield 21, 3) := by decide +kernel
theorem dX2_isIssued_24 : decode cX2_isIssued 24 = .ok (.getfield 117, 3) := by decide +kernel
theorem dX2_isIssued_27 : decode cX2_isIssued 27 = .ok (.irem, 1) := by decide +kernel
theorem dX2_isIssued_28 : decode cX2_isIssued 28 = .ok (.ifCond .ne 21, 3) := by decide +kernel
theorem dX2_isIssued_31 : decode cX2_isIssued 31 = .ok (.iload 4, 2) := by decide +kernel
theorem dX2_isIssued_33 : decode cX2_isIssued 33 = .ok (.aload_n 0, 1) := by decide +kernel
theorem dX2_isIssued_34 : decode cX2_isIssued 34 = .ok (.getfield 21, 3) := by decide +kernel
theorem dX2_isIssued_37 : decode cX2_isIssued 37 = .ok (.getfield 117, 3) := by decide +kernel
theorem dX2_isIssued_40 : decode cX2_isIssued 40 = .ok (.idiv, 1) := by decide +kernel
theorem dX2_isIssued_41 : decode cX2_isIssued 41 = .ok (.iload_n 2, 1) := by decide +kernel
theorem dX2_isIssued_42 : decode cX2_isIssued 42 = .ok (.if_icmp .ge 7, 3) := by decide +kernel
theorem dX2_isIssued_45 : decode cX2_isIssued 45 = .ok (.iconst 1, 1) := by decide +kernel
theorem dX2_isIssued_46 : decode cX2_isIssued 46 = .ok (.goto 4, 3) := by decide +kernel
theorem dX2_isIssued_49 : decode cX2_isIssued 49 = .ok (.iconst 0, 1) := by decide +kernel
theorem dX2_isIssued_50 : decode cX2_isIssued 50 = .ok (.ireturn, 1) := by decide +kernel
theorem dX2_isKind_0 : decode cX2_isKind 0 = .ok (.iload_n 0, 1) := by decide +kernel
theorem dX2_isKind_1 : decode cX2_isKind 1 = .ok (.ifCond .lt 12, 3) := by decide +kernel
theorem dX2_isKind_4 : decode cX2_isKind 4 = .ok (.iload_n 0, 1) := by decide +kernel
theorem dX2_isKind_5 : decode cX2_isKind 5 = .ok (.iconst 3, 1) := by decide +kernel
theorem dX2_isKind_6 : decode cX2_isKind 6 = .ok (.if_icmp .ge 7, 3) := by decide +kernel
theorem dX2_isKind_9 : decode cX2_isKind 9 = .ok (.iconst 1, 1) := by decide +kernel
theorem dX2_isKind_10 : decode cX2_isKind 10 = .ok (.goto 4, 3) := by decide +kernel
theorem dX2_isKind_13 : decode cX2_isKind 13 = .ok (.iconst 0, 1) := by decide +kernel
theorem dX2_isKind_14 : decode cX2_isKind 14 = .ok (.ireturn, 1) := by decide +kernel
set_option maxRecDepth 20000 in
theorem ggX2_requireKind_X2_isKind : GoodIn wsX2_requireKind wsX2_isKind := goodIn_r _ [6] (by decide +kernel) (by decide +kernel)
set_option maxRecDepth 20000 in
theorem gX2_requireKind_X2_isKind : GoodIn wsX2_requireKind (va_wsS RX2 43 yX2_isKind wsX2_isKind) := goodIn_app (goodIn_of _ (by decide +kernel)) ggX2_requireKind_X2_isKind
theorem dX2_requireKind_0 : decode cX2_requireKind 0 = .ok (.iload_n 0, 1) := by decide +kernel
theorem dX2_requireKind_1 : decode cX2_requireKind 1 = .ok (.invokestatic 43, 3) := by decide +kernel
theorem dX2_requireKind_4 : decode cX2_requireKind 4 = .ok (.ifCond .ne 13, 3) := by decide +kernel
theorem dX2_requireKind_7 : decode cX2_requireKind 7 = .ok (.new 81, 3) := by decide +kernel
theorem dX2_requireKind_10 : decode cX2_requireKind 10 = .ok (.dup, 1) := by decide +kernel
theorem dX2_requireKind_11 : decode cX2_requireKind 11 = .ok (.ldc 47, 2) := by decide +kernel
theorem dX2_requireKind_13 : decode cX2_requireKind 13 = .ok (.invokespecial 85, 3) := by decide +kernel
theorem dX2_requireKind_16 : decode cX2_requireKind 16 = .ok (.athrow, 1) := by decide +kernel
theorem dX2_requireKind_17 : decode cX2_requireKind 17 = .ok (.return_, 1) := by decide +kernel
theorem dX2_requireDelay_0 : decode cX2_requireDelay 0 = .ok (.iload_n 0, 1) := by decide +kernel
theorem dX2_requireDelay_1 : decode cX2_requireDelay 1 = .ok (.ifCond .lt 9, 3) := by decide +kernel
theorem dX2_requireDelay_4 : decode cX2_requireDelay 4 = .ok (.iload_n 0, 1) := by decide +kernel
theorem dX2_requireDelay_5 : decode cX2_requireDelay 5 = .ok (.bipush 12, 2) := by decide +kernel
theorem dX2_requireDelay_7 : decode cX2_requireDelay 7 = .ok (.if_icmp .le 13, 3) := by decide +kernel
theorem dX2_requireDelay_10 : decode cX2_requireDelay 10 = .ok (.new 29, 3) := by decide +kernel
theorem dX2_requireDelay_13 : decode cX2_requireDelay 13 = .ok (.dup, 1) := by decide +kernel
theorem dX2_requireDelay_14 : decode cX2_requireDelay 14 = .ok (.ldc 212, 2) := by decide +kernel
theorem dX2_requireDelay_16 : decode cX2_requireDelay 16 = .ok (.invokespecial 33, 3) := by decide +kernel
theorem dX2_requireDelay_19 : decode cX2_requireDelay 19 = .ok (.athrow, 1) := by decide +kernel
theorem dX2_requireDelay_20 : decode cX2_requireDelay 20 = .ok (.return_, 1) := by decide +kernel
theorem dX2_requireIterations_0 : decode cX2_requireIterations 0 = .ok (.iload_n 0, 1) := by decide +kernel
theorem dX2_requireIterations_1 : decode cX2_requireIterations 1 = .ok (.iconst 1, 1) := by decide +kernel
theorem dX2_requireIterations_2 : decode cX2_requireIterations 2 = .ok (.if_icmp .lt 10, 3) := by decide +kernel
theorem dX2_requireIterations_5 : decode cX2_requireIterations 5 = .ok (.iload_n 0, 1) := by decide +kernel
theorem dX2_requireIterations_6 : decode cX2_requireIterations 6 = .ok (.sipush 1000, 3) := by decide +kernel
theorem dX2_requireIterations_9 : decode cX2_requireIterations 9 = .ok (.if_icmp .le 13, 3) := by decide +kernel
theorem dX2_requireIterations_12 : decode cX2_requireIterations 12 = .ok (.new 29, 3) := by decide +kernel
theorem dX2_requireIterations_15 : decode cX2_requireIterations 15 = .ok (.dup, 1) := by decide +kernel
theorem dX2_requireIterations_16 : decode cX2_requireIterations 16 = .ok (.ldc 214, 2) := by decide +kernel
theorem dX2_requireIterations_18 : decode cX2_requireIterations 18 = .ok (.invokespecial 33, 3) := by decide +kernel
theorem dX2_requireIterations_21 : decode cX2_requireIterations 21 = .ok (.athrow, 1) := by decide +kernel
theorem dX2_requireIterations_22 : decode cX2_requireIterations 22 = .ok (.return_, 1) := by decide +kernel
theorem dX2_requireCycle_0 : decode cX2_requireCycle 0 = .ok (.iload_n 0, 1) := by decide +kernel
theorem dX2_requireCycle_1 : decode cX2_requireCycle 1 = .ok (.ifCond .ge 13, 3) := by decide +kernel
theorem dX2_requireCycle_4 : decode cX2_requireCycle 4 = .ok (.new 29, 3) := by decide +kernel
theorem dX2_requireCycle_7 : decode cX2_requireCycle 7 = .ok (.dup, 1) := by decide +kernel
theorem dX2_requireCycle_8 : decode cX2_requireCycle 8 = .ok (.ldc 216, 2) := by decide +kernel
theorem dX2_requireCycle_10 : decode cX2_requireCycle 10 = .ok (.invokespecial 33, 3) := by decide +kernel
theorem dX2_requireCycle_13 : decode cX2_requireCycle 13 = .ok (.athrow, 1) := by decide +kernel
theorem dX2_requireCycle_14 : decode cX2_requireCycle 14 = .ok (.return_, 1) := by decide +kernel
theorem dX2_requireOperation_0 : decode cX2_requireOperation 0 = .ok (.iload_n 1, 1) := by decide +kernel
theorem dX2_requireOperation_1 : decode cX2_requireOperation 1 = .ok (.ifCond .lt 14, 3) := by decide +kernel
theorem dX2_requireOperation_4 : decode cX2_requireOperation 4 = .ok (.iload_n 1, 1) := by decide +kernel
theorem dX2_requireOperation_5 : decode cX2_requireOperation 5 = .ok (.aload_n 0, 1) := by decide +kernel
theorem dX2_requireOperation_6 : decode cX2_requireOperation 6 = .ok (.getfield 10, 3) := by decide +kernel
theorem dX2_requireOperation_9 : decode cX2_requireOperation 9 = .ok (.getfield 51, 3) := by decide +kernel
theorem dX2_requireOperation_12 : decode cX2_requireOperation 12 = .ok (.if_icmp .lt 13, 3) := by decide +kernel
theorem dX2_requireOperation_15 : decode cX2_requireOperation 15 = .ok (.new 81, 3) := by decide +kernel
theorem dX2_requireOperation_18 : decode cX2_requireOperation 18 = .ok (.dup, 1) := by decide +kernel
theorem dX2_requireOperation_19 : decode cX2_requireOperation 19 = .ok (.ldc 218, 2) := by decide +kernel
theorem dX2_requireOperation_21 : decode cX2_requireOperation 21 = .ok (.invokespecial 85, 3) := by decide +kernel
theorem dX2_requireOperation_24 : decode cX2_requireOperation 24 = .ok (.athrow, 1) := by decide +kernel
theorem dX2_requireOperation_25 : decode cX2_requireOperation 25 = .ok (.return_, 1) := by decide +kernel
theorem dX2_requireSchedule_0 : decode cX2_requireSchedule 0 = .ok (.aload_n 0, 1) := by decide +kernel
theorem dX2_requireSchedule_1 : decode cX2_requireSchedule 1 = .ok (.getfield 21, 3) := by decide +kernel
theorem dX2_requireSchedule_4 : decode cX2_requireSchedule 4 = .ok (.getfield 117, 3) := by decide +kernel
theorem dX2_requireSchedule_7 : decode cX2_requireSchedule 7 = .ok (.iconst 1, 1) := by decide +kernel
theorem dX2_requireSchedule_8 : decode cX2_requireSchedule 8 = .ok (.if_icmp .ge 13, 3) := by decide +kernel
theorem dX2_requireSchedule_11 : decode cX2_requireSchedule 11 = .ok (.new 55, 3) := by decide +kernel
theorem dX2_requireSchedule_14 : decode cX2_requireSchedule 14 = .ok (.dup, 1) := by decide +kernel
theorem dX2_requireSchedule_15 : decode cX2_requireSchedule 15 = .ok (.ldc 220, 2) := by decide +kernel
theorem dX2_requireSchedule_17 : decode cX2_requireSchedule 17 = .ok (.invokespecial 59, 3) := by decide +kernel
theorem dX2_requireSchedule_20 : decode cX2_requireSchedule 20 = .ok (.athrow, 1) := by decide +kernel
theorem dX2_requireSchedule_21 : decode cX2_requireSchedule 21 = .ok (.return_, 1) := by decide +kernel
