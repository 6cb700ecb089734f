set_option maxRecDepth 20000 in
theorem ggX2_init_X0_init : GoodIn wsX2_init wsX0_init := goodIn_r _ [14, 15, 2, 3, 16, 17, 18, 19, 20, 21, 22, 23, 24, 34, 35, 36, 37, 38, 39, 40, 41, 42, 43] (by decide +kernel) (by decide +kernel)
set_option maxRecDepth 20000 in
theorem gX2_init_X0_init : GoodIn wsX2_init (wsX0_init) := ggX2_init_X0_init
set_option maxRecDepth 20000 in
theorem ggX2_init_X1_init : GoodIn wsX2_init wsX1_init := goodIn_r _ [27, 28, 2, 3, 16, 29, 30, 31, 32, 33, 47, 48, 49, 50, 51] (by decide +kernel) (by decide +kernel)
set_option maxRecDepth 20000 in
theorem gX2_init_X1_init : GoodIn wsX2_init (wsX1_init) := ggX2_init_X1_init
theorem dX2_init_0 : decode cX2_init 0 = .ok (.aload_n 0, 1) := by decide +kernel
theorem dX2_init_1 : decode cX2_init 1 = .ok (.invokespecial 1, 3) := by decide +kernel
theorem dX2_init_4 : decode cX2_init 4 = .ok (.aload_n 0, 1) := by decide +kernel
theorem dX2_init_5 : decode cX2_init 5 = .ok (.new 7, 3) := by decide +kernel
theorem dX2_init_8 : decode cX2_init 8 = .ok (.dup, 1) := by decide +kernel
theorem dX2_init_9 : decode cX2_init 9 = .ok (.invokespecial 9, 3) := by decide +kernel
theorem dX2_init_12 : decode cX2_init 12 = .ok (.putfield 10, 3) := by decide +kernel
theorem dX2_init_15 : decode cX2_init 15 = .ok (.aload_n 0, 1) := by decide +kernel
theorem dX2_init_16 : decode cX2_init 16 = .ok (.new 16, 3) := by decide +kernel
theorem dX2_init_19 : decode cX2_init 19 = .ok (.dup, 1) := by decide +kernel
theorem dX2_init_20 : decode cX2_init 20 = .ok (.aload_n 0, 1) := by decide +kernel
theorem dX2_init_21 : decode cX2_init 21 = .ok (.getfield 10, 3) := by decide +kernel
theorem dX2_init_24 : decode cX2_init 24 = .ok (.invokespecial 18, 3) := by decide +kernel
theorem dX2_init_27 : decode cX2_init 27 = .ok (.putfield 21, 3) := by decide +kernel
theorem dX2_init_30 : decode cX2_init 30 = .ok (.return_, 1) := by decide +kernel
set_option maxRecDepth 20000 in
theorem ggX2_setUnits_X2_requireKind : GoodIn wsX2_setUnits wsX2_requireKind := goodIn_ca (goodIn_r _ [9, 10, 11, 12, 13, 8, 14] (by decide +kernel) (by decide +kernel)) (goodIn_sub (fun _ h => List.mem_cons_of_mem _ (List.mem_append_right _ h)) (by decide +kernel))
set_option maxRecDepth 20000 in
theorem gX2_setUnits_X2_requireKind : GoodIn wsX2_setUnits (va_wsS RX2 25 yX2_requireKind wsX2_requireKind) := goodIn_app (goodIn_of _ (by decide +kernel)) ggX2_setUnits_X2_requireKind
set_option maxRecDepth 20000 in
theorem ggX2_setUnits_X1_drop : GoodIn wsX2_setUnits wsX1_drop := goodIn_r _ [19, 20, 34, 35, 36, 37, 38] (by decide +kernel) (by decide +kernel)
set_option maxRecDepth 20000 in
theorem gX2_setUnits_X1_drop : GoodIn wsX2_setUnits (wsV RX2 40 RX1 yX1_drop wsX1_drop) := goodIn_app (goodIn_of _ (by decide +kernel)) ggX2_setUnits_X1_drop
theorem dX2_setUnits_0 : decode cX2_setUnits 0 = .ok (.iload_n 1, 1) := by decide +kernel
theorem dX2_setUnits_1 : decode cX2_setUnits 1 = .ok (.invokestatic 25, 3) := by decide +kernel
theorem dX2_setUnits_4 : decode cX2_setUnits 4 = .ok (.iload_n 2, 1) := by decide +kernel
theorem dX2_setUnits_5 : decode cX2_setUnits 5 = .ok (.iconst 1, 1) := by decide +kernel
theorem dX2_setUnits_6 : decode cX2_setUnits 6 = .ok (.if_icmp .lt 8, 3) := by decide +kernel
theorem dX2_setUnits_9 : decode cX2_setUnits 9 = .ok (.iload_n 2, 1) := by decide +kernel
theorem dX2_setUnits_10 : decode cX2_setUnits 10 = .ok (.iconst 3, 1) := by decide +kernel
theorem dX2_setUnits_11 : decode cX2_setUnits 11 = .ok (.if_icmp .le 13, 3) := by decide +kernel
theorem dX2_setUnits_14 : decode cX2_setUnits 14 = .ok (.new 29, 3) := by decide +kernel
theorem dX2_setUnits_17 : decode cX2_setUnits 17 = .ok (.dup, 1) := by decide +kernel
theorem dX2_setUnits_18 : decode cX2_setUnits 18 = .ok (.ldc 31, 2) := by decide +kernel
theorem dX2_setUnits_20 : decode cX2_setUnits 20 = .ok (.invokespecial 33, 3) := by decide +kernel
theorem dX2_setUnits_23 : decode cX2_setUnits 23 = .ok (.athrow, 1) := by decide +kernel
theorem dX2_setUnits_24 : decode cX2_setUnits 24 = .ok (.aload_n 0, 1) := by decide +kernel
theorem dX2_setUnits_25 : decode cX2_setUnits 25 = .ok (.getfield 10, 3) := by decide +kernel
theorem dX2_setUnits_28 : decode cX2_setUnits 28 = .ok (.getfield 36, 3) := by decide +kernel
theorem dX2_setUnits_31 : decode cX2_setUnits 31 = .ok (.iload_n 1, 1) := by decide +kernel
theorem dX2_setUnits_32 : decode cX2_setUnits 32 = .ok (.iaload, 1) := by decide +kernel
theorem dX2_setUnits_33 : decode cX2_setUnits 33 = .ok (.istore_n 3, 1) := by decide +kernel
theorem dX2_setUnits_34 : decode cX2_setUnits 34 = .ok (.aload_n 0, 1) := by decide +kernel
theorem dX2_setUnits_35 : decode cX2_setUnits 35 = .ok (.getfield 10, 3) := by decide +kernel
theorem dX2_setUnits_38 : decode cX2_setUnits 38 = .ok (.getfield 36, 3) := by decide +kernel
theorem dX2_setUnits_41 : decode cX2_setUnits 41 = .ok (.iload_n 1, 1) := by decide +kernel
theorem dX2_setUnits_42 : decode cX2_setUnits 42 = .ok (.iload_n 2, 1) := by decide +kernel
theorem dX2_setUnits_43 : decode cX2_setUnits 43 = .ok (.iastore, 1) := by decide +kernel
theorem dX2_setUnits_44 : decode cX2_setUnits 44 = .ok (.aload_n 0, 1) := by decide +kernel
theorem dX2_setUnits_45 : decode cX2_setUnits 45 = .ok (.getfield 21, 3) := by decide +kernel
theorem dX2_setUnits_48 : decode cX2_setUnits 48 = .ok (.invokevirtual 40, 3) := by decide +kernel
theorem dX2_setUnits_51 : decode cX2_setUnits 51 = .ok (.iload_n 3, 1) := by decide +kernel
theorem dX2_setUnits_52 : decode cX2_setUnits 52 = .ok (.ireturn, 1) := by decide +kernel
set_option maxRecDepth 20000 in
theorem ggX2_addOperation_X2_isKind : GoodIn wsX2_addOperation wsX2_isKind := goodIn_r _ [11] (by decide +kernel) (by decide +kernel)
set_option maxRecDepth 20000 in
theorem gX2_addOperation_X2_isKind : GoodIn wsX2_addOperation (va_wsS RX2 43 yX2_isKind wsX2_isKind) := goodIn_app (goodIn_of _ (by decide +kernel)) ggX2_addOperation_X2_isKind
set_option maxRecDepth 20000 in
theorem ggX2_addOperation_X1_drop : GoodIn wsX2_addOperation wsX1_drop := goodIn_r _ [16, 17, 39, 40, 41, 42, 43] (by decide +kernel) (by decide +kernel)
set_option maxRecDepth 20000 in
theorem gX2_addOperation_X1_drop : GoodIn wsX2_addOperation (wsV RX2 40 RX1 yX1_drop wsX1_drop) := goodIn_app (goodIn_of _ (by decide +kernel)) ggX2_addOperation_X1_drop
set_option maxRecDepth 20000 in
theorem ggX2_addOperation_X0_appendOperation : GoodIn wsX2_addOperation wsX0_appendOperation := goodIn_r _ [22, 23, 24, 25, 29, 30, 31, 32, 33, 34, 35, 36, 37, 38] (by decide +kernel) (by decide +kernel)
set_option maxRecDepth 20000 in
theorem gX2_addOperation_X0_appendOperation : GoodIn wsX2_addOperation (wsV RX2 60 RX0 yX0_appendOperation wsX0_appendOperation) := goodIn_app (goodIn_of _ (by decide +kernel)) ggX2_addOperation_X0_appendOperation
theorem dX2_addOperation_0 : decode cX2_addOperation 0 = .ok (.iload_n 1, 1) := by decide +kernel
theorem dX2_addOperation_1 : decode cX2_addOperation 1 = .ok (.invokestatic 43, 3) := by decide +kernel
theorem dX2_addOperation_4 : decode cX2_addOperation 4 = .ok (.ifCond .ne 13, 3) := by decide +kernel
theorem dX2_addOperation_7 : decode cX2_addOperation 7 = .ok (.new 29, 3) := by decide +kernel
theorem dX2_addOperation_10 : decode cX2_addOperation 10 = .ok (.dup, 1) := by decide +kernel
theorem dX2_addOperation_11 : decode cX2_addOperation 11 = .ok (.ldc 47, 2) := by decide +kernel
theorem dX2_addOperation_13 : decode cX2_addOperation 13 = .ok (.invokespecial 33, 3) := by decide +kernel
theorem dX2_addOperation_16 : decode cX2_addOperation 16 = .ok (.athrow, 1) := by decide +kernel
theorem dX2_addOperation_17 : decode cX2_addOperation 17 = .ok (.iload_n 2, 1) := by decide +kernel
theorem dX2_addOperation_18 : decode cX2_addOperation 18 = .ok (.iconst 1, 1) := by decide +kernel
theorem dX2_addOperation_19 : decode cX2_addOperation 19 = .ok (.if_icmp .lt 8, 3) := by decide +kernel
theorem dX2_addOperation_22 : decode cX2_addOperation 22 = .ok (.iload_n 2, 1) := by decide +kernel
theorem dX2_addOperation_23 : decode cX2_addOperation 23 = .ok (.iconst 4, 1) := by decide +kernel
theorem dX2_addOperation_24 : decode cX2_addOperation 24 = .ok (.if_icmp .le 13, 3) := by decide +kernel
theorem dX2_addOperation_27 : decode cX2_addOperation 27 = .ok (.new 29, 3) := by decide +kernel
theorem dX2_addOperation_30 : decode cX2_addOperation 30 = .ok (.dup, 1) := by decide +kernel
theorem dX2_addOperation_31 : decode cX2_addOperation 31 = .ok (.ldc 49, 2) := by decide +kernel
theorem dX2_addOperation_33 : decode cX2_addOperation 33 = .ok (.invokespecial 33, 3) := by decide +kernel
theorem dX2_addOperation_36 : decode cX2_addOperation 36 = .ok (.athrow, 1) := by decide +kernel
theorem dX2_addOperation_37 : decode cX2_addOperation 37 = .ok (.aload_n 0, 1) := by decide +kernel
theorem dX2_addOperation_38 : decode cX2_addOperation 38 = .ok (.getfield 10, 3) := by decide +kernel
theorem dX2_addOperation_41 : decode cX2_addOperation 41 = .ok (.getfield 51, 3) := by decide +kernel
theorem dX2_addOperation_44 : decode cX2_addOperation 44 = .ok (.bipush 14, 2) := by decide +kernel
theorem dX2_addOperation_46 : decode cX2_addOperation 46 = .ok (.if_icmp .lt 13, 3) := by decide +kernel
theorem dX2_addOperation_49 : decode cX2_addOperation 49 = .ok (.new 55, 3) := by decide +kernel
theorem dX2_addOperation_52 : decode cX2_addOperation 52 = .ok (.dup, 1) := by decide +kernel
theorem dX2_addOperation_53 : decode cX2_addOperation 53 = .ok (.ldc 57, 2) := by decide +kernel
theorem dX2_addOperation_55 : decode cX2_addOperation 55 = .ok (.invokespecial 59, 3) := by decide +kernel
theorem dX2_addOperation_58 : decode cX2_addOperation 58 = .ok (.athrow, 1) := by decide +kernel
theorem dX2_addOperation_59 : decode cX2_addOperation 59 = .ok (.aload_n 0, 1) := by decide +kernel
theorem dX2_addOperation_60 : decode cX2_addOperation 60 = .ok (.getfield 21, 3) := by decide +kernel
theorem dX2_addOperation_63 : decode cX2_addOperation 63 = .ok (.invokevirtual 40, 3) := by decide +kernel
theorem dX2_addOperation_66 : decode cX2_addOperation 66 = .ok (.aload_n 0, 1) := by decide +kernel
theorem dX2_addOperation_67 : decode cX2_addOperation 67 = .ok (.getfield 10, 3) := by decide +kernel
theorem dX2_addOperation_70 : decode cX2_addOperation 70 = .ok (.iload_n 1, 1) := by decide +kernel
theorem dX2_addOperation_71 : decode cX2_addOperation 71 = .ok (.iload_n 2, 1) := by decide +kernel
theorem dX2_addOperation_72 : decode cX2_addOperation 72 = .ok (.invokevirtual 60, 3) := by decide +kernel
theorem dX2_addOperation_75 : decode cX2_addOperation 75 = .ok (.ireturn, 1) := by decide +kernel
set_option maxRecDepth 20000 in
theorem ggX2_addDependence_X2_requireOperation : GoodIn wsX2_addDependence wsX2_requireOperation := goodIn_ca (goodIn_r _ [12, 13, 14, 5, 15, 35, 36, 37, 38, 39, 40, 41, 42, 43, 44, 45, 46, 47] (by decide +kernel) (by decide +kernel)) (goodIn_sub (fun _ h => List.mem_cons_of_mem _ (List.mem_append_right _ h)) (by decide +kernel))
set_option maxRecDepth 20000 in
theorem gX2_addDependence_X2_requireOperation : GoodIn wsX2_addDependence (wsV RX2 64 RX2 yX2_requireOperation wsX2_requireOperation) := goodIn_app (goodIn_of _ (by decide +kernel)) ggX2_addDependence_X2_requireOperation
set_option maxRecDepth 20000 in
theorem ggX2_addDependence_X2_requireDelay : GoodIn wsX2_addDependence wsX2_requireDelay := goodIn_ca (goodIn_r _ [18, 1, 2] (by decide +kernel) (by decide +kernel)) (goodIn_sub (fun _ h => List.mem_cons_of_mem _ (List.mem_append_left _ (List.mem_append_left _ (List.mem_append_right _ h)))) (by decide +kernel))
set_option maxRecDepth 20000 in
theorem gX2_addDependence_X2_requireDelay : GoodIn wsX2_addDependence (va_wsS RX2 67 yX2_requireDelay wsX2_requireDelay) := goodIn_app (goodIn_of _ (by decide +kernel)) ggX2_addDependence_X2_requireDelay
set_option maxRecDepth 20000 in
theorem ggX2_addDependence_X1_drop : GoodIn wsX2_addDependence wsX1_drop := goodIn_r _ [23, 24, 48, 49, 50, 51, 52] (by decide +kernel) (by decide +kernel)
set_option maxRecDepth 20000 in
theorem gX2_addDependence_X1_drop : GoodIn wsX2_addDependence (wsV RX2 40 RX1 yX1_drop wsX1_drop) := goodIn_app (goodIn_of _ (by decide +kernel)) ggX2_addDependence_X1_drop
set_option maxRecDepth 20000 in
theorem ggX2_addDependence_X0_appendDependence : GoodIn wsX2_addDependence wsX0_appendDependence := goodIn_r _ [29, 30, 31, 32, 33, 34, 38, 39, 40, 41, 42, 43, 44, 45, 46, 47] (by decide +kernel) (by decide +kernel)
set_option maxRecDepth 20000 in
theorem gX2_addDependence_X0_appendDependence : GoodIn wsX2_addDependence (wsV RX2 77 RX0 yX0_appendDependence wsX0_appendDependence) := goodIn_app (goodIn_of _ (by decide +kernel)) ggX2_addDependence_X0_appendDependence
theorem dX2_addDependence_0 : decode cX2_addDependence 0 = .ok (.aload_n 0, 1) := by decide +kernel
theorem dX2_addDependence_1 : decode cX2_addDependence 1 = .ok (.iload_n 1, 1) := by decide +kernel
theorem dX2_addDependence_2 : decode cX2_addDependence 2 = .ok (.invokevirtual 64, 3) := by decide +kernel
theorem dX2_addDependence_5 : decode cX2_addDependence 5 = .ok (.aload_n 0, 1) := by decide +kernel
theorem dX2_addDependence_6 : decode cX2_addDependence 6 = .ok (.iload_n 2, 1) := by decide +kernel
theorem dX2_addDependence_7 : decode cX2_addDependence 7 = .ok (.invokevirtual 64, 3) := by decide +kernel
theorem dX2_addDependence_10 : decode cX2_addDependence 10 = .ok (.iload_n 3, 1) := by decide +kernel
theorem dX2_addDependence_11 : decode cX2_addDependence 11 = .ok (.invokestatic 67, 3) := by decide +kernel
theorem dX2_addDependence_14 : decode cX2_addDependence 14 = .ok (.iload 4, 2) := by decide +kernel
theorem dX2_addDependence_16 : decode cX2_addDependence 16 = .ok (.ifCond .lt 9, 3) := by decide +kernel
theorem dX2_addDependence_19 : decode cX2_addDependence 19 = .ok (.iload 4, 2) := by decide +kernel
theorem dX2_addDependence_21 : decode cX2_addDependence 21 = .ok (.iconst 3, 1) := by decide +kernel
theorem dX2_addDependence_22 : decode cX2_addDependence 22 = .ok (.if_icmp .le 13, 3) := by decide +kernel
theorem dX2_addDependence_25 : decode cX2_addDependence 25 = .ok (.new 29, 3) := by decide +kernel
theorem dX2_addDependence_28 : decode cX2_addDependence 28 = .ok (.dup, 1) := by decide +kernel
theorem dX2_addDependence_29 : decode cX2_addDependence 29 = .ok (.ldc 70, 2) := by decide +kernel
theorem dX2_addDependence_31 : decode cX2_addDependence 31 = .ok (.invokespecial 33, 3) := by decide +kernel
theorem dX2_addDependence_34 : decode cX2_addDependence 34 = .ok (.athrow, 1) := by decide +kernel
theorem dX2_addDependence_35 : decode cX2_addDependence 35 = .ok (.aload_n 0, 1) := by decide +kernel
theorem dX2_addDependence_36 : decode cX2_addDependence 36 = .ok (.getfield 10, 3) := by decide +kernel
theorem dX2_addDependence_39 : decode cX2_addDependence 39 = .ok (.getfield 72, 3) := by decide +kernel
theorem dX2_addDependence_42 : decode cX2_addDependence 42 = .ok (.bipush 40, 2) := by decide +kernel
theorem dX2_addDependence_44 : decode cX2_addDependence 44 = .ok (.if_icmp .lt 13, 3) := by decide +kernel
theorem dX2_addDependence_47 : decode cX2_addDependence 47 = .ok (.new 55, 3) := by decide +kernel
theorem dX2_addDependence_50 : decode cX2_addDependence 50 = .ok (.dup, 1) := by decide +kernel
theorem dX2_addDependence_51 : decode cX2_addDependence 51 = .ok (.ldc 75, 2) := by decide +kernel
theorem dX2_addDependence_53 : decode cX2_addDependence 53 = .ok (.invokespecial 59, 3) := by decide +kernel
theorem dX2_addDependence_56 : decode cX2_addDependence 56 = .ok (.athrow, 1) := by decide +kernel
theorem dX2_addDependence_57 : decode cX2_addDependence 57 = .ok (.aload_n 0, 1) := by decide +kernel
theorem dX2_addDependence_58 : decode cX2_addDependence 58 = .ok (.getfield 21, 3) := by decide +kernel
theorem dX2_addDependence_61 : decode cX2_addDependence 61 = .ok (.invokevirtual 40, 3) := by decide +kernel
theorem dX2_addDependence_64 : decode cX2_addDependence 64 = .ok (.aload_n 0, 1) := by decide +kernel
theorem dX2_addDependence_65 : decode cX2_addDependence 65 = .ok (.getfield 10, 3) := by decide +kernel
theorem dX2_addDependence_68 : decode cX2_addDependence 68 = .ok (.iload_n 1, 1) := by decide +kernel
theorem dX2_addDependence_69 : decode cX2_addDependence 69 = .ok (.iload_n 2, 1) := by decide +kernel
theorem dX2_addDependence_70 : decode cX2_addDependence 70 = .ok (.iload_n 3, 1) := by decide +kernel
theorem dX2_addDependence_71 : decode cX2_addDependence 71 = .ok (.iload 4, 2) := by decide +kernel
theorem dX2_addDependence_73 : decode cX2_addDependence 73 = .ok (.invokevirtual 77, 3) := by decide +kernel
theorem dX2_addDependence_76 : decode cX2_addDependence 76 = .ok (.ireturn, 1) := by decide +kernel
set_option maxRecDepth 20000 in
theorem ggX2_setDelay_X2_requireDelay : GoodIn wsX2_setDelay wsX2_requireDelay := goodIn_ca (goodIn_r _ [10, 11, 12] (by decide +kernel) (by decide +kernel)) (goodIn_sub (fun _ h => List.mem_cons_of_mem _ (List.mem_append_right _ h)) (by decide +kernel))
set_option maxRecDepth 20000 in
theorem gX2_setDelay_X2_requireDelay : GoodIn wsX2_setDelay (va_wsS RX2 67 yX2_requireDelay wsX2_requireDelay) := goodIn_app (goodIn_of _ (by decide +kernel)) ggX2_setDelay_X2_requireDelay
set_option maxRecDepth 20000 in
theorem ggX2_setDelay_X1_drop : GoodIn wsX2_setDelay wsX1_drop := goodIn_r _ [17, 18, 32, 33, 34, 35, 36] (by decide +kernel) (by decide +kernel)
set_option maxRecDepth 20000 in
theorem gX2_setDelay_X1_drop : GoodIn wsX2_setDelay (wsV RX2 40 RX1 yX1_drop wsX1_drop) := goodIn_app (goodIn_of _ (by decide +kernel)) ggX2_setDelay_X1_drop
theorem dX2_setDelay_0 : decode cX2_setDelay 0 = .ok (.iload_n 1, 1) := by decide +kernel
theorem dX2_setDelay_1 : decode cX2_setDelay 1 = .ok (.ifCond .lt 14, 3) := by decide +kernel
theorem dX2_setDelay_4 : decode cX2_setDelay 4 = .ok (.iload_n 1, 1) := by decide +kernel
theorem dX2_setDelay_5 : decode cX2_setDelay 5 = .ok (.aload_n 0, 1) := by decide +kernel
theorem dX2_setDelay_6 : decode cX2_setDelay 6 = .ok (.getfield 10, 3) := by decide +kernel
theorem dX2_setDelay_9 : decode cX2_setDelay 9 = .ok (.getfield 72, 3) := by decide +kernel
theorem dX2_setDelay_12 : decode cX2_setDelay 12 = .ok (.if_icmp .lt 13, 3) := by decide +kernel
theorem dX2_setDelay_15 : decode cX2_setDelay 15 = .ok (.new 81, 3) := by decide +kernel
theorem dX2_setDelay_18 : decode cX2_setDelay 18 = .ok (.dup, 1) := by decide +kernel
theorem dX2_setDelay_19 : decode cX2_setDelay 19 = .ok (.ldc 83, 2) := by decide +kernel
theorem dX2_setDelay_21 : decode cX2_setDelay 21 = .ok (.invokespecial 85, 3) := by decide +kernel
theorem dX2_setDelay_24 : decode cX2_setDelay 24 = .ok (.athrow, 1) := by decide +kernel
theorem dX2_setDelay_25 : decode cX2_setDelay 25 = .ok (.iload_n 2, 1) := by decide +kernel
theorem dX2_setDelay_26 : decode cX2_setDelay 26 = .ok (.invokestatic 67, 3) := by decide +kernel
theorem dX2_setDelay_29 : decode cX2_setDelay 29 = .ok (.aload_n 0, 1) := by decide +kernel
theorem dX2_setDelay_30 : decode cX2_setDelay 30 = .ok (.getfield 10, 3) := by decide +kernel
theorem dX2_setDelay_33 : decode cX2_setDelay 33 = .ok (.getfield 86, 3) := by decide +kernel
theorem dX2_setDelay_36 : decode cX2_setDelay 36 = .ok (.iload_n 1, 1) := by decide +kernel
theorem dX2_setDelay_37 : decode cX2_setDelay 37 = .ok (.iaload, 1) := by decide +kernel
theorem dX2_setDelay_38 : decode cX2_setDelay 38 = .ok (.istore_n 3, 1) := by decide +kernel
theorem dX2_setDelay_39 : decode cX2_setDelay 39 = .ok (.aload_n 0, 1) := by decide +kernel
theorem dX2_setDelay_40 : decode cX2_setDelay 40 = .ok (.getfield 10, 3) := by decide +kernel
theorem dX2_setDelay_43 : decode cX2_setDelay 43 = .ok (.getfield 86, 3) := by decide +kernel
theorem dX2_setDelay_46 : decode cX2_setDelay 46 = .ok (.iload_n 1, 1) := by decide +kernel
theorem dX2_setDelay_47 : decode cX2_setDelay 47 = .ok (.iload_n 2, 1) := by decide +kernel
theorem dX2_setDelay_48 : decode cX2_setDelay 48 = .ok (.iastore, 1) := by decide +kernel
theorem dX2_setDelay_49 : decode cX2_setDelay 49 = .ok (.aload_n 0, 1) := by decide +kernel
theorem dX2_setDelay_50 : decode cX2_setDelay 50 = .ok (.getfield 21, 3) := by decide +kernel
theorem dX2_setDelay_53 : decode cX2_setDelay 53 = .ok (.invokevirtual 40, 3) := by decide +kernel
theorem dX2_setDelay_56 : decode cX2_setDelay 56 = .ok (.iload_n 3, 1) := by decide +kernel
theorem dX2_setDelay_57 : decode cX2_setDelay 57 = .ok (.ireturn, 1) := by decide +kernel
theorem dX2_operationCount_0 : decode cX2_operationCount 0 = .ok (.aload_n 0, 1) := by decide +kernel
theorem dX2_operationCount_1 : decode cX2_operationCount 1 = .ok (.getfield 10, 3) := by decide +kernel
theorem dX2_operationCount_4 : decode cX2_operationCount 4 = .ok (.getfield 51, 3) := by decide +kernel
theorem dX2_operationCount_7 : decode cX2_operationCount 7 = .ok (.ireturn, 1) := by decide +kernel
theorem dX2_dependenceCount_0 : decode cX2_dependenceCount 0 = .ok (.aload_n 0, 1) := by decide +kernel
theorem dX2_dependenceCount_1 : decode cX2_dependenceCount 1 = .ok (.getfield 10, 3) := by decide +kernel
theorem dX2_dependenceCount_4 : decode cX2_dependenceCount 4 = .ok (.getfield 72, 3) := by decide +kernel
theorem dX2_dependenceCount_7 : decode cX2_dependenceCount 7 = .ok (.ireturn, 1) := by decide +kernel
set_option maxRecDepth 20000 in
theorem ggX2_resourceBound_X0_leastIntervalOfResources : GoodIn wsX2_resourceBound wsX0_leastIntervalOfResources := goodIn_r _ [6, 7, 8, 9, 10, 11, 12, 13, 14, 5, 15, 16, 17, 18, 22, 23, 24, 25, 26, 27, 28, 29, 30, 31] (by decide +kernel) (by decide +kernel)
set_option maxRecDepth 20000 in
theorem gX2_resourceBound_X0_leastIntervalOfResources : GoodIn wsX2_resourceBound (wsV RX2 89 RX0 yX0_leastIntervalOfResources wsX0_leastIntervalOfResources) := goodIn_app (goodIn_of _ (by decide +kernel)) ggX2_resourceBound_X0_leastIntervalOfResources
theorem dX2_resourceBound_0 : decode cX2_resourceBound 0 = .ok (.aload_n 0, 1) := by decide +kernel
theorem dX2_resourceBound_1 : decode cX2_resourceBound 1 = .ok (.getfield 10, 3) := by decide +kernel
theorem dX2_resourceBound_4 : decode cX2_resourceBound 4 = .ok (.invokevirtual 89, 3) := by decide +kernel
theorem dX2_resourceBound_7 : decode cX2_resourceBound 7 = .ok (.ireturn, 1) := by decide +kernel
set_option maxRecDepth 20000 in
theorem ggX2_recurrenceBound_X0_leastIntervalOfRecurrences : GoodIn wsX2_recurrenceBound wsX0_leastIntervalOfRecurrences := goodIn_r _ [6, 7, 8, 9, 5, 10, 11, 12, 13, 14, 15, 16, 17, 18, 19, 20, 21, 22, 23, 24, 25, 29, 30, 31, 32, 33, 34, 35, 36, 37, 38] (by decide +kernel) (by decide +kernel)
set_option maxRecDepth 20000 in
theorem gX2_recurrenceBound_X0_leastIntervalOfRecurrences : GoodIn wsX2_recurrenceBound (wsV RX2 93 RX0 yX0_leastIntervalOfRecurrences wsX0_leastIntervalOfRecurrences) := goodIn_app (goodIn_of _ (by decide +kernel)) ggX2_recurrenceBound_X0_leastIntervalOfRecurrences
theorem dX2_recurrenceBound_0 : decode cX2_recurrenceBound 0 = .ok (.aload_n 0, 1) := by decide +kernel
theorem dX2_recurrenceBound_1 : decode cX2_recurrenceBound 1 = .ok (.getfield 10, 3) := by decide +kernel
theorem dX2_recurrenceBound_4 : decode cX2_recurrenceBound 4 = .ok (.invokevirtual 93, 3) := by decide +kernel
theorem dX2_recurrenceBound_7 : decode cX2_recurrenceBound 7 = .ok (.ireturn, 1) := by decide +kernel
set_option maxRecDepth 20000 in
theorem ggX2_height_X2_requireOperation : GoodIn wsX2_height wsX2_requireOperation := goodIn_ca (goodIn_r _ [9, 10, 11, 3, 12, 38, 39, 40, 41, 42, 43, 44, 45, 46, 47, 48, 49, 50] (by decide +kernel) (by decide +kernel)) (goodIn_sub (fun _ h => List.mem_cons_of_mem _ (List.mem_append_right _ h)) (by decide +kernel))
set_option maxRecDepth 20000 in
theorem gX2_height_X2_requireOperation : GoodIn wsX2_height (wsV RX2 64 RX2 yX2_requireOperation wsX2_requireOperation) := goodIn_app (goodIn_of _ (by decide +kernel)) ggX2_height_X2_requireOperation
set_option maxRecDepth 20000 in
theorem ggX2_height_X0_leastIntervalOfRecurrences : GoodIn wsX2_height wsX0_leastIntervalOfRecurrences := goodIn_r _ [17, 18, 19, 20, 16, 21, 22, 23, 24, 25, 26, 27, 28, 29, 30, 31, 32, 33, 34, 35, 36, 41, 42, 43, 44, 45, 46, 47, 48, 49, 50] (by decide +kernel) (by decide +kernel)
set_option maxRecDepth 20000 in
theorem gX2_height_X0_leastIntervalOfRecurrences : GoodIn wsX2_height (wsV RX2 93 RX0 yX0_leastIntervalOfRecurrences wsX0_leastIntervalOfRecurrences) := goodIn_app (goodIn_of _ (by decide +kernel)) ggX2_height_X0_leastIntervalOfRecurrences
set_option maxRecDepth 20000 in
theorem ggX2_height_X0_findHeights : GoodIn wsX2_height wsX0_findHeights := goodIn_r _ [21, 22, 23, 24, 25, 26, 27, 28, 29, 30, 16, 31, 32, 33, 34, 35, 36, 41, 42, 43, 44, 45, 46, 47, 48, 49, 50] (by decide +kernel) (by decide +kernel)
set_option maxRecDepth 20000 in
theorem gX2_height_X0_findHeights : GoodIn wsX2_height (wsV RX2 98 RX0 yX0_findHeights wsX0_findHeights) := goodIn_app (goodIn_of _ (by decide +kernel)) ggX2_height_X0_findHeights
theorem dX2_height_0 : decode cX2_height 0 = .ok (.aload_n 0, 1) := by decide +kernel
theorem dX2_height_1 : decode cX2_height 1 = .ok (.iload_n 1, 1) := by decide +kernel
theorem dX2_height_2 : decode cX2_height 2 = .ok (.invokevirtual 64, 3) := by decide +kernel
theorem dX2_height_5 : decode cX2_height 5 = .ok (.aload_n 0, 1) := by decide +kernel
theorem dX2_height_6 : decode cX2_height 6 = .ok (.getfield 10, 3) := by decide +kernel
theorem dX2_height_9 : decode cX2_height 9 = .ok (.invokevirtual 93, 3) := by decide +kernel
theorem dX2_height_12 : decode cX2_height 12 = .ok (.istore_n 3, 1) := by decide +kernel
theorem dX2_height_13 : decode cX2_height 13 = .ok (.iload_n 3, 1) := by decide +kernel
theorem dX2_height_14 : decode cX2_height 14 = .ok (.iconst (-1), 1) := by decide +kernel
theorem dX2_height_15 : decode cX2_height 15 = .ok (.if_icmp .eq 15, 3) := by decide +kernel
theorem dX2_height_18 : decode cX2_height 18 = .ok (.iload_n 2, 1) := by decide +kernel
theorem dX2_height_19 : decode cX2_height 19 = .ok (.iload_n 3, 1) := by decide +kernel
theorem dX2_height_20 : decode cX2_height 20 = .ok (.if_icmp .lt 10, 3) := by decide +kernel
theorem dX2_height_23 : decode cX2_height 23 = .ok (.iload_n 2, 1) := by decide +kernel
theorem dX2_height_24 : decode cX2_height 24 = .ok (.sipush 200, 3) := by decide +kernel
theorem dX2_height_27 : decode cX2_height 27 = .ok (.if_icmp .le 13, 3) := by decide +kernel
theorem dX2_height_30 : decode cX2_height 30 = .ok (.new 29, 3) := by decide +kernel
theorem dX2_height_33 : decode cX2_height 33 = .ok (.dup, 1) := by decide +kernel
theorem dX2_height_34 : decode cX2_height 34 = .ok (.ldc 96, 2) := by decide +kernel
theorem dX2_height_36 : decode cX2_height 36 = .ok (.invokespecial 33, 3) := by decide +kernel
theorem dX2_height_39 : decode cX2_height 39 = .ok (.athrow, 1) := by decide +kernel
theorem dX2_height_40 : decode cX2_height 40 = .ok (.aload_n 0, 1) := by decide +kernel
theorem dX2_height_41 : decode cX2_height 41 = .ok (.getfield 10, 3) := by decide +kernel
theorem dX2_height_44 : decode cX2_height 44 = .ok (.iload_n 2, 1) := by decide +kernel
theorem dX2_height_45 : decode cX2_height 45 = .ok (.invokevirtual 98, 3) := by decide +kernel
theorem dX2_height_48 : decode cX2_height 48 = .ok (.pop, 1) := by decide +kernel
theorem dX2_height_49 : decode cX2_height 49 = .ok (.aload_n 0, 1) := by decide +kernel
theorem dX2_height_50 : decode cX2_height 50 = .ok (.getfield 10, 3) := by decide +kernel
theorem dX2_height_53 : decode cX2_height 53 = .ok (.getfield 101, 3) := by decide +kernel
theorem dX2_height_56 : decode cX2_height 56 = .ok (.iload_n 1, 1) := by decide +kernel
theorem dX2_height_57 : decode cX2_height 57 = .ok (.iaload, 1) := by decide +kernel
theorem dX2_height_58 : decode cX2_height 58 = .ok (.ireturn, 1) := by decide +kernel
set_option maxRecDepth 20000 in
theorem ggX2_schedule_X1_drop : GoodIn wsX2_schedule wsX1_drop := goodIn_r _ [14, 15, 107, 108, 109, 110, 111] (by decide +kernel) (by decide +kernel)
set_option maxRecDepth 20000 in
theorem gX2_schedule_X1_drop : GoodIn wsX2_schedule (wsV RX2 40 RX1 yX1_drop wsX1_drop) := goodIn_app (goodIn_of _ (by decide +kernel)) ggX2_schedule_X1_drop
set_option maxRecDepth 20000 in
theorem ggX2_schedule_X0_leastIntervalOfRecurrences : GoodIn wsX2_schedule wsX0_leastIntervalOfRecurrences := goodIn_r _ [20, 21, 22, 23, 19, 24, 25, 26, 27, 28, 29, 30, 31, 32, 33, 34, 35, 36, 37, 38, 39, 112, 113, 114, 115, 116, 117, 118, 119, 120, 121] (by decide +kernel) (by decide +kernel)
set_option maxRecDepth 20000 in
theorem gX2_schedule_X0_leastIntervalOfRecurrences : GoodIn wsX2_schedule (wsV RX2 93 RX0 yX0_leastIntervalOfRecurrences wsX0_leastIntervalOfRecurrences) := goodIn_app (goodIn_of _ (by decide +kernel)) ggX2_schedule_X0_leastIntervalOfRecurrences
set_option maxRecDepth 20000 in
theorem ggX2_schedule_X0_leastIntervalOfResources : GoodIn wsX2_schedule wsX0_leastIntervalOfResources := goodIn_r _ [43, 44, 45, 7, 8, 9, 46, 47, 48, 19, 49, 26, 50, 51, 112, 113, 114, 115, 116, 117, 118, 119, 120, 121] (by decide +kernel) (by decide +kernel)
set_option maxRecDepth 20000 in
theorem gX2_schedule_X0_leastIntervalOfResources : GoodIn wsX2_schedule (wsV RX2 89 RX0 yX0_leastIntervalOfResources wsX0_leastIntervalOfResources) := goodIn_app (goodIn_of _ (by decide +kernel)) ggX2_schedule_X0_leastIntervalOfResources
set_option maxRecDepth 20000 in
theorem ggX2_schedule_X1_attempt : GoodIn wsX2_schedule wsX1_attempt := goodIn_r _ [55, 15, 56, 57, 58, 59, 60, 22, 23, 19, 24, 25, 26, 27, 28, 29, 30, 31, 32, 33, 34, 35, 36, 37, 38, 39, 61, 62, 63, 64, 13, 65, 66, 67, 68, 69, 70, 71, 72, 73, 74, 75, 76, 77, 78, 79, 80, 7, 8, 9, 81, 82, 83, 84, 85, 86, 87, 88, 89, 90, 91, 92, 93, 94, 95, 96, 97, 98, 99, 100, 101, 102, 103, 11, 12, 14, 107, 108, 109, 110, 111, 112, 113, 114, 115, 116, 117, 118, 119, 120, 121] (by decide +kernel) (by decide +kernel)
set_option maxRecDepth 20000 in
theorem gX2_schedule_X1_attempt : GoodIn wsX2_schedule (wsV RX2 114 RX1 yX1_attempt wsX1_attempt) := goodIn_app (goodIn_of _ (by decide +kernel)) ggX2_schedule_X1_attempt
theorem dX2_schedule_0 : decode cX2_schedule 0 = .ok (.iload_n 1, 1) := by decide +kernel
theorem dX2_schedule_1 : decode cX2_schedule 1 = .ok (.iconst 1, 1) := by decide +kernel
theorem dX2_schedule_2 : decode cX2_schedule 2 = .ok (.if_icmp .lt 10, 3) := by decide +kernel
theorem dX2_schedule_5 : decode cX2_schedule 5 = .ok (.iload_n 1, 1) := by decide +kernel
theorem dX2_schedule_6 : decode cX2_schedule 6 = .ok (.sipush 200, 3) := by decide +kernel
theorem dX2_schedule_9 : decode cX2_schedule 9 = .ok (.if_icmp .le 13, 3) := by decide +kernel
theorem dX2_schedule_12 : decode cX2_schedule 12 = .ok (.new 29, 3) := by decide +kernel
theorem dX2_schedule_15 : decode cX2_schedule 15 = .ok (.dup, 1) := by decide +kernel
theorem dX2_schedule_16 : decode cX2_schedule 16 = .ok (.ldc 104, 2) := by decide +kernel
theorem dX2_schedule_18 : decode cX2_schedule 18 = .ok (.invokespecial 33, 3) := by decide +kernel
theorem dX2_schedule_21 : decode cX2_schedule 21 = .ok (.athrow, 1) := by decide +kernel
theorem dX2_schedule_22 : decode cX2_schedule 22 = .ok (.aload_n 0, 1) := by decide +kernel
theorem dX2_schedule_23 : decode cX2_schedule 23 = .ok (.getfield 21, 3) := by decide +kernel
theorem dX2_schedule_26 : decode cX2_schedule 26 = .ok (.invokevirtual 40, 3) := by decide +kernel
theorem dX2_schedule_29 : decode cX2_schedule 29 = .ok (.aload_n 0, 1) := by decide +kernel
theorem dX2_schedule_30 : decode cX2_schedule 30 = .ok (.iconst 0, 1) := by decide +kernel
theorem dX2_schedule_31 : decode cX2_schedule 31 = .ok (.putfield 106, 3) := by decide +kernel
theorem dX2_schedule_34 : decode cX2_schedule 34 = .ok (.aload_n 0, 1) := by decide +kernel
theorem dX2_schedule_35 : decode cX2_schedule 35 = .ok (.getfield 10, 3) := by decide +kernel
theorem dX2_schedule_38 : decode cX2_schedule 38 = .ok (.invokevirtual 93, 3) := by decide +kernel
theorem dX2_schedule_41 : decode cX2_schedule 41 = .ok (.istore_n 2, 1) := by decide +kernel
theorem dX2_schedule_42 : decode cX2_schedule 42 = .ok (.iload_n 2, 1) := by decide +kernel
theorem dX2_schedule_43 : decode cX2_schedule 43 = .ok (.iconst (-1), 1) := by decide +kernel
theorem dX2_schedule_44 : decode cX2_schedule 44 = .ok (.if_icmp .ne 5, 3) := by decide +kernel
theorem dX2_schedule_47 : decode cX2_schedule 47 = .ok (.iconst (-1), 1) := by decide +kernel
theorem dX2_schedule_48 : decode cX2_schedule 48 = .ok (.ireturn, 1) := by decide +kernel
theorem dX2_schedule_49 : decode cX2_schedule 49 = .ok (.iload_n 2, 1) := by decide +kernel
theorem dX2_schedule_50 : decode cX2_schedule 50 = .ok (.aload_n 0, 1) := by decide +kernel
theorem dX2_schedule_51 : decode cX2_schedule 51 = .ok (.getfield 10, 3) := by decide +kernel
theorem dX2_schedule_54 : decode cX2_schedule 54 = .ok (.invokevirtual 89, 3) := by decide +kernel
theorem dX2_schedule_57 : decode cX2_schedule 57 = .ok (.invokestatic 109, 3) := by decide +kernel
theorem dX2_schedule_60 : decode cX2_schedule 60 = .ok (.istore_n 3, 1) := by decide +kernel
theorem dX2_schedule_61 : decode cX2_schedule 61 = .ok (.iload_n 3, 1) := by decide +kernel
theorem dX2_schedule_62 : decode cX2_schedule 62 = .ok (.istore 4, 2) := by decide +kernel
theorem dX2_schedule_64 : decode cX2_schedule 64 = .ok (.iload 4, 2) := by decide +kernel
theorem dX2_schedule_66 : decode cX2_schedule 66 = .ok (.iload_n 1, 1) := by decide +kernel
theorem dX2_schedule_67 : decode cX2_schedule 67 = .ok (.if_icmp .gt 34, 3) := by decide +kernel
theorem dX2_schedule_70 : decode cX2_schedule 70 = .ok (.aload_n 0, 1) := by decide +kernel
theorem dX2_schedule_71 : decode cX2_schedule 71 = .ok (.dup, 1) := by decide +kernel
theorem dX2_schedule_72 : decode cX2_schedule 72 = .ok (.getfield 106, 3) := by decide +kernel
theorem dX2_schedule_75 : decode cX2_schedule 75 = .ok (.iconst 1, 1) := by decide +kernel
theorem dX2_schedule_76 : decode cX2_schedule 76 = .ok (.iadd, 1) := by decide +kernel
theorem dX2_schedule_77 : decode cX2_schedule 77 = .ok (.putfield 106, 3) := by decide +kernel
theorem dX2_schedule_80 : decode cX2_schedule 80 = .ok (.aload_n 0, 1) := by decide +kernel
theorem dX2_schedule_81 : decode cX2_schedule 81 = .ok (.getfield 21, 3) := by decide +kernel
theorem dX2_schedule_84 : decode cX2_schedule 84 = .ok (.iload 4, 2) := by decide +kernel
theorem dX2_schedule_86 : decode cX2_schedule 86 = .ok (.invokevirtual 114, 3) := by decide +kernel
theorem dX2_schedule_89 : decode cX2_schedule 89 = .ok (.ifCond .eq 6, 3) := by decide +kernel
theorem dX2_schedule_92 : decode cX2_schedule 92 = .ok (.iload 4, 2) := by decide +kernel
theorem dX2_schedule_94 : decode cX2_schedule 94 = .ok (.ireturn, 1) := by decide +kernel
theorem dX2_schedule_95 : decode cX2_schedule 95 = .ok (.iinc 4 1, 3) := by decide +kernel
theorem dX2_schedule_98 : decode cX2_schedule 98 = .ok (.goto (-34), 3) := by decide +kernel
theorem dX2_schedule_101 : decode cX2_schedule 101 = .ok (.iconst (-1), 1) := by decide +kernel
theorem dX2_schedule_102 : decode cX2_schedule 102 = .ok (.ireturn, 1) := by decide +kernel
theorem dX2_attempts_0 : decode cX2_attempts 0 = .ok (.aload_n 0, 1) := by decide +kernel
theorem dX2_attempts_1 : decode cX2_attempts 1 = .ok (.getfield 106, 3) := by decide +kernel
theorem dX2_attempts_4 : decode cX2_attempts 4 = .ok (.ireturn, 1) := by decide +kernel
theorem dX2_hasSchedule_0 : decode cX2_hasSchedule 0 = .ok (.aload_n 0, 1) := by decide +kernel
theorem dX2_hasSchedule_1 : decode cX2_hasSchedule 1 = .ok (.getfield 21, 3) := by decide +kernel
theorem dX2_hasSchedule_4 : decode cX2_hasSchedule 4 = .ok (.getfield 117, 3) := by decide +kernel
theorem dX2_hasSchedule_7 : decode cX2_hasSchedule 7 = .ok (.ifCond .le 7, 3) := by decide +kernel
theorem dX2_hasSchedule_10 : decode cX2_hasSchedule 10 = .ok (.iconst 1, 1) := by decide +kernel
theorem dX2_hasSchedule_11 : decode cX2_hasSchedule 11 = .ok (.goto 4, 3) := by decide +kernel
theorem dX2_hasSchedule_14 : decode cX2_hasSchedule 14 = .ok (.iconst 0, 1) := by decide +kernel
theorem dX2_hasSchedule_15 : decode cX2_hasSchedule 15 = .ok (.ireturn, 1) := by decide +kernel
set_option maxRecDepth 20000 in
theorem ggX2_interval_X2_requireSchedule : GoodIn wsX2_interval wsX2_requireSchedule := goodIn_ca (goodIn_r _ [7, 8, 9, 1, 2, 10, 11, 12, 13, 14, 15, 16, 17] (by decide +kernel) (by decide +kernel)) (goodIn_sub (fun _ h => List.mem_cons_of_mem _ (List.mem_append_right _ h)) (by decide +kernel))
set_option maxRecDepth 20000 in
theorem gX2_interval_X2_requireSchedule : GoodIn wsX2_interval (wsV RX2 120 RX2 yX2_requireSchedule wsX2_requireSchedule) := goodIn_app (goodIn_of _ (by decide +kernel)) ggX2_interval_X2_requireSchedule
theorem dX2_interval_0 : decode cX2_interval 0 = .ok (.aload_n 0, 1) := by decide +kernel
theorem dX2_interval_1 : decode cX2_interval 1 = .ok (.invokevirtual 120, 3) := by decide +kernel
theorem dX2_interval_4 : decode cX2_interval 4 = .ok (.aload_n 0, 1) := by decide +kernel
theorem dX2_interval_5 : decode cX2_interval 5 = .ok (.getfield 21, 3) := by decide +kernel
theorem dX2_interval_8 : decode cX2_interval 8 = .ok (.getfield 117, 3) := by decide +kernel
theorem dX2_interval_11 : decode cX2_interval 11 = .ok (.ireturn, 1) := by decide +kernel
set_option maxRecDepth 20000 in
theorem ggX2_time_X2_requireOperation : GoodIn wsX2_time wsX2_requireOperation := goodIn_ca (goodIn_r _ [7, 8, 9, 10, 11, 19, 20, 21, 27, 28, 29, 30, 31, 32, 33, 34, 35, 36] (by decide +kernel) (by decide +kernel)) (goodIn_sub (fun _ h => List.mem_cons_of_mem _ (List.mem_append_left _ (List.mem_append_right _ h))) (by decide +kernel))
set_option maxRecDepth 20000 in
theorem gX2_time_X2_requireOperation : GoodIn wsX2_time (wsV RX2 64 RX2 yX2_requireOperation wsX2_requireOperation) := goodIn_app (goodIn_of _ (by decide +kernel)) ggX2_time_X2_requireOperation
set_option maxRecDepth 20000 in
theorem ggX2_time_X2_requireSchedule : GoodIn wsX2_time wsX2_requireSchedule := goodIn_ca (goodIn_r _ [15, 16, 17, 1, 18, 19, 20, 21, 22, 23, 24, 25, 26] (by decide +kernel) (by decide +kernel)) (goodIn_sub (fun _ h => List.mem_cons_of_mem _ (List.mem_append_right _ h)) (by decide +kernel))
set_option maxRecDepth 20000 in
theorem gX2_time_X2_requireSchedule : GoodIn wsX2_time (wsV RX2 120 RX2 yX2_requireSchedule wsX2_requireSchedule) := goodIn_app (goodIn_of _ (by decide +kernel)) ggX2_time_X2_requireSchedule
theorem dX2_time_0 : decode cX2_time 0 = .ok (.aload_n 0, 1) := by decide +kernel
theorem dX2_time_1 : decode cX2_time 1 = .ok (.iload_n 1, 1) := by decide +kernel
theorem dX2_time_2 : decode cX2_time 2 = .ok (.invokevirtual 64, 3) := by decide +kernel
theorem dX2_time_5 : decode cX2_time 5 = .ok (.aload_n 0, 1) := by decide +kernel
theorem dX2_time_6 : decode cX2_time 6 = .ok (.invokevirtual 120, 3) := by decide +kernel
theorem dX2_time_9 : decode cX2_time 9 = .ok (.aload_n 0, 1) := by decide +kernel
theorem dX2_time_10 : decode cX2_time 10 = .ok (.getfield 21, 3) := by decide +kernel
theorem dX2_time_13 : decode cX2_time 13 = .ok (.getfield 123, 3) := by decide +kernel
theorem dX2_time_16 : decode cX2_time 16 = .ok (.iload_n 1, 1) := by decide +kernel
theorem dX2_time_17 : decode cX2_time 17 = .ok (.iaload, 1) := by decide +kernel
theorem dX2_time_18 : decode cX2_time 18 = .ok (.ireturn, 1) := by decide +kernel
set_option maxRecDepth 20000 in
theorem ggX2_move_X2_requireOperation : GoodIn wsX2_move wsX2_requireOperation := goodIn_ca (goodIn_r _ [8, 9, 10, 11, 12, 68, 69, 70, 71, 72, 73, 74, 75, 76, 77, 78, 79, 80] (by decide +kernel) (by decide +kernel)) (goodIn_sub (fun _ h => List.mem_cons_of_mem _ (List.mem_append_left _ (List.mem_append_right _ h))) (by decide +kernel))
set_option maxRecDepth 20000 in
theorem gX2_move_X2_requireOperation : GoodIn wsX2_move (wsV RX2 64 RX2 yX2_requireOperation wsX2_requireOperation) := goodIn_app (goodIn_of _ (by decide +kernel)) ggX2_move_X2_requireOperation
set_option maxRecDepth 20000 in
theorem ggX2_move_X2_requireSchedule : GoodIn wsX2_move wsX2_requireSchedule := goodIn_ca (goodIn_r _ [16, 17, 18, 3, 19, 68, 69, 70, 81, 82, 83, 84, 85] (by decide +kernel) (by decide +kernel)) (goodIn_sub (fun _ h => List.mem_cons_of_mem _ (List.mem_append_right _ h)) (by decide +kernel))
set_option maxRecDepth 20000 in
theorem gX2_move_X2_requireSchedule : GoodIn wsX2_move (wsV RX2 120 RX2 yX2_requireSchedule wsX2_requireSchedule) := goodIn_app (goodIn_of _ (by decide +kernel)) ggX2_move_X2_requireSchedule
set_option maxRecDepth 20000 in
theorem ggX2_move_X1_replace : GoodIn wsX2_move wsX1_replace := goodIn_r _ [24, 25, 26, 27, 28, 23, 29, 30, 31, 32, 33, 34, 35, 36, 37, 38, 39, 40, 41, 42, 43, 44, 45, 46, 47, 48, 49, 50, 51, 52, 53, 54, 55, 56, 57, 58, 59, 60, 61, 62, 63, 64, 65, 66, 67, 81, 82, 83, 84, 85, 71, 72, 73, 74, 75, 76, 77, 78, 79, 80] (by decide +kernel) (by decide +kernel)
set_option maxRecDepth 20000 in
theorem gX2_move_X1_replace : GoodIn wsX2_move (wsV RX2 128 RX1 yX1_replace wsX1_replace) := goodIn_app (goodIn_of _ (by decide +kernel)) ggX2_move_X1_replace
theorem dX2_move_0 : decode cX2_move 0 = .ok (.aload_n 0, 1) := by decide +kernel
theorem dX2_move_1 : decode cX2_move 1 = .ok (.iload_n 1, 1) := by decide +kernel
theorem dX2_move_2 : decode cX2_move 2 = .ok (.invokevirtual 64, 3) := by decide +kernel
theorem dX2_move_5 : decode cX2_move 5 = .ok (.iload_n 2, 1) := by decide +kernel
theorem dX2_move_6 : decode cX2_move 6 = .ok (.ifCond .lt 10, 3) := by decide +kernel
theorem dX2_move_9 : decode cX2_move 9 = .ok (.iload_n 2, 1) := by decide +kernel
theorem dX2_move_10 : decode cX2_move 10 = .ok (.sipush 1000, 3) := by decide +kernel
theorem dX2_move_13 : decode cX2_move 13 = .ok (.if_icmp .le 13, 3) := by decide +kernel
theorem dX2_move_16 : decode cX2_move 16 = .ok (.new 29, 3) := by decide +kernel
theorem dX2_move_19 : decode cX2_move 19 = .ok (.dup, 1) := by decide +kernel
theorem dX2_move_20 : decode cX2_move 20 = .ok (.ldc 126, 2) := by decide +kernel
theorem dX2_move_22 : decode cX2_move 22 = .ok (.invokespecial 33, 3) := by decide +kernel
theorem dX2_move_25 : decode cX2_move 25 = .ok (.athrow, 1) := by decide +kernel
theorem dX2_move_26 : decode cX2_move 26 = .ok (.aload_n 0, 1) := by decide +kernel
theorem dX2_move_27 : decode cX2_move 27 = .ok (.invokevirtual 120, 3) := by decide +kernel
theorem dX2_move_30 : decode cX2_move 30 = .ok (.aload_n 0, 1) := by decide +kernel
theorem dX2_move_31 : decode cX2_move 31 = .ok (.getfield 21, 3) := by decide +kernel
theorem dX2_move_34 : decode cX2_move 34 = .ok (.iload_n 1, 1) := by decide +kernel
theorem dX2_move_35 : decode cX2_move 35 = .ok (.iload_n 2, 1) := by decide +kernel
theorem dX2_move_36 : decode cX2_move 36 = .ok (.invokevirtual 128, 3) := by decide +kernel
theorem dX2_move_39 : decode cX2_move 39 = .ok (.ireturn, 1) := by decide +kernel
set_option maxRecDepth 20000 in
theorem ggX2_freedom_X2_requireOperation : GoodIn wsX2_freedom wsX2_requireOperation := goodIn_ca (goodIn_r _ [6, 7, 8, 9, 10, 66, 67, 68, 69, 70, 71, 72, 73, 74, 75, 76, 77, 78] (by decide +kernel) (by decide +kernel)) (goodIn_sub (fun _ h => List.mem_cons_of_mem _ (List.mem_append_left _ (List.mem_append_right _ h))) (by decide +kernel))
set_option maxRecDepth 20000 in
theorem gX2_freedom_X2_requireOperation : GoodIn wsX2_freedom (wsV RX2 64 RX2 yX2_requireOperation wsX2_requireOperation) := goodIn_app (goodIn_of _ (by decide +kernel)) ggX2_freedom_X2_requireOperation
set_option maxRecDepth 20000 in
theorem ggX2_freedom_X2_requireSchedule : GoodIn wsX2_freedom wsX2_requireSchedule := goodIn_ca (goodIn_r _ [14, 15, 16, 1, 17, 66, 67, 68, 79, 80, 81, 82, 83] (by decide +kernel) (by decide +kernel)) (goodIn_sub (fun _ h => List.mem_cons_of_mem _ (List.mem_append_right _ h)) (by decide +kernel))
set_option maxRecDepth 20000 in
theorem gX2_freedom_X2_requireSchedule : GoodIn wsX2_freedom (wsV RX2 120 RX2 yX2_requireSchedule wsX2_requireSchedule) := goodIn_app (goodIn_of _ (by decide +kernel)) ggX2_freedom_X2_requireSchedule
set_option maxRecDepth 20000 in
theorem ggX2_freedom_X1_countPlaces : GoodIn wsX2_freedom wsX1_countPlaces := goodIn_r _ [22, 23, 24, 25, 26, 21, 27, 28, 29, 30, 31, 32, 33, 34, 35, 36, 37, 38, 39, 40, 41, 42, 43, 44, 45, 46, 47, 48, 49, 50, 51, 52, 53, 54, 55, 56, 57, 58, 59, 60, 61, 62, 63, 64, 65, 79, 80, 81, 82, 83, 69, 70, 71, 72, 73, 74, 75, 76, 77, 78] (by decide +kernel) (by decide +kernel)
set_option maxRecDepth 20000 in
theorem gX2_freedom_X1_countPlaces : GoodIn wsX2_freedom (wsV RX2 132 RX1 yX1_countPlaces wsX1_countPlaces) := goodIn_app (goodIn_of _ (by decide +kernel)) ggX2_freedom_X1_countPlaces
theorem dX2_freedom_0 : decode cX2_freedom 0 = .ok (.aload_n 0, 1) := by decide +kernel
theorem dX2_freedom_1 : decode cX2_freedom 1 = .ok (.iload_n 1, 1) := by decide +kernel
theorem dX2_freedom_2 : decode cX2_freedom 2 = .ok (.invokevirtual 64, 3) := by decide +kernel
theorem dX2_freedom_5 : decode cX2_freedom 5 = .ok (.aload_n 0, 1) := by decide +kernel
theorem dX2_freedom_6 : decode cX2_freedom 6 = .ok (.invokevirtual 120, 3) := by decide +kernel
theorem dX2_freedom_9 : decode cX2_freedom 9 = .ok (.aload_n 0, 1) := by decide +kernel
theorem dX2_freedom_10 : decode cX2_freedom 10 = .ok (.getfield 21, 3) := by decide +kernel
theorem dX2_freedom_13 : decode cX2_freedom 13 = .ok (.iload_n 1, 1) := by decide +kernel
theorem dX2_freedom_14 : decode cX2_freedom 14 = .ok (.invokevirtual 132, 3) := by decide +kernel
theorem dX2_freedom_17 : decode cX2_freedom 17 = .ok (.ireturn, 1) := by decide +kernel
set_option maxRecDepth 20000 in
theorem ggX2_stages_X2_requireSchedule : GoodIn wsX2_stages wsX2_requireSchedule := goodIn_ca (goodIn_r _ [6, 7, 8, 1, 9, 27, 28, 29, 30, 31, 32, 33, 34] (by decide +kernel) (by decide +kernel)) (goodIn_sub (fun _ h => List.mem_cons_of_mem _ (List.mem_append_right _ h)) (by decide +kernel))
set_option maxRecDepth 20000 in
theorem gX2_stages_X2_requireSchedule : GoodIn wsX2_stages (wsV RX2 120 RX2 yX2_requireSchedule wsX2_requireSchedule) := goodIn_app (goodIn_of _ (by decide +kernel)) ggX2_stages_X2_requireSchedule
set_option maxRecDepth 20000 in
theorem ggX2_stages_X1_countStages : GoodIn wsX2_stages wsX1_countStages := goodIn_r _ [14, 15, 16, 17, 18, 19, 20, 13, 21, 22, 23, 24, 25, 26, 30, 31, 32, 33, 34, 35, 36, 37, 38, 39, 40, 41, 42, 43, 44] (by decide +kernel) (by decide +kernel)
set_option maxRecDepth 20000 in
theorem gX2_stages_X1_countStages : GoodIn wsX2_stages (wsV RX2 136 RX1 yX1_countStages wsX1_countStages) := goodIn_app (goodIn_of _ (by decide +kernel)) ggX2_stages_X1_countStages
theorem dX2_stages_0 : decode cX2_stages 0 = .ok (.aload_n 0, 1) := by decide +kernel
theorem dX2_stages_1 : decode cX2_stages 1 = .ok (.invokevirtual 120, 3) := by decide +kernel
theorem dX2_stages_4 : decode cX2_stages 4 = .ok (.aload_n 0, 1) := by decide +kernel
theorem dX2_stages_5 : decode cX2_stages 5 = .ok (.getfield 21, 3) := by decide +kernel
theorem dX2_stages_8 : decode cX2_stages 8 = .ok (.invokevirtual 136, 3) := by decide +kernel
theorem dX2_stages_11 : decode cX2_stages 11 = .ok (.ireturn, 1) := by decide +kernel
set_option maxRecDepth 20000 in
theorem ggX2_taken_X2_requireKind : GoodIn wsX2_taken wsX2_requireKind := goodIn_ca (goodIn_r _ [6, 7, 8, 9, 10, 5, 11] (by decide +kernel) (by decide +kernel)) (goodIn_sub (fun _ h => List.mem_cons_of_mem _ (List.mem_append_left _ (List.mem_append_left _ (List.mem_append_right _ h)))) (by decide +kernel))
set_option maxRecDepth 20000 in
theorem gX2_taken_X2_requireKind : GoodIn wsX2_taken (va_wsS RX2 25 yX2_requireKind wsX2_requireKind) := goodIn_app (goodIn_of _ (by decide +kernel)) ggX2_taken_X2_requireKind
set_option maxRecDepth 20000 in
theorem ggX2_taken_X2_requireSchedule : GoodIn wsX2_taken wsX2_requireSchedule := goodIn_ca (goodIn_r _ [15, 16, 17, 1, 18, 25, 26, 27, 28, 29, 30, 31, 32] (by decide +kernel) (by decide +kernel)) (goodIn_sub (fun _ h => List.mem_cons_of_mem _ (List.mem_append_left _ (List.mem_append_right _ h))) (by decide +kernel))
set_option maxRecDepth 20000 in
theorem gX2_taken_X2_requireSchedule : GoodIn wsX2_taken (wsV RX2 120 RX2 yX2_requireSchedule wsX2_requireSchedule) := goodIn_app (goodIn_of _ (by decide +kernel)) ggX2_taken_X2_requireSchedule
set_option maxRecDepth 20000 in
theorem ggX2_taken_X2_requireRow : GoodIn wsX2_taken wsX2_requireRow := goodIn_ca (goodIn_r _ [22, 23, 24, 1, 18, 25, 26, 27, 28, 29, 30, 31, 32] (by decide +kernel) (by decide +kernel)) (goodIn_sub (fun _ h => List.mem_cons_of_mem _ (List.mem_append_right _ h)) (by decide +kernel))
set_option maxRecDepth 20000 in
theorem gX2_taken_X2_requireRow : GoodIn wsX2_taken (wsV RX2 139 RX2 yX2_requireRow wsX2_requireRow) := goodIn_app (goodIn_of _ (by decide +kernel)) ggX2_taken_X2_requireRow
theorem dX2_taken_0 : decode cX2_taken 0 = .ok (.iload_n 2, 1) := by decide +kernel
theorem dX2_taken_1 : decode cX2_taken 1 = .ok (.invokestatic 25, 3) := by decide +kernel
theorem dX2_taken_4 : decode cX2_taken 4 = .ok (.aload_n 0, 1) := by decide +kernel
theorem dX2_taken_5 : decode cX2_taken 5 = .ok (.invokevirtual 120, 3) := by decide +kernel
theorem dX2_taken_8 : decode cX2_taken 8 = .ok (.aload_n 0, 1) := by decide +kernel
theorem dX2_taken_9 : decode cX2_taken 9 = .ok (.iload_n 1, 1) := by decide +kernel
theorem dX2_taken_10 : decode cX2_taken 10 = .ok (.invokevirtual 139, 3) := by decide +kernel
theorem dX2_taken_13 : decode cX2_taken 13 = .ok (.aload_n 0, 1) := by decide +kernel
theorem dX2_taken_14 : decode cX2_taken 14 = .ok (.getfield 21, 3) := by decide +kernel
theorem dX2_taken_17 : decode cX2_taken 17 = .ok (.getfield 142, 3) := by decide +kernel
theorem dX2_taken_20 : decode cX2_taken 20 = .ok (.iload_n 2, 1) := by decide +kernel
theorem dX2_taken_21 : decode cX2_taken 21 = .ok (.aaload, 1) := by decide +kernel
theorem dX2_taken_22 : decode cX2_taken 22 = .ok (.iload_n 1, 1) := by decide +kernel
theorem dX2_taken_23 : decode cX2_taken 23 = .ok (.iaload, 1) := by decide +kernel
theorem dX2_taken_24 : decode cX2_taken 24 = .ok (.ireturn, 1) := by decide +kernel
set_option maxRecDepth 20000 in
theorem ggX2_lifetime_X2_requireOperation : GoodIn wsX2_lifetime wsX2_requireOperation := goodIn_ca (goodIn_r _ [7, 8, 9, 10, 11, 40, 41, 42, 48, 49, 50, 51, 52, 53, 54, 55, 56, 57] (by decide +kernel) (by decide +kernel)) (goodIn_sub (fun _ h => List.mem_cons_of_mem _ (List.mem_append_left _ (List.mem_append_right _ h))) (by decide +kernel))
set_option maxRecDepth 20000 in
theorem gX2_lifetime_X2_requireOperation : GoodIn wsX2_lifetime (wsV RX2 64 RX2 yX2_requireOperation wsX2_requireOperation) := goodIn_app (goodIn_of _ (by decide +kernel)) ggX2_lifetime_X2_requireOperation
set_option maxRecDepth 20000 in
theorem ggX2_lifetime_X2_requireSchedule : GoodIn wsX2_lifetime wsX2_requireSchedule := goodIn_ca (goodIn_r _ [15, 16, 17, 1, 18, 40, 41, 42, 43, 44, 45, 46, 47] (by decide +kernel) (by decide +kernel)) (goodIn_sub (fun _ h => List.mem_cons_of_mem _ (List.mem_append_right _ h)) (by decide +kernel))
set_option maxRecDepth 20000 in
theorem gX2_lifetime_X2_requireSchedule : GoodIn wsX2_lifetime (wsV RX2 120 RX2 yX2_requireSchedule wsX2_requireSchedule) := goodIn_app (goodIn_of _ (by decide +kernel)) ggX2_lifetime_X2_requireSchedule
set_option maxRecDepth 20000 in
theorem ggX2_lifetime_X1_findLifetimes : GoodIn wsX2_lifetime wsX1_findLifetimes := goodIn_r _ [23, 24, 25, 26, 27, 28, 29, 30, 31, 32, 33, 34, 35, 36, 37, 38, 39, 43, 44, 45, 46, 47, 48, 49, 50, 51, 52, 53, 54, 55, 56, 57] (by decide +kernel) (by decide +kernel)
set_option maxRecDepth 20000 in
theorem gX2_lifetime_X1_findLifetimes : GoodIn wsX2_lifetime (wsV RX2 146 RX1 yX1_findLifetimes wsX1_findLifetimes) := goodIn_app (goodIn_of _ (by decide +kernel)) ggX2_lifetime_X1_findLifetimes
theorem dX2_lifetime_0 : decode cX2_lifetime 0 = .ok (.aload_n 0, 1) := by decide +kernel
theorem dX2_lifetime_1 : decode cX2_lifetime 1 = .ok (.iload_n 1, 1) := by decide +kernel
theorem dX2_lifetime_2 : decode cX2_lifetime 2 = .ok (.invokevirtual 64, 3) := by decide +kernel
theorem dX2_lifetime_5 : decode cX2_lifetime 5 = .ok (.aload_n 0, 1) := by decide +kernel
theorem dX2_lifetime_6 : decode cX2_lifetime 6 = .ok (.invokevirtual 120, 3) := by decide +kernel
theorem dX2_lifetime_9 : decode cX2_lifetime 9 = .ok (.aload_n 0, 1) := by decide +kernel
theorem dX2_lifetime_10 : decode cX2_lifetime 10 = .ok (.getfield 21, 3) := by decide +kernel
theorem dX2_lifetime_13 : decode cX2_lifetime 13 = .ok (.invokevirtual 146, 3) := by decide +kernel
theorem dX2_lifetime_16 : decode cX2_lifetime 16 = .ok (.aload_n 0, 1) := by decide +kernel
theorem dX2_lifetime_17 : decode cX2_lifetime 17 = .ok (.getfield 21, 3) := by decide +kernel
theorem dX2_lifetime_20 : decode cX2_lifetime 20 = .ok (.getfield 149, 3) := by decide +kernel
theorem dX2_lifetime_23 : decode cX2_lifetime 23 = .ok (.iload_n 1, 1) := by decide +kernel
theorem dX2_lifetime_24 : decode cX2_lifetime 24 = .ok (.iaload, 1) := by decide +kernel
theorem dX2_lifetime_25 : decode cX2_lifetime 25 = .ok (.ireturn, 1) := by decide +kernel
set_option maxRecDepth 20000 in
theorem ggX2_live_X2_requireSchedule : GoodIn wsX2_live wsX2_requireSchedule := goodIn_ca (goodIn_r _ [6, 7, 8, 1, 9, 46, 47, 48, 49, 50, 51, 52, 53] (by decide +kernel) (by decide +kernel)) (goodIn_sub (fun _ h => List.mem_cons_of_mem _ (List.mem_append_left _ (List.mem_append_right _ h))) (by decide +kernel))
set_option maxRecDepth 20000 in
theorem gX2_live_X2_requireSchedule : GoodIn wsX2_live (wsV RX2 120 RX2 yX2_requireSchedule wsX2_requireSchedule) := goodIn_app (goodIn_of _ (by decide +kernel)) ggX2_live_X2_requireSchedule
set_option maxRecDepth 20000 in
theorem ggX2_live_X2_requireRow : GoodIn wsX2_live wsX2_requireRow := goodIn_ca (goodIn_r _ [13, 14, 15, 1, 9, 46, 47, 48, 49, 50, 51, 52, 53] (by decide +kernel) (by decide +kernel)) (goodIn_sub (fun _ h => List.mem_cons_of_mem _ (List.mem_append_right _ h)) (by decide +kernel))
set_option maxRecDepth 20000 in
theorem gX2_live_X2_requireRow : GoodIn wsX2_live (wsV RX2 139 RX2 yX2_requireRow wsX2_requireRow) := goodIn_app (goodIn_of _ (by decide +kernel)) ggX2_live_X2_requireRow
set_option maxRecDepth 20000 in
theorem ggX2_live_X1_findLifetimes : GoodIn wsX2_live wsX1_findLifetimes := goodIn_r _ [20, 21, 22, 23, 24, 25, 26, 27, 28, 29, 30, 31, 32, 33, 34, 35, 36, 49, 50, 51, 52, 53, 54, 55, 56, 57, 58, 59, 60, 61, 62, 63] (by decide +kernel) (by decide +kernel)
set_option maxRecDepth 20000 in
theorem gX2_live_X1_findLifetimes : GoodIn wsX2_live (wsV RX2 146 RX1 yX1_findLifetimes wsX1_findLifetimes) := goodIn_app (goodIn_of _ (by decide +kernel)) ggX2_live_X1_findLifetimes
set_option maxRecDepth 20000 in
theorem ggX2_live_X1_countLive : GoodIn wsX2_live wsX1_countLive := goodIn_r _ [40, 22, 41, 25, 27, 21, 42, 43, 44, 45, 49, 50, 51, 52, 53, 54, 55, 56, 57, 58, 59, 60, 61, 62, 63] (by decide +kernel) (by decide +kernel)
set_option maxRecDepth 20000 in
theorem gX2_live_X1_countLive : GoodIn wsX2_live (wsV RX2 152 RX1 yX1_countLive wsX1_countLive) := goodIn_app (goodIn_of _ (by decide +kernel)) ggX2_live_X1_countLive
theorem dX2_live_0 : decode cX2_live 0 = .ok (.aload_n 0, 1) := by decide +kernel
theorem dX2_live_1 : decode cX2_live 1 = .ok (.invokevirtual 120, 3) := by decide +kernel
theorem dX2_live_4 : decode cX2_live 4 = .ok (.aload_n 0, 1) := by decide +kernel
theorem dX2_live_5 : decode cX2_live 5 = .ok (.iload_n 1, 1) := by decide +kernel
theorem dX2_live_6 : decode cX2_live 6 = .ok (.invokevirtual 139, 3) := by decide +kernel
theorem dX2_live_9 : decode cX2_live 9 = .ok (.aload_n 0, 1) := by decide +kernel
theorem dX2_live_10 : decode cX2_live 10 = .ok (.getfield 21, 3) := by decide +kernel
theorem dX2_live_13 : decode cX2_live 13 = .ok (.invokevirtual 146, 3) := by decide +kernel
theorem dX2_live_16 : decode cX2_live 16 = .ok (.aload_n 0, 1) := by decide +kernel
theorem dX2_live_17 : decode cX2_live 17 = .ok (.getfield 21, 3) := by decide +kernel
theorem dX2_live_20 : decode cX2_live 20 = .ok (.iload_n 1, 1) := by decide +kernel
theorem dX2_live_21 : decode cX2_live 21 = .ok (.invokevirtual 152, 3) := by decide +kernel
theorem dX2_live_24 : decode cX2_live 24 = .ok (.ireturn, 1) := by decide +kernel
set_option maxRecDepth 20000 in
theorem ggX2_registers_X2_requireSchedule : GoodIn wsX2_registers wsX2_requireSchedule := goodIn_ca (goodIn_r _ [11, 12, 13, 1, 2, 41, 42, 43, 44, 45, 46, 47, 48] (by decide +kernel) (by decide +kernel)) (goodIn_sub (fun _ h => List.mem_cons_of_mem _ (List.mem_append_right _ h)) (by decide +kernel))
set_option maxRecDepth 20000 in
theorem gX2_registers_X2_requireSchedule : GoodIn wsX2_registers (wsV RX2 120 RX2 yX2_requireSchedule wsX2_requireSchedule) := goodIn_app (goodIn_of _ (by decide +kernel)) ggX2_registers_X2_requireSchedule
set_option maxRecDepth 20000 in
theorem ggX2_registers_X1_findLifetimes : GoodIn wsX2_registers wsX1_findLifetimes := goodIn_r _ [18, 19, 20, 21, 22, 23, 24, 25, 26, 27, 4, 5, 6, 28, 29, 30, 31, 44, 45, 46, 47, 48, 49, 50, 51, 52, 53, 54, 55, 56, 57, 58] (by decide +kernel) (by decide +kernel)
set_option maxRecDepth 20000 in
theorem gX2_registers_X1_findLifetimes : GoodIn wsX2_registers (wsV RX2 146 RX1 yX1_findLifetimes wsX1_findLifetimes) := goodIn_app (goodIn_of _ (by decide +kernel)) ggX2_registers_X1_findLifetimes
set_option maxRecDepth 20000 in
theorem ggX2_registers_X1_countLive : GoodIn wsX2_registers wsX1_countLive := goodIn_r _ [35, 20, 36, 23, 25, 19, 37, 38, 39, 40, 44, 45, 46, 47, 48, 49, 50, 51, 52, 53, 54, 55, 56, 57, 58] (by decide +kernel) (by decide +kernel)
set_option maxRecDepth 20000 in
theorem gX2_registers_X1_countLive : GoodIn wsX2_registers (wsV RX2 152 RX1 yX1_countLive wsX1_countLive) := goodIn_app (goodIn_of _ (by decide +kernel)) ggX2_registers_X1_countLive
theorem dX2_registers_0 : decode cX2_registers 0 = .ok (.aload_n 0, 1) := by decide +kernel
theorem dX2_registers_1 : decode cX2_registers 1 = .ok (.invokevirtual 120, 3) := by decide +kernel
theorem dX2_registers_4 : decode cX2_registers 4 = .ok (.aload_n 0, 1) := by decide +kernel
theorem dX2_registers_5 : decode cX2_registers 5 = .ok (.getfield 21, 3) := by decide +kernel
theorem dX2_registers_8 : decode cX2_registers 8 = .ok (.invokevirtual 146, 3) := by decide +kernel
theorem dX2_registers_11 : decode cX2_registers 11 = .ok (.iconst 0, 1) := by decide +kernel
theorem dX2_registers_12 : decode cX2_registers 12 = .ok (.istore_n 1, 1) := by decide +kernel
theorem dX2_registers_13 : decode cX2_registers 13 = .ok (.iconst 0, 1) := by decide +kernel
theorem dX2_registers_14 : decode cX2_registers 14 = .ok (.istore_n 2, 1) := by decide +kernel
theorem dX2_registers_15 : decode cX2_registers 15 = .ok (.iload_n 2, 1) := by decide +kernel
theorem dX2_registers_16 : decode cX2_registers 16 = .ok (.aload_n 0, 1) := by decide +kernel
theorem dX2_registers_17 : decode cX2_registers 17 = .ok (.getfield 21, 3) := by decide +kernel
theorem dX2_registers_20 : decode cX2_registers 20 = .ok (.getfield 117, 3) := by decide +kernel
theorem dX2_registers_23 : decode cX2_registers 23 = .ok (.if_icmp .ge 22, 3) := by decide +kernel
theorem dX2_registers_26 : decode cX2_registers 26 = .ok (.iload_n 1, 1) := by decide +kernel
theorem dX2_registers_27 : decode cX2_registers 27 = .ok (.aload_n 0, 1) := by decide +kernel
theorem dX2_registers_28 : decode cX2_registers 28 = .ok (.getfield 21, 3) := by decide +kernel
theorem dX2_registers_31 : decode cX2_registers 31 = .ok (.iload_n 2, 1) := by decide +kernel
theorem dX2_registers_32 : decode cX2_registers 32 = .ok (.invokevirtual 152, 3) := by decide +kernel
theorem dX2_registers_35 : decode cX2_registers 35 = .ok (.invokestatic 109, 3) := by decide +kernel
theorem dX2_registers_38 : decode cX2_registers 38 = .ok (.istore_n 1, 1) := by decide +kernel
theorem dX2_registers_39 : decode cX2_registers 39 = .ok (.iinc 2 1, 3) := by decide +kernel
theorem dX2_registers_42 : decode cX2_registers 42 = .ok (.goto (-27), 3) := by decide +kernel
theorem dX2_registers_45 : decode cX2_registers 45 = .ok (.iload_n 1, 1) := by decide +kernel
theorem dX2_registers_46 : decode cX2_registers 46 = .ok (.ireturn, 1) := by decide +kernel
set_option maxRecDepth 20000 in
theorem ggX2_copies_X2_requireOperation : GoodIn wsX2_copies wsX2_requireOperation := goodIn_ca (goodIn_r _ [6, 7, 8, 9, 10, 43, 44, 45, 46, 47, 48, 49, 50, 51, 52, 53, 54, 55] (by decide +kernel) (by decide +kernel)) (goodIn_sub (fun _ h => List.mem_cons_of_mem _ (List.mem_append_left _ (List.mem_append_right _ h))) (by decide +kernel))
set_option maxRecDepth 20000 in
theorem gX2_copies_X2_requireOperation : GoodIn wsX2_copies (wsV RX2 64 RX2 yX2_requireOperation wsX2_requireOperation) := goodIn_app (goodIn_of _ (by decide +kernel)) ggX2_copies_X2_requireOperation
set_option maxRecDepth 20000 in
theorem ggX2_copies_X2_requireSchedule : GoodIn wsX2_copies wsX2_requireSchedule := goodIn_ca (goodIn_r _ [14, 15, 16, 1, 17, 43, 44, 45, 56, 57, 58, 59, 60] (by decide +kernel) (by decide +kernel)) (goodIn_sub (fun _ h => List.mem_cons_of_mem _ (List.mem_append_right _ h)) (by decide +kernel))
set_option maxRecDepth 20000 in
theorem gX2_copies_X2_requireSchedule : GoodIn wsX2_copies (wsV RX2 120 RX2 yX2_requireSchedule wsX2_requireSchedule) := goodIn_app (goodIn_of _ (by decide +kernel)) ggX2_copies_X2_requireSchedule
set_option maxRecDepth 20000 in
theorem ggX2_copies_X1_findLifetimes : GoodIn wsX2_copies wsX1_findLifetimes := goodIn_r _ [22, 23, 24, 25, 26, 27, 28, 29, 30, 31, 32, 33, 34, 35, 36, 37, 38, 56, 57, 58, 59, 60, 46, 47, 48, 49, 50, 51, 52, 53, 54, 55] (by decide +kernel) (by decide +kernel)
set_option maxRecDepth 20000 in
theorem gX2_copies_X1_findLifetimes : GoodIn wsX2_copies (wsV RX2 146 RX1 yX1_findLifetimes wsX1_findLifetimes) := goodIn_app (goodIn_of _ (by decide +kernel)) ggX2_copies_X1_findLifetimes
set_option maxRecDepth 20000 in
theorem ggX2_copies_X1_countCopies : GoodIn wsX2_copies wsX1_countCopies := goodIn_r _ [42, 23, 29, 31, 32, 33, 34, 56, 57, 58, 59, 60] (by decide +kernel) (by decide +kernel)
set_option maxRecDepth 20000 in
theorem gX2_copies_X1_countCopies : GoodIn wsX2_copies (wsV RX2 155 RX1 yX1_countCopies wsX1_countCopies) := goodIn_app (goodIn_of _ (by decide +kernel)) ggX2_copies_X1_countCopies
theorem dX2_copies_0 : decode cX2_copies 0 = .ok (.aload_n 0, 1) := by decide +kernel
theorem dX2_copies_1 : decode cX2_copies 1 = .ok (.iload_n 1, 1) := by decide +kernel
theorem dX2_copies_2 : decode cX2_copies 2 = .ok (.invokevirtual 64, 3) := by decide +kernel
theorem dX2_copies_5 : decode cX2_copies 5 = .ok (.aload_n 0, 1) := by decide +kernel
theorem dX2_copies_6 : decode cX2_copies 6 = .ok (.invokevirtual 120, 3) := by decide +kernel
theorem dX2_copies_9 : decode cX2_copies 9 = .ok (.aload_n 0, 1) := by decide +kernel
theorem dX2_copies_10 : decode cX2_copies 10 = .ok (.getfield 21, 3) := by decide +kernel
theorem dX2_copies_13 : decode cX2_copies 13 = .ok (.invokevirtual 146, 3) := by decide +kernel
theorem dX2_copies_16 : decode cX2_copies 16 = .ok (.aload_n 0, 1) := by decide +kernel
theorem dX2_copies_17 : decode cX2_copies 17 = .ok (.getfield 21, 3) := by decide +kernel
theorem dX2_copies_20 : decode cX2_copies 20 = .ok (.iload_n 1, 1) := by decide +kernel
theorem dX2_copies_21 : decode cX2_copies 21 = .ok (.invokevirtual 155, 3) := by decide +kernel
theorem dX2_copies_24 : decode cX2_copies 24 = .ok (.ireturn, 1) := by decide +kernel
set_option maxRecDepth 20000 in
theorem ggX2_unrolling_X2_requireSchedule : GoodIn wsX2_unrolling wsX2_requireSchedule := goodIn_ca (goodIn_r _ [10, 11, 12, 1, 13, 42, 43, 44, 55, 56, 57, 58, 59] (by decide +kernel) (by decide +kernel)) (goodIn_sub (fun _ h => List.mem_cons_of_mem _ (List.mem_append_right _ h)) (by decide +kernel))
set_option maxRecDepth 20000 in
theorem gX2_unrolling_X2_requireSchedule : GoodIn wsX2_unrolling (wsV RX2 120 RX2 yX2_requireSchedule wsX2_requireSchedule) := goodIn_app (goodIn_of _ (by decide +kernel)) ggX2_unrolling_X2_requireSchedule
set_option maxRecDepth 20000 in
theorem ggX2_unrolling_X1_findLifetimes : GoodIn wsX2_unrolling wsX1_findLifetimes := goodIn_r _ [18, 19, 20, 21, 22, 23, 24, 25, 26, 27, 28, 29, 30, 31, 32, 33, 34, 55, 56, 57, 58, 59, 45, 46, 47, 48, 49, 50, 51, 52, 53, 54] (by decide +kernel) (by decide +kernel)
set_option maxRecDepth 20000 in
theorem gX2_unrolling_X1_findLifetimes : GoodIn wsX2_unrolling (wsV RX2 146 RX1 yX1_findLifetimes wsX1_findLifetimes) := goodIn_app (goodIn_of _ (by decide +kernel)) ggX2_unrolling_X1_findLifetimes
set_option maxRecDepth 20000 in
theorem ggX2_unrolling_X1_countCopies : GoodIn wsX2_unrolling wsX1_countCopies := goodIn_r _ [38, 19, 25, 27, 28, 29, 30, 55, 56, 57, 58, 59] (by decide +kernel) (by decide +kernel)
set_option maxRecDepth 20000 in
theorem gX2_unrolling_X1_countCopies : GoodIn wsX2_unrolling (wsV RX2 155 RX1 yX1_countCopies wsX1_countCopies) := goodIn_app (goodIn_of _ (by decide +kernel)) ggX2_unrolling_X1_countCopies
set_option maxRecDepth 20000 in
theorem ggX2_unrolling_X2_leastCommonMultiple : GoodIn wsX2_unrolling wsX2_leastCommonMultiple := goodIn_r _ [41] (by decide +kernel) (by decide +kernel)
set_option maxRecDepth 20000 in
theorem gX2_unrolling_X2_leastCommonMultiple : GoodIn wsX2_unrolling (va_wsS RX2 158 yX2_leastCommonMultiple wsX2_leastCommonMultiple) := goodIn_app (goodIn_of _ (by decide +kernel)) ggX2_unrolling_X2_leastCommonMultiple
theorem dX2_unrolling_0 : decode cX2_unrolling 0 = .ok (.aload_n 0, 1) := by decide +kernel
theorem dX2_unrolling_1 : decode cX2_unrolling 1 = .ok (.invokevirtual 120, 3) := by decide +kernel
theorem dX2_unrolling_4 : decode cX2_unrolling 4 = .ok (.aload_n 0, 1) := by decide +kernel
theorem dX2_unrolling_5 : decode cX2_unrolling 5 = .ok (.getfield 21, 3) := by decide +kernel
theorem dX2_unrolling_8 : decode cX2_unrolling 8 = .ok (.invokevirtual 146, 3) := by decide +kernel
theorem dX2_unrolling_11 : decode cX2_unrolling 11 = .ok (.lconst 1, 1) := by decide +kernel
theorem dX2_unrolling_12 : decode cX2_unrolling 12 = .ok (.lstore_n 1, 1) := by decide +kernel
theorem dX2_unrolling_13 : decode cX2_unrolling 13 = .ok (.iconst 0, 1) := by decide +kernel
theorem dX2_unrolling_14 : decode cX2_unrolling 14 = .ok (.istore_n 3, 1) := by decide +kernel
theorem dX2_unrolling_15 : decode cX2_unrolling 15 = .ok (.iload_n 3, 1) := by decide +kernel
theorem dX2_unrolling_16 : decode cX2_unrolling 16 = .ok (.aload_n 0, 1) := by decide +kernel
theorem dX2_unrolling_17 : decode cX2_unrolling 17 = .ok (.getfield 10, 3) := by decide +kernel
theorem dX2_unrolling_20 : decode cX2_unrolling 20 = .ok (.getfield 51, 3) := by decide +kernel
theorem dX2_unrolling_23 : decode cX2_unrolling 23 = .ok (.if_icmp .ge 33, 3) := by decide +kernel
theorem dX2_unrolling_26 : decode cX2_unrolling 26 = .ok (.lload_n 1, 1) := by decide +kernel
theorem dX2_unrolling_27 : decode cX2_unrolling 27 = .ok (.aload_n 0, 1) := by decide +kernel
theorem dX2_unrolling_28 : decode cX2_unrolling 28 = .ok (.getfield 21, 3) := by decide +kernel
theorem dX2_unrolling_31 : decode cX2_unrolling 31 = .ok (.iload_n 3, 1) := by decide +kernel
theorem dX2_unrolling_32 : decode cX2_unrolling 32 = .ok (.invokevirtual 155, 3) := by decide +kernel
theorem dX2_unrolling_35 : decode cX2_unrolling 35 = .ok (.invokestatic 158, 3) := by decide +kernel
theorem dX2_unrolling_38 : decode cX2_unrolling 38 = .ok (.lstore_n 1, 1) := by decide +kernel
theorem dX2_unrolling_39 : decode cX2_unrolling 39 = .ok (.lload_n 1, 1) := by decide +kernel
theorem dX2_unrolling_40 : decode cX2_unrolling 40 = .ok (.ldc2_w 162, 3) := by decide +kernel
theorem dX2_unrolling_43 : decode cX2_unrolling 43 = .ok (.lcmp, 1) := by decide +kernel
theorem dX2_unrolling_44 : decode cX2_unrolling 44 = .ok (.ifCond .le 6, 3) := by decide +kernel
theorem dX2_unrolling_47 : decode cX2_unrolling 47 = .ok (.ldc 164, 2) := by decide +kernel
theorem dX2_unrolling_49 : decode cX2_unrolling 49 = .ok (.ireturn, 1) := by decide +kernel
theorem dX2_unrolling_50 : decode cX2_unrolling 50 = .ok (.iinc 3 1, 3) := by decide +kernel
theorem dX2_unrolling_53 : decode cX2_unrolling 53 = .ok (.goto (-38), 3) := by decide +kernel
theorem dX2_unrolling_56 : decode cX2_unrolling 56 = .ok (.lload_n 1, 1) := by decide +kernel
theorem dX2_unrolling_57 : decode cX2_unrolling 57 = .ok (.l2i, 1) := by decide +kernel
theorem dX2_unrolling_58 : decode cX2_unrolling 58 = .ok (.ireturn, 1) := by decide +kernel
set_option maxRecDepth 20000 in
theorem ggX2_cycles_X2_requireSchedule : GoodIn wsX2_cycles wsX2_requireSchedule := goodIn_ca (goodIn_r _ [9, 10, 11, 3, 4, 29, 30, 31, 42, 43, 44, 45, 46] (by decide +kernel) (by decide +kernel)) (goodIn_sub (fun _ h => List.mem_cons_of_mem _ (List.mem_append_left _ (List.mem_append_right _ h))) (by decide +kernel))
set_option maxRecDepth 20000 in
theorem gX2_cycles_X2_requireSchedule : GoodIn wsX2_cycles (wsV RX2 120 RX2 yX2_requireSchedule wsX2_requireSchedule) := goodIn_app (goodIn_of _ (by decide +kernel)) ggX2_cycles_X2_requireSchedule
set_option maxRecDepth 20000 in
theorem ggX2_cycles_X2_requireIterations : GoodIn wsX2_cycles wsX2_requireIterations := goodIn_ca (goodIn_r _ [14, 15, 16] (by decide +kernel) (by decide +kernel)) (goodIn_sub (fun _ h => List.mem_cons_of_mem _ (List.mem_append_right _ h)) (by decide +kernel))
set_option maxRecDepth 20000 in
theorem gX2_cycles_X2_requireIterations : GoodIn wsX2_cycles (va_wsS RX2 165 yX2_requireIterations wsX2_requireIterations) := goodIn_app (goodIn_of _ (by decide +kernel)) ggX2_cycles_X2_requireIterations
set_option maxRecDepth 20000 in
theorem ggX2_cycles_X1_greatestTime : GoodIn wsX2_cycles wsX1_greatestTime := goodIn_r _ [21, 22, 23, 24, 25, 26, 27, 28, 42, 43, 44, 45, 46, 32, 33, 34, 35, 36, 37, 38, 39, 40, 41] (by decide +kernel) (by decide +kernel)
set_option maxRecDepth 20000 in
theorem gX2_cycles_X1_greatestTime : GoodIn wsX2_cycles (wsV RX2 168 RX1 yX1_greatestTime wsX1_greatestTime) := goodIn_app (goodIn_of _ (by decide +kernel)) ggX2_cycles_X1_greatestTime
theorem dX2_cycles_0 : decode cX2_cycles 0 = .ok (.aload_n 0, 1) := by decide +kernel
theorem dX2_cycles_1 : decode cX2_cycles 1 = .ok (.invokevirtual 120, 3) := by decide +kernel
theorem dX2_cycles_4 : decode cX2_cycles 4 = .ok (.iload_n 1, 1) := by decide +kernel
theorem dX2_cycles_5 : decode cX2_cycles 5 = .ok (.invokestatic 165, 3) := by decide +kernel
theorem dX2_cycles_8 : decode cX2_cycles 8 = .ok (.aload_n 0, 1) := by decide +kernel
theorem dX2_cycles_9 : decode cX2_cycles 9 = .ok (.getfield 10, 3) := by decide +kernel
theorem dX2_cycles_12 : decode cX2_cycles 12 = .ok (.getfield 51, 3) := by decide +kernel
theorem dX2_cycles_15 : decode cX2_cycles 15 = .ok (.ifCond .ne 5, 3) := by decide +kernel
theorem dX2_cycles_18 : decode cX2_cycles 18 = .ok (.iconst 0, 1) := by decide +kernel
theorem dX2_cycles_19 : decode cX2_cycles 19 = .ok (.ireturn, 1) := by decide +kernel
theorem dX2_cycles_20 : decode cX2_cycles 20 = .ok (.aload_n 0, 1) := by decide +kernel
theorem dX2_cycles_21 : decode cX2_cycles 21 = .ok (.getfield 21, 3) := by decide +kernel
theorem dX2_cycles_24 : decode cX2_cycles 24 = .ok (.invokevirtual 168, 3) := by decide +kernel
theorem dX2_cycles_27 : decode cX2_cycles 27 = .ok (.iload_n 1, 1) := by decide +kernel
theorem dX2_cycles_28 : decode cX2_cycles 28 = .ok (.iconst 1, 1) := by decide +kernel
theorem dX2_cycles_29 : decode cX2_cycles 29 = .ok (.isub, 1) := by decide +kernel
theorem dX2_cycles_30 : decode cX2_cycles 30 = .ok (.aload_n 0, 1) := by decide +kernel
theorem dX2_cycles_31 : decode cX2_cycles 31 = .ok (.getfield 21, 3) := by decide +kernel
theorem dX2_cycles_34 : decode cX2_cycles 34 = .ok (.getfield 117, 3) := by decide +kernel
theorem dX2_cycles_37 : decode cX2_cycles 37 = .ok (.imul, 1) := by decide +kernel
theorem dX2_cycles_38 : decode cX2_cycles 38 = .ok (.iadd, 1) := by decide +kernel
theorem dX2_cycles_39 : decode cX2_cycles 39 = .ok (.iconst 1, 1) := by decide +kernel
theorem dX2_cycles_40 : decode cX2_cycles 40 = .ok (.iadd, 1) := by decide +kernel
theorem dX2_cycles_41 : decode cX2_cycles 41 = .ok (.ireturn, 1) := by decide +kernel
set_option maxRecDepth 20000 in
theorem ggX2_issued_X2_requireSchedule : GoodIn wsX2_issued wsX2_requireSchedule := goodIn_ca (goodIn_r _ [7, 8, 9, 10, 11, 25, 26, 27, 38, 39, 40, 41, 42] (by decide +kernel) (by decide +kernel)) (goodIn_sub (fun _ h => List.mem_cons_of_mem _ (List.mem_append_left _ (List.mem_append_right _ h))) (by decide +kernel))
set_option maxRecDepth 20000 in
theorem gX2_issued_X2_requireSchedule : GoodIn wsX2_issued (wsV RX2 120 RX2 yX2_requireSchedule wsX2_requireSchedule) := goodIn_app (goodIn_of _ (by decide +kernel)) ggX2_issued_X2_requireSchedule
set_option maxRecDepth 20000 in
theorem ggX2_issued_X2_requireIterations : GoodIn wsX2_issued wsX2_requireIterations := goodIn_ca (goodIn_r _ [14, 15, 16] (by decide +kernel) (by decide +kernel)) (goodIn_sub (fun _ h => List.mem_cons_of_mem _ (List.mem_append_right _ h)) (by decide +kernel))
set_option maxRecDepth 20000 in
theorem gX2_issued_X2_requireIterations : GoodIn wsX2_issued (va_wsS RX2 165 yX2_requireIterations wsX2_requireIterations) := goodIn_app (goodIn_of _ (by decide +kernel)) ggX2_issued_X2_requireIterations
set_option maxRecDepth 20000 in
theorem ggX2_issued_X2_requireCycle : GoodIn wsX2_issued wsX2_requireCycle := goodIn_ca (goodIn_r _ [19, 15, 16] (by decide +kernel) (by decide +kernel)) (goodIn_sub (fun _ h => List.mem_cons_of_mem _ (List.mem_append_right _ h)) (by decide +kernel))
set_option maxRecDepth 20000 in
theorem gX2_issued_X2_requireCycle : GoodIn wsX2_issued (va_wsS RX2 171 yX2_requireCycle wsX2_requireCycle) := goodIn_app (goodIn_of _ (by decide +kernel)) ggX2_issued_X2_requireCycle
set_option maxRecDepth 20000 in
theorem ggX2_issued_X2_isIssued : GoodIn wsX2_issued wsX2_isIssued := goodIn_r _ [23, 10, 24, 11, 25, 26, 27, 38, 39, 40, 41, 42] (by decide +kernel) (by decide +kernel)
set_option maxRecDepth 20000 in
theorem gX2_issued_X2_isIssued : GoodIn wsX2_issued (wsV RX2 174 RX2 yX2_isIssued wsX2_isIssued) := goodIn_app (goodIn_of _ (by decide +kernel)) ggX2_issued_X2_isIssued
theorem dX2_issued_0 : decode cX2_issued 0 = .ok (.aload_n 0, 1) := by decide +kernel
theorem dX2_issued_1 : decode cX2_issued 1 = .ok (.invokevirtual 120, 3) := by decide +kernel
theorem dX2_issued_4 : decode cX2_issued 4 = .ok (.iload_n 1, 1) := by decide +kernel
theorem dX2_issued_5 : decode cX2_issued 5 = .ok (.invokestatic 165, 3) := by decide +kernel
theorem dX2_issued_8 : decode cX2_issued 8 = .ok (.iload_n 2, 1) := by decide +kernel
theorem dX2_issued_9 : decode cX2_issued 9 = .ok (.invokestatic 171, 3) := by decide +kernel
theorem dX2_issued_12 : decode cX2_issued 12 = .ok (.iconst 0, 1) := by decide +kernel
theorem dX2_issued_13 : decode cX2_issued 13 = .ok (.istore_n 3, 1) := by decide +kernel
theorem dX2_issued_14 : decode cX2_issued 14 = .ok (.iconst 0, 1) := by decide +kernel
theorem dX2_issued_15 : decode cX2_issued 15 = .ok (.istore 4, 2) := by decide +kernel
theorem dX2_issued_17 : decode cX2_issued 17 = .ok (.iload 4, 2) := by decide +kernel
theorem dX2_issued_19 : decode cX2_issued 19 = .ok (.aload_n 0, 1) := by decide +kernel
theorem dX2_issued_20 : decode cX2_issued 20 = .ok (.getfield 10, 3) := by decide +kernel
theorem dX2_issued_23 : decode cX2_issued 23 = .ok (.getfield 51, 3) := by decide +kernel
theorem dX2_issued_26 : decode cX2_issued 26 = .ok (.if_icmp .ge 23, 3) := by decide +kernel
theorem dX2_issued_29 : decode cX2_issued 29 = .ok (.aload_n 0, 1) := by decide +kernel
theorem dX2_issued_30 : decode cX2_issued 30 = .ok (.iload 4, 2) := by decide +kernel
theorem dX2_issued_32 : decode cX2_issued 32 = .ok (.iload_n 1, 1) := by decide +kernel
theorem dX2_issued_33 : decode cX2_issued 33 = .ok (.iload_n 2, 1) := by decide +kernel
theorem dX2_issued_34 : decode cX2_issued 34 = .ok (.invokevirtual 174, 3) := by decide +kernel
theorem dX2_issued_37 : decode cX2_issued 37 = .ok (.ifCond .eq 6, 3) := by decide +kernel
theorem dX2_issued_40 : decode cX2_issued 40 = .ok (.iinc 3 1, 3) := by decide +kernel
theorem dX2_issued_43 : decode cX2_issued 43 = .ok (.iinc 4 1, 3) := by decide +kernel
theorem dX2_issued_46 : decode cX2_issued 46 = .ok (.goto (-29), 3) := by decide +kernel
theorem dX2_issued_49 : decode cX2_issued 49 = .ok (.iload_n 3, 1) := by decide +kernel
theorem dX2_issued_50 : decode cX2_issued 50 = .ok (.ireturn, 1) := by decide +kernel
set_option maxRecDepth 20000 in
theorem ggX2_issue_X2_requireSchedule : GoodIn wsX2_issue wsX2_requireSchedule := goodIn_ca (goodIn_r _ [9, 10, 11, 12, 13, 35, 36, 37, 48, 49, 50, 51, 52] (by decide +kernel) (by decide +kernel)) (goodIn_sub (fun _ h => List.mem_cons_of_mem _ (List.mem_append_left _ (List.mem_append_right _ h))) (by decide +kernel))
set_option maxRecDepth 20000 in
theorem gX2_issue_X2_requireSchedule : GoodIn wsX2_issue (wsV RX2 120 RX2 yX2_requireSchedule wsX2_requireSchedule) := goodIn_app (goodIn_of _ (by decide +kernel)) ggX2_issue_X2_requireSchedule
set_option maxRecDepth 20000 in
theorem ggX2_issue_X2_requireIterations : GoodIn wsX2_issue wsX2_requireIterations := goodIn_ca (goodIn_r _ [16, 17, 18] (by decide +kernel) (by decide +kernel)) (goodIn_sub (fun _ h => List.mem_cons_of_mem _ (List.mem_append_right _ h)) (by decide +kernel))
set_option maxRecDepth 20000 in
theorem gX2_issue_X2_requireIterations : GoodIn wsX2_issue (va_wsS RX2 165 yX2_requireIterations wsX2_requireIterations) := goodIn_app (goodIn_of _ (by decide +kernel)) ggX2_issue_X2_requireIterations
set_option maxRecDepth 20000 in
theorem ggX2_issue_X2_requireCycle : GoodIn wsX2_issue wsX2_requireCycle := goodIn_ca (goodIn_r _ [21, 17, 18] (by decide +kernel) (by decide +kernel)) (goodIn_sub (fun _ h => List.mem_cons_of_mem _ (List.mem_append_right _ h)) (by decide +kernel))
set_option maxRecDepth 20000 in
theorem gX2_issue_X2_requireCycle : GoodIn wsX2_issue (va_wsS RX2 171 yX2_requireCycle wsX2_requireCycle) := goodIn_app (goodIn_of _ (by decide +kernel)) ggX2_issue_X2_requireCycle
set_option maxRecDepth 20000 in
theorem ggX2_issue_X2_isIssued : GoodIn wsX2_issue wsX2_isIssued := goodIn_r _ [25, 12, 26, 13, 35, 36, 37, 48, 49, 50, 51, 52] (by decide +kernel) (by decide +kernel)
set_option maxRecDepth 20000 in
theorem gX2_issue_X2_isIssued : GoodIn wsX2_issue (wsV RX2 174 RX2 yX2_isIssued wsX2_isIssued) := goodIn_app (goodIn_of _ (by decide +kernel)) ggX2_issue_X2_isIssued
set_option maxRecDepth 20000 in
theorem ggX2_issue_X2_countIssuedBefore : GoodIn wsX2_issue wsX2_countIssuedBefore := goodIn_r _ [30, 3, 4, 31, 32, 33, 8, 34, 12, 26, 13, 22, 23, 24, 25, 35, 36, 37, 38, 39, 40, 41, 42, 43, 44, 45, 46, 47, 48, 49, 50, 51, 52] (by decide +kernel) (by decide +kernel)
set_option maxRecDepth 20000 in
theorem gX2_issue_X2_countIssuedBefore : GoodIn wsX2_issue (wsV RX2 178 RX2 yX2_countIssuedBefore wsX2_countIssuedBefore) := goodIn_app (goodIn_of _ (by decide +kernel)) ggX2_issue_X2_countIssuedBefore
set_option maxRecDepth 20000 in
theorem ggX2_issue_X2_issueNumber : GoodIn wsX2_issue wsX2_issueNumber := goodIn_r _ [34, 12, 26, 13, 35, 36, 37, 48, 49, 50, 51, 52] (by decide +kernel) (by decide +kernel)
set_option maxRecDepth 20000 in
theorem gX2_issue_X2_issueNumber : GoodIn wsX2_issue (wsV RX2 182 RX2 yX2_issueNumber wsX2_issueNumber) := goodIn_app (goodIn_of _ (by decide +kernel)) ggX2_issue_X2_issueNumber
theorem dX2_issue_0 : decode cX2_issue 0 = .ok (.aload_n 0, 1) := by decide +kernel
theorem dX2_issue_1 : decode cX2_issue 1 = .ok (.invokevirtual 120, 3) := by decide +kernel
theorem dX2_issue_4 : decode cX2_issue 4 = .ok (.iload_n 1, 1) := by decide +kernel
theorem dX2_issue_5 : decode cX2_issue 5 = .ok (.invokestatic 165, 3) := by decide +kernel
theorem dX2_issue_8 : decode cX2_issue 8 = .ok (.iload_n 2, 1) := by decide +kernel
theorem dX2_issue_9 : decode cX2_issue 9 = .ok (.invokestatic 171, 3) := by decide +kernel
theorem dX2_issue_12 : decode cX2_issue 12 = .ok (.iconst 0, 1) := by decide +kernel
theorem dX2_issue_13 : decode cX2_issue 13 = .ok (.istore 4, 2) := by decide +kernel
theorem dX2_issue_15 : decode cX2_issue 15 = .ok (.iload 4, 2) := by decide +kernel
theorem dX2_issue_17 : decode cX2_issue 17 = .ok (.aload_n 0, 1) := by decide +kernel
theorem dX2_issue_18 : decode cX2_issue 18 = .ok (.getfield 10, 3) := by decide +kernel
theorem dX2_issue_21 : decode cX2_issue 21 = .ok (.getfield 51, 3) := by decide +kernel
theorem dX2_issue_24 : decode cX2_issue 24 = .ok (.if_icmp .ge 40, 3) := by decide +kernel
theorem dX2_issue_27 : decode cX2_issue 27 = .ok (.aload_n 0, 1) := by decide +kernel
theorem dX2_issue_28 : decode cX2_issue 28 = .ok (.iload 4, 2) := by decide +kernel
theorem dX2_issue_30 : decode cX2_issue 30 = .ok (.iload_n 1, 1) := by decide +kernel
theorem dX2_issue_31 : decode cX2_issue 31 = .ok (.iload_n 2, 1) := by decide +kernel
theorem dX2_issue_32 : decode cX2_issue 32 = .ok (.invokevirtual 174, 3) := by decide +kernel
theorem dX2_issue_35 : decode cX2_issue 35 = .ok (.ifCond .eq 23, 3) := by decide +kernel
theorem dX2_issue_38 : decode cX2_issue 38 = .ok (.aload_n 0, 1) := by decide +kernel
theorem dX2_issue_39 : decode cX2_issue 39 = .ok (.iload 4, 2) := by decide +kernel
theorem dX2_issue_41 : decode cX2_issue 41 = .ok (.iload_n 1, 1) := by decide +kernel
theorem dX2_issue_42 : decode cX2_issue 42 = .ok (.iload_n 2, 1) := by decide +kernel
theorem dX2_issue_43 : decode cX2_issue 43 = .ok (.invokevirtual 178, 3) := by decide +kernel
theorem dX2_issue_46 : decode cX2_issue 46 = .ok (.iload_n 3, 1) := by decide +kernel
theorem dX2_issue_47 : decode cX2_issue 47 = .ok (.if_icmp .ne 11, 3) := by decide +kernel
theorem dX2_issue_50 : decode cX2_issue 50 = .ok (.aload_n 0, 1) := by decide +kernel
theorem dX2_issue_51 : decode cX2_issue 51 = .ok (.iload 4, 2) := by decide +kernel
theorem dX2_issue_53 : decode cX2_issue 53 = .ok (.iload_n 2, 1) := by decide +kernel
theorem dX2_issue_54 : decode cX2_issue 54 = .ok (.invokevirtual 182, 3) := by decide +kernel
theorem dX2_issue_57 : decode cX2_issue 57 = .ok (.ireturn, 1) := by decide +kernel
theorem dX2_issue_58 : decode cX2_issue 58 = .ok (.iinc 4 1, 3) := by decide +kernel
theorem dX2_issue_61 : decode cX2_issue 61 = .ok (.goto (-46), 3) := by decide +kernel
theorem dX2_issue_64 : decode cX2_issue 64 = .ok (.new 81, 3) := by decide +kernel
theorem dX2_issue_67 : decode cX2_issue 67 = .ok (.dup, 1) := by decide +kernel
theorem dX2_issue_68 : decode cX2_issue 68 = .ok (.ldc 185, 2) := by decide +kernel
theorem dX2_issue_70 : decode cX2_issue 70 = .ok (.invokespecial 85, 3) := by decide +kernel
theorem dX2_issue_73 : decode cX2_issue 73 = .ok (.athrow, 1) := by decide +kernel
set_option maxRecDepth 20000 in
theorem ggX2_prologue_X2_requireSchedule : GoodIn wsX2_prologue wsX2_requireSchedule := goodIn_ca (goodIn_r _ [8, 9, 10, 1, 11, 33, 34, 35, 46, 47, 48, 49, 50] (by decide +kernel) (by decide +kernel)) (goodIn_sub (fun _ h => List.mem_cons_of_mem _ (List.mem_append_right _ h)) (by decide +kernel))
set_option maxRecDepth 20000 in
theorem gX2_prologue_X2_requireSchedule : GoodIn wsX2_prologue (wsV RX2 120 RX2 yX2_requireSchedule wsX2_requireSchedule) := goodIn_app (goodIn_of _ (by decide +kernel)) ggX2_prologue_X2_requireSchedule
set_option maxRecDepth 20000 in
theorem ggX2_prologue_X1_countStages : GoodIn wsX2_prologue wsX1_countStages := goodIn_r _ [16, 17, 18, 19, 20, 21, 22, 15, 23, 24, 25, 26, 27, 28, 46, 47, 48, 49, 50, 36, 37, 38, 39, 40, 41, 42, 43, 44, 45] (by decide +kernel) (by decide +kernel)
set_option maxRecDepth 20000 in
theorem gX2_prologue_X1_countStages : GoodIn wsX2_prologue (wsV RX2 136 RX1 yX1_countStages wsX1_countStages) := goodIn_app (goodIn_of _ (by decide +kernel)) ggX2_prologue_X1_countStages
set_option maxRecDepth 20000 in
theorem ggX2_prologue_X1_stageOf : GoodIn wsX2_prologue wsX1_stageOf := goodIn_r _ [32, 24, 19, 46, 47, 48, 49, 50] (by decide +kernel) (by decide +kernel)
set_option maxRecDepth 20000 in
theorem gX2_prologue_X1_stageOf : GoodIn wsX2_prologue (wsV RX2 187 RX1 yX1_stageOf wsX1_stageOf) := goodIn_app (goodIn_of _ (by decide +kernel)) ggX2_prologue_X1_stageOf
theorem dX2_prologue_0 : decode cX2_prologue 0 = .ok (.aload_n 0, 1) := by decide +kernel
theorem dX2_prologue_1 : decode cX2_prologue 1 = .ok (.invokevirtual 120, 3) := by decide +kernel
theorem dX2_prologue_4 : decode cX2_prologue 4 = .ok (.aload_n 0, 1) := by decide +kernel
theorem dX2_prologue_5 : decode cX2_prologue 5 = .ok (.getfield 21, 3) := by decide +kernel
theorem dX2_prologue_8 : decode cX2_prologue 8 = .ok (.invokevirtual 136, 3) := by decide +kernel
theorem dX2_prologue_11 : decode cX2_prologue 11 = .ok (.iconst 1, 1) := by decide +kernel
theorem dX2_prologue_12 : decode cX2_prologue 12 = .ok (.isub, 1) := by decide +kernel
theorem dX2_prologue_13 : decode cX2_prologue 13 = .ok (.istore_n 1, 1) := by decide +kernel
theorem dX2_prologue_14 : decode cX2_prologue 14 = .ok (.iconst 0, 1) := by decide +kernel
theorem dX2_prologue_15 : decode cX2_prologue 15 = .ok (.istore_n 2, 1) := by decide +kernel
theorem dX2_prologue_16 : decode cX2_prologue 16 = .ok (.iconst 0, 1) := by decide +kernel
theorem dX2_prologue_17 : decode cX2_prologue 17 = .ok (.istore_n 3, 1) := by decide +kernel
theorem dX2_prologue_18 : decode cX2_prologue 18 = .ok (.iload_n 3, 1) := by decide +kernel
theorem dX2_prologue_19 : decode cX2_prologue 19 = .ok (.aload_n 0, 1) := by decide +kernel
theorem dX2_prologue_20 : decode cX2_prologue 20 = .ok (.getfield 10, 3) := by decide +kernel
theorem dX2_prologue_23 : decode cX2_prologue 23 = .ok (.getfield 51, 3) := by decide +kernel
theorem dX2_prologue_26 : decode cX2_prologue 26 = .ok (.if_icmp .ge 22, 3) := by decide +kernel
theorem dX2_prologue_29 : decode cX2_prologue 29 = .ok (.iload_n 2, 1) := by decide +kernel
theorem dX2_prologue_30 : decode cX2_prologue 30 = .ok (.iload_n 1, 1) := by decide +kernel
theorem dX2_prologue_31 : decode cX2_prologue 31 = .ok (.aload_n 0, 1) := by decide +kernel
theorem dX2_prologue_32 : decode cX2_prologue 32 = .ok (.getfield 21, 3) := by decide +kernel
theorem dX2_prologue_35 : decode cX2_prologue 35 = .ok (.iload_n 3, 1) := by decide +kernel
theorem dX2_prologue_36 : decode cX2_prologue 36 = .ok (.invokevirtual 187, 3) := by decide +kernel
theorem dX2_prologue_39 : decode cX2_prologue 39 = .ok (.isub, 1) := by decide +kernel
theorem dX2_prologue_40 : decode cX2_prologue 40 = .ok (.iadd, 1) := by decide +kernel
theorem dX2_prologue_41 : decode cX2_prologue 41 = .ok (.istore_n 2, 1) := by decide +kernel
theorem dX2_prologue_42 : decode cX2_prologue 42 = .ok (.iinc 3 1, 3) := by decide +kernel
theorem dX2_prologue_45 : decode cX2_prologue 45 = .ok (.goto (-27), 3) := by decide +kernel
theorem dX2_prologue_48 : decode cX2_prologue 48 = .ok (.iload_n 2, 1) := by decide +kernel
theorem dX2_prologue_49 : decode cX2_prologue 49 = .ok (.ireturn, 1) := by decide +kernel
set_option maxRecDepth 20000 in
theorem ggX2_epilogue_X2_requireSchedule : GoodIn wsX2_epilogue wsX2_requireSchedule := goodIn_ca (goodIn_r _ [8, 9, 10, 3, 11, 19, 20, 21, 32, 33, 34, 35, 36] (by decide +kernel) (by decide +kernel)) (goodIn_sub (fun _ h => List.mem_cons_of_mem _ (List.mem_append_right _ h)) (by decide +kernel))
set_option maxRecDepth 20000 in
theorem gX2_epilogue_X2_requireSchedule : GoodIn wsX2_epilogue (wsV RX2 120 RX2 yX2_requireSchedule wsX2_requireSchedule) := goodIn_app (goodIn_of _ (by decide +kernel)) ggX2_epilogue_X2_requireSchedule
set_option maxRecDepth 20000 in
theorem ggX2_epilogue_X1_stageOf : GoodIn wsX2_epilogue wsX1_stageOf := goodIn_r _ [16, 17, 18, 32, 33, 34, 35, 36] (by decide +kernel) (by decide +kernel)
set_option maxRecDepth 20000 in
theorem gX2_epilogue_X1_stageOf : GoodIn wsX2_epilogue (wsV RX2 187 RX1 yX1_stageOf wsX1_stageOf) := goodIn_app (goodIn_of _ (by decide +kernel)) ggX2_epilogue_X1_stageOf
theorem dX2_epilogue_0 : decode cX2_epilogue 0 = .ok (.aload_n 0, 1) := by decide +kernel
theorem dX2_epilogue_1 : decode cX2_epilogue 1 = .ok (.invokevirtual 120, 3) := by decide +kernel
theorem dX2_epilogue_4 : decode cX2_epilogue 4 = .ok (.iconst 0, 1) := by decide +kernel
theorem dX2_epilogue_5 : decode cX2_epilogue 5 = .ok (.istore_n 1, 1) := by decide +kernel
theorem dX2_epilogue_6 : decode cX2_epilogue 6 = .ok (.iconst 0, 1) := by decide +kernel
theorem dX2_epilogue_7 : decode cX2_epilogue 7 = .ok (.istore_n 2, 1) := by decide +kernel
theorem dX2_epilogue_8 : decode cX2_epilogue 8 = .ok (.iload_n 2, 1) := by decide +kernel
theorem dX2_epilogue_9 : decode cX2_epilogue 9 = .ok (.aload_n 0, 1) := by decide +kernel
theorem dX2_epilogue_10 : decode cX2_epilogue 10 = .ok (.getfield 10, 3) := by decide +kernel
theorem dX2_epilogue_13 : decode cX2_epilogue 13 = .ok (.getfield 51, 3) := by decide +kernel
theorem dX2_epilogue_16 : decode cX2_epilogue 16 = .ok (.if_icmp .ge 20, 3) := by decide +kernel
theorem dX2_epilogue_19 : decode cX2_epilogue 19 = .ok (.iload_n 1, 1) := by decide +kernel
theorem dX2_epilogue_20 : decode cX2_epilogue 20 = .ok (.aload_n 0, 1) := by decide +kernel
theorem dX2_epilogue_21 : decode cX2_epilogue 21 = .ok (.getfield 21, 3) := by decide +kernel
theorem dX2_epilogue_24 : decode cX2_epilogue 24 = .ok (.iload_n 2, 1) := by decide +kernel
theorem dX2_epilogue_25 : decode cX2_epilogue 25 = .ok (.invokevirtual 187, 3) := by decide +kernel
theorem dX2_epilogue_28 : decode cX2_epilogue 28 = .ok (.iadd, 1) := by decide +kernel
theorem dX2_epilogue_29 : decode cX2_epilogue 29 = .ok (.istore_n 1, 1) := by decide +kernel
theorem dX2_epilogue_30 : decode cX2_epilogue 30 = .ok (.iinc 2 1, 3) := by decide +kernel
theorem dX2_epilogue_33 : decode cX2_epilogue 33 = .ok (.goto (-25), 3) := by decide +kernel
theorem dX2_epilogue_36 : decode cX2_epilogue 36 = .ok (.iload_n 1, 1) := by decide +kernel
theorem dX2_epilogue_37 : decode cX2_epilogue 37 = .ok (.ireturn, 1) := by decide +kernel
set_option maxRecDepth 20000 in
theorem ggX2_digest_X2_digestWith : GoodIn wsX2_digest wsX2_digestWith := goodIn_r _ [18, 19] (by decide +kernel) (by decide +kernel)
set_option maxRecDepth 20000 in
theorem gX2_digest_X2_digestWith : GoodIn wsX2_digest (va_wsS RX2 192 yX2_digestWith wsX2_digestWith) := goodIn_app (goodIn_of _ (by decide +kernel)) ggX2_digest_X2_digestWith
theorem dX2_digest_0 : decode cX2_digest 0 = .ok (.ldc2_w 190, 3) := by decide +kernel
theorem dX2_digest_3 : decode cX2_digest 3 = .ok (.lstore_n 1, 1) := by decide +kernel
theorem dX2_digest_4 : decode cX2_digest 4 = .ok (.iconst 0, 1) := by decide +kernel
theorem dX2_digest_5 : decode cX2_digest 5 = .ok (.istore_n 3, 1) := by decide +kernel
theorem dX2_digest_6 : decode cX2_digest 6 = .ok (.iload_n 3, 1) := by decide +kernel
theorem dX2_digest_7 : decode cX2_digest 7 = .ok (.iconst 3, 1) := by decide +kernel
theorem dX2_digest_8 : decode cX2_digest 8 = .ok (.if_icmp .ge 23, 3) := by decide +kernel
theorem dX2_digest_11 : decode cX2_digest 11 = .ok (.lload_n 1, 1) := by decide +kernel
theorem dX2_digest_12 : decode cX2_digest 12 = .ok (.aload_n 0, 1) := by decide +kernel
theorem dX2_digest_13 : decode cX2_digest 13 = .ok (.getfield 10, 3) := by decide +kernel
theorem dX2_digest_16 : decode cX2_digest 16 = .ok (.getfield 36, 3) := by decide +kernel
theorem dX2_digest_19 : decode cX2_digest 19 = .ok (.iload_n 3, 1) := by decide +kernel
theorem dX2_digest_20 : decode cX2_digest 20 = .ok (.iaload, 1) := by decide +kernel
theorem dX2_digest_21 : decode cX2_digest 21 = .ok (.invokestatic 192, 3) := by decide +kernel
theorem dX2_digest_24 : decode cX2_digest 24 = .ok (.lstore_n 1, 1) := by decide +kernel
theorem dX2_digest_25 : decode cX2_digest 25 = .ok (.iinc 3 1, 3) := by decide +kernel
theorem dX2_digest_28 : decode cX2_digest 28 = .ok (.goto (-22), 3) := by decide +kernel
theorem dX2_digest_31 : decode cX2_digest 31 = .ok (.lload_n 1, 1) := by decide +kernel
theorem dX2_digest_32 : decode cX2_digest 32 = .ok (.aload_n 0, 1) := by decide +kernel
theorem dX2_digest_33 : decode cX2_digest 33 = .ok (.getfield 10, 3) := by decide +kernel
theorem dX2_digest_36 : decode cX2_digest 36 = .ok (.getfield 51, 3) := by decide +kernel
theorem dX2_digest_39 : decode cX2_digest 39 = .ok (.invokestatic 192, 3) := by decide +kernel
theorem dX2_digest_42 : decode cX2_digest 42 = .ok (.lstore_n 1, 1) := by decide +kernel
theorem dX2_digest_43 : decode cX2_digest 43 = .ok (.iconst 0, 1) := by decide +kernel
theorem dX2_digest_44 : decode cX2_digest 44 = .ok (.istore_n 3, 1) := by decide +kernel
theorem dX2_digest_45 : decode cX2_digest 45 = .ok (.iload_n 3, 1) := by decide +kernel
theorem dX2_digest_46 : decode cX2_digest 46 = .ok (.aload_n 0, 1) := by decide +kernel
theorem dX2_digest_47 : decode cX2_digest 47 = .ok (.getfield 10, 3) := by decide +kernel
theorem dX2_digest_50 : decode cX2_digest 50 = .ok (.getfield 51, 3) := by decide +kernel
theorem dX2_digest_53 : decode cX2_digest 53 = .ok (.if_icmp .ge 35, 3) := by decide +kernel
theorem dX2_digest_56 : decode cX2_digest 56 = .ok (.lload_n 1, 1) := by decide +kernel
theorem dX2_digest_57 : decode cX2_digest 57 = .ok (.aload_n 0, 1) := by decide +kernel
theorem dX2_digest_58 : decode cX2_digest 58 = .ok (.getfield 10, 3) := by decide +kernel
theorem dX2_digest_61 : decode cX2_digest 61 = .ok (.getfield 195, 3) := by decide +kernel
theorem dX2_digest_64 : decode cX2_digest 64 = .ok (.iload_n 3, 1) := by decide +kernel
theorem dX2_digest_65 : decode cX2_digest 65 = .ok (.iaload, 1) := by decide +kernel
theorem dX2_digest_66 : decode cX2_digest 66 = .ok (.invokestatic 192, 3) := by decide +kernel
theorem dX2_digest_69 : decode cX2_digest 69 = .ok (.aload_n 0, 1) := by decide +kernel
theorem dX2_digest_70 : decode cX2_digest 70 = .ok (.getfield 10, 3) := by decide +kernel
theorem dX2_digest_73 : decode cX2_digest 73 = .ok (.getfield 198, 3) := by decide +kernel
theorem dX2_digest_76 : decode cX2_digest 76 = .ok (.iload_n 3, 1) := by decide +kernel
theorem dX2_digest_77 : decode cX2_digest 77 = .ok (.iaload, 1) := by decide +kernel
theorem dX2_digest_78 : decode cX2_digest 78 = .ok (.invokestatic 192, 3) := by decide +kernel
theorem dX2_digest_81 : decode cX2_digest 81 = .ok (.lstore_n 1, 1) := by decide +kernel
theorem dX2_digest_82 : decode cX2_digest 82 = .ok (.iinc 3 1, 3) := by decide +kernel
theorem dX2_digest_85 : decode cX2_digest 85 = .ok (.goto (-40), 3) := by decide +kernel
theorem dX2_digest_88 : decode cX2_digest 88 = .ok (.lload_n 1, 1) := by decide +kernel
theorem dX2_digest_89 : decode cX2_digest 89 = .ok (.aload_n 0, 1) := by decide +kernel
theorem dX2_digest_90 : decode cX2_digest 90 = .ok (.getfield 10, 3) := by decide +kernel
theorem dX2_digest_93 : decode cX2_digest 93 = .ok (.getfield 72, 3) := by decide +kernel
theorem dX2_digest_96 : decode cX2_digest 96 = .ok (.invokestatic 192, 3) := by decide +kernel
theorem dX2_digest_99 : decode cX2_digest 99 = .ok (.lstore_n 1, 1) := by decide +kernel
theorem dX2_digest_100 : decode cX2_digest 100 = .ok (.iconst 0, 1) := by decide +kernel
theorem dX2_digest_101 : decode cX2_digest 101 = .ok (.istore_n 3, 1) := by decide +kernel
theorem dX2_digest_102 : decode cX2_digest 102 = .ok (.iload_n 3, 1) := by decide +kernel
theorem dX2_digest_103 : decode cX2_digest 103 = .ok (.aload_n 0, 1) := by decide +kernel
theorem dX2_digest_104 : decode cX2_digest 104 = .ok (.getfield 10, 3) := by decide +kernel
theorem dX2_digest_107 : decode cX2_digest 107 = .ok (.getfield 72, 3) := by decide +kernel
theorem dX2_digest_110 : decode cX2_digest 110 = .ok (.if_icmp .ge 61, 3) := by decide +kernel
theorem dX2_digest_113 : decode cX2_digest 113 = .ok (.lload_n 1, 1) := by decide +kernel
theorem dX2_digest_114 : decode cX2_digest 114 = .ok (.aload_n 0, 1) := by decide +kernel
theorem dX2_digest_115 : decode cX2_digest 115 = .ok (.getfield 10, 3) := by decide +kernel
theorem dX2_digest_118 : decode cX2_digest 118 = .ok (.getfield 201, 3) := by decide +kernel
theorem dX2_digest_121 : decode cX2_digest 121 = .ok (.iload_n 3, 1) := by decide +kernel
theorem dX2_digest_122 : decode cX2_digest 122 = .ok (.iaload, 1) := by decide +kernel
theorem dX2_digest_123 : decode cX2_digest 123 = .ok (.invokestatic 192, 3) := by decide +kernel
theorem dX2_digest_126 : decode cX2_digest 126 = .ok (.aload_n 0, 1) := by decide +kernel
theorem dX2_digest_127 : decode cX2_digest 127 = .ok (.getfield 10, 3) := by decide +kernel
theorem dX2_digest_130 : decode cX2_digest 130 = .ok (.getfield 204, 3) := by decide +kernel
theorem dX2_digest_133 : decode cX2_digest 133 = .ok (.iload_n 3, 1) := by decide +kernel
theorem dX2_digest_134 : decode cX2_digest 134 = .ok (.iaload, 1) := by decide +kernel
theorem dX2_digest_135 : decode cX2_digest 135 = .ok (.invokestatic 192, 3) := by decide +kernel
theorem dX2_digest_138 : decode cX2_digest 138 = .ok (.lstore_n 1, 1) := by decide +kernel
theorem dX2_digest_139 : decode cX2_digest 139 = .ok (.lload_n 1, 1) := by decide +kernel
theorem dX2_digest_140 : decode cX2_digest 140 = .ok (.aload_n 0, 1) := by decide +kernel
theorem dX2_digest_141 : decode cX2_digest 141 = .ok (.getfield 10, 3) := by decide +kernel
theorem dX2_digest_144 : decode cX2_digest 144 = .ok (.getfield 86, 3) := by decide +kernel
theorem dX2_digest_147 : decode cX2_digest 147 = .ok (.iload_n 3, 1) := by decide +kernel
theorem dX2_digest_148 : decode cX2_digest 148 = .ok (.iaload, 1) := by decide +kernel
theorem dX2_digest_149 : decode cX2_digest 149 = .ok (.invokestatic 192, 3) := by decide +kernel
theorem dX2_digest_152 : decode cX2_digest 152 = .ok (.aload_n 0, 1) := by decide +kernel
theorem dX2_digest_153 : decode cX2_digest 153 = .ok (.getfield 10, 3) := by decide +kernel
theorem dX2_digest_156 : decode cX2_digest 156 = .ok (.getfield 207, 3) := by decide +kernel
theorem dX2_digest_159 : decode cX2_digest 159 = .ok (.iload_n 3, 1) := by decide +kernel
theorem dX2_digest_160 : decode cX2_digest 160 = .ok (.iaload, 1) := by decide +kernel
theorem dX2_digest_161 : decode cX2_digest 161 = .ok (.invokestatic 192, 3) := by decide +kernel
theorem dX2_digest_164 : decode cX2_digest 164 = .ok (.lstore_n 1, 1) := by decide +kernel
theorem dX2_digest_165 : decode cX2_digest 165 = .ok (.iinc 3 1, 3) := by decide +kernel
theorem dX2_digest_168 : decode cX2_digest 168 = .ok (.goto (-66), 3) := by decide +kernel
theorem dX2_digest_171 : decode cX2_digest 171 = .ok (.lload_n 1, 1) := by decide +kernel
theorem dX2_digest_172 : decode cX2_digest 172 = .ok (.aload_n 0, 1) := by decide +kernel
theorem dX2_digest_173 : decode cX2_digest 173 = .ok (.getfield 21, 3) := by decide +kernel
theorem dX2_digest_176 : decode cX2_digest 176 = .ok (.getfield 117, 3) := by decide +kernel
theorem dX2_digest_179 : decode cX2_digest 179 = .ok (.invokestatic 192, 3) := by decide +kernel
theorem dX2_digest_182 : decode cX2_digest 182 = .ok (.lstore_n 1, 1) := by decide +kernel
theorem dX2_digest_183 : decode cX2_digest 183 = .ok (.aload_n 0, 1) := by decide +kernel
theorem dX2_digest_184 : decode cX2_digest 184 = .ok (.getfield 21, 3) := by decide +kernel
theorem dX2_digest_187 : decode cX2_digest 187 = .ok (.getfield 117, 3) := by decide +kernel
theorem dX2_digest_190 : decode cX2_digest 190 = .ok (.ifCond .le 36, 3) := by decide +kernel
theorem dX2_digest_193 : decode cX2_digest 193 = .ok (.iconst 0, 1) := by decide +kernel
theorem dX2_digest_194 : decode cX2_digest 194 = .ok (.istore_n 3, 1) := by decide +kernel
theorem dX2_digest_195 : decode cX2_digest 195 = .ok (.iload_n 3, 1) := by decide +kernel
theorem dX2_digest_196 : decode cX2_digest 196 = .ok (.aload_n 0, 1) := by decide +kernel
theorem dX2_digest_197 : decode cX2_digest 197 = .ok (.getfield 10, 3) := by decide +kernel
theorem dX2_digest_200 : decode cX2_digest 200 = .ok (.getfield 51, 3) := by decide +kernel
theorem dX2_digest_203 : decode cX2_digest 203 = .ok (.if_icmp .ge 23, 3) := by decide +kernel
theorem dX2_digest_206 : decode cX2_digest 206 = .ok (.lload_n 1, 1) := by decide +kernel
theorem dX2_digest_207 : decode cX2_digest 207 = .ok (.aload_n 0, 1) := by decide +kernel
theorem dX2_digest_208 : decode cX2_digest 208 = .ok (.getfield 21, 3) := by decide +kernel
theorem dX2_digest_211 : decode cX2_digest 211 = .ok (.getfield 123, 3) := by decide +kernel
theorem dX2_digest_214 : decode cX2_digest 214 = .ok (.iload_n 3, 1) := by decide +kernel
theorem dX2_digest_215 : decode cX2_digest 215 = .ok (.iaload, 1) := by decide +kernel
theorem dX2_digest_216 : decode cX2_digest 216 = .ok (.invokestatic 192, 3) := by decide +kernel
theorem dX2_digest_219 : decode cX2_digest 219 = .ok (.lstore_n 1, 1) := by decide +kernel
theorem dX2_digest_220 : decode cX2_digest 220 = .ok (.iinc 3 1, 3) := by decide +kernel
theorem dX2_digest_223 : decode cX2_digest 223 = .ok (.goto (-28), 3) := by decide +kernel
theorem dX2_digest_226 : decode cX2_digest 226 = .ok (.lload_n 1, 1) := by decide +kernel
theorem dX2_digest_227 : decode cX2_digest 227 = .ok (.lreturn, 1) := by decide +kernel
theorem dX2_digestWith_0 : decode cX2_digestWith 0 = .ok (.lload_n 0, 1) := by decide +kernel
theorem dX2_digestWith_1 : decode cX2_digestWith 1 = .ok (.ldc2_w 210, 3) := by decide +kernel
theorem dX2_digestWith_4 : decode cX2_digestWith 4 = .ok (.lmul, 1) := by decide +kernel
theorem dX2_digestWith_5 : decode cX2_digestWith 5 = .ok (.iload_n 2, 1) := by decide +kernel
theorem dX2_digestWith_6 : decode cX2_digestWith 6 = .ok (.i2l, 1) := by decide +kernel
theorem dX2_digestWith_7 : decode cX2_digestWith 7 = .ok (.ladd, 1) := by decide +kernel
theorem dX2_digestWith_8 : decode cX2_digestWith 8 = .ok (.lreturn, 1) := by decide +kernel
theorem dX2_isIssued_0 : decode cX2_isIssued 0 = .ok (.iload_n 3, 1) := by decide +kernel
theorem dX2_isIssued_1 : decode cX2_isIssued 1 = .ok (.aload_n 0, 1) := by decide +kernel
theorem dX2_isIssued_2 : decode cX2_isIssued 2 = .ok (.getfield 21, 3) := by decide +kernel
theorem dX2_isIssued_5 : decode cX2_isIssued 5 = .ok (.getfield 123, 3) := by decide +kernel
theorem dX2_isIssued_8 : decode cX2_isIssued 8 = .ok (.iload_n 1, 1) := by decide +kernel
theorem dX2_isIssued_9 : decode cX2_isIssued 9 = .ok (.iaload, 1) := by decide +kernel
theorem dX2_isIssued_10 : decode cX2_isIssued 10 = .ok (.isub, 1) := by decide +kernel
theorem dX2_isIssued_11 : decode cX2_isIssued 11 = .ok (.istore 4, 2) := by decide +kernel
theorem dX2_isIssued_13 : decode cX2_isIssued 13 = .ok (.iload 4, 2) := by decide +kernel
theorem dX2_isIssued_15 : decode cX2_isIssued 15 = .ok (.ifCond .lt 34, 3) := by decide +kernel
theorem dX2_isIssued_18 : decode cX2_isIssued 18 = .ok (.iload 4, 2) := by decide +kernel
theorem dX2_isIssued_20 : decode cX2_isIssued 20 = .ok (.aload_n 0, 1) := by decide +kernel
theorem dX2_isIssued_21 : decode cX2_isIssued 21 = .ok (.getfield 21, 3) := by decide +kernel
theorem dX2_isIssued_24 : decode cX2_isIssued 24 = .ok (.getfield 117, 3) := by decide +kernel
theorem dX2_isIssued_27 : decode cX2_isIssued 27 = .ok (.irem, 1) := by decide +kernel
theorem dX2_isIssued_28 : decode cX2_isIssued 28 = .ok (.ifCond .ne 21, 3) := by decide +kernel
theorem dX2_isIssued_31 : decode cX2_isIssued 31 = .ok (.iload 4, 2) := by decide +kernel
theorem dX2_isIssued_33 : decode cX2_isIssued 33 = .ok (.aload_n 0, 1) := by decide +kernel
theorem dX2_isIssued_34 : decode cX2_isIssued 34 = .ok (.getfield 21, 3) := by decide +kernel
theorem dX2_isIssued_37 : decode cX2_isIssued 37 = .ok (.getfield 117, 3) := by decide +kernel
theorem dX2_isIssued_40 : decode cX2_isIssued 40 = .ok (.idiv, 1) := by decide +kernel
theorem dX2_isIssued_41 : decode cX2_isIssued 41 = .ok (.iload_n 2, 1) := by decide +kernel
theorem dX2_isIssued_42 : decode cX2_isIssued 42 = .ok (.if_icmp .ge 7, 3) := by decide +kernel
theorem dX2_isIssued_45 : decode cX2_isIssued 45 = .ok (.iconst 1, 1) := by decide +kernel
theorem dX2_isIssued_46 : decode cX2_isIssued 46 = .ok (.goto 4, 3) := by decide +kernel
theorem dX2_isIssued_49 : decode cX2_isIssued 49 = .ok (.iconst 0, 1) := by decide +kernel
theorem dX2_isIssued_50 : decode cX2_isIssued 50 = .ok (.ireturn, 1) := by decide +kernel
theorem dX2_issueNumber_0 : decode cX2_issueNumber 0 = .ok (.iload_n 2, 1) := by decide +kernel
theorem dX2_issueNumber_1 : decode cX2_issueNumber 1 = .ok (.aload_n 0, 1) := by decide +kernel
theorem dX2_issueNumber_2 : decode cX2_issueNumber 2 = .ok (.getfield 21, 3) := by decide +kernel
theorem dX2_issueNumber_5 : decode cX2_issueNumber 5 = .ok (.getfield 123, 3) := by decide +kernel
theorem dX2_issueNumber_8 : decode cX2_issueNumber 8 = .ok (.iload_n 1, 1) := by decide +kernel
theorem dX2_issueNumber_9 : decode cX2_issueNumber 9 = .ok (.iaload, 1) := by decide +kernel
theorem dX2_issueNumber_10 : decode cX2_issueNumber 10 = .ok (.isub, 1) := by decide +kernel
theorem dX2_issueNumber_11 : decode cX2_issueNumber 11 = .ok (.aload_n 0, 1) := by decide +kernel
theorem dX2_issueNumber_12 : decode cX2_issueNumber 12 = .ok (.getfield 21, 3) := by decide +kernel
theorem dX2_issueNumber_15 : decode cX2_issueNumber 15 = .ok (.getfield 117, 3) := by decide +kernel
theorem dX2_issueNumber_18 : decode cX2_issueNumber 18 = .ok (.idiv, 1) := by decide +kernel
theorem dX2_issueNumber_19 : decode cX2_issueNumber 19 = .ok (.istore_n 3, 1) := by decide +kernel
theorem dX2_issueNumber_20 : decode cX2_issueNumber 20 = .ok (.bipush 14, 2) := by decide +kernel
theorem dX2_issueNumber_22 : decode cX2_issueNumber 22 = .ok (.iload_n 3, 1) := by decide +kernel
theorem dX2_issueNumber_23 : decode cX2_issueNumber 23 = .ok (.imul, 1) := by decide +kernel
theorem dX2_issueNumber_24 : decode cX2_issueNumber 24 = .ok (.iload_n 1, 1) := by decide +kernel
theorem dX2_issueNumber_25 : decode cX2_issueNumber 25 = .ok (.iadd, 1) := by decide +kernel
theorem dX2_issueNumber_26 : decode cX2_issueNumber 26 = .ok (.ireturn, 1) := by decide +kernel
set_option maxRecDepth 20000 in
theorem ggX2_countIssuedBefore_X2_issueNumber : GoodIn wsX2_countIssuedBefore wsX2_issueNumber := goodIn_r _ [7, 8, 9, 10, 15, 16, 17, 28, 29, 30, 31, 32] (by decide +kernel) (by decide +kernel)
set_option maxRecDepth 20000 in
theorem gX2_countIssuedBefore_X2_issueNumber : GoodIn wsX2_countIssuedBefore (wsV RX2 182 RX2 yX2_issueNumber wsX2_issueNumber) := goodIn_app (goodIn_of _ (by decide +kernel)) ggX2_countIssuedBefore_X2_issueNumber
set_option maxRecDepth 20000 in
theorem ggX2_countIssuedBefore_X2_isIssued : GoodIn wsX2_countIssuedBefore wsX2_isIssued := goodIn_r _ [14, 8, 9, 10, 15, 16, 17, 28, 29, 30, 31, 32] (by decide +kernel) (by decide +kernel)
set_option maxRecDepth 20000 in
theorem gX2_countIssuedBefore_X2_isIssued : GoodIn wsX2_countIssuedBefore (wsV RX2 174 RX2 yX2_isIssued wsX2_isIssued) := goodIn_app (goodIn_of _ (by decide +kernel)) ggX2_countIssuedBefore_X2_isIssued
theorem dX2_countIssuedBefore_0 : decode cX2_countIssuedBefore 0 = .ok (.aload_n 0, 1) := by decide +kernel
theorem dX2_countIssuedBefore_1 : decode cX2_countIssuedBefore 1 = .ok (.iload_n 1, 1) := by decide +kernel
theorem dX2_countIssuedBefore_2 : decode cX2_countIssuedBefore 2 = .ok (.iload_n 3, 1) := by decide +kernel
theorem dX2_countIssuedBefore_3 : decode cX2_countIssuedBefore 3 = .ok (.invokevirtual 182, 3) := by decide +kernel
theorem dX2_countIssuedBefore_6 : decode cX2_countIssuedBefore 6 = .ok (.istore 4, 2) := by decide +kernel
theorem dX2_countIssuedBefore_8 : decode cX2_countIssuedBefore 8 = .ok (.iconst 0, 1) := by decide +kernel
theorem dX2_countIssuedBefore_9 : decode cX2_countIssuedBefore 9 = .ok (.istore 5, 2) := by decide +kernel
theorem dX2_countIssuedBefore_11 : decode cX2_countIssuedBefore 11 = .ok (.iconst 0, 1) := by decide +kernel
theorem dX2_countIssuedBefore_12 : decode cX2_countIssuedBefore 12 = .ok (.istore 6, 2) := by decide +kernel
theorem dX2_countIssuedBefore_14 : decode cX2_countIssuedBefore 14 = .ok (.iload 6, 2) := by decide +kernel
theorem dX2_countIssuedBefore_16 : decode cX2_countIssuedBefore 16 = .ok (.aload_n 0, 1) := by decide +kernel
theorem dX2_countIssuedBefore_17 : decode cX2_countIssuedBefore 17 = .ok (.getfield 10, 3) := by decide +kernel
theorem dX2_countIssuedBefore_20 : decode cX2_countIssuedBefore 20 = .ok (.getfield 51, 3) := by decide +kernel
theorem dX2_countIssuedBefore_23 : decode cX2_countIssuedBefore 23 = .ok (.if_icmp .ge 35, 3) := by decide +kernel
theorem dX2_countIssuedBefore_26 : decode cX2_countIssuedBefore 26 = .ok (.aload_n 0, 1) := by decide +kernel
theorem dX2_countIssuedBefore_27 : decode cX2_countIssuedBefore 27 = .ok (.iload 6, 2) := by decide +kernel
theorem dX2_countIssuedBefore_29 : decode cX2_countIssuedBefore 29 = .ok (.iload_n 2, 1) := by decide +kernel
theorem dX2_countIssuedBefore_30 : decode cX2_countIssuedBefore 30 = .ok (.iload_n 3, 1) := by decide +kernel
theorem dX2_countIssuedBefore_31 : decode cX2_countIssuedBefore 31 = .ok (.invokevirtual 174, 3) := by decide +kernel
theorem dX2_countIssuedBefore_34 : decode cX2_countIssuedBefore 34 = .ok (.ifCond .eq 18, 3) := by decide +kernel
theorem dX2_countIssuedBefore_37 : decode cX2_countIssuedBefore 37 = .ok (.aload_n 0, 1) := by decide +kernel
theorem dX2_countIssuedBefore_38 : decode cX2_countIssuedBefore 38 = .ok (.iload 6, 2) := by decide +kernel
theorem dX2_countIssuedBefore_40 : decode cX2_countIssuedBefore 40 = .ok (.iload_n 3, 1) := by decide +kernel
theorem dX2_countIssuedBefore_41 : decode cX2_countIssuedBefore 41 = .ok (.invokevirtual 182, 3) := by decide +kernel
theorem dX2_countIssuedBefore_44 : decode cX2_countIssuedBefore 44 = .ok (.iload 4, 2) := by decide +kernel
theorem dX2_countIssuedBefore_46 : decode cX2_countIssuedBefore 46 = .ok (.if_icmp .ge 6, 3) := by decide +kernel
theorem dX2_countIssuedBefore_49 : decode cX2_countIssuedBefore 49 = .ok (.iinc 5 1, 3) := by decide +kernel
theorem dX2_countIssuedBefore_52 : decode cX2_countIssuedBefore 52 = .ok (.iinc 6 1, 3) := by decide +kernel
theorem dX2_countIssuedBefore_55 : decode cX2_countIssuedBefore 55 = .ok (.goto (-41), 3) := by decide +kernel
theorem dX2_countIssuedBefore_58 : decode cX2_countIssuedBefore 58 = .ok (.iload 5, 2) := by decide +kernel
theorem dX2_countIssuedBefore_60 : decode cX2_countIssuedBefore 60 = .ok (.ireturn, 1) := by decide +kernel
theorem dX2_leastCommonMultiple_0 : decode cX2_leastCommonMultiple 0 = .ok (.iconst 1, 1) := by decide +kernel
theorem dX2_leastCommonMultiple_1 : decode cX2_leastCommonMultiple 1 = .ok (.istore_n 3, 1) := by decide +kernel
theorem dX2_leastCommonMultiple_2 : decode cX2_leastCommonMultiple 2 = .ok (.iload_n 3, 1) := by decide +kernel
theorem dX2_leastCommonMultiple_3 : decode cX2_leastCommonMultiple 3 = .ok (.iload_n 2, 1) := by decide +kernel
theorem dX2_leastCommonMultiple_4 : decode cX2_leastCommonMultiple 4 = .ok (.if_icmp .ge 26, 3) := by decide +kernel
theorem dX2_leastCommonMultiple_7 : decode cX2_leastCommonMultiple 7 = .ok (.lload_n 0, 1) := by decide +kernel
theorem dX2_leastCommonMultiple_8 : decode cX2_leastCommonMultiple 8 = .ok (.iload_n 3, 1) := by decide +kernel
theorem dX2_leastCommonMultiple_9 : decode cX2_leastCommonMultiple 9 = .ok (.i2l, 1) := by decide +kernel
theorem dX2_leastCommonMultiple_10 : decode cX2_leastCommonMultiple 10 = .ok (.lmul, 1) := by decide +kernel
theorem dX2_leastCommonMultiple_11 : decode cX2_leastCommonMultiple 11 = .ok (.iload_n 2, 1) := by decide +kernel
theorem dX2_leastCommonMultiple_12 : decode cX2_leastCommonMultiple 12 = .ok (.i2l, 1) := by decide +kernel
theorem dX2_leastCommonMultiple_13 : decode cX2_leastCommonMultiple 13 = .ok (.lrem, 1) := by decide +kernel
theorem dX2_leastCommonMultiple_14 : decode cX2_leastCommonMultiple 14 = .ok (.lconst 0, 1) := by decide +kernel
theorem dX2_leastCommonMultiple_15 : decode cX2_leastCommonMultiple 15 = .ok (.lcmp, 1) := by decide +kernel
theorem dX2_leastCommonMultiple_16 : decode cX2_leastCommonMultiple 16 = .ok (.ifCond .ne 8, 3) := by decide +kernel
theorem dX2_leastCommonMultiple_19 : decode cX2_leastCommonMultiple 19 = .ok (.lload_n 0, 1) := by decide +kernel
theorem dX2_leastCommonMultiple_20 : decode cX2_leastCommonMultiple 20 = .ok (.iload_n 3, 1) := by decide +kernel
theorem dX2_leastCommonMultiple_21 : decode cX2_leastCommonMultiple 21 = .ok (.i2l, 1) := by decide +kernel
theorem dX2_leastCommonMultiple_22 : decode cX2_leastCommonMultiple 22 = .ok (.lmul, 1) := by decide +kernel
theorem dX2_leastCommonMultiple_23 : decode cX2_leastCommonMultiple 23 = .ok (.lreturn, 1) := by decide +kernel
theorem dX2_leastCommonMultiple_24 : decode cX2_leastCommonMultiple 24 = .ok (.iinc 3 1, 3) := by decide +kernel
theorem dX2_leastCommonMultiple_27 : decode cX2_leastCommonMultiple 27 = .ok (.goto (-25), 3) := by decide +kernel
theorem dX2_leastCommonMultiple_30 : decode cX2_leastCommonMultiple 30 = .ok (.lload_n 0, 1) := by decide +kernel
theorem dX2_leastCommonMultiple_31 : decode cX2_leastCommonMultiple 31 = .ok (.iload_n 2, 1) := by decide +kernel
theorem dX2_leastCommonMultiple_32 : decode cX2_leastCommonMultiple 32 = .ok (.i2l, 1) := by decide +kernel
theorem dX2_leastCommonMultiple_33 : decode cX2_leastCommonMultiple 33 = .ok (.lmul, 1) := by decide +kernel
theorem dX2_leastCommonMultiple_34 : decode cX2_leastCommonMultiple 34 = .ok (.lreturn, 1) := by decide +kernel
theorem dX2_isKind_0 : decode cX2_isKind 0 = .ok (.iload_n 0, 1) := by decide +kernel
theorem dX2_isKind_1 : decode cX2_isKind 1 = .ok (.ifCond .lt 12, 3) := by decide +kernel
theorem dX2_isKind_4 : decode cX2_isKind 4 = .ok (.iload_n 0, 1) := by decide +kernel
theorem dX2_isKind_5 : decode cX2_isKind 5 = .ok (.iconst 3, 1) := by decide +kernel
theorem dX2_isKind_6 : decode cX2_isKind 6 = .ok (.if_icmp .ge 7, 3) := by decide +kernel
theorem dX2_isKind_9 : decode cX2_isKind 9 = .ok (.iconst 1, 1) := by decide +kernel
theorem dX2_isKind_10 : decode cX2_isKind 10 = .ok (.goto 4, 3) := by decide +kernel
theorem dX2_isKind_13 : decode cX2_isKind 13 = .ok (.iconst 0, 1) := by decide +kernel
theorem dX2_isKind_14 : decode cX2_isKind 14 = .ok (.ireturn, 1) := by decide +kernel
set_option maxRecDepth 20000 in
theorem ggX2_requireKind_X2_isKind : GoodIn wsX2_requireKind wsX2_isKind := goodIn_r _ [6] (by decide +kernel) (by decide +kernel)
set_option maxRecDepth 20000 in
theorem gX2_requireKind_X2_isKind : GoodIn wsX2_requireKind (va_wsS RX2 43 yX2_isKind wsX2_isKind) := goodIn_app (goodIn_of _ (by decide +kernel)) ggX2_requireKind_X2_isKind
theorem dX2_requireKind_0 : decode cX2_requireKind 0 = .ok (.iload_n 0, 1) := by decide +kernel
theorem dX2_requireKind_1 : decode cX2_requireKind 1 = .ok (.invokestatic 43, 3) := by decide +kernel
theorem dX2_requireKind_4 : decode cX2_requireKind 4 = .ok (.ifCond .ne 13, 3) := by decide +kernel
theorem dX2_requireKind_7 : decode cX2_requireKind 7 = .ok (.new 81, 3) := by decide +kernel
theorem dX2_requireKind_10 : decode cX2_requireKind 10 = .ok (.dup, 1) := by decide +kernel
theorem dX2_requireKind_11 : decode cX2_requireKind 11 = .ok (.ldc 47, 2) := by decide +kernel
theorem dX2_requireKind_13 : decode cX2_requireKind 13 = .ok (.invokespecial 85, 3) := by decide +kernel
theorem dX2_requireKind_16 : decode cX2_requireKind 16 = .ok (.athrow, 1) := by decide +kernel
theorem dX2_requireKind_17 : decode cX2_requireKind 17 = .ok (.return_, 1) := by decide +kernel
theorem dX2_requireDelay_0 : decode cX2_requireDelay 0 = .ok (.iload_n 0, 1) := by decide +kernel
theorem dX2_requireDelay_1 : decode cX2_requireDelay 1 = .ok (.ifCond .lt 9, 3) := by decide +kernel
theorem dX2_requireDelay_4 : decode cX2_requireDelay 4 = .ok (.iload_n 0, 1) := by decide +kernel
theorem dX2_requireDelay_5 : decode cX2_requireDelay 5 = .ok (.bipush 12, 2) := by decide +kernel
theorem dX2_requireDelay_7 : decode cX2_requireDelay 7 = .ok (.if_icmp .le 13, 3) := by decide +kernel
theorem dX2_requireDelay_10 : decode cX2_requireDelay 10 = .ok (.new 29, 3) := by decide +kernel
theorem dX2_requireDelay_13 : decode cX2_requireDelay 13 = .ok (.dup, 1) := by decide +kernel
theorem dX2_requireDelay_14 : decode cX2_requireDelay 14 = .ok (.ldc 212, 2) := by decide +kernel
theorem dX2_requireDelay_16 : decode cX2_requireDelay 16 = .ok (.invokespecial 33, 3) := by decide +kernel
theorem dX2_requireDelay_19 : decode cX2_requireDelay 19 = .ok (.athrow, 1) := by decide +kernel
theorem dX2_requireDelay_20 : decode cX2_requireDelay 20 = .ok (.return_, 1) := by decide +kernel
theorem dX2_requireIterations_0 : decode cX2_requireIterations 0 = .ok (.iload_n 0, 1) := by decide +kernel
theorem dX2_requireIterations_1 : decode cX2_requireIterations 1 = .ok (.iconst 1, 1) := by decide +kernel
theorem dX2_requireIterations_2 : decode cX2_requireIterations 2 = .ok (.if_icmp .lt 10, 3) := by decide +kernel
theorem dX2_requireIterations_5 : decode cX2_requireIterations 5 = .ok (.iload_n 0, 1) := by decide +kernel
theorem dX2_requireIterations_6 : decode cX2_requireIterations 6 = .ok (.sipush 1000, 3) := by decide +kernel
theorem dX2_requireIterations_9 : decode cX2_requireIterations 9 = .ok (.if_icmp .le 13, 3) := by decide +kernel
theorem dX2_requireIterations_12 : decode cX2_requireIterations 12 = .ok (.new 29, 3) := by decide +kernel
theorem dX2_requireIterations_15 : decode cX2_requireIterations 15 = .ok (.dup, 1) := by decide +kernel
theorem dX2_requireIterations_16 : decode cX2_requireIterations 16 = .ok (.ldc 214, 2) := by decide +kernel
theorem dX2_requireIterations_18 : decode cX2_requireIterations 18 = .ok (.invokespecial 33, 3) := by decide +kernel
theorem dX2_requireIterations_21 : decode cX2_requireIterations 21 = .ok (.athrow, 1) := by decide +kernel
theorem dX2_requireIterations_22 : decode cX2_requireIterations 22 = .ok (.return_, 1) := by decide +kernel
theorem dX2_requireCycle_0 : decode cX2_requireCycle 0 = .ok (.iload_n 0, 1) := by decide +kernel
theorem dX2_requireCycle_1 : decode cX2_requireCycle 1 = .ok (.ifCond .ge 13, 3) := by decide +kernel
theorem dX2_requireCycle_4 : decode cX2_requireCycle 4 = .ok (.new 29, 3) := by decide +kernel
theorem dX2_requireCycle_7 : decode cX2_requireCycle 7 = .ok (.dup, 1) := by decide +kernel
theorem dX2_requireCycle_8 : decode cX2_requireCycle 8 = .ok (.ldc 216, 2) := by decide +kernel
theorem dX2_requireCycle_10 : decode cX2_requireCycle 10 = .ok (.invokespecial 33, 3) := by decide +kernel
theorem dX2_requireCycle_13 : decode cX2_requireCycle 13 = .ok (.athrow, 1) := by decide +kernel
theorem dX2_requireCycle_14 : decode cX2_requireCycle 14 = .ok (.return_, 1) := by decide +kernel
theorem dX2_requireOperation_0 : decode cX2_requireOperation 0 = .ok (.iload_n 1, 1) := by decide +kernel
theorem dX2_requireOperation_1 : decode cX2_requireOperation 1 = .ok (.ifCond .lt 14, 3) := by decide +kernel
theorem dX2_requireOperation_4 : decode cX2_requireOperation 4 = .ok (.iload_n 1, 1) := by decide +kernel
theorem dX2_requireOperation_5 : decode cX2_requireOperation 5 = .ok (.aload_n 0, 1) := by decide +kernel
theorem dX2_requireOperation_6 : decode cX2_requireOperation 6 = .ok (.getfield 10, 3) := by decide +kernel
theorem dX2_requireOperation_9 : decode cX2_requireOperation 9 = .ok (.getfield 51, 3) := by decide +kernel
theorem dX2_requireOperation_12 : decode cX2_requireOperation 12 = .ok (.if_icmp .lt 13, 3) := by decide +kernel
theorem dX2_requireOperation_15 : decode cX2_requireOperation 15 = .ok (.new 81, 3) := by decide +kernel
theorem dX2_requireOperation_18 : decode cX2_requireOperation 18 = .ok (.dup, 1) := by decide +kernel
theorem dX2_requireOperation_19 : decode cX2_requireOperation 19 = .ok (.ldc 218, 2) := by decide +kernel
theorem dX2_requireOperation_21 : decode cX2_requireOperation 21 = .ok (.invokespecial 85, 3) := by decide +kernel
theorem dX2_requireOperation_24 : decode cX2_requireOperation 24 = .ok (.athrow, 1) := by decide +kernel
theorem dX2_requireOperation_25 : decode cX2_requireOperation 25 = .ok (.return_, 1) := by decide +kernel
theorem dX2_requireSchedule_0 : decode cX2_requireSchedule 0 = .ok (.aload_n 0, 1) := by decide +kernel
theorem dX2_requireSchedule_1 : decode cX2_requireSchedule 1 = .ok (.getfield 21, 3) := by decide +kernel
theorem dX2_requireSchedule_4 : decode cX2_requireSchedule 4 = .ok (.getfield 117, 3) := by decide +kernel
theorem dX2_requireSchedule_7 : decode cX2_requireSchedule 7 = .ok (.iconst 1, 1) := by decide +kernel
theorem dX2_requireSchedule_8 : decode cX2_requireSchedule 8 = .ok (.if_icmp .ge 13, 3) := by decide +kernel
theorem dX2_requireSchedule_11 : decode cX2_requireSchedule 11 = .ok (.new 55, 3) := by decide +kernel
theorem dX2_requireSchedule_14 : decode cX2_requireSchedule 14 = .ok (.dup, 1) := by decide +kernel
theorem dX2_requireSchedule_15 : decode cX2_requireSchedule 15 = .ok (.ldc 220, 2) := by decide +kernel
theorem dX2_requireSchedule_17 : decode cX2_requireSchedule 17 = .ok (.invokespecial 59, 3) := by decide +kernel
theorem dX2_requireSchedule_20 : decode cX2_requireSchedule 20 = .ok (.athrow, 1) := by decide +kernel
theorem dX2_requireSchedule_21 : decode cX2_requireSchedule 21 = .ok (.return_, 1) := by decide +kernel
theorem dX2_requireRow_0 : decode cX2_requireRow 0 = .ok (.iload_n 1, 1) := by decide +kernel
theorem dX2_requireRow_1 : decode cX2_requireRow 1 = .ok (.ifCond .lt 14, 3) := by decide +kernel
theorem dX2_requireRow_4 : decode cX2_requireRow 4 = .ok (.iload_n 1, 1) := by decide +kernel
theorem dX2_requireRow_5 : decode cX2_requireRow 5 = .ok (.aload_n 0, 1) := by decide +kernel
theorem dX2_requireRow_6 : decode cX2_requireRow 6 = .ok (.getfield 21, 3) := by decide +kernel
theorem dX2_requireRow_9 : decode cX2_requireRow 9 = .ok (.getfield 117, 3) := by decide +kernel
theorem dX2_requireRow_12 : decode cX2_requireRow 12 = .ok (.if_icmp .lt 13, 3) := by decide +kernel
theorem dX2_requireRow_15 : decode cX2_requireRow 15 = .ok (.new 29, 3) := by decide +kernel
theorem dX2_requireRow_18 : decode cX2_requireRow 18 = .ok (.dup, 1) := by decide +kernel
theorem dX2_requireRow_19 : decode cX2_requireRow 19 = .ok (.ldc 222, 2) := by decide +kernel
theorem dX2_requireRow_21 : decode cX2_requireRow 21 = .ok (.invokespecial 33, 3) := by decide +kernel
theorem dX2_requireRow_24 : decode cX2_requireRow 24 = .ok (.athrow, 1) := by decide +kernel
theorem dX2_requireRow_25 : decode cX2_requireRow 25 = .ok (.return_, 1) := by decide +kernel
