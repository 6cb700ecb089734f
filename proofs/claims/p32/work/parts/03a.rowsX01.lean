theorem dX0_init_0 : decode cX0_init 0 = .ok (.aload_n 0, 1) := by decide +kernel
theorem dX0_init_1 : decode cX0_init 1 = .ok (.invokespecial 3, 3) := by decide +kernel
theorem dX0_init_4 : decode cX0_init 4 = .ok (.aload_n 0, 1) := by decide +kernel
theorem dX0_init_5 : decode cX0_init 5 = .ok (.iconst 3, 1) := by decide +kernel
theorem dX0_init_6 : decode cX0_init 6 = .ok (.newarray .int, 2) := by decide +kernel
theorem dX0_init_8 : decode cX0_init 8 = .ok (.putfield 9, 3) := by decide +kernel
theorem dX0_init_11 : decode cX0_init 11 = .ok (.aload_n 0, 1) := by decide +kernel
theorem dX0_init_12 : decode cX0_init 12 = .ok (.bipush 14, 2) := by decide +kernel
theorem dX0_init_14 : decode cX0_init 14 = .ok (.newarray .int, 2) := by decide +kernel
theorem dX0_init_16 : decode cX0_init 16 = .ok (.putfield 15, 3) := by decide +kernel
theorem dX0_init_19 : decode cX0_init 19 = .ok (.aload_n 0, 1) := by decide +kernel
theorem dX0_init_20 : decode cX0_init 20 = .ok (.bipush 14, 2) := by decide +kernel
theorem dX0_init_22 : decode cX0_init 22 = .ok (.newarray .int, 2) := by decide +kernel
theorem dX0_init_24 : decode cX0_init 24 = .ok (.putfield 18, 3) := by decide +kernel
theorem dX0_init_27 : decode cX0_init 27 = .ok (.aload_n 0, 1) := by decide +kernel
theorem dX0_init_28 : decode cX0_init 28 = .ok (.bipush 40, 2) := by decide +kernel
theorem dX0_init_30 : decode cX0_init 30 = .ok (.newarray .int, 2) := by decide +kernel
theorem dX0_init_32 : decode cX0_init 32 = .ok (.putfield 21, 3) := by decide +kernel
theorem dX0_init_35 : decode cX0_init 35 = .ok (.aload_n 0, 1) := by decide +kernel
theorem dX0_init_36 : decode cX0_init 36 = .ok (.bipush 40, 2) := by decide +kernel
theorem dX0_init_38 : decode cX0_init 38 = .ok (.newarray .int, 2) := by decide +kernel
theorem dX0_init_40 : decode cX0_init 40 = .ok (.putfield 24, 3) := by decide +kernel
theorem dX0_init_43 : decode cX0_init 43 = .ok (.aload_n 0, 1) := by decide +kernel
theorem dX0_init_44 : decode cX0_init 44 = .ok (.bipush 40, 2) := by decide +kernel
theorem dX0_init_46 : decode cX0_init 46 = .ok (.newarray .int, 2) := by decide +kernel
theorem dX0_init_48 : decode cX0_init 48 = .ok (.putfield 27, 3) := by decide +kernel
theorem dX0_init_51 : decode cX0_init 51 = .ok (.aload_n 0, 1) := by decide +kernel
theorem dX0_init_52 : decode cX0_init 52 = .ok (.bipush 40, 2) := by decide +kernel
theorem dX0_init_54 : decode cX0_init 54 = .ok (.newarray .int, 2) := by decide +kernel
theorem dX0_init_56 : decode cX0_init 56 = .ok (.putfield 30, 3) := by decide +kernel
theorem dX0_init_59 : decode cX0_init 59 = .ok (.aload_n 0, 1) := by decide +kernel
theorem dX0_init_60 : decode cX0_init 60 = .ok (.bipush 14, 2) := by decide +kernel
theorem dX0_init_62 : decode cX0_init 62 = .ok (.newarray .int, 2) := by decide +kernel
theorem dX0_init_64 : decode cX0_init 64 = .ok (.putfield 33, 3) := by decide +kernel
theorem dX0_init_67 : decode cX0_init 67 = .ok (.iconst 0, 1) := by decide +kernel
theorem dX0_init_68 : decode cX0_init 68 = .ok (.istore_n 1, 1) := by decide +kernel
theorem dX0_init_69 : decode cX0_init 69 = .ok (.iload_n 1, 1) := by decide +kernel
theorem dX0_init_70 : decode cX0_init 70 = .ok (.iconst 3, 1) := by decide +kernel
theorem dX0_init_71 : decode cX0_init 71 = .ok (.if_icmp .ge 16, 3) := by decide +kernel
theorem dX0_init_74 : decode cX0_init 74 = .ok (.aload_n 0, 1) := by decide +kernel
theorem dX0_init_75 : decode cX0_init 75 = .ok (.getfield 9, 3) := by decide +kernel
theorem dX0_init_78 : decode cX0_init 78 = .ok (.iload_n 1, 1) := by decide +kernel
theorem dX0_init_79 : decode cX0_init 79 = .ok (.iconst 1, 1) := by decide +kernel
theorem dX0_init_80 : decode cX0_init 80 = .ok (.iastore, 1) := by decide +kernel
theorem dX0_init_81 : decode cX0_init 81 = .ok (.iinc 1 1, 3) := by decide +kernel
theorem dX0_init_84 : decode cX0_init 84 = .ok (.goto (-15), 3) := by decide +kernel
theorem dX0_init_87 : decode cX0_init 87 = .ok (.return_, 1) := by decide +kernel
theorem dX0_appendOperation_0 : decode cX0_appendOperation 0 = .ok (.aload_n 0, 1) := by decide +kernel
theorem dX0_appendOperation_1 : decode cX0_appendOperation 1 = .ok (.getfield 15, 3) := by decide +kernel
theorem dX0_appendOperation_4 : decode cX0_appendOperation 4 = .ok (.aload_n 0, 1) := by decide +kernel
theorem dX0_appendOperation_5 : decode cX0_appendOperation 5 = .ok (.getfield 36, 3) := by decide +kernel
theorem dX0_appendOperation_8 : decode cX0_appendOperation 8 = .ok (.iload_n 1, 1) := by decide +kernel
theorem dX0_appendOperation_9 : decode cX0_appendOperation 9 = .ok (.iastore, 1) := by decide +kernel
theorem dX0_appendOperation_10 : decode cX0_appendOperation 10 = .ok (.aload_n 0, 1) := by decide +kernel
theorem dX0_appendOperation_11 : decode cX0_appendOperation 11 = .ok (.getfield 18, 3) := by decide +kernel
theorem dX0_appendOperation_14 : decode cX0_appendOperation 14 = .ok (.aload_n 0, 1) := by decide +kernel
theorem dX0_appendOperation_15 : decode cX0_appendOperation 15 = .ok (.getfield 36, 3) := by decide +kernel
theorem dX0_appendOperation_18 : decode cX0_appendOperation 18 = .ok (.iload_n 2, 1) := by decide +kernel
theorem dX0_appendOperation_19 : decode cX0_appendOperation 19 = .ok (.iastore, 1) := by decide +kernel
theorem dX0_appendOperation_20 : decode cX0_appendOperation 20 = .ok (.aload_n 0, 1) := by decide +kernel
theorem dX0_appendOperation_21 : decode cX0_appendOperation 21 = .ok (.dup, 1) := by decide +kernel
theorem dX0_appendOperation_22 : decode cX0_appendOperation 22 = .ok (.getfield 36, 3) := by decide +kernel
theorem dX0_appendOperation_25 : decode cX0_appendOperation 25 = .ok (.iconst 1, 1) := by decide +kernel
theorem dX0_appendOperation_26 : decode cX0_appendOperation 26 = .ok (.iadd, 1) := by decide +kernel
theorem dX0_appendOperation_27 : decode cX0_appendOperation 27 = .ok (.putfield 36, 3) := by decide +kernel
theorem dX0_appendOperation_30 : decode cX0_appendOperation 30 = .ok (.aload_n 0, 1) := by decide +kernel
theorem dX0_appendOperation_31 : decode cX0_appendOperation 31 = .ok (.getfield 36, 3) := by decide +kernel
theorem dX0_appendOperation_34 : decode cX0_appendOperation 34 = .ok (.iconst 1, 1) := by decide +kernel
theorem dX0_appendOperation_35 : decode cX0_appendOperation 35 = .ok (.isub, 1) := by decide +kernel
theorem dX0_appendOperation_36 : decode cX0_appendOperation 36 = .ok (.ireturn, 1) := by decide +kernel
theorem dX0_appendDependence_0 : decode cX0_appendDependence 0 = .ok (.aload_n 0, 1) := by decide +kernel
theorem dX0_appendDependence_1 : decode cX0_appendDependence 1 = .ok (.getfield 21, 3) := by decide +kernel
theorem dX0_appendDependence_4 : decode cX0_appendDependence 4 = .ok (.aload_n 0, 1) := by decide +kernel
theorem dX0_appendDependence_5 : decode cX0_appendDependence 5 = .ok (.getfield 40, 3) := by decide +kernel
theorem dX0_appendDependence_8 : decode cX0_appendDependence 8 = .ok (.iload_n 1, 1) := by decide +kernel
theorem dX0_appendDependence_9 : decode cX0_appendDependence 9 = .ok (.iastore, 1) := by decide +kernel
theorem dX0_appendDependence_10 : decode cX0_appendDependence 10 = .ok (.aload_n 0, 1) := by decide +kernel
theorem dX0_appendDependence_11 : decode cX0_appendDependence 11 = .ok (.getfield 24, 3) := by decide +kernel
theorem dX0_appendDependence_14 : decode cX0_appendDependence 14 = .ok (.aload_n 0, 1) := by decide +kernel
theorem dX0_appendDependence_15 : decode cX0_appendDependence 15 = .ok (.getfield 40, 3) := by decide +kernel
theorem dX0_appendDependence_18 : decode cX0_appendDependence 18 = .ok (.iload_n 2, 1) := by decide +kernel
theorem dX0_appendDependence_19 : decode cX0_appendDependence 19 = .ok (.iastore, 1) := by decide +kernel
theorem dX0_appendDependence_20 : decode cX0_appendDependence 20 = .ok (.aload_n 0, 1) := by decide +kernel
theorem dX0_appendDependence_21 : decode cX0_appendDependence 21 = .ok (.getfield 27, 3) := by decide +kernel
theorem dX0_appendDependence_24 : decode cX0_appendDependence 24 = .ok (.aload_n 0, 1) := by decide +kernel
theorem dX0_appendDependence_25 : decode cX0_appendDependence 25 = .ok (.getfield 40, 3) := by decide +kernel
theorem dX0_appendDependence_28 : decode cX0_appendDependence 28 = .ok (.iload_n 3, 1) := by decide +kernel
theorem dX0_appendDependence_29 : decode cX0_appendDependence 29 = .ok (.iastore, 1) := by decide +kernel
theorem dX0_appendDependence_30 : decode cX0_appendDependence 30 = .ok (.aload_n 0, 1) := by decide +kernel
theorem dX0_appendDependence_31 : decode cX0_appendDependence 31 = .ok (.getfield 30, 3) := by decide +kernel
theorem dX0_appendDependence_34 : decode cX0_appendDependence 34 = .ok (.aload_n 0, 1) := by decide +kernel
theorem dX0_appendDependence_35 : decode cX0_appendDependence 35 = .ok (.getfield 40, 3) := by decide +kernel
theorem dX0_appendDependence_38 : decode cX0_appendDependence 38 = .ok (.iload 4, 2) := by decide +kernel
theorem dX0_appendDependence_40 : decode cX0_appendDependence 40 = .ok (.iastore, 1) := by decide +kernel
theorem dX0_appendDependence_41 : decode cX0_appendDependence 41 = .ok (.aload_n 0, 1) := by decide +kernel
theorem dX0_appendDependence_42 : decode cX0_appendDependence 42 = .ok (.dup, 1) := by decide +kernel
theorem dX0_appendDependence_43 : decode cX0_appendDependence 43 = .ok (.getfield 40, 3) := by decide +kernel
theorem dX0_appendDependence_46 : decode cX0_appendDependence 46 = .ok (.iconst 1, 1) := by decide +kernel
theorem dX0_appendDependence_47 : decode cX0_appendDependence 47 = .ok (.iadd, 1) := by decide +kernel
theorem dX0_appendDependence_48 : decode cX0_appendDependence 48 = .ok (.putfield 40, 3) := by decide +kernel
theorem dX0_appendDependence_51 : decode cX0_appendDependence 51 = .ok (.aload_n 0, 1) := by decide +kernel
theorem dX0_appendDependence_52 : decode cX0_appendDependence 52 = .ok (.getfield 40, 3) := by decide +kernel
theorem dX0_appendDependence_55 : decode cX0_appendDependence 55 = .ok (.iconst 1, 1) := by decide +kernel
theorem dX0_appendDependence_56 : decode cX0_appendDependence 56 = .ok (.isub, 1) := by decide +kernel
theorem dX0_appendDependence_57 : decode cX0_appendDependence 57 = .ok (.ireturn, 1) := by decide +kernel
set_option maxRecDepth 20000 in
theorem ggX0_leastIntervalOfResources_X0_busyCycles : GoodIn wsX0_leastIntervalOfResources wsX0_busyCycles := goodIn_r _ [10, 11, 12, 13, 14, 15, 16, 17, 18, 19, 20, 21, 22, 23] (by decide +kernel) (by decide +kernel)
set_option maxRecDepth 20000 in
theorem gX0_leastIntervalOfResources_X0_busyCycles : GoodIn wsX0_leastIntervalOfResources (wsV RX0 43 RX0 yX0_busyCycles wsX0_busyCycles) := goodIn_app (goodIn_of _ (by decide +kernel)) ggX0_leastIntervalOfResources_X0_busyCycles
theorem dX0_leastIntervalOfResources_0 : decode cX0_leastIntervalOfResources 0 = .ok (.iconst 1, 1) := by decide +kernel
theorem dX0_leastIntervalOfResources_1 : decode cX0_leastIntervalOfResources 1 = .ok (.istore_n 1, 1) := by decide +kernel
theorem dX0_leastIntervalOfResources_2 : decode cX0_leastIntervalOfResources 2 = .ok (.iconst 0, 1) := by decide +kernel
theorem dX0_leastIntervalOfResources_3 : decode cX0_leastIntervalOfResources 3 = .ok (.istore_n 2, 1) := by decide +kernel
theorem dX0_leastIntervalOfResources_4 : decode cX0_leastIntervalOfResources 4 = .ok (.iload_n 2, 1) := by decide +kernel
theorem dX0_leastIntervalOfResources_5 : decode cX0_leastIntervalOfResources 5 = .ok (.iconst 3, 1) := by decide +kernel
theorem dX0_leastIntervalOfResources_6 : decode cX0_leastIntervalOfResources 6 = .ok (.if_icmp .ge 35, 3) := by decide +kernel
theorem dX0_leastIntervalOfResources_9 : decode cX0_leastIntervalOfResources 9 = .ok (.iload_n 1, 1) := by decide +kernel
theorem dX0_leastIntervalOfResources_10 : decode cX0_leastIntervalOfResources 10 = .ok (.aload_n 0, 1) := by decide +kernel
theorem dX0_leastIntervalOfResources_11 : decode cX0_leastIntervalOfResources 11 = .ok (.iload_n 2, 1) := by decide +kernel
theorem dX0_leastIntervalOfResources_12 : decode cX0_leastIntervalOfResources 12 = .ok (.invokevirtual 43, 3) := by decide +kernel
theorem dX0_leastIntervalOfResources_15 : decode cX0_leastIntervalOfResources 15 = .ok (.aload_n 0, 1) := by decide +kernel
theorem dX0_leastIntervalOfResources_16 : decode cX0_leastIntervalOfResources 16 = .ok (.getfield 9, 3) := by decide +kernel
theorem dX0_leastIntervalOfResources_19 : decode cX0_leastIntervalOfResources 19 = .ok (.iload_n 2, 1) := by decide +kernel
theorem dX0_leastIntervalOfResources_20 : decode cX0_leastIntervalOfResources 20 = .ok (.iaload, 1) := by decide +kernel
theorem dX0_leastIntervalOfResources_21 : decode cX0_leastIntervalOfResources 21 = .ok (.iadd, 1) := by decide +kernel
theorem dX0_leastIntervalOfResources_22 : decode cX0_leastIntervalOfResources 22 = .ok (.iconst 1, 1) := by decide +kernel
theorem dX0_leastIntervalOfResources_23 : decode cX0_leastIntervalOfResources 23 = .ok (.isub, 1) := by decide +kernel
theorem dX0_leastIntervalOfResources_24 : decode cX0_leastIntervalOfResources 24 = .ok (.aload_n 0, 1) := by decide +kernel
theorem dX0_leastIntervalOfResources_25 : decode cX0_leastIntervalOfResources 25 = .ok (.getfield 9, 3) := by decide +kernel
theorem dX0_leastIntervalOfResources_28 : decode cX0_leastIntervalOfResources 28 = .ok (.iload_n 2, 1) := by decide +kernel
theorem dX0_leastIntervalOfResources_29 : decode cX0_leastIntervalOfResources 29 = .ok (.iaload, 1) := by decide +kernel
theorem dX0_leastIntervalOfResources_30 : decode cX0_leastIntervalOfResources 30 = .ok (.idiv, 1) := by decide +kernel
theorem dX0_leastIntervalOfResources_31 : decode cX0_leastIntervalOfResources 31 = .ok (.invokestatic 47, 3) := by decide +kernel
theorem dX0_leastIntervalOfResources_34 : decode cX0_leastIntervalOfResources 34 = .ok (.istore_n 1, 1) := by decide +kernel
theorem dX0_leastIntervalOfResources_35 : decode cX0_leastIntervalOfResources 35 = .ok (.iinc 2 1, 3) := by decide +kernel
theorem dX0_leastIntervalOfResources_38 : decode cX0_leastIntervalOfResources 38 = .ok (.goto (-34), 3) := by decide +kernel
theorem dX0_leastIntervalOfResources_41 : decode cX0_leastIntervalOfResources 41 = .ok (.iload_n 1, 1) := by decide +kernel
theorem dX0_leastIntervalOfResources_42 : decode cX0_leastIntervalOfResources 42 = .ok (.ireturn, 1) := by decide +kernel
theorem dX0_busyCycles_0 : decode cX0_busyCycles 0 = .ok (.iconst 0, 1) := by decide +kernel
theorem dX0_busyCycles_1 : decode cX0_busyCycles 1 = .ok (.istore_n 2, 1) := by decide +kernel
theorem dX0_busyCycles_2 : decode cX0_busyCycles 2 = .ok (.iconst 0, 1) := by decide +kernel
theorem dX0_busyCycles_3 : decode cX0_busyCycles 3 = .ok (.istore_n 3, 1) := by decide +kernel
theorem dX0_busyCycles_4 : decode cX0_busyCycles 4 = .ok (.iload_n 3, 1) := by decide +kernel
theorem dX0_busyCycles_5 : decode cX0_busyCycles 5 = .ok (.aload_n 0, 1) := by decide +kernel
theorem dX0_busyCycles_6 : decode cX0_busyCycles 6 = .ok (.getfield 36, 3) := by decide +kernel
theorem dX0_busyCycles_9 : decode cX0_busyCycles 9 = .ok (.if_icmp .ge 28, 3) := by decide +kernel
theorem dX0_busyCycles_12 : decode cX0_busyCycles 12 = .ok (.aload_n 0, 1) := by decide +kernel
theorem dX0_busyCycles_13 : decode cX0_busyCycles 13 = .ok (.getfield 15, 3) := by decide +kernel
theorem dX0_busyCycles_16 : decode cX0_busyCycles 16 = .ok (.iload_n 3, 1) := by decide +kernel
theorem dX0_busyCycles_17 : decode cX0_busyCycles 17 = .ok (.iaload, 1) := by decide +kernel
theorem dX0_busyCycles_18 : decode cX0_busyCycles 18 = .ok (.iload_n 1, 1) := by decide +kernel
theorem dX0_busyCycles_19 : decode cX0_busyCycles 19 = .ok (.if_icmp .ne 12, 3) := by decide +kernel
theorem dX0_busyCycles_22 : decode cX0_busyCycles 22 = .ok (.iload_n 2, 1) := by decide +kernel
theorem dX0_busyCycles_23 : decode cX0_busyCycles 23 = .ok (.aload_n 0, 1) := by decide +kernel
theorem dX0_busyCycles_24 : decode cX0_busyCycles 24 = .ok (.getfield 18, 3) := by decide +kernel
theorem dX0_busyCycles_27 : decode cX0_busyCycles 27 = .ok (.iload_n 3, 1) := by decide +kernel
theorem dX0_busyCycles_28 : decode cX0_busyCycles 28 = .ok (.iaload, 1) := by decide +kernel
theorem dX0_busyCycles_29 : decode cX0_busyCycles 29 = .ok (.iadd, 1) := by decide +kernel
theorem dX0_busyCycles_30 : decode cX0_busyCycles 30 = .ok (.istore_n 2, 1) := by decide +kernel
theorem dX0_busyCycles_31 : decode cX0_busyCycles 31 = .ok (.iinc 3 1, 3) := by decide +kernel
theorem dX0_busyCycles_34 : decode cX0_busyCycles 34 = .ok (.goto (-30), 3) := by decide +kernel
theorem dX0_busyCycles_37 : decode cX0_busyCycles 37 = .ok (.iload_n 2, 1) := by decide +kernel
theorem dX0_busyCycles_38 : decode cX0_busyCycles 38 = .ok (.ireturn, 1) := by decide +kernel
set_option maxRecDepth 20000 in
theorem ggX0_leastIntervalOfRecurrences_X0_findHeights : GoodIn wsX0_leastIntervalOfRecurrences wsX0_findHeights := goodIn_r _ [5, 6, 7, 8, 9, 10, 11, 12, 13, 14, 4, 15, 16, 17, 18, 19, 20, 21, 22, 23, 24, 25, 26, 27, 28, 29, 30] (by decide +kernel) (by decide +kernel)
set_option maxRecDepth 20000 in
theorem gX0_leastIntervalOfRecurrences_X0_findHeights : GoodIn wsX0_leastIntervalOfRecurrences (wsV RX0 53 RX0 yX0_findHeights wsX0_findHeights) := goodIn_app (goodIn_of _ (by decide +kernel)) ggX0_leastIntervalOfRecurrences_X0_findHeights
theorem dX0_leastIntervalOfRecurrences_0 : decode cX0_leastIntervalOfRecurrences 0 = .ok (.iconst 0, 1) := by decide +kernel
theorem dX0_leastIntervalOfRecurrences_1 : decode cX0_leastIntervalOfRecurrences 1 = .ok (.istore_n 1, 1) := by decide +kernel
theorem dX0_leastIntervalOfRecurrences_2 : decode cX0_leastIntervalOfRecurrences 2 = .ok (.sipush 128, 3) := by decide +kernel
theorem dX0_leastIntervalOfRecurrences_5 : decode cX0_leastIntervalOfRecurrences 5 = .ok (.istore_n 2, 1) := by decide +kernel
theorem dX0_leastIntervalOfRecurrences_6 : decode cX0_leastIntervalOfRecurrences 6 = .ok (.iload_n 2, 1) := by decide +kernel
theorem dX0_leastIntervalOfRecurrences_7 : decode cX0_leastIntervalOfRecurrences 7 = .ok (.ifCond .le 24, 3) := by decide +kernel
theorem dX0_leastIntervalOfRecurrences_10 : decode cX0_leastIntervalOfRecurrences 10 = .ok (.aload_n 0, 1) := by decide +kernel
theorem dX0_leastIntervalOfRecurrences_11 : decode cX0_leastIntervalOfRecurrences 11 = .ok (.iload_n 1, 1) := by decide +kernel
theorem dX0_leastIntervalOfRecurrences_12 : decode cX0_leastIntervalOfRecurrences 12 = .ok (.iload_n 2, 1) := by decide +kernel
theorem dX0_leastIntervalOfRecurrences_13 : decode cX0_leastIntervalOfRecurrences 13 = .ok (.iadd, 1) := by decide +kernel
theorem dX0_leastIntervalOfRecurrences_14 : decode cX0_leastIntervalOfRecurrences 14 = .ok (.invokevirtual 53, 3) := by decide +kernel
theorem dX0_leastIntervalOfRecurrences_17 : decode cX0_leastIntervalOfRecurrences 17 = .ok (.ifCond .ne 7, 3) := by decide +kernel
theorem dX0_leastIntervalOfRecurrences_20 : decode cX0_leastIntervalOfRecurrences 20 = .ok (.iload_n 1, 1) := by decide +kernel
theorem dX0_leastIntervalOfRecurrences_21 : decode cX0_leastIntervalOfRecurrences 21 = .ok (.iload_n 2, 1) := by decide +kernel
theorem dX0_leastIntervalOfRecurrences_22 : decode cX0_leastIntervalOfRecurrences 22 = .ok (.iadd, 1) := by decide +kernel
theorem dX0_leastIntervalOfRecurrences_23 : decode cX0_leastIntervalOfRecurrences 23 = .ok (.istore_n 1, 1) := by decide +kernel
theorem dX0_leastIntervalOfRecurrences_24 : decode cX0_leastIntervalOfRecurrences 24 = .ok (.iload_n 2, 1) := by decide +kernel
theorem dX0_leastIntervalOfRecurrences_25 : decode cX0_leastIntervalOfRecurrences 25 = .ok (.iconst 2, 1) := by decide +kernel
theorem dX0_leastIntervalOfRecurrences_26 : decode cX0_leastIntervalOfRecurrences 26 = .ok (.idiv, 1) := by decide +kernel
theorem dX0_leastIntervalOfRecurrences_27 : decode cX0_leastIntervalOfRecurrences 27 = .ok (.istore_n 2, 1) := by decide +kernel
theorem dX0_leastIntervalOfRecurrences_28 : decode cX0_leastIntervalOfRecurrences 28 = .ok (.goto (-22), 3) := by decide +kernel
theorem dX0_leastIntervalOfRecurrences_31 : decode cX0_leastIntervalOfRecurrences 31 = .ok (.iload_n 1, 1) := by decide +kernel
theorem dX0_leastIntervalOfRecurrences_32 : decode cX0_leastIntervalOfRecurrences 32 = .ok (.sipush 200, 3) := by decide +kernel
theorem dX0_leastIntervalOfRecurrences_35 : decode cX0_leastIntervalOfRecurrences 35 = .ok (.if_icmp .ge 9, 3) := by decide +kernel
theorem dX0_leastIntervalOfRecurrences_38 : decode cX0_leastIntervalOfRecurrences 38 = .ok (.iload_n 1, 1) := by decide +kernel
theorem dX0_leastIntervalOfRecurrences_39 : decode cX0_leastIntervalOfRecurrences 39 = .ok (.iconst 1, 1) := by decide +kernel
theorem dX0_leastIntervalOfRecurrences_40 : decode cX0_leastIntervalOfRecurrences 40 = .ok (.iadd, 1) := by decide +kernel
theorem dX0_leastIntervalOfRecurrences_41 : decode cX0_leastIntervalOfRecurrences 41 = .ok (.goto 4, 3) := by decide +kernel
theorem dX0_leastIntervalOfRecurrences_44 : decode cX0_leastIntervalOfRecurrences 44 = .ok (.iconst (-1), 1) := by decide +kernel
theorem dX0_leastIntervalOfRecurrences_45 : decode cX0_leastIntervalOfRecurrences 45 = .ok (.ireturn, 1) := by decide +kernel
set_option maxRecDepth 20000 in
theorem ggX0_findHeights_J7_fill_53178 : GoodIn wsX0_findHeights wsJ7_fill_53178 := goodIn_r _ [6] (by decide +kernel) (by decide +kernel)
set_option maxRecDepth 20000 in
theorem gX0_findHeights_J7_fill_53178 : GoodIn wsX0_findHeights (va_wsS RX0 57 yJ7_fill_53178 wsJ7_fill_53178) := goodIn_app (goodIn_of _ (by decide +kernel)) ggX0_findHeights_J7_fill_53178
set_option maxRecDepth 20000 in
theorem ggX0_findHeights_X0_raiseHeights : GoodIn wsX0_findHeights wsX0_raiseHeights := goodIn_r _ [11, 12, 1, 13, 14, 15, 16, 17, 18, 19, 20, 21, 22, 23, 24, 25, 26] (by decide +kernel) (by decide +kernel)
set_option maxRecDepth 20000 in
theorem gX0_findHeights_X0_raiseHeights : GoodIn wsX0_findHeights (wsV RX0 63 RX0 yX0_raiseHeights wsX0_raiseHeights) := goodIn_app (goodIn_of _ (by decide +kernel)) ggX0_findHeights_X0_raiseHeights
theorem dX0_findHeights_0 : decode cX0_findHeights 0 = .ok (.aload_n 0, 1) := by decide +kernel
theorem dX0_findHeights_1 : decode cX0_findHeights 1 = .ok (.getfield 33, 3) := by decide +kernel
theorem dX0_findHeights_4 : decode cX0_findHeights 4 = .ok (.iconst 0, 1) := by decide +kernel
theorem dX0_findHeights_5 : decode cX0_findHeights 5 = .ok (.invokestatic 57, 3) := by decide +kernel
theorem dX0_findHeights_8 : decode cX0_findHeights 8 = .ok (.iconst 0, 1) := by decide +kernel
theorem dX0_findHeights_9 : decode cX0_findHeights 9 = .ok (.istore_n 2, 1) := by decide +kernel
theorem dX0_findHeights_10 : decode cX0_findHeights 10 = .ok (.iload_n 2, 1) := by decide +kernel
theorem dX0_findHeights_11 : decode cX0_findHeights 11 = .ok (.aload_n 0, 1) := by decide +kernel
theorem dX0_findHeights_12 : decode cX0_findHeights 12 = .ok (.getfield 36, 3) := by decide +kernel
theorem dX0_findHeights_15 : decode cX0_findHeights 15 = .ok (.if_icmp .gt 19, 3) := by decide +kernel
theorem dX0_findHeights_18 : decode cX0_findHeights 18 = .ok (.aload_n 0, 1) := by decide +kernel
theorem dX0_findHeights_19 : decode cX0_findHeights 19 = .ok (.iload_n 1, 1) := by decide +kernel
theorem dX0_findHeights_20 : decode cX0_findHeights 20 = .ok (.invokevirtual 63, 3) := by decide +kernel
theorem dX0_findHeights_23 : decode cX0_findHeights 23 = .ok (.ifCond .ne 5, 3) := by decide +kernel
theorem dX0_findHeights_26 : decode cX0_findHeights 26 = .ok (.iconst 1, 1) := by decide +kernel
theorem dX0_findHeights_27 : decode cX0_findHeights 27 = .ok (.ireturn, 1) := by decide +kernel
theorem dX0_findHeights_28 : decode cX0_findHeights 28 = .ok (.iinc 2 1, 3) := by decide +kernel
theorem dX0_findHeights_31 : decode cX0_findHeights 31 = .ok (.goto (-21), 3) := by decide +kernel
theorem dX0_findHeights_34 : decode cX0_findHeights 34 = .ok (.iconst 0, 1) := by decide +kernel
theorem dX0_findHeights_35 : decode cX0_findHeights 35 = .ok (.ireturn, 1) := by decide +kernel
theorem dX0_raiseHeights_0 : decode cX0_raiseHeights 0 = .ok (.iconst 0, 1) := by decide +kernel
theorem dX0_raiseHeights_1 : decode cX0_raiseHeights 1 = .ok (.istore_n 2, 1) := by decide +kernel
theorem dX0_raiseHeights_2 : decode cX0_raiseHeights 2 = .ok (.iconst 0, 1) := by decide +kernel
theorem dX0_raiseHeights_3 : decode cX0_raiseHeights 3 = .ok (.istore_n 3, 1) := by decide +kernel
theorem dX0_raiseHeights_4 : decode cX0_raiseHeights 4 = .ok (.iload_n 3, 1) := by decide +kernel
theorem dX0_raiseHeights_5 : decode cX0_raiseHeights 5 = .ok (.aload_n 0, 1) := by decide +kernel
theorem dX0_raiseHeights_6 : decode cX0_raiseHeights 6 = .ok (.getfield 40, 3) := by decide +kernel
theorem dX0_raiseHeights_9 : decode cX0_raiseHeights 9 = .ok (.if_icmp .ge 69, 3) := by decide +kernel
theorem dX0_raiseHeights_12 : decode cX0_raiseHeights 12 = .ok (.aload_n 0, 1) := by decide +kernel
theorem dX0_raiseHeights_13 : decode cX0_raiseHeights 13 = .ok (.getfield 33, 3) := by decide +kernel
theorem dX0_raiseHeights_16 : decode cX0_raiseHeights 16 = .ok (.aload_n 0, 1) := by decide +kernel
theorem dX0_raiseHeights_17 : decode cX0_raiseHeights 17 = .ok (.getfield 24, 3) := by decide +kernel
theorem dX0_raiseHeights_20 : decode cX0_raiseHeights 20 = .ok (.iload_n 3, 1) := by decide +kernel
theorem dX0_raiseHeights_21 : decode cX0_raiseHeights 21 = .ok (.iaload, 1) := by decide +kernel
theorem dX0_raiseHeights_22 : decode cX0_raiseHeights 22 = .ok (.iaload, 1) := by decide +kernel
theorem dX0_raiseHeights_23 : decode cX0_raiseHeights 23 = .ok (.aload_n 0, 1) := by decide +kernel
theorem dX0_raiseHeights_24 : decode cX0_raiseHeights 24 = .ok (.getfield 27, 3) := by decide +kernel
theorem dX0_raiseHeights_27 : decode cX0_raiseHeights 27 = .ok (.iload_n 3, 1) := by decide +kernel
theorem dX0_raiseHeights_28 : decode cX0_raiseHeights 28 = .ok (.iaload, 1) := by decide +kernel
theorem dX0_raiseHeights_29 : decode cX0_raiseHeights 29 = .ok (.iadd, 1) := by decide +kernel
theorem dX0_raiseHeights_30 : decode cX0_raiseHeights 30 = .ok (.iload_n 1, 1) := by decide +kernel
theorem dX0_raiseHeights_31 : decode cX0_raiseHeights 31 = .ok (.aload_n 0, 1) := by decide +kernel
theorem dX0_raiseHeights_32 : decode cX0_raiseHeights 32 = .ok (.getfield 30, 3) := by decide +kernel
theorem dX0_raiseHeights_35 : decode cX0_raiseHeights 35 = .ok (.iload_n 3, 1) := by decide +kernel
theorem dX0_raiseHeights_36 : decode cX0_raiseHeights 36 = .ok (.iaload, 1) := by decide +kernel
theorem dX0_raiseHeights_37 : decode cX0_raiseHeights 37 = .ok (.imul, 1) := by decide +kernel
theorem dX0_raiseHeights_38 : decode cX0_raiseHeights 38 = .ok (.isub, 1) := by decide +kernel
theorem dX0_raiseHeights_39 : decode cX0_raiseHeights 39 = .ok (.istore 4, 2) := by decide +kernel
theorem dX0_raiseHeights_41 : decode cX0_raiseHeights 41 = .ok (.iload 4, 2) := by decide +kernel
theorem dX0_raiseHeights_43 : decode cX0_raiseHeights 43 = .ok (.aload_n 0, 1) := by decide +kernel
theorem dX0_raiseHeights_44 : decode cX0_raiseHeights 44 = .ok (.getfield 33, 3) := by decide +kernel
theorem dX0_raiseHeights_47 : decode cX0_raiseHeights 47 = .ok (.aload_n 0, 1) := by decide +kernel
theorem dX0_raiseHeights_48 : decode cX0_raiseHeights 48 = .ok (.getfield 21, 3) := by decide +kernel
theorem dX0_raiseHeights_51 : decode cX0_raiseHeights 51 = .ok (.iload_n 3, 1) := by decide +kernel
theorem dX0_raiseHeights_52 : decode cX0_raiseHeights 52 = .ok (.iaload, 1) := by decide +kernel
theorem dX0_raiseHeights_53 : decode cX0_raiseHeights 53 = .ok (.iaload, 1) := by decide +kernel
theorem dX0_raiseHeights_54 : decode cX0_raiseHeights 54 = .ok (.if_icmp .le 18, 3) := by decide +kernel
theorem dX0_raiseHeights_57 : decode cX0_raiseHeights 57 = .ok (.aload_n 0, 1) := by decide +kernel
theorem dX0_raiseHeights_58 : decode cX0_raiseHeights 58 = .ok (.getfield 33, 3) := by decide +kernel
theorem dX0_raiseHeights_61 : decode cX0_raiseHeights 61 = .ok (.aload_n 0, 1) := by decide +kernel
theorem dX0_raiseHeights_62 : decode cX0_raiseHeights 62 = .ok (.getfield 21, 3) := by decide +kernel
theorem dX0_raiseHeights_65 : decode cX0_raiseHeights 65 = .ok (.iload_n 3, 1) := by decide +kernel
theorem dX0_raiseHeights_66 : decode cX0_raiseHeights 66 = .ok (.iaload, 1) := by decide +kernel
theorem dX0_raiseHeights_67 : decode cX0_raiseHeights 67 = .ok (.iload 4, 2) := by decide +kernel
theorem dX0_raiseHeights_69 : decode cX0_raiseHeights 69 = .ok (.iastore, 1) := by decide +kernel
theorem dX0_raiseHeights_70 : decode cX0_raiseHeights 70 = .ok (.iconst 1, 1) := by decide +kernel
theorem dX0_raiseHeights_71 : decode cX0_raiseHeights 71 = .ok (.istore_n 2, 1) := by decide +kernel
theorem dX0_raiseHeights_72 : decode cX0_raiseHeights 72 = .ok (.iinc 3 1, 3) := by decide +kernel
theorem dX0_raiseHeights_75 : decode cX0_raiseHeights 75 = .ok (.goto (-71), 3) := by decide +kernel
theorem dX0_raiseHeights_78 : decode cX0_raiseHeights 78 = .ok (.iload_n 2, 1) := by decide +kernel
theorem dX0_raiseHeights_79 : decode cX0_raiseHeights 79 = .ok (.ireturn, 1) := by decide +kernel
theorem dX1_init_0 : decode cX1_init 0 = .ok (.aload_n 0, 1) := by decide +kernel
theorem dX1_init_1 : decode cX1_init 1 = .ok (.invokespecial 3, 3) := by decide +kernel
theorem dX1_init_4 : decode cX1_init 4 = .ok (.aload_n 0, 1) := by decide +kernel
theorem dX1_init_5 : decode cX1_init 5 = .ok (.bipush 14, 2) := by decide +kernel
theorem dX1_init_7 : decode cX1_init 7 = .ok (.newarray .int, 2) := by decide +kernel
theorem dX1_init_9 : decode cX1_init 9 = .ok (.putfield 9, 3) := by decide +kernel
theorem dX1_init_12 : decode cX1_init 12 = .ok (.aload_n 0, 1) := by decide +kernel
theorem dX1_init_13 : decode cX1_init 13 = .ok (.iconst 3, 1) := by decide +kernel
theorem dX1_init_14 : decode cX1_init 14 = .ok (.sipush 200, 3) := by decide +kernel
theorem dX1_init_17 : decode cX1_init 17 = .ok (.multianewarray 15 2, 4) := by decide +kernel
theorem dX1_init_21 : decode cX1_init 21 = .ok (.putfield 17, 3) := by decide +kernel
theorem dX1_init_24 : decode cX1_init 24 = .ok (.aload_n 0, 1) := by decide +kernel
theorem dX1_init_25 : decode cX1_init 25 = .ok (.bipush 14, 2) := by decide +kernel
theorem dX1_init_27 : decode cX1_init 27 = .ok (.newarray .int, 2) := by decide +kernel
theorem dX1_init_29 : decode cX1_init 29 = .ok (.putfield 20, 3) := by decide +kernel
theorem dX1_init_32 : decode cX1_init 32 = .ok (.aload_n 0, 1) := by decide +kernel
theorem dX1_init_33 : decode cX1_init 33 = .ok (.aload_n 1, 1) := by decide +kernel
theorem dX1_init_34 : decode cX1_init 34 = .ok (.putfield 23, 3) := by decide +kernel
theorem dX1_init_37 : decode cX1_init 37 = .ok (.return_, 1) := by decide +kernel
theorem dX1_drop_0 : decode cX1_drop 0 = .ok (.aload_n 0, 1) := by decide +kernel
theorem dX1_drop_1 : decode cX1_drop 1 = .ok (.iconst 0, 1) := by decide +kernel
theorem dX1_drop_2 : decode cX1_drop 2 = .ok (.putfield 27, 3) := by decide +kernel
theorem dX1_drop_5 : decode cX1_drop 5 = .ok (.return_, 1) := by decide +kernel
set_option maxRecDepth 20000 in
theorem ggX1_attempt_X0_findHeights : GoodIn wsX1_attempt wsX0_findHeights := goodIn_r _ [10, 11, 12, 13, 14, 15, 16, 17, 18, 19, 9, 20, 21, 22, 23, 24, 25, 81, 82, 83, 84, 85, 86, 87, 88, 89, 90] (by decide +kernel) (by decide +kernel)
set_option maxRecDepth 20000 in
theorem gX1_attempt_X0_findHeights : GoodIn wsX1_attempt (wsV RX1 31 RX0 yX0_findHeights wsX0_findHeights) := goodIn_app (goodIn_of _ (by decide +kernel)) ggX1_attempt_X0_findHeights
set_option maxRecDepth 20000 in
theorem ggX1_attempt_J7_fill_53178 : GoodIn wsX1_attempt wsJ7_fill_53178 := goodIn_r _ [16] (by decide +kernel) (by decide +kernel)
set_option maxRecDepth 20000 in
theorem gX1_attempt_J7_fill_53178 : GoodIn wsX1_attempt (va_wsS RX1 37 yJ7_fill_53178 wsJ7_fill_53178) := goodIn_app (goodIn_of _ (by decide +kernel)) ggX1_attempt_J7_fill_53178
set_option maxRecDepth 20000 in
theorem ggX1_attempt_X1_highestUnplaced : GoodIn wsX1_attempt wsX1_highestUnplaced := goodIn_r _ [31, 2, 5, 3, 32, 76, 77, 78, 79, 80, 81, 82, 83, 84, 85, 86, 87, 88, 89, 90] (by decide +kernel) (by decide +kernel)
set_option maxRecDepth 20000 in
theorem gX1_attempt_X1_highestUnplaced : GoodIn wsX1_attempt (wsV RX1 46 RX1 yX1_highestUnplaced wsX1_highestUnplaced) := goodIn_app (goodIn_of _ (by decide +kernel)) ggX1_attempt_X1_highestUnplaced
set_option maxRecDepth 20000 in
theorem ggX1_attempt_X1_placeAtFirst : GoodIn wsX1_attempt wsX1_placeAtFirst := goodIn_r _ [36, 1, 37, 38, 39, 30, 40, 2, 41, 42, 43, 3, 44, 45, 46, 47, 48, 49, 50, 51, 52, 53, 54, 55, 56, 57, 58, 59, 60, 61, 62, 4, 63, 64, 65, 66, 67, 68, 69, 70, 71, 76, 77, 78, 79, 80, 81, 82, 83, 84, 85, 86, 87, 88, 89, 90] (by decide +kernel) (by decide +kernel)
set_option maxRecDepth 20000 in
theorem gX1_attempt_X1_placeAtFirst : GoodIn wsX1_attempt (wsV RX1 50 RX1 yX1_placeAtFirst wsX1_placeAtFirst) := goodIn_app (goodIn_of _ (by decide +kernel)) ggX1_attempt_X1_placeAtFirst
set_option maxRecDepth 20000 in
theorem ggX1_attempt_X1_drop : GoodIn wsX1_attempt wsX1_drop := goodIn_r _ [75, 1, 76, 77, 78, 79, 80] (by decide +kernel) (by decide +kernel)
set_option maxRecDepth 20000 in
theorem gX1_attempt_X1_drop : GoodIn wsX1_attempt (wsV RX1 53 RX1 yX1_drop wsX1_drop) := goodIn_app (goodIn_of _ (by decide +kernel)) ggX1_attempt_X1_drop
theorem dX1_attempt_0 : decode cX1_attempt 0 = .ok (.aload_n 0, 1) := by decide +kernel
theorem dX1_attempt_1 : decode cX1_attempt 1 = .ok (.iload_n 1, 1) := by decide +kernel
theorem dX1_attempt_2 : decode cX1_attempt 2 = .ok (.putfield 27, 3) := by decide +kernel
theorem dX1_attempt_5 : decode cX1_attempt 5 = .ok (.aload_n 0, 1) := by decide +kernel
theorem dX1_attempt_6 : decode cX1_attempt 6 = .ok (.getfield 23, 3) := by decide +kernel
theorem dX1_attempt_9 : decode cX1_attempt 9 = .ok (.iload_n 1, 1) := by decide +kernel
theorem dX1_attempt_10 : decode cX1_attempt 10 = .ok (.invokevirtual 31, 3) := by decide +kernel
theorem dX1_attempt_13 : decode cX1_attempt 13 = .ok (.pop, 1) := by decide +kernel
theorem dX1_attempt_14 : decode cX1_attempt 14 = .ok (.aload_n 0, 1) := by decide +kernel
theorem dX1_attempt_15 : decode cX1_attempt 15 = .ok (.getfield 9, 3) := by decide +kernel
theorem dX1_attempt_18 : decode cX1_attempt 18 = .ok (.iconst (-1), 1) := by decide +kernel
theorem dX1_attempt_19 : decode cX1_attempt 19 = .ok (.invokestatic 37, 3) := by decide +kernel
theorem dX1_attempt_22 : decode cX1_attempt 22 = .ok (.iconst 0, 1) := by decide +kernel
theorem dX1_attempt_23 : decode cX1_attempt 23 = .ok (.istore_n 2, 1) := by decide +kernel
theorem dX1_attempt_24 : decode cX1_attempt 24 = .ok (.iload_n 2, 1) := by decide +kernel
theorem dX1_attempt_25 : decode cX1_attempt 25 = .ok (.iconst 3, 1) := by decide +kernel
theorem dX1_attempt_26 : decode cX1_attempt 26 = .ok (.if_icmp .ge 19, 3) := by decide +kernel
theorem dX1_attempt_29 : decode cX1_attempt 29 = .ok (.aload_n 0, 1) := by decide +kernel
theorem dX1_attempt_30 : decode cX1_attempt 30 = .ok (.getfield 17, 3) := by decide +kernel
theorem dX1_attempt_33 : decode cX1_attempt 33 = .ok (.iload_n 2, 1) := by decide +kernel
theorem dX1_attempt_34 : decode cX1_attempt 34 = .ok (.aaload, 1) := by decide +kernel
theorem dX1_attempt_35 : decode cX1_attempt 35 = .ok (.iconst 0, 1) := by decide +kernel
theorem dX1_attempt_36 : decode cX1_attempt 36 = .ok (.invokestatic 37, 3) := by decide +kernel
theorem dX1_attempt_39 : decode cX1_attempt 39 = .ok (.iinc 2 1, 3) := by decide +kernel
theorem dX1_attempt_42 : decode cX1_attempt 42 = .ok (.goto (-18), 3) := by decide +kernel
theorem dX1_attempt_45 : decode cX1_attempt 45 = .ok (.iconst 0, 1) := by decide +kernel
theorem dX1_attempt_46 : decode cX1_attempt 46 = .ok (.istore_n 2, 1) := by decide +kernel
theorem dX1_attempt_47 : decode cX1_attempt 47 = .ok (.iload_n 2, 1) := by decide +kernel
theorem dX1_attempt_48 : decode cX1_attempt 48 = .ok (.aload_n 0, 1) := by decide +kernel
theorem dX1_attempt_49 : decode cX1_attempt 49 = .ok (.getfield 23, 3) := by decide +kernel
theorem dX1_attempt_52 : decode cX1_attempt 52 = .ok (.getfield 43, 3) := by decide +kernel
theorem dX1_attempt_55 : decode cX1_attempt 55 = .ok (.if_icmp .ge 33, 3) := by decide +kernel
theorem dX1_attempt_58 : decode cX1_attempt 58 = .ok (.aload_n 0, 1) := by decide +kernel
theorem dX1_attempt_59 : decode cX1_attempt 59 = .ok (.invokevirtual 46, 3) := by decide +kernel
theorem dX1_attempt_62 : decode cX1_attempt 62 = .ok (.istore_n 3, 1) := by decide +kernel
theorem dX1_attempt_63 : decode cX1_attempt 63 = .ok (.iload_n 3, 1) := by decide +kernel
theorem dX1_attempt_64 : decode cX1_attempt 64 = .ok (.iconst (-1), 1) := by decide +kernel
theorem dX1_attempt_65 : decode cX1_attempt 65 = .ok (.if_icmp .eq 11, 3) := by decide +kernel
theorem dX1_attempt_68 : decode cX1_attempt 68 = .ok (.aload_n 0, 1) := by decide +kernel
theorem dX1_attempt_69 : decode cX1_attempt 69 = .ok (.iload_n 3, 1) := by decide +kernel
theorem dX1_attempt_70 : decode cX1_attempt 70 = .ok (.invokevirtual 50, 3) := by decide +kernel
theorem dX1_attempt_73 : decode cX1_attempt 73 = .ok (.ifCond .ne 9, 3) := by decide +kernel
theorem dX1_attempt_76 : decode cX1_attempt 76 = .ok (.aload_n 0, 1) := by decide +kernel
theorem dX1_attempt_77 : decode cX1_attempt 77 = .ok (.invokevirtual 53, 3) := by decide +kernel
theorem dX1_attempt_80 : decode cX1_attempt 80 = .ok (.iconst 0, 1) := by decide +kernel
theorem dX1_attempt_81 : decode cX1_attempt 81 = .ok (.ireturn, 1) := by decide +kernel
theorem dX1_attempt_82 : decode cX1_attempt 82 = .ok (.iinc 2 1, 3) := by decide +kernel
theorem dX1_attempt_85 : decode cX1_attempt 85 = .ok (.goto (-38), 3) := by decide +kernel
theorem dX1_attempt_88 : decode cX1_attempt 88 = .ok (.iconst 1, 1) := by decide +kernel
theorem dX1_attempt_89 : decode cX1_attempt 89 = .ok (.ireturn, 1) := by decide +kernel
theorem dX1_highestUnplaced_0 : decode cX1_highestUnplaced 0 = .ok (.iconst (-1), 1) := by decide +kernel
theorem dX1_highestUnplaced_1 : decode cX1_highestUnplaced 1 = .ok (.istore_n 1, 1) := by decide +kernel
theorem dX1_highestUnplaced_2 : decode cX1_highestUnplaced 2 = .ok (.iconst 0, 1) := by decide +kernel
theorem dX1_highestUnplaced_3 : decode cX1_highestUnplaced 3 = .ok (.istore_n 2, 1) := by decide +kernel
theorem dX1_highestUnplaced_4 : decode cX1_highestUnplaced 4 = .ok (.iload_n 2, 1) := by decide +kernel
theorem dX1_highestUnplaced_5 : decode cX1_highestUnplaced 5 = .ok (.aload_n 0, 1) := by decide +kernel
theorem dX1_highestUnplaced_6 : decode cX1_highestUnplaced 6 = .ok (.getfield 23, 3) := by decide +kernel
theorem dX1_highestUnplaced_9 : decode cX1_highestUnplaced 9 = .ok (.getfield 43, 3) := by decide +kernel
theorem dX1_highestUnplaced_12 : decode cX1_highestUnplaced 12 = .ok (.if_icmp .ge 47, 3) := by decide +kernel
theorem dX1_highestUnplaced_15 : decode cX1_highestUnplaced 15 = .ok (.aload_n 0, 1) := by decide +kernel
theorem dX1_highestUnplaced_16 : decode cX1_highestUnplaced 16 = .ok (.getfield 9, 3) := by decide +kernel
theorem dX1_highestUnplaced_19 : decode cX1_highestUnplaced 19 = .ok (.iload_n 2, 1) := by decide +kernel
theorem dX1_highestUnplaced_20 : decode cX1_highestUnplaced 20 = .ok (.iaload, 1) := by decide +kernel
theorem dX1_highestUnplaced_21 : decode cX1_highestUnplaced 21 = .ok (.iconst (-1), 1) := by decide +kernel
theorem dX1_highestUnplaced_22 : decode cX1_highestUnplaced 22 = .ok (.if_icmp .ne 31, 3) := by decide +kernel
theorem dX1_highestUnplaced_25 : decode cX1_highestUnplaced 25 = .ok (.iload_n 1, 1) := by decide +kernel
theorem dX1_highestUnplaced_26 : decode cX1_highestUnplaced 26 = .ok (.iconst (-1), 1) := by decide +kernel
theorem dX1_highestUnplaced_27 : decode cX1_highestUnplaced 27 = .ok (.if_icmp .eq 24, 3) := by decide +kernel
theorem dX1_highestUnplaced_30 : decode cX1_highestUnplaced 30 = .ok (.aload_n 0, 1) := by decide +kernel
theorem dX1_highestUnplaced_31 : decode cX1_highestUnplaced 31 = .ok (.getfield 23, 3) := by decide +kernel
theorem dX1_highestUnplaced_34 : decode cX1_highestUnplaced 34 = .ok (.getfield 56, 3) := by decide +kernel
theorem dX1_highestUnplaced_37 : decode cX1_highestUnplaced 37 = .ok (.iload_n 2, 1) := by decide +kernel
theorem dX1_highestUnplaced_38 : decode cX1_highestUnplaced 38 = .ok (.iaload, 1) := by decide +kernel
theorem dX1_highestUnplaced_39 : decode cX1_highestUnplaced 39 = .ok (.aload_n 0, 1) := by decide +kernel
theorem dX1_highestUnplaced_40 : decode cX1_highestUnplaced 40 = .ok (.getfield 23, 3) := by decide +kernel
theorem dX1_highestUnplaced_43 : decode cX1_highestUnplaced 43 = .ok (.getfield 56, 3) := by decide +kernel
theorem dX1_highestUnplaced_46 : decode cX1_highestUnplaced 46 = .ok (.iload_n 1, 1) := by decide +kernel
theorem dX1_highestUnplaced_47 : decode cX1_highestUnplaced 47 = .ok (.iaload, 1) := by decide +kernel
theorem dX1_highestUnplaced_48 : decode cX1_highestUnplaced 48 = .ok (.if_icmp .le 5, 3) := by decide +kernel
theorem dX1_highestUnplaced_51 : decode cX1_highestUnplaced 51 = .ok (.iload_n 2, 1) := by decide +kernel
theorem dX1_highestUnplaced_52 : decode cX1_highestUnplaced 52 = .ok (.istore_n 1, 1) := by decide +kernel
theorem dX1_highestUnplaced_53 : decode cX1_highestUnplaced 53 = .ok (.iinc 2 1, 3) := by decide +kernel
theorem dX1_highestUnplaced_56 : decode cX1_highestUnplaced 56 = .ok (.goto (-52), 3) := by decide +kernel
theorem dX1_highestUnplaced_59 : decode cX1_highestUnplaced 59 = .ok (.iload_n 1, 1) := by decide +kernel
theorem dX1_highestUnplaced_60 : decode cX1_highestUnplaced 60 = .ok (.ireturn, 1) := by decide +kernel
set_option maxRecDepth 20000 in
theorem ggX1_placeAtFirst_X1_earliestAllowed : GoodIn wsX1_placeAtFirst wsX1_earliestAllowed := goodIn_r _ [6, 7, 8, 9, 10, 11, 12, 1, 13, 14, 15, 16, 17, 41, 42, 43, 44, 45, 46, 47, 48, 49, 50, 51, 52, 53, 54, 55] (by decide +kernel) (by decide +kernel)
set_option maxRecDepth 20000 in
theorem gX1_placeAtFirst_X1_earliestAllowed : GoodIn wsX1_placeAtFirst (wsV RX1 59 RX1 yX1_earliestAllowed wsX1_earliestAllowed) := goodIn_app (goodIn_of _ (by decide +kernel)) ggX1_placeAtFirst_X1_earliestAllowed
set_option maxRecDepth 20000 in
theorem ggX1_placeAtFirst_X1_latestAllowed : GoodIn wsX1_placeAtFirst wsX1_latestAllowed := goodIn_r _ [21, 7, 8, 10, 9, 11, 12, 1, 13, 22, 23, 16, 24, 41, 42, 43, 44, 45, 46, 47, 48, 49, 50, 51, 52, 53, 54, 55] (by decide +kernel) (by decide +kernel)
set_option maxRecDepth 20000 in
theorem gX1_placeAtFirst_X1_latestAllowed : GoodIn wsX1_placeAtFirst (wsV RX1 63 RX1 yX1_latestAllowed wsX1_latestAllowed) := goodIn_app (goodIn_of _ (by decide +kernel)) ggX1_placeAtFirst_X1_latestAllowed
set_option maxRecDepth 20000 in
theorem ggX1_placeAtFirst_X1_hasUnits : GoodIn wsX1_placeAtFirst wsX1_hasUnits := goodIn_r _ [28, 7, 29, 30, 31, 1, 32, 41, 42, 43, 44, 45, 46, 47, 48, 49, 50, 51, 52, 53, 54, 55] (by decide +kernel) (by decide +kernel)
set_option maxRecDepth 20000 in
theorem gX1_placeAtFirst_X1_hasUnits : GoodIn wsX1_placeAtFirst (wsV RX1 67 RX1 yX1_hasUnits wsX1_hasUnits) := goodIn_app (goodIn_of _ (by decide +kernel)) ggX1_placeAtFirst_X1_hasUnits
set_option maxRecDepth 20000 in
theorem ggX1_placeAtFirst_X1_place : GoodIn wsX1_placeAtFirst wsX1_place := goodIn_r _ [36, 11, 37, 38, 39, 5, 40, 7, 29, 30, 31, 1, 41, 42, 43, 44, 45, 46, 47, 48, 49, 50, 51, 52, 53, 54, 55] (by decide +kernel) (by decide +kernel)
set_option maxRecDepth 20000 in
theorem gX1_placeAtFirst_X1_place : GoodIn wsX1_placeAtFirst (wsV RX1 71 RX1 yX1_place wsX1_place) := goodIn_app (goodIn_of _ (by decide +kernel)) ggX1_placeAtFirst_X1_place
theorem dX1_placeAtFirst_0 : decode cX1_placeAtFirst 0 = .ok (.aload_n 0, 1) := by decide +kernel
theorem dX1_placeAtFirst_1 : decode cX1_placeAtFirst 1 = .ok (.iload_n 1, 1) := by decide +kernel
theorem dX1_placeAtFirst_2 : decode cX1_placeAtFirst 2 = .ok (.invokevirtual 59, 3) := by decide +kernel
theorem dX1_placeAtFirst_5 : decode cX1_placeAtFirst 5 = .ok (.istore_n 2, 1) := by decide +kernel
theorem dX1_placeAtFirst_6 : decode cX1_placeAtFirst 6 = .ok (.aload_n 0, 1) := by decide +kernel
theorem dX1_placeAtFirst_7 : decode cX1_placeAtFirst 7 = .ok (.iload_n 1, 1) := by decide +kernel
theorem dX1_placeAtFirst_8 : decode cX1_placeAtFirst 8 = .ok (.iload_n 2, 1) := by decide +kernel
theorem dX1_placeAtFirst_9 : decode cX1_placeAtFirst 9 = .ok (.aload_n 0, 1) := by decide +kernel
theorem dX1_placeAtFirst_10 : decode cX1_placeAtFirst 10 = .ok (.getfield 27, 3) := by decide +kernel
theorem dX1_placeAtFirst_13 : decode cX1_placeAtFirst 13 = .ok (.iadd, 1) := by decide +kernel
theorem dX1_placeAtFirst_14 : decode cX1_placeAtFirst 14 = .ok (.iconst 1, 1) := by decide +kernel
theorem dX1_placeAtFirst_15 : decode cX1_placeAtFirst 15 = .ok (.isub, 1) := by decide +kernel
theorem dX1_placeAtFirst_16 : decode cX1_placeAtFirst 16 = .ok (.invokevirtual 63, 3) := by decide +kernel
theorem dX1_placeAtFirst_19 : decode cX1_placeAtFirst 19 = .ok (.istore_n 3, 1) := by decide +kernel
theorem dX1_placeAtFirst_20 : decode cX1_placeAtFirst 20 = .ok (.iload_n 2, 1) := by decide +kernel
theorem dX1_placeAtFirst_21 : decode cX1_placeAtFirst 21 = .ok (.istore 4, 2) := by decide +kernel
theorem dX1_placeAtFirst_23 : decode cX1_placeAtFirst 23 = .ok (.iload 4, 2) := by decide +kernel
theorem dX1_placeAtFirst_25 : decode cX1_placeAtFirst 25 = .ok (.iload_n 3, 1) := by decide +kernel
theorem dX1_placeAtFirst_26 : decode cX1_placeAtFirst 26 = .ok (.if_icmp .gt 28, 3) := by decide +kernel
theorem dX1_placeAtFirst_29 : decode cX1_placeAtFirst 29 = .ok (.aload_n 0, 1) := by decide +kernel
theorem dX1_placeAtFirst_30 : decode cX1_placeAtFirst 30 = .ok (.iload_n 1, 1) := by decide +kernel
theorem dX1_placeAtFirst_31 : decode cX1_placeAtFirst 31 = .ok (.iload 4, 2) := by decide +kernel
theorem dX1_placeAtFirst_33 : decode cX1_placeAtFirst 33 = .ok (.invokevirtual 67, 3) := by decide +kernel
theorem dX1_placeAtFirst_36 : decode cX1_placeAtFirst 36 = .ok (.ifCond .eq 12, 3) := by decide +kernel
theorem dX1_placeAtFirst_39 : decode cX1_placeAtFirst 39 = .ok (.aload_n 0, 1) := by decide +kernel
theorem dX1_placeAtFirst_40 : decode cX1_placeAtFirst 40 = .ok (.iload_n 1, 1) := by decide +kernel
theorem dX1_placeAtFirst_41 : decode cX1_placeAtFirst 41 = .ok (.iload 4, 2) := by decide +kernel
theorem dX1_placeAtFirst_43 : decode cX1_placeAtFirst 43 = .ok (.invokevirtual 71, 3) := by decide +kernel
theorem dX1_placeAtFirst_46 : decode cX1_placeAtFirst 46 = .ok (.iconst 1, 1) := by decide +kernel
theorem dX1_placeAtFirst_47 : decode cX1_placeAtFirst 47 = .ok (.ireturn, 1) := by decide +kernel
theorem dX1_placeAtFirst_48 : decode cX1_placeAtFirst 48 = .ok (.iinc 4 1, 3) := by decide +kernel
theorem dX1_placeAtFirst_51 : decode cX1_placeAtFirst 51 = .ok (.goto (-28), 3) := by decide +kernel
theorem dX1_placeAtFirst_54 : decode cX1_placeAtFirst 54 = .ok (.iconst 0, 1) := by decide +kernel
theorem dX1_placeAtFirst_55 : decode cX1_placeAtFirst 55 = .ok (.ireturn, 1) := by decide +kernel
theorem dX1_earliestAllowed_0 : decode cX1_earliestAllowed 0 = .ok (.iconst 0, 1) := by decide +kernel
theorem dX1_earliestAllowed_1 : decode cX1_earliestAllowed 1 = .ok (.istore_n 2, 1) := by decide +kernel
theorem dX1_earliestAllowed_2 : decode cX1_earliestAllowed 2 = .ok (.iconst 0, 1) := by decide +kernel
theorem dX1_earliestAllowed_3 : decode cX1_earliestAllowed 3 = .ok (.istore_n 3, 1) := by decide +kernel
theorem dX1_earliestAllowed_4 : decode cX1_earliestAllowed 4 = .ok (.iload_n 3, 1) := by decide +kernel
theorem dX1_earliestAllowed_5 : decode cX1_earliestAllowed 5 = .ok (.aload_n 0, 1) := by decide +kernel
theorem dX1_earliestAllowed_6 : decode cX1_earliestAllowed 6 = .ok (.getfield 23, 3) := by decide +kernel
theorem dX1_earliestAllowed_9 : decode cX1_earliestAllowed 9 = .ok (.getfield 75, 3) := by decide +kernel
theorem dX1_earliestAllowed_12 : decode cX1_earliestAllowed 12 = .ok (.if_icmp .ge 81, 3) := by decide +kernel
theorem dX1_earliestAllowed_15 : decode cX1_earliestAllowed 15 = .ok (.aload_n 0, 1) := by decide +kernel
theorem dX1_earliestAllowed_16 : decode cX1_earliestAllowed 16 = .ok (.getfield 23, 3) := by decide +kernel
theorem dX1_earliestAllowed_19 : decode cX1_earliestAllowed 19 = .ok (.getfield 78, 3) := by decide +kernel
theorem dX1_earliestAllowed_22 : decode cX1_earliestAllowed 22 = .ok (.iload_n 3, 1) := by decide +kernel
theorem dX1_earliestAllowed_23 : decode cX1_earliestAllowed 23 = .ok (.iaload, 1) := by decide +kernel
theorem dX1_earliestAllowed_24 : decode cX1_earliestAllowed 24 = .ok (.istore 4, 2) := by decide +kernel
theorem dX1_earliestAllowed_26 : decode cX1_earliestAllowed 26 = .ok (.aload_n 0, 1) := by decide +kernel
theorem dX1_earliestAllowed_27 : decode cX1_earliestAllowed 27 = .ok (.getfield 23, 3) := by decide +kernel
theorem dX1_earliestAllowed_30 : decode cX1_earliestAllowed 30 = .ok (.getfield 81, 3) := by decide +kernel
theorem dX1_earliestAllowed_33 : decode cX1_earliestAllowed 33 = .ok (.iload_n 3, 1) := by decide +kernel
theorem dX1_earliestAllowed_34 : decode cX1_earliestAllowed 34 = .ok (.iaload, 1) := by decide +kernel
theorem dX1_earliestAllowed_35 : decode cX1_earliestAllowed 35 = .ok (.iload_n 1, 1) := by decide +kernel
theorem dX1_earliestAllowed_36 : decode cX1_earliestAllowed 36 = .ok (.if_icmp .ne 51, 3) := by decide +kernel
theorem dX1_earliestAllowed_39 : decode cX1_earliestAllowed 39 = .ok (.aload_n 0, 1) := by decide +kernel
theorem dX1_earliestAllowed_40 : decode cX1_earliestAllowed 40 = .ok (.getfield 9, 3) := by decide +kernel
theorem dX1_earliestAllowed_43 : decode cX1_earliestAllowed 43 = .ok (.iload 4, 2) := by decide +kernel
theorem dX1_earliestAllowed_45 : decode cX1_earliestAllowed 45 = .ok (.iaload, 1) := by decide +kernel
theorem dX1_earliestAllowed_46 : decode cX1_earliestAllowed 46 = .ok (.iconst (-1), 1) := by decide +kernel
theorem dX1_earliestAllowed_47 : decode cX1_earliestAllowed 47 = .ok (.if_icmp .eq 40, 3) := by decide +kernel
theorem dX1_earliestAllowed_50 : decode cX1_earliestAllowed 50 = .ok (.iload_n 2, 1) := by decide +kernel
theorem dX1_earliestAllowed_51 : decode cX1_earliestAllowed 51 = .ok (.aload_n 0, 1) := by decide +kernel
theorem dX1_earliestAllowed_52 : decode cX1_earliestAllowed 52 = .ok (.getfield 9, 3) := by decide +kernel
theorem dX1_earliestAllowed_55 : decode cX1_earliestAllowed 55 = .ok (.iload 4, 2) := by decide +kernel
theorem dX1_earliestAllowed_57 : decode cX1_earliestAllowed 57 = .ok (.iaload, 1) := by decide +kernel
theorem dX1_earliestAllowed_58 : decode cX1_earliestAllowed 58 = .ok (.aload_n 0, 1) := by decide +kernel
theorem dX1_earliestAllowed_59 : decode cX1_earliestAllowed 59 = .ok (.getfield 23, 3) := by decide +kernel
theorem dX1_earliestAllowed_62 : decode cX1_earliestAllowed 62 = .ok (.getfield 84, 3) := by decide +kernel
theorem dX1_earliestAllowed_65 : decode cX1_earliestAllowed 65 = .ok (.iload_n 3, 1) := by decide +kernel
theorem dX1_earliestAllowed_66 : decode cX1_earliestAllowed 66 = .ok (.iaload, 1) := by decide +kernel
theorem dX1_earliestAllowed_67 : decode cX1_earliestAllowed 67 = .ok (.iadd, 1) := by decide +kernel
theorem dX1_earliestAllowed_68 : decode cX1_earliestAllowed 68 = .ok (.aload_n 0, 1) := by decide +kernel
theorem dX1_earliestAllowed_69 : decode cX1_earliestAllowed 69 = .ok (.getfield 27, 3) := by decide +kernel
theorem dX1_earliestAllowed_72 : decode cX1_earliestAllowed 72 = .ok (.aload_n 0, 1) := by decide +kernel
theorem dX1_earliestAllowed_73 : decode cX1_earliestAllowed 73 = .ok (.getfield 23, 3) := by decide +kernel
theorem dX1_earliestAllowed_76 : decode cX1_earliestAllowed 76 = .ok (.getfield 87, 3) := by decide +kernel
theorem dX1_earliestAllowed_79 : decode cX1_earliestAllowed 79 = .ok (.iload_n 3, 1) := by decide +kernel
theorem dX1_earliestAllowed_80 : decode cX1_earliestAllowed 80 = .ok (.iaload, 1) := by decide +kernel
theorem dX1_earliestAllowed_81 : decode cX1_earliestAllowed 81 = .ok (.imul, 1) := by decide +kernel
theorem dX1_earliestAllowed_82 : decode cX1_earliestAllowed 82 = .ok (.isub, 1) := by decide +kernel
theorem dX1_earliestAllowed_83 : decode cX1_earliestAllowed 83 = .ok (.invokestatic 90, 3) := by decide +kernel
theorem dX1_earliestAllowed_86 : decode cX1_earliestAllowed 86 = .ok (.istore_n 2, 1) := by decide +kernel
theorem dX1_earliestAllowed_87 : decode cX1_earliestAllowed 87 = .ok (.iinc 3 1, 3) := by decide +kernel
theorem dX1_earliestAllowed_90 : decode cX1_earliestAllowed 90 = .ok (.goto (-86), 3) := by decide +kernel
theorem dX1_earliestAllowed_93 : decode cX1_earliestAllowed 93 = .ok (.iload_n 2, 1) := by decide +kernel
theorem dX1_earliestAllowed_94 : decode cX1_earliestAllowed 94 = .ok (.ireturn, 1) := by decide +kernel
theorem dX1_latestAllowed_0 : decode cX1_latestAllowed 0 = .ok (.iload_n 2, 1) := by decide +kernel
theorem dX1_latestAllowed_1 : decode cX1_latestAllowed 1 = .ok (.istore_n 3, 1) := by decide +kernel
theorem dX1_latestAllowed_2 : decode cX1_latestAllowed 2 = .ok (.iconst 0, 1) := by decide +kernel
theorem dX1_latestAllowed_3 : decode cX1_latestAllowed 3 = .ok (.istore 4, 2) := by decide +kernel
theorem dX1_latestAllowed_5 : decode cX1_latestAllowed 5 = .ok (.iload 4, 2) := by decide +kernel
theorem dX1_latestAllowed_7 : decode cX1_latestAllowed 7 = .ok (.aload_n 0, 1) := by decide +kernel
theorem dX1_latestAllowed_8 : decode cX1_latestAllowed 8 = .ok (.getfield 23, 3) := by decide +kernel
theorem dX1_latestAllowed_11 : decode cX1_latestAllowed 11 = .ok (.getfield 75, 3) := by decide +kernel
theorem dX1_latestAllowed_14 : decode cX1_latestAllowed 14 = .ok (.if_icmp .ge 85, 3) := by decide +kernel
theorem dX1_latestAllowed_17 : decode cX1_latestAllowed 17 = .ok (.aload_n 0, 1) := by decide +kernel
theorem dX1_latestAllowed_18 : decode cX1_latestAllowed 18 = .ok (.getfield 23, 3) := by decide +kernel
theorem dX1_latestAllowed_21 : decode cX1_latestAllowed 21 = .ok (.getfield 81, 3) := by decide +kernel
theorem dX1_latestAllowed_24 : decode cX1_latestAllowed 24 = .ok (.iload 4, 2) := by decide +kernel
theorem dX1_latestAllowed_26 : decode cX1_latestAllowed 26 = .ok (.iaload, 1) := by decide +kernel
theorem dX1_latestAllowed_27 : decode cX1_latestAllowed 27 = .ok (.istore 5, 2) := by decide +kernel
theorem dX1_latestAllowed_29 : decode cX1_latestAllowed 29 = .ok (.aload_n 0, 1) := by decide +kernel
theorem dX1_latestAllowed_30 : decode cX1_latestAllowed 30 = .ok (.getfield 23, 3) := by decide +kernel
theorem dX1_latestAllowed_33 : decode cX1_latestAllowed 33 = .ok (.getfield 78, 3) := by decide +kernel
theorem dX1_latestAllowed_36 : decode cX1_latestAllowed 36 = .ok (.iload 4, 2) := by decide +kernel
theorem dX1_latestAllowed_38 : decode cX1_latestAllowed 38 = .ok (.iaload, 1) := by decide +kernel
theorem dX1_latestAllowed_39 : decode cX1_latestAllowed 39 = .ok (.iload_n 1, 1) := by decide +kernel
theorem dX1_latestAllowed_40 : decode cX1_latestAllowed 40 = .ok (.if_icmp .ne 53, 3) := by decide +kernel
theorem dX1_latestAllowed_43 : decode cX1_latestAllowed 43 = .ok (.aload_n 0, 1) := by decide +kernel
theorem dX1_latestAllowed_44 : decode cX1_latestAllowed 44 = .ok (.getfield 9, 3) := by decide +kernel
theorem dX1_latestAllowed_47 : decode cX1_latestAllowed 47 = .ok (.iload 5, 2) := by decide +kernel
theorem dX1_latestAllowed_49 : decode cX1_latestAllowed 49 = .ok (.iaload, 1) := by decide +kernel
theorem dX1_latestAllowed_50 : decode cX1_latestAllowed 50 = .ok (.iconst (-1), 1) := by decide +kernel
theorem dX1_latestAllowed_51 : decode cX1_latestAllowed 51 = .ok (.if_icmp .eq 42, 3) := by decide +kernel
theorem dX1_latestAllowed_54 : decode cX1_latestAllowed 54 = .ok (.iload_n 3, 1) := by decide +kernel
theorem dX1_latestAllowed_55 : decode cX1_latestAllowed 55 = .ok (.aload_n 0, 1) := by decide +kernel
theorem dX1_latestAllowed_56 : decode cX1_latestAllowed 56 = .ok (.getfield 9, 3) := by decide +kernel
theorem dX1_latestAllowed_59 : decode cX1_latestAllowed 59 = .ok (.iload 5, 2) := by decide +kernel
theorem dX1_latestAllowed_61 : decode cX1_latestAllowed 61 = .ok (.iaload, 1) := by decide +kernel
theorem dX1_latestAllowed_62 : decode cX1_latestAllowed 62 = .ok (.aload_n 0, 1) := by decide +kernel
theorem dX1_latestAllowed_63 : decode cX1_latestAllowed 63 = .ok (.getfield 23, 3) := by decide +kernel
theorem dX1_latestAllowed_66 : decode cX1_latestAllowed 66 = .ok (.getfield 84, 3) := by decide +kernel
theorem dX1_latestAllowed_69 : decode cX1_latestAllowed 69 = .ok (.iload 4, 2) := by decide +kernel
theorem dX1_latestAllowed_71 : decode cX1_latestAllowed 71 = .ok (.iaload, 1) := by decide +kernel
theorem dX1_latestAllowed_72 : decode cX1_latestAllowed 72 = .ok (.isub, 1) := by decide +kernel
theorem dX1_latestAllowed_73 : decode cX1_latestAllowed 73 = .ok (.aload_n 0, 1) := by decide +kernel
theorem dX1_latestAllowed_74 : decode cX1_latestAllowed 74 = .ok (.getfield 27, 3) := by decide +kernel
theorem dX1_latestAllowed_77 : decode cX1_latestAllowed 77 = .ok (.aload_n 0, 1) := by decide +kernel
theorem dX1_latestAllowed_78 : decode cX1_latestAllowed 78 = .ok (.getfield 23, 3) := by decide +kernel
theorem dX1_latestAllowed_81 : decode cX1_latestAllowed 81 = .ok (.getfield 87, 3) := by decide +kernel
theorem dX1_latestAllowed_84 : decode cX1_latestAllowed 84 = .ok (.iload 4, 2) := by decide +kernel
theorem dX1_latestAllowed_86 : decode cX1_latestAllowed 86 = .ok (.iaload, 1) := by decide +kernel
theorem dX1_latestAllowed_87 : decode cX1_latestAllowed 87 = .ok (.imul, 1) := by decide +kernel
theorem dX1_latestAllowed_88 : decode cX1_latestAllowed 88 = .ok (.iadd, 1) := by decide +kernel
theorem dX1_latestAllowed_89 : decode cX1_latestAllowed 89 = .ok (.invokestatic 95, 3) := by decide +kernel
theorem dX1_latestAllowed_92 : decode cX1_latestAllowed 92 = .ok (.istore_n 3, 1) := by decide +kernel
theorem dX1_latestAllowed_93 : decode cX1_latestAllowed 93 = .ok (.iinc 4 1, 3) := by decide +kernel
theorem dX1_latestAllowed_96 : decode cX1_latestAllowed 96 = .ok (.goto (-91), 3) := by decide +kernel
theorem dX1_latestAllowed_99 : decode cX1_latestAllowed 99 = .ok (.iload_n 3, 1) := by decide +kernel
theorem dX1_latestAllowed_100 : decode cX1_latestAllowed 100 = .ok (.ireturn, 1) := by decide +kernel
theorem dX1_hasUnits_0 : decode cX1_hasUnits 0 = .ok (.aload_n 0, 1) := by decide +kernel
theorem dX1_hasUnits_1 : decode cX1_hasUnits 1 = .ok (.getfield 23, 3) := by decide +kernel
theorem dX1_hasUnits_4 : decode cX1_hasUnits 4 = .ok (.getfield 98, 3) := by decide +kernel
theorem dX1_hasUnits_7 : decode cX1_hasUnits 7 = .ok (.iload_n 1, 1) := by decide +kernel
theorem dX1_hasUnits_8 : decode cX1_hasUnits 8 = .ok (.iaload, 1) := by decide +kernel
theorem dX1_hasUnits_9 : decode cX1_hasUnits 9 = .ok (.istore_n 3, 1) := by decide +kernel
theorem dX1_hasUnits_10 : decode cX1_hasUnits 10 = .ok (.iconst 0, 1) := by decide +kernel
theorem dX1_hasUnits_11 : decode cX1_hasUnits 11 = .ok (.istore 4, 2) := by decide +kernel
theorem dX1_hasUnits_13 : decode cX1_hasUnits 13 = .ok (.iload 4, 2) := by decide +kernel
theorem dX1_hasUnits_15 : decode cX1_hasUnits 15 = .ok (.aload_n 0, 1) := by decide +kernel
theorem dX1_hasUnits_16 : decode cX1_hasUnits 16 = .ok (.getfield 23, 3) := by decide +kernel
theorem dX1_hasUnits_19 : decode cX1_hasUnits 19 = .ok (.getfield 101, 3) := by decide +kernel
theorem dX1_hasUnits_22 : decode cX1_hasUnits 22 = .ok (.iload_n 1, 1) := by decide +kernel
theorem dX1_hasUnits_23 : decode cX1_hasUnits 23 = .ok (.iaload, 1) := by decide +kernel
theorem dX1_hasUnits_24 : decode cX1_hasUnits 24 = .ok (.if_icmp .ge 51, 3) := by decide +kernel
theorem dX1_hasUnits_27 : decode cX1_hasUnits 27 = .ok (.aload_n 0, 1) := by decide +kernel
theorem dX1_hasUnits_28 : decode cX1_hasUnits 28 = .ok (.getfield 17, 3) := by decide +kernel
theorem dX1_hasUnits_31 : decode cX1_hasUnits 31 = .ok (.iload_n 3, 1) := by decide +kernel
theorem dX1_hasUnits_32 : decode cX1_hasUnits 32 = .ok (.aaload, 1) := by decide +kernel
theorem dX1_hasUnits_33 : decode cX1_hasUnits 33 = .ok (.iload_n 2, 1) := by decide +kernel
theorem dX1_hasUnits_34 : decode cX1_hasUnits 34 = .ok (.iload 4, 2) := by decide +kernel
theorem dX1_hasUnits_36 : decode cX1_hasUnits 36 = .ok (.iadd, 1) := by decide +kernel
theorem dX1_hasUnits_37 : decode cX1_hasUnits 37 = .ok (.aload_n 0, 1) := by decide +kernel
theorem dX1_hasUnits_38 : decode cX1_hasUnits 38 = .ok (.getfield 27, 3) := by decide +kernel
theorem dX1_hasUnits_41 : decode cX1_hasUnits 41 = .ok (.irem, 1) := by decide +kernel
theorem dX1_hasUnits_42 : decode cX1_hasUnits 42 = .ok (.iaload, 1) := by decide +kernel
theorem dX1_hasUnits_43 : decode cX1_hasUnits 43 = .ok (.istore 5, 2) := by decide +kernel
theorem dX1_hasUnits_45 : decode cX1_hasUnits 45 = .ok (.iload 5, 2) := by decide +kernel
theorem dX1_hasUnits_47 : decode cX1_hasUnits 47 = .ok (.iload 4, 2) := by decide +kernel
theorem dX1_hasUnits_49 : decode cX1_hasUnits 49 = .ok (.aload_n 0, 1) := by decide +kernel
theorem dX1_hasUnits_50 : decode cX1_hasUnits 50 = .ok (.getfield 27, 3) := by decide +kernel
theorem dX1_hasUnits_53 : decode cX1_hasUnits 53 = .ok (.idiv, 1) := by decide +kernel
theorem dX1_hasUnits_54 : decode cX1_hasUnits 54 = .ok (.iadd, 1) := by decide +kernel
theorem dX1_hasUnits_55 : decode cX1_hasUnits 55 = .ok (.aload_n 0, 1) := by decide +kernel
theorem dX1_hasUnits_56 : decode cX1_hasUnits 56 = .ok (.getfield 23, 3) := by decide +kernel
theorem dX1_hasUnits_59 : decode cX1_hasUnits 59 = .ok (.getfield 104, 3) := by decide +kernel
theorem dX1_hasUnits_62 : decode cX1_hasUnits 62 = .ok (.iload_n 3, 1) := by decide +kernel
theorem dX1_hasUnits_63 : decode cX1_hasUnits 63 = .ok (.iaload, 1) := by decide +kernel
theorem dX1_hasUnits_64 : decode cX1_hasUnits 64 = .ok (.if_icmp .lt 5, 3) := by decide +kernel
theorem dX1_hasUnits_67 : decode cX1_hasUnits 67 = .ok (.iconst 0, 1) := by decide +kernel
theorem dX1_hasUnits_68 : decode cX1_hasUnits 68 = .ok (.ireturn, 1) := by decide +kernel
theorem dX1_hasUnits_69 : decode cX1_hasUnits 69 = .ok (.iinc 4 1, 3) := by decide +kernel
theorem dX1_hasUnits_72 : decode cX1_hasUnits 72 = .ok (.goto (-59), 3) := by decide +kernel
theorem dX1_hasUnits_75 : decode cX1_hasUnits 75 = .ok (.iconst 1, 1) := by decide +kernel
theorem dX1_hasUnits_76 : decode cX1_hasUnits 76 = .ok (.ireturn, 1) := by decide +kernel
set_option maxRecDepth 20000 in
theorem ggX1_place_X1_changeTaken : GoodIn wsX1_place wsX1_changeTaken := goodIn_r _ [6, 7, 8, 9, 10, 11, 12, 13, 14, 15, 16, 17, 18, 19, 20, 21, 22, 23, 24, 25, 26] (by decide +kernel) (by decide +kernel)
set_option maxRecDepth 20000 in
theorem gX1_place_X1_changeTaken : GoodIn wsX1_place (wsV RX1 107 RX1 yX1_changeTaken wsX1_changeTaken) := goodIn_app (goodIn_of _ (by decide +kernel)) ggX1_place_X1_changeTaken
theorem dX1_place_0 : decode cX1_place 0 = .ok (.aload_n 0, 1) := by decide +kernel
theorem dX1_place_1 : decode cX1_place 1 = .ok (.getfield 9, 3) := by decide +kernel
theorem dX1_place_4 : decode cX1_place 4 = .ok (.iload_n 1, 1) := by decide +kernel
theorem dX1_place_5 : decode cX1_place 5 = .ok (.iload_n 2, 1) := by decide +kernel
theorem dX1_place_6 : decode cX1_place 6 = .ok (.iastore, 1) := by decide +kernel
theorem dX1_place_7 : decode cX1_place 7 = .ok (.aload_n 0, 1) := by decide +kernel
theorem dX1_place_8 : decode cX1_place 8 = .ok (.iload_n 1, 1) := by decide +kernel
theorem dX1_place_9 : decode cX1_place 9 = .ok (.iload_n 2, 1) := by decide +kernel
theorem dX1_place_10 : decode cX1_place 10 = .ok (.iconst 1, 1) := by decide +kernel
theorem dX1_place_11 : decode cX1_place 11 = .ok (.invokevirtual 107, 3) := by decide +kernel
theorem dX1_place_14 : decode cX1_place 14 = .ok (.return_, 1) := by decide +kernel
set_option maxRecDepth 20000 in
theorem ggX1_lift_X1_changeTaken : GoodIn wsX1_lift wsX1_changeTaken := goodIn_r _ [6, 7, 8, 9, 10, 11, 12, 13, 14, 15, 16, 17, 18, 19, 20, 21, 22, 23, 24, 25, 26] (by decide +kernel) (by decide +kernel)
set_option maxRecDepth 20000 in
theorem gX1_lift_X1_changeTaken : GoodIn wsX1_lift (wsV RX1 107 RX1 yX1_changeTaken wsX1_changeTaken) := goodIn_app (goodIn_of _ (by decide +kernel)) ggX1_lift_X1_changeTaken
theorem dX1_lift_0 : decode cX1_lift 0 = .ok (.aload_n 0, 1) := by decide +kernel
theorem dX1_lift_1 : decode cX1_lift 1 = .ok (.iload_n 1, 1) := by decide +kernel
theorem dX1_lift_2 : decode cX1_lift 2 = .ok (.aload_n 0, 1) := by decide +kernel
theorem dX1_lift_3 : decode cX1_lift 3 = .ok (.getfield 9, 3) := by decide +kernel
theorem dX1_lift_6 : decode cX1_lift 6 = .ok (.iload_n 1, 1) := by decide +kernel
theorem dX1_lift_7 : decode cX1_lift 7 = .ok (.iaload, 1) := by decide +kernel
theorem dX1_lift_8 : decode cX1_lift 8 = .ok (.iconst (-1), 1) := by decide +kernel
theorem dX1_lift_9 : decode cX1_lift 9 = .ok (.invokevirtual 107, 3) := by decide +kernel
theorem dX1_lift_12 : decode cX1_lift 12 = .ok (.aload_n 0, 1) := by decide +kernel
theorem dX1_lift_13 : decode cX1_lift 13 = .ok (.getfield 9, 3) := by decide +kernel
theorem dX1_lift_16 : decode cX1_lift 16 = .ok (.iload_n 1, 1) := by decide +kernel
theorem dX1_lift_17 : decode cX1_lift 17 = .ok (.iconst (-1), 1) := by decide +kernel
theorem dX1_lift_18 : decode cX1_lift 18 = .ok (.iastore, 1) := by decide +kernel
theorem dX1_lift_19 : decode cX1_lift 19 = .ok (.return_, 1) := by decide +kernel
theorem dX1_changeTaken_0 : decode cX1_changeTaken 0 = .ok (.aload_n 0, 1) := by decide +kernel
theorem dX1_changeTaken_1 : decode cX1_changeTaken 1 = .ok (.getfield 23, 3) := by decide +kernel
theorem dX1_changeTaken_4 : decode cX1_changeTaken 4 = .ok (.getfield 98, 3) := by decide +kernel
theorem dX1_changeTaken_7 : decode cX1_changeTaken 7 = .ok (.iload_n 1, 1) := by decide +kernel
theorem dX1_changeTaken_8 : decode cX1_changeTaken 8 = .ok (.iaload, 1) := by decide +kernel
theorem dX1_changeTaken_9 : decode cX1_changeTaken 9 = .ok (.istore 4, 2) := by decide +kernel
theorem dX1_changeTaken_11 : decode cX1_changeTaken 11 = .ok (.iconst 0, 1) := by decide +kernel
theorem dX1_changeTaken_12 : decode cX1_changeTaken 12 = .ok (.istore 5, 2) := by decide +kernel
theorem dX1_changeTaken_14 : decode cX1_changeTaken 14 = .ok (.iload 5, 2) := by decide +kernel
theorem dX1_changeTaken_16 : decode cX1_changeTaken 16 = .ok (.aload_n 0, 1) := by decide +kernel
theorem dX1_changeTaken_17 : decode cX1_changeTaken 17 = .ok (.getfield 23, 3) := by decide +kernel
theorem dX1_changeTaken_20 : decode cX1_changeTaken 20 = .ok (.getfield 101, 3) := by decide +kernel
theorem dX1_changeTaken_23 : decode cX1_changeTaken 23 = .ok (.iload_n 1, 1) := by decide +kernel
theorem dX1_changeTaken_24 : decode cX1_changeTaken 24 = .ok (.iaload, 1) := by decide +kernel
theorem dX1_changeTaken_25 : decode cX1_changeTaken 25 = .ok (.if_icmp .ge 30, 3) := by decide +kernel
theorem dX1_changeTaken_28 : decode cX1_changeTaken 28 = .ok (.aload_n 0, 1) := by decide +kernel
theorem dX1_changeTaken_29 : decode cX1_changeTaken 29 = .ok (.getfield 17, 3) := by decide +kernel
theorem dX1_changeTaken_32 : decode cX1_changeTaken 32 = .ok (.iload 4, 2) := by decide +kernel
theorem dX1_changeTaken_34 : decode cX1_changeTaken 34 = .ok (.aaload, 1) := by decide +kernel
theorem dX1_changeTaken_35 : decode cX1_changeTaken 35 = .ok (.iload_n 2, 1) := by decide +kernel
theorem dX1_changeTaken_36 : decode cX1_changeTaken 36 = .ok (.iload 5, 2) := by decide +kernel
theorem dX1_changeTaken_38 : decode cX1_changeTaken 38 = .ok (.iadd, 1) := by decide +kernel
theorem dX1_changeTaken_39 : decode cX1_changeTaken 39 = .ok (.aload_n 0, 1) := by decide +kernel
theorem dX1_changeTaken_40 : decode cX1_changeTaken 40 = .ok (.getfield 27, 3) := by decide +kernel
theorem dX1_changeTaken_43 : decode cX1_changeTaken 43 = .ok (.irem, 1) := by decide +kernel
theorem dX1_changeTaken_44 : decode cX1_changeTaken 44 = .ok (.dup2, 1) := by decide +kernel
theorem dX1_changeTaken_45 : decode cX1_changeTaken 45 = .ok (.iaload, 1) := by decide +kernel
theorem dX1_changeTaken_46 : decode cX1_changeTaken 46 = .ok (.iload_n 3, 1) := by decide +kernel
theorem dX1_changeTaken_47 : decode cX1_changeTaken 47 = .ok (.iadd, 1) := by decide +kernel
theorem dX1_changeTaken_48 : decode cX1_changeTaken 48 = .ok (.iastore, 1) := by decide +kernel
theorem dX1_changeTaken_49 : decode cX1_changeTaken 49 = .ok (.iinc 5 1, 3) := by decide +kernel
theorem dX1_changeTaken_52 : decode cX1_changeTaken 52 = .ok (.goto (-38), 3) := by decide +kernel
theorem dX1_changeTaken_55 : decode cX1_changeTaken 55 = .ok (.return_, 1) := by decide +kernel
set_option maxRecDepth 20000 in
theorem ggX1_replace_X1_lift : GoodIn wsX1_replace wsX1_lift := goodIn_r _ [6, 1, 7, 8, 9, 5, 10, 11, 12, 13, 14, 15, 45, 46, 47, 48, 49, 50, 51, 52, 53, 54, 55, 56, 57, 58, 59] (by decide +kernel) (by decide +kernel)
set_option maxRecDepth 20000 in
theorem gX1_replace_X1_lift : GoodIn wsX1_replace (wsV RX1 111 RX1 yX1_lift wsX1_lift) := goodIn_app (goodIn_of _ (by decide +kernel)) ggX1_replace_X1_lift
set_option maxRecDepth 20000 in
theorem ggX1_replace_X1_earliestAllowed : GoodIn wsX1_replace wsX1_earliestAllowed := goodIn_r _ [19, 11, 20, 21, 22, 1, 23, 15, 24, 25, 26, 27, 28, 45, 46, 47, 48, 49, 50, 51, 52, 53, 54, 55, 56, 57, 58, 59] (by decide +kernel) (by decide +kernel)
set_option maxRecDepth 20000 in
theorem gX1_replace_X1_earliestAllowed : GoodIn wsX1_replace (wsV RX1 59 RX1 yX1_earliestAllowed wsX1_earliestAllowed) := goodIn_app (goodIn_of _ (by decide +kernel)) ggX1_replace_X1_earliestAllowed
set_option maxRecDepth 20000 in
theorem ggX1_replace_X1_latestAllowed : GoodIn wsX1_replace wsX1_latestAllowed := goodIn_r _ [32, 11, 20, 22, 21, 1, 23, 15, 24, 33, 34, 27, 35, 45, 46, 47, 48, 49, 50, 51, 52, 53, 54, 55, 56, 57, 58, 59] (by decide +kernel) (by decide +kernel)
set_option maxRecDepth 20000 in
theorem gX1_replace_X1_latestAllowed : GoodIn wsX1_replace (wsV RX1 63 RX1 yX1_latestAllowed wsX1_latestAllowed) := goodIn_app (goodIn_of _ (by decide +kernel)) ggX1_replace_X1_latestAllowed
set_option maxRecDepth 20000 in
theorem ggX1_replace_X1_hasUnits : GoodIn wsX1_replace wsX1_hasUnits := goodIn_r _ [39, 11, 12, 13, 14, 15, 40, 45, 46, 47, 48, 49, 50, 51, 52, 53, 54, 55, 56, 57, 58, 59] (by decide +kernel) (by decide +kernel)
set_option maxRecDepth 20000 in
theorem gX1_replace_X1_hasUnits : GoodIn wsX1_replace (wsV RX1 67 RX1 yX1_hasUnits wsX1_hasUnits) := goodIn_app (goodIn_of _ (by decide +kernel)) ggX1_replace_X1_hasUnits
set_option maxRecDepth 20000 in
theorem ggX1_replace_X1_place : GoodIn wsX1_replace wsX1_place := goodIn_r _ [44, 1, 7, 8, 9, 5, 10, 11, 12, 13, 14, 15, 45, 46, 47, 48, 49, 50, 51, 52, 53, 54, 55, 56, 57, 58, 59] (by decide +kernel) (by decide +kernel)
set_option maxRecDepth 20000 in
theorem gX1_replace_X1_place : GoodIn wsX1_replace (wsV RX1 71 RX1 yX1_place wsX1_place) := goodIn_app (goodIn_of _ (by decide +kernel)) ggX1_replace_X1_place
theorem dX1_replace_0 : decode cX1_replace 0 = .ok (.aload_n 0, 1) := by decide +kernel
theorem dX1_replace_1 : decode cX1_replace 1 = .ok (.getfield 9, 3) := by decide +kernel
theorem dX1_replace_4 : decode cX1_replace 4 = .ok (.iload_n 1, 1) := by decide +kernel
theorem dX1_replace_5 : decode cX1_replace 5 = .ok (.iaload, 1) := by decide +kernel
theorem dX1_replace_6 : decode cX1_replace 6 = .ok (.istore_n 3, 1) := by decide +kernel
theorem dX1_replace_7 : decode cX1_replace 7 = .ok (.aload_n 0, 1) := by decide +kernel
theorem dX1_replace_8 : decode cX1_replace 8 = .ok (.iload_n 1, 1) := by decide +kernel
theorem dX1_replace_9 : decode cX1_replace 9 = .ok (.invokevirtual 111, 3) := by decide +kernel
theorem dX1_replace_12 : decode cX1_replace 12 = .ok (.iload_n 2, 1) := by decide +kernel
theorem dX1_replace_13 : decode cX1_replace 13 = .ok (.aload_n 0, 1) := by decide +kernel
theorem dX1_replace_14 : decode cX1_replace 14 = .ok (.iload_n 1, 1) := by decide +kernel
theorem dX1_replace_15 : decode cX1_replace 15 = .ok (.invokevirtual 59, 3) := by decide +kernel
theorem dX1_replace_18 : decode cX1_replace 18 = .ok (.if_icmp .lt 28, 3) := by decide +kernel
theorem dX1_replace_21 : decode cX1_replace 21 = .ok (.iload_n 2, 1) := by decide +kernel
theorem dX1_replace_22 : decode cX1_replace 22 = .ok (.aload_n 0, 1) := by decide +kernel
theorem dX1_replace_23 : decode cX1_replace 23 = .ok (.iload_n 1, 1) := by decide +kernel
theorem dX1_replace_24 : decode cX1_replace 24 = .ok (.sipush 1000, 3) := by decide +kernel
theorem dX1_replace_27 : decode cX1_replace 27 = .ok (.invokevirtual 63, 3) := by decide +kernel
theorem dX1_replace_30 : decode cX1_replace 30 = .ok (.if_icmp .gt 16, 3) := by decide +kernel
theorem dX1_replace_33 : decode cX1_replace 33 = .ok (.aload_n 0, 1) := by decide +kernel
theorem dX1_replace_34 : decode cX1_replace 34 = .ok (.iload_n 1, 1) := by decide +kernel
theorem dX1_replace_35 : decode cX1_replace 35 = .ok (.iload_n 2, 1) := by decide +kernel
theorem dX1_replace_36 : decode cX1_replace 36 = .ok (.invokevirtual 67, 3) := by decide +kernel
theorem dX1_replace_39 : decode cX1_replace 39 = .ok (.ifCond .eq 7, 3) := by decide +kernel
theorem dX1_replace_42 : decode cX1_replace 42 = .ok (.iconst 1, 1) := by decide +kernel
theorem dX1_replace_43 : decode cX1_replace 43 = .ok (.goto 4, 3) := by decide +kernel
theorem dX1_replace_46 : decode cX1_replace 46 = .ok (.iconst 0, 1) := by decide +kernel
theorem dX1_replace_47 : decode cX1_replace 47 = .ok (.istore 4, 2) := by decide +kernel
theorem dX1_replace_49 : decode cX1_replace 49 = .ok (.aload_n 0, 1) := by decide +kernel
theorem dX1_replace_50 : decode cX1_replace 50 = .ok (.iload_n 1, 1) := by decide +kernel
theorem dX1_replace_51 : decode cX1_replace 51 = .ok (.iload 4, 2) := by decide +kernel
theorem dX1_replace_53 : decode cX1_replace 53 = .ok (.ifCond .eq 7, 3) := by decide +kernel
theorem dX1_replace_56 : decode cX1_replace 56 = .ok (.iload_n 2, 1) := by decide +kernel
theorem dX1_replace_57 : decode cX1_replace 57 = .ok (.goto 4, 3) := by decide +kernel
theorem dX1_replace_60 : decode cX1_replace 60 = .ok (.iload_n 3, 1) := by decide +kernel
theorem dX1_replace_61 : decode cX1_replace 61 = .ok (.invokevirtual 71, 3) := by decide +kernel
theorem dX1_replace_64 : decode cX1_replace 64 = .ok (.iload 4, 2) := by decide +kernel
theorem dX1_replace_66 : decode cX1_replace 66 = .ok (.ireturn, 1) := by decide +kernel
theorem dX1_greatestTime_0 : decode cX1_greatestTime 0 = .ok (.iconst 0, 1) := by decide +kernel
theorem dX1_greatestTime_1 : decode cX1_greatestTime 1 = .ok (.istore_n 1, 1) := by decide +kernel
theorem dX1_greatestTime_2 : decode cX1_greatestTime 2 = .ok (.iconst 0, 1) := by decide +kernel
theorem dX1_greatestTime_3 : decode cX1_greatestTime 3 = .ok (.istore_n 2, 1) := by decide +kernel
theorem dX1_greatestTime_4 : decode cX1_greatestTime 4 = .ok (.iload_n 2, 1) := by decide +kernel
theorem dX1_greatestTime_5 : decode cX1_greatestTime 5 = .ok (.aload_n 0, 1) := by decide +kernel
theorem dX1_greatestTime_6 : decode cX1_greatestTime 6 = .ok (.getfield 23, 3) := by decide +kernel
theorem dX1_greatestTime_9 : decode cX1_greatestTime 9 = .ok (.getfield 43, 3) := by decide +kernel
theorem dX1_greatestTime_12 : decode cX1_greatestTime 12 = .ok (.if_icmp .ge 20, 3) := by decide +kernel
theorem dX1_greatestTime_15 : decode cX1_greatestTime 15 = .ok (.iload_n 1, 1) := by decide +kernel
theorem dX1_greatestTime_16 : decode cX1_greatestTime 16 = .ok (.aload_n 0, 1) := by decide +kernel
theorem dX1_greatestTime_17 : decode cX1_greatestTime 17 = .ok (.getfield 9, 3) := by decide +kernel
theorem dX1_greatestTime_20 : decode cX1_greatestTime 20 = .ok (.iload_n 2, 1) := by decide +kernel
theorem dX1_greatestTime_21 : decode cX1_greatestTime 21 = .ok (.iaload, 1) := by decide +kernel
theorem dX1_greatestTime_22 : decode cX1_greatestTime 22 = .ok (.invokestatic 90, 3) := by decide +kernel
theorem dX1_greatestTime_25 : decode cX1_greatestTime 25 = .ok (.istore_n 1, 1) := by decide +kernel
theorem dX1_greatestTime_26 : decode cX1_greatestTime 26 = .ok (.iinc 2 1, 3) := by decide +kernel
theorem dX1_greatestTime_29 : decode cX1_greatestTime 29 = .ok (.goto (-25), 3) := by decide +kernel
theorem dX1_greatestTime_32 : decode cX1_greatestTime 32 = .ok (.iload_n 1, 1) := by decide +kernel
theorem dX1_greatestTime_33 : decode cX1_greatestTime 33 = .ok (.ireturn, 1) := by decide +kernel
set_option maxRecDepth 20000 in
theorem ggX1_countStages_X1_greatestTime : GoodIn wsX1_countStages wsX1_greatestTime := goodIn_r _ [8, 1, 2, 9, 10, 11, 12, 13, 14, 15, 16, 17, 18, 19, 20, 21, 22, 23, 24, 25, 26, 27, 28] (by decide +kernel) (by decide +kernel)
set_option maxRecDepth 20000 in
theorem gX1_countStages_X1_greatestTime : GoodIn wsX1_countStages (wsV RX1 115 RX1 yX1_greatestTime wsX1_greatestTime) := goodIn_app (goodIn_of _ (by decide +kernel)) ggX1_countStages_X1_greatestTime
theorem dX1_countStages_0 : decode cX1_countStages 0 = .ok (.aload_n 0, 1) := by decide +kernel
theorem dX1_countStages_1 : decode cX1_countStages 1 = .ok (.getfield 23, 3) := by decide +kernel
theorem dX1_countStages_4 : decode cX1_countStages 4 = .ok (.getfield 43, 3) := by decide +kernel
theorem dX1_countStages_7 : decode cX1_countStages 7 = .ok (.ifCond .ne 7, 3) := by decide +kernel
theorem dX1_countStages_10 : decode cX1_countStages 10 = .ok (.iconst 0, 1) := by decide +kernel
theorem dX1_countStages_11 : decode cX1_countStages 11 = .ok (.goto 14, 3) := by decide +kernel
theorem dX1_countStages_14 : decode cX1_countStages 14 = .ok (.aload_n 0, 1) := by decide +kernel
theorem dX1_countStages_15 : decode cX1_countStages 15 = .ok (.invokevirtual 115, 3) := by decide +kernel
theorem dX1_countStages_18 : decode cX1_countStages 18 = .ok (.aload_n 0, 1) := by decide +kernel
theorem dX1_countStages_19 : decode cX1_countStages 19 = .ok (.getfield 27, 3) := by decide +kernel
theorem dX1_countStages_22 : decode cX1_countStages 22 = .ok (.idiv, 1) := by decide +kernel
theorem dX1_countStages_23 : decode cX1_countStages 23 = .ok (.iconst 1, 1) := by decide +kernel
theorem dX1_countStages_24 : decode cX1_countStages 24 = .ok (.iadd, 1) := by decide +kernel
theorem dX1_countStages_25 : decode cX1_countStages 25 = .ok (.ireturn, 1) := by decide +kernel
theorem dJ9_max_7cf53_0 : decode cJ9_max_7cf53 0 = .ok (.iload_n 0, 1) := by decide +kernel
theorem dJ9_max_7cf53_1 : decode cJ9_max_7cf53 1 = .ok (.iload_n 1, 1) := by decide +kernel
theorem dJ9_max_7cf53_2 : decode cJ9_max_7cf53 2 = .ok (.if_icmp .lt 7, 3) := by decide +kernel
theorem dJ9_max_7cf53_5 : decode cJ9_max_7cf53 5 = .ok (.iload_n 0, 1) := by decide +kernel
theorem dJ9_max_7cf53_6 : decode cJ9_max_7cf53 6 = .ok (.goto 4, 3) := by decide +kernel
theorem dJ9_max_7cf53_9 : decode cJ9_max_7cf53 9 = .ok (.iload_n 1, 1) := by decide +kernel
theorem dJ9_max_7cf53_10 : decode cJ9_max_7cf53 10 = .ok (.ireturn, 1) := by decide +kernel
theorem dJ9_min_7cf53_0 : decode cJ9_min_7cf53 0 = .ok (.iload_n 0, 1) := by decide +kernel
theorem dJ9_min_7cf53_1 : decode cJ9_min_7cf53 1 = .ok (.iload_n 1, 1) := by decide +kernel
theorem dJ9_min_7cf53_2 : decode cJ9_min_7cf53 2 = .ok (.if_icmp .gt 7, 3) := by decide +kernel
theorem dJ9_min_7cf53_5 : decode cJ9_min_7cf53 5 = .ok (.iload_n 0, 1) := by decide +kernel
theorem dJ9_min_7cf53_6 : decode cJ9_min_7cf53 6 = .ok (.goto 4, 3) := by decide +kernel
theorem dJ9_min_7cf53_9 : decode cJ9_min_7cf53 9 = .ok (.iload_n 1, 1) := by decide +kernel
theorem dJ9_min_7cf53_10 : decode cJ9_min_7cf53 10 = .ok (.ireturn, 1) := by decide +kernel
theorem dJ7_fill_53178_0 : decode cJ7_fill_53178 0 = .ok (.iconst 0, 1) := by decide +kernel
theorem dJ7_fill_53178_1 : decode cJ7_fill_53178 1 = .ok (.istore_n 2, 1) := by decide +kernel
theorem dJ7_fill_53178_2 : decode cJ7_fill_53178 2 = .ok (.aload_n 0, 1) := by decide +kernel
theorem dJ7_fill_53178_3 : decode cJ7_fill_53178 3 = .ok (.arraylength, 1) := by decide +kernel
theorem dJ7_fill_53178_4 : decode cJ7_fill_53178 4 = .ok (.istore_n 3, 1) := by decide +kernel
theorem dJ7_fill_53178_5 : decode cJ7_fill_53178 5 = .ok (.iload_n 2, 1) := by decide +kernel
theorem dJ7_fill_53178_6 : decode cJ7_fill_53178 6 = .ok (.iload_n 3, 1) := by decide +kernel
theorem dJ7_fill_53178_7 : decode cJ7_fill_53178 7 = .ok (.if_icmp .ge 13, 3) := by decide +kernel
theorem dJ7_fill_53178_10 : decode cJ7_fill_53178 10 = .ok (.aload_n 0, 1) := by decide +kernel
theorem dJ7_fill_53178_11 : decode cJ7_fill_53178 11 = .ok (.iload_n 2, 1) := by decide +kernel
theorem dJ7_fill_53178_12 : decode cJ7_fill_53178 12 = .ok (.iload_n 1, 1) := by decide +kernel
theorem dJ7_fill_53178_13 : decode cJ7_fill_53178 13 = .ok (.iastore, 1) := by decide +kernel
theorem dJ7_fill_53178_14 : decode cJ7_fill_53178 14 = .ok (.iinc 2 1, 3) := by decide +kernel
theorem dJ7_fill_53178_17 : decode cJ7_fill_53178 17 = .ok (.goto (-12), 3) := by decide +kernel
theorem dJ7_fill_53178_20 : decode cJ7_fill_53178 20 = .ok (.return_, 1) := by decide +kernel
