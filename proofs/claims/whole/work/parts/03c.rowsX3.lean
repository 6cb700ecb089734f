theorem dX3_init_0 : decode cX3_init 0 = .ok (.aload_n 0, 1) := by decide +kernel
theorem dX3_init_1 : decode cX3_init 1 = .ok (.invokespecial 1, 3) := by decide +kernel
theorem dX3_init_4 : decode cX3_init 4 = .ok (.aload_n 0, 1) := by decide +kernel
theorem dX3_init_5 : decode cX3_init 5 = .ok (.iconst 3, 1) := by decide +kernel
theorem dX3_init_6 : decode cX3_init 6 = .ok (.newarray .int, 2) := by decide +kernel
theorem dX3_init_8 : decode cX3_init 8 = .ok (.dup, 1) := by decide +kernel
theorem dX3_init_9 : decode cX3_init 9 = .ok (.iconst 0, 1) := by decide +kernel
theorem dX3_init_10 : decode cX3_init 10 = .ok (.iconst 1, 1) := by decide +kernel
theorem dX3_init_11 : decode cX3_init 11 = .ok (.iastore, 1) := by decide +kernel
theorem dX3_init_12 : decode cX3_init 12 = .ok (.dup, 1) := by decide +kernel
theorem dX3_init_13 : decode cX3_init 13 = .ok (.iconst 1, 1) := by decide +kernel
theorem dX3_init_14 : decode cX3_init 14 = .ok (.iconst 1, 1) := by decide +kernel
theorem dX3_init_15 : decode cX3_init 15 = .ok (.iastore, 1) := by decide +kernel
theorem dX3_init_16 : decode cX3_init 16 = .ok (.dup, 1) := by decide +kernel
theorem dX3_init_17 : decode cX3_init 17 = .ok (.iconst 2, 1) := by decide +kernel
theorem dX3_init_18 : decode cX3_init 18 = .ok (.iconst 1, 1) := by decide +kernel
theorem dX3_init_19 : decode cX3_init 19 = .ok (.iastore, 1) := by decide +kernel
theorem dX3_init_20 : decode cX3_init 20 = .ok (.putfield 7, 3) := by decide +kernel
theorem dX3_init_23 : decode cX3_init 23 = .ok (.aload_n 0, 1) := by decide +kernel
theorem dX3_init_24 : decode cX3_init 24 = .ok (.bipush 14, 2) := by decide +kernel
theorem dX3_init_26 : decode cX3_init 26 = .ok (.newarray .int, 2) := by decide +kernel
theorem dX3_init_28 : decode cX3_init 28 = .ok (.putfield 13, 3) := by decide +kernel
theorem dX3_init_31 : decode cX3_init 31 = .ok (.aload_n 0, 1) := by decide +kernel
theorem dX3_init_32 : decode cX3_init 32 = .ok (.bipush 14, 2) := by decide +kernel
theorem dX3_init_34 : decode cX3_init 34 = .ok (.newarray .int, 2) := by decide +kernel
theorem dX3_init_36 : decode cX3_init 36 = .ok (.putfield 16, 3) := by decide +kernel
theorem dX3_init_39 : decode cX3_init 39 = .ok (.aload_n 0, 1) := by decide +kernel
theorem dX3_init_40 : decode cX3_init 40 = .ok (.bipush 40, 2) := by decide +kernel
theorem dX3_init_42 : decode cX3_init 42 = .ok (.newarray .int, 2) := by decide +kernel
theorem dX3_init_44 : decode cX3_init 44 = .ok (.putfield 19, 3) := by decide +kernel
theorem dX3_init_47 : decode cX3_init 47 = .ok (.aload_n 0, 1) := by decide +kernel
theorem dX3_init_48 : decode cX3_init 48 = .ok (.bipush 40, 2) := by decide +kernel
theorem dX3_init_50 : decode cX3_init 50 = .ok (.newarray .int, 2) := by decide +kernel
theorem dX3_init_52 : decode cX3_init 52 = .ok (.putfield 22, 3) := by decide +kernel
theorem dX3_init_55 : decode cX3_init 55 = .ok (.aload_n 0, 1) := by decide +kernel
theorem dX3_init_56 : decode cX3_init 56 = .ok (.bipush 40, 2) := by decide +kernel
theorem dX3_init_58 : decode cX3_init 58 = .ok (.newarray .int, 2) := by decide +kernel
theorem dX3_init_60 : decode cX3_init 60 = .ok (.putfield 25, 3) := by decide +kernel
theorem dX3_init_63 : decode cX3_init 63 = .ok (.aload_n 0, 1) := by decide +kernel
theorem dX3_init_64 : decode cX3_init 64 = .ok (.bipush 40, 2) := by decide +kernel
theorem dX3_init_66 : decode cX3_init 66 = .ok (.newarray .int, 2) := by decide +kernel
theorem dX3_init_68 : decode cX3_init 68 = .ok (.putfield 28, 3) := by decide +kernel
theorem dX3_init_71 : decode cX3_init 71 = .ok (.aload_n 0, 1) := by decide +kernel
theorem dX3_init_72 : decode cX3_init 72 = .ok (.bipush 14, 2) := by decide +kernel
theorem dX3_init_74 : decode cX3_init 74 = .ok (.newarray .int, 2) := by decide +kernel
theorem dX3_init_76 : decode cX3_init 76 = .ok (.putfield 31, 3) := by decide +kernel
theorem dX3_init_79 : decode cX3_init 79 = .ok (.aload_n 0, 1) := by decide +kernel
theorem dX3_init_80 : decode cX3_init 80 = .ok (.bipush 14, 2) := by decide +kernel
theorem dX3_init_82 : decode cX3_init 82 = .ok (.newarray .int, 2) := by decide +kernel
theorem dX3_init_84 : decode cX3_init 84 = .ok (.putfield 34, 3) := by decide +kernel
theorem dX3_init_87 : decode cX3_init 87 = .ok (.aload_n 0, 1) := by decide +kernel
theorem dX3_init_88 : decode cX3_init 88 = .ok (.bipush 14, 2) := by decide +kernel
theorem dX3_init_90 : decode cX3_init 90 = .ok (.newarray .boolean, 2) := by decide +kernel
theorem dX3_init_92 : decode cX3_init 92 = .ok (.putfield 37, 3) := by decide +kernel
theorem dX3_init_95 : decode cX3_init 95 = .ok (.aload_n 0, 1) := by decide +kernel
theorem dX3_init_96 : decode cX3_init 96 = .ok (.sipush 600, 3) := by decide +kernel
theorem dX3_init_99 : decode cX3_init 99 = .ok (.newarray .int, 2) := by decide +kernel
theorem dX3_init_101 : decode cX3_init 101 = .ok (.putfield 41, 3) := by decide +kernel
theorem dX3_init_104 : decode cX3_init 104 = .ok (.return_, 1) := by decide +kernel
theorem dX3_thrown_0 : decode cX3_thrown 0 = .ok (.aload_n 0, 1) := by decide +kernel
theorem dX3_thrown_1 : decode cX3_thrown 1 = .ok (.getfield 44, 3) := by decide +kernel
theorem dX3_thrown_4 : decode cX3_thrown 4 = .ok (.ireturn, 1) := by decide +kernel
theorem dX3_no_0 : decode cX3_no 0 = .ok (.aload_n 0, 1) := by decide +kernel
theorem dX3_no_1 : decode cX3_no 1 = .ok (.iload_n 1, 1) := by decide +kernel
theorem dX3_no_2 : decode cX3_no 2 = .ok (.putfield 44, 3) := by decide +kernel
theorem dX3_no_5 : decode cX3_no 5 = .ok (.iconst 0, 1) := by decide +kernel
theorem dX3_no_6 : decode cX3_no 6 = .ok (.ireturn, 1) := by decide +kernel
theorem dX3_isIn_0 : decode cX3_isIn 0 = .ok (.iload_n 0, 1) := by decide +kernel
theorem dX3_isIn_1 : decode cX3_isIn 1 = .ok (.iload_n 1, 1) := by decide +kernel
theorem dX3_isIn_2 : decode cX3_isIn 2 = .ok (.if_icmp .lt 12, 3) := by decide +kernel
theorem dX3_isIn_5 : decode cX3_isIn 5 = .ok (.iload_n 0, 1) := by decide +kernel
theorem dX3_isIn_6 : decode cX3_isIn 6 = .ok (.iload_n 2, 1) := by decide +kernel
theorem dX3_isIn_7 : decode cX3_isIn 7 = .ok (.if_icmp .gt 7, 3) := by decide +kernel
theorem dX3_isIn_10 : decode cX3_isIn 10 = .ok (.iconst 1, 1) := by decide +kernel
theorem dX3_isIn_11 : decode cX3_isIn 11 = .ok (.goto 4, 3) := by decide +kernel
theorem dX3_isIn_14 : decode cX3_isIn 14 = .ok (.iconst 0, 1) := by decide +kernel
theorem dX3_isIn_15 : decode cX3_isIn 15 = .ok (.ireturn, 1) := by decide +kernel
set_option maxRecDepth 20000 in
theorem ggX3_isOperation_X3_isIn : GoodIn wsX3_isOperation wsX3_isIn := goodIn_r _ [5] (by decide +kernel) (by decide +kernel)
set_option maxRecDepth 20000 in
theorem gX3_isOperation_X3_isIn : GoodIn wsX3_isOperation (va_wsS RX3 51 yX3_isIn wsX3_isIn) := goodIn_app (goodIn_of _ (by decide +kernel)) ggX3_isOperation_X3_isIn
theorem dX3_isOperation_0 : decode cX3_isOperation 0 = .ok (.iload_n 1, 1) := by decide +kernel
theorem dX3_isOperation_1 : decode cX3_isOperation 1 = .ok (.iconst 0, 1) := by decide +kernel
theorem dX3_isOperation_2 : decode cX3_isOperation 2 = .ok (.aload_n 0, 1) := by decide +kernel
theorem dX3_isOperation_3 : decode cX3_isOperation 3 = .ok (.getfield 48, 3) := by decide +kernel
theorem dX3_isOperation_6 : decode cX3_isOperation 6 = .ok (.iconst 1, 1) := by decide +kernel
theorem dX3_isOperation_7 : decode cX3_isOperation 7 = .ok (.isub, 1) := by decide +kernel
theorem dX3_isOperation_8 : decode cX3_isOperation 8 = .ok (.invokestatic 51, 3) := by decide +kernel
theorem dX3_isOperation_11 : decode cX3_isOperation 11 = .ok (.ireturn, 1) := by decide +kernel
set_option maxRecDepth 20000 in
theorem ggX3_setUnits_X3_isIn : GoodIn wsX3_setUnits wsX3_isIn := goodIn_r _ [7] (by decide +kernel) (by decide +kernel)
set_option maxRecDepth 20000 in
theorem gX3_setUnits_X3_isIn : GoodIn wsX3_setUnits (va_wsS RX3 51 yX3_isIn wsX3_isIn) := goodIn_app (goodIn_of _ (by decide +kernel)) ggX3_setUnits_X3_isIn
set_option maxRecDepth 20000 in
theorem ggX3_setUnits_X3_no : GoodIn wsX3_setUnits wsX3_no := goodIn_r _ [11, 1, 12, 13, 14, 15, 16, 17, 18, 19, 20, 21, 22, 23, 24, 25, 26, 27] (by decide +kernel) (by decide +kernel)
set_option maxRecDepth 20000 in
theorem gX3_setUnits_X3_no : GoodIn wsX3_setUnits (wsV RX3 55 RX3 yX3_no wsX3_no) := goodIn_app (goodIn_of _ (by decide +kernel)) ggX3_setUnits_X3_no
theorem dX3_setUnits_0 : decode cX3_setUnits 0 = .ok (.aload_n 0, 1) := by decide +kernel
theorem dX3_setUnits_1 : decode cX3_setUnits 1 = .ok (.iconst 0, 1) := by decide +kernel
theorem dX3_setUnits_2 : decode cX3_setUnits 2 = .ok (.putfield 44, 3) := by decide +kernel
theorem dX3_setUnits_5 : decode cX3_setUnits 5 = .ok (.iload_n 1, 1) := by decide +kernel
theorem dX3_setUnits_6 : decode cX3_setUnits 6 = .ok (.iconst 0, 1) := by decide +kernel
theorem dX3_setUnits_7 : decode cX3_setUnits 7 = .ok (.iconst 2, 1) := by decide +kernel
theorem dX3_setUnits_8 : decode cX3_setUnits 8 = .ok (.invokestatic 51, 3) := by decide +kernel
theorem dX3_setUnits_11 : decode cX3_setUnits 11 = .ok (.ifCond .ne 9, 3) := by decide +kernel
theorem dX3_setUnits_14 : decode cX3_setUnits 14 = .ok (.aload_n 0, 1) := by decide +kernel
theorem dX3_setUnits_15 : decode cX3_setUnits 15 = .ok (.iconst 1, 1) := by decide +kernel
theorem dX3_setUnits_16 : decode cX3_setUnits 16 = .ok (.invokevirtual 55, 3) := by decide +kernel
theorem dX3_setUnits_19 : decode cX3_setUnits 19 = .ok (.ireturn, 1) := by decide +kernel
theorem dX3_setUnits_20 : decode cX3_setUnits 20 = .ok (.iload_n 2, 1) := by decide +kernel
theorem dX3_setUnits_21 : decode cX3_setUnits 21 = .ok (.iconst 1, 1) := by decide +kernel
theorem dX3_setUnits_22 : decode cX3_setUnits 22 = .ok (.iconst 3, 1) := by decide +kernel
theorem dX3_setUnits_23 : decode cX3_setUnits 23 = .ok (.invokestatic 51, 3) := by decide +kernel
theorem dX3_setUnits_26 : decode cX3_setUnits 26 = .ok (.ifCond .ne 9, 3) := by decide +kernel
theorem dX3_setUnits_29 : decode cX3_setUnits 29 = .ok (.aload_n 0, 1) := by decide +kernel
theorem dX3_setUnits_30 : decode cX3_setUnits 30 = .ok (.iconst 2, 1) := by decide +kernel
theorem dX3_setUnits_31 : decode cX3_setUnits 31 = .ok (.invokevirtual 55, 3) := by decide +kernel
theorem dX3_setUnits_34 : decode cX3_setUnits 34 = .ok (.ireturn, 1) := by decide +kernel
theorem dX3_setUnits_35 : decode cX3_setUnits 35 = .ok (.aload_n 0, 1) := by decide +kernel
theorem dX3_setUnits_36 : decode cX3_setUnits 36 = .ok (.getfield 7, 3) := by decide +kernel
theorem dX3_setUnits_39 : decode cX3_setUnits 39 = .ok (.iload_n 1, 1) := by decide +kernel
theorem dX3_setUnits_40 : decode cX3_setUnits 40 = .ok (.iaload, 1) := by decide +kernel
theorem dX3_setUnits_41 : decode cX3_setUnits 41 = .ok (.istore_n 3, 1) := by decide +kernel
theorem dX3_setUnits_42 : decode cX3_setUnits 42 = .ok (.aload_n 0, 1) := by decide +kernel
theorem dX3_setUnits_43 : decode cX3_setUnits 43 = .ok (.getfield 7, 3) := by decide +kernel
theorem dX3_setUnits_46 : decode cX3_setUnits 46 = .ok (.iload_n 1, 1) := by decide +kernel
theorem dX3_setUnits_47 : decode cX3_setUnits 47 = .ok (.iload_n 2, 1) := by decide +kernel
theorem dX3_setUnits_48 : decode cX3_setUnits 48 = .ok (.iastore, 1) := by decide +kernel
theorem dX3_setUnits_49 : decode cX3_setUnits 49 = .ok (.aload_n 0, 1) := by decide +kernel
theorem dX3_setUnits_50 : decode cX3_setUnits 50 = .ok (.iconst 0, 1) := by decide +kernel
theorem dX3_setUnits_51 : decode cX3_setUnits 51 = .ok (.putfield 59, 3) := by decide +kernel
theorem dX3_setUnits_54 : decode cX3_setUnits 54 = .ok (.iload_n 3, 1) := by decide +kernel
theorem dX3_setUnits_55 : decode cX3_setUnits 55 = .ok (.ireturn, 1) := by decide +kernel
set_option maxRecDepth 20000 in
theorem ggX3_addOperation_X3_isIn : GoodIn wsX3_addOperation wsX3_isIn := goodIn_r _ [9] (by decide +kernel) (by decide +kernel)
set_option maxRecDepth 20000 in
theorem gX3_addOperation_X3_isIn : GoodIn wsX3_addOperation (va_wsS RX3 51 yX3_isIn wsX3_isIn) := goodIn_app (goodIn_of _ (by decide +kernel)) ggX3_addOperation_X3_isIn
set_option maxRecDepth 20000 in
theorem ggX3_addOperation_X3_no : GoodIn wsX3_addOperation wsX3_no := goodIn_r _ [13, 1, 14, 15, 16, 17, 18, 19, 20, 21, 22, 23, 24, 25, 26, 27, 28, 29] (by decide +kernel) (by decide +kernel)
set_option maxRecDepth 20000 in
theorem gX3_addOperation_X3_no : GoodIn wsX3_addOperation (wsV RX3 55 RX3 yX3_no wsX3_no) := goodIn_app (goodIn_of _ (by decide +kernel)) ggX3_addOperation_X3_no
theorem dX3_addOperation_0 : decode cX3_addOperation 0 = .ok (.aload_n 0, 1) := by decide +kernel
theorem dX3_addOperation_1 : decode cX3_addOperation 1 = .ok (.iconst 0, 1) := by decide +kernel
theorem dX3_addOperation_2 : decode cX3_addOperation 2 = .ok (.putfield 44, 3) := by decide +kernel
theorem dX3_addOperation_5 : decode cX3_addOperation 5 = .ok (.iload_n 1, 1) := by decide +kernel
theorem dX3_addOperation_6 : decode cX3_addOperation 6 = .ok (.iconst 0, 1) := by decide +kernel
theorem dX3_addOperation_7 : decode cX3_addOperation 7 = .ok (.iconst 2, 1) := by decide +kernel
theorem dX3_addOperation_8 : decode cX3_addOperation 8 = .ok (.invokestatic 51, 3) := by decide +kernel
theorem dX3_addOperation_11 : decode cX3_addOperation 11 = .ok (.ifCond .eq 12, 3) := by decide +kernel
theorem dX3_addOperation_14 : decode cX3_addOperation 14 = .ok (.iload_n 2, 1) := by decide +kernel
theorem dX3_addOperation_15 : decode cX3_addOperation 15 = .ok (.iconst 1, 1) := by decide +kernel
theorem dX3_addOperation_16 : decode cX3_addOperation 16 = .ok (.iconst 4, 1) := by decide +kernel
theorem dX3_addOperation_17 : decode cX3_addOperation 17 = .ok (.invokestatic 51, 3) := by decide +kernel
theorem dX3_addOperation_20 : decode cX3_addOperation 20 = .ok (.ifCond .ne 9, 3) := by decide +kernel
theorem dX3_addOperation_23 : decode cX3_addOperation 23 = .ok (.aload_n 0, 1) := by decide +kernel
theorem dX3_addOperation_24 : decode cX3_addOperation 24 = .ok (.iconst 1, 1) := by decide +kernel
theorem dX3_addOperation_25 : decode cX3_addOperation 25 = .ok (.invokevirtual 55, 3) := by decide +kernel
theorem dX3_addOperation_28 : decode cX3_addOperation 28 = .ok (.ireturn, 1) := by decide +kernel
theorem dX3_addOperation_29 : decode cX3_addOperation 29 = .ok (.aload_n 0, 1) := by decide +kernel
theorem dX3_addOperation_30 : decode cX3_addOperation 30 = .ok (.getfield 48, 3) := by decide +kernel
theorem dX3_addOperation_33 : decode cX3_addOperation 33 = .ok (.bipush 14, 2) := by decide +kernel
theorem dX3_addOperation_35 : decode cX3_addOperation 35 = .ok (.if_icmp .ne 9, 3) := by decide +kernel
theorem dX3_addOperation_38 : decode cX3_addOperation 38 = .ok (.aload_n 0, 1) := by decide +kernel
theorem dX3_addOperation_39 : decode cX3_addOperation 39 = .ok (.iconst 2, 1) := by decide +kernel
theorem dX3_addOperation_40 : decode cX3_addOperation 40 = .ok (.invokevirtual 55, 3) := by decide +kernel
theorem dX3_addOperation_43 : decode cX3_addOperation 43 = .ok (.ireturn, 1) := by decide +kernel
theorem dX3_addOperation_44 : decode cX3_addOperation 44 = .ok (.aload_n 0, 1) := by decide +kernel
theorem dX3_addOperation_45 : decode cX3_addOperation 45 = .ok (.getfield 13, 3) := by decide +kernel
theorem dX3_addOperation_48 : decode cX3_addOperation 48 = .ok (.aload_n 0, 1) := by decide +kernel
theorem dX3_addOperation_49 : decode cX3_addOperation 49 = .ok (.getfield 48, 3) := by decide +kernel
theorem dX3_addOperation_52 : decode cX3_addOperation 52 = .ok (.iload_n 1, 1) := by decide +kernel
theorem dX3_addOperation_53 : decode cX3_addOperation 53 = .ok (.iastore, 1) := by decide +kernel
theorem dX3_addOperation_54 : decode cX3_addOperation 54 = .ok (.aload_n 0, 1) := by decide +kernel
theorem dX3_addOperation_55 : decode cX3_addOperation 55 = .ok (.getfield 16, 3) := by decide +kernel
theorem dX3_addOperation_58 : decode cX3_addOperation 58 = .ok (.aload_n 0, 1) := by decide +kernel
theorem dX3_addOperation_59 : decode cX3_addOperation 59 = .ok (.getfield 48, 3) := by decide +kernel
theorem dX3_addOperation_62 : decode cX3_addOperation 62 = .ok (.iload_n 2, 1) := by decide +kernel
theorem dX3_addOperation_63 : decode cX3_addOperation 63 = .ok (.iastore, 1) := by decide +kernel
theorem dX3_addOperation_64 : decode cX3_addOperation 64 = .ok (.aload_n 0, 1) := by decide +kernel
theorem dX3_addOperation_65 : decode cX3_addOperation 65 = .ok (.dup, 1) := by decide +kernel
theorem dX3_addOperation_66 : decode cX3_addOperation 66 = .ok (.getfield 48, 3) := by decide +kernel
theorem dX3_addOperation_69 : decode cX3_addOperation 69 = .ok (.iconst 1, 1) := by decide +kernel
theorem dX3_addOperation_70 : decode cX3_addOperation 70 = .ok (.iadd, 1) := by decide +kernel
theorem dX3_addOperation_71 : decode cX3_addOperation 71 = .ok (.putfield 48, 3) := by decide +kernel
theorem dX3_addOperation_74 : decode cX3_addOperation 74 = .ok (.aload_n 0, 1) := by decide +kernel
theorem dX3_addOperation_75 : decode cX3_addOperation 75 = .ok (.iconst 0, 1) := by decide +kernel
theorem dX3_addOperation_76 : decode cX3_addOperation 76 = .ok (.putfield 59, 3) := by decide +kernel
theorem dX3_addOperation_79 : decode cX3_addOperation 79 = .ok (.aload_n 0, 1) := by decide +kernel
theorem dX3_addOperation_80 : decode cX3_addOperation 80 = .ok (.getfield 48, 3) := by decide +kernel
theorem dX3_addOperation_83 : decode cX3_addOperation 83 = .ok (.iconst 1, 1) := by decide +kernel
theorem dX3_addOperation_84 : decode cX3_addOperation 84 = .ok (.isub, 1) := by decide +kernel
theorem dX3_addOperation_85 : decode cX3_addOperation 85 = .ok (.ireturn, 1) := by decide +kernel
set_option maxRecDepth 20000 in
theorem ggX3_addDependence_X3_isOperation : GoodIn wsX3_addDependence wsX3_isOperation := goodIn_r _ [12, 13, 14, 15, 11, 16, 21, 22, 23, 24, 25, 26, 27, 28, 29, 30, 31, 32, 33, 34, 35, 36] (by decide +kernel) (by decide +kernel)
set_option maxRecDepth 20000 in
theorem gX3_addDependence_X3_isOperation : GoodIn wsX3_addDependence (wsV RX3 62 RX3 yX3_isOperation wsX3_isOperation) := goodIn_app (goodIn_of _ (by decide +kernel)) ggX3_addDependence_X3_isOperation
set_option maxRecDepth 20000 in
theorem ggX3_addDependence_X3_no : GoodIn wsX3_addDependence wsX3_no := goodIn_r _ [20, 1, 21, 22, 23, 24, 25, 26, 27, 28, 29, 30, 31, 32, 33, 34, 35, 36] (by decide +kernel) (by decide +kernel)
set_option maxRecDepth 20000 in
theorem gX3_addDependence_X3_no : GoodIn wsX3_addDependence (wsV RX3 55 RX3 yX3_no wsX3_no) := goodIn_app (goodIn_of _ (by decide +kernel)) ggX3_addDependence_X3_no
set_option maxRecDepth 20000 in
theorem ggX3_addDependence_X3_isIn : GoodIn wsX3_addDependence wsX3_isIn := goodIn_r _ [16] (by decide +kernel) (by decide +kernel)
set_option maxRecDepth 20000 in
theorem gX3_addDependence_X3_isIn : GoodIn wsX3_addDependence (va_wsS RX3 51 yX3_isIn wsX3_isIn) := goodIn_app (goodIn_of _ (by decide +kernel)) ggX3_addDependence_X3_isIn
theorem dX3_addDependence_0 : decode cX3_addDependence 0 = .ok (.aload_n 0, 1) := by decide +kernel
theorem dX3_addDependence_1 : decode cX3_addDependence 1 = .ok (.iconst 0, 1) := by decide +kernel
theorem dX3_addDependence_2 : decode cX3_addDependence 2 = .ok (.putfield 44, 3) := by decide +kernel
theorem dX3_addDependence_5 : decode cX3_addDependence 5 = .ok (.aload_n 0, 1) := by decide +kernel
theorem dX3_addDependence_6 : decode cX3_addDependence 6 = .ok (.iload_n 1, 1) := by decide +kernel
theorem dX3_addDependence_7 : decode cX3_addDependence 7 = .ok (.invokevirtual 62, 3) := by decide +kernel
theorem dX3_addDependence_10 : decode cX3_addDependence 10 = .ok (.ifCond .eq 11, 3) := by decide +kernel
theorem dX3_addDependence_13 : decode cX3_addDependence 13 = .ok (.aload_n 0, 1) := by decide +kernel
theorem dX3_addDependence_14 : decode cX3_addDependence 14 = .ok (.iload_n 2, 1) := by decide +kernel
theorem dX3_addDependence_15 : decode cX3_addDependence 15 = .ok (.invokevirtual 62, 3) := by decide +kernel
theorem dX3_addDependence_18 : decode cX3_addDependence 18 = .ok (.ifCond .ne 9, 3) := by decide +kernel
theorem dX3_addDependence_21 : decode cX3_addDependence 21 = .ok (.aload_n 0, 1) := by decide +kernel
theorem dX3_addDependence_22 : decode cX3_addDependence 22 = .ok (.iconst 1, 1) := by decide +kernel
theorem dX3_addDependence_23 : decode cX3_addDependence 23 = .ok (.invokevirtual 55, 3) := by decide +kernel
theorem dX3_addDependence_26 : decode cX3_addDependence 26 = .ok (.ireturn, 1) := by decide +kernel
theorem dX3_addDependence_27 : decode cX3_addDependence 27 = .ok (.iload_n 3, 1) := by decide +kernel
theorem dX3_addDependence_28 : decode cX3_addDependence 28 = .ok (.iconst 0, 1) := by decide +kernel
theorem dX3_addDependence_29 : decode cX3_addDependence 29 = .ok (.bipush 12, 2) := by decide +kernel
theorem dX3_addDependence_31 : decode cX3_addDependence 31 = .ok (.invokestatic 51, 3) := by decide +kernel
theorem dX3_addDependence_34 : decode cX3_addDependence 34 = .ok (.ifCond .eq 13, 3) := by decide +kernel
theorem dX3_addDependence_37 : decode cX3_addDependence 37 = .ok (.iload 4, 2) := by decide +kernel
theorem dX3_addDependence_39 : decode cX3_addDependence 39 = .ok (.iconst 0, 1) := by decide +kernel
theorem dX3_addDependence_40 : decode cX3_addDependence 40 = .ok (.iconst 3, 1) := by decide +kernel
theorem dX3_addDependence_41 : decode cX3_addDependence 41 = .ok (.invokestatic 51, 3) := by decide +kernel
theorem dX3_addDependence_44 : decode cX3_addDependence 44 = .ok (.ifCond .ne 9, 3) := by decide +kernel
theorem dX3_addDependence_47 : decode cX3_addDependence 47 = .ok (.aload_n 0, 1) := by decide +kernel
theorem dX3_addDependence_48 : decode cX3_addDependence 48 = .ok (.iconst 2, 1) := by decide +kernel
theorem dX3_addDependence_49 : decode cX3_addDependence 49 = .ok (.invokevirtual 55, 3) := by decide +kernel
theorem dX3_addDependence_52 : decode cX3_addDependence 52 = .ok (.ireturn, 1) := by decide +kernel
theorem dX3_addDependence_53 : decode cX3_addDependence 53 = .ok (.aload_n 0, 1) := by decide +kernel
theorem dX3_addDependence_54 : decode cX3_addDependence 54 = .ok (.getfield 66, 3) := by decide +kernel
theorem dX3_addDependence_57 : decode cX3_addDependence 57 = .ok (.bipush 40, 2) := by decide +kernel
theorem dX3_addDependence_59 : decode cX3_addDependence 59 = .ok (.if_icmp .ne 9, 3) := by decide +kernel
theorem dX3_addDependence_62 : decode cX3_addDependence 62 = .ok (.aload_n 0, 1) := by decide +kernel
theorem dX3_addDependence_63 : decode cX3_addDependence 63 = .ok (.iconst 3, 1) := by decide +kernel
theorem dX3_addDependence_64 : decode cX3_addDependence 64 = .ok (.invokevirtual 55, 3) := by decide +kernel
theorem dX3_addDependence_67 : decode cX3_addDependence 67 = .ok (.ireturn, 1) := by decide +kernel
theorem dX3_addDependence_68 : decode cX3_addDependence 68 = .ok (.aload_n 0, 1) := by decide +kernel
theorem dX3_addDependence_69 : decode cX3_addDependence 69 = .ok (.getfield 19, 3) := by decide +kernel
theorem dX3_addDependence_72 : decode cX3_addDependence 72 = .ok (.aload_n 0, 1) := by decide +kernel
theorem dX3_addDependence_73 : decode cX3_addDependence 73 = .ok (.getfield 66, 3) := by decide +kernel
theorem dX3_addDependence_76 : decode cX3_addDependence 76 = .ok (.iload_n 1, 1) := by decide +kernel
theorem dX3_addDependence_77 : decode cX3_addDependence 77 = .ok (.iastore, 1) := by decide +kernel
theorem dX3_addDependence_78 : decode cX3_addDependence 78 = .ok (.aload_n 0, 1) := by decide +kernel
theorem dX3_addDependence_79 : decode cX3_addDependence 79 = .ok (.getfield 22, 3) := by decide +kernel
theorem dX3_addDependence_82 : decode cX3_addDependence 82 = .ok (.aload_n 0, 1) := by decide +kernel
theorem dX3_addDependence_83 : decode cX3_addDependence 83 = .ok (.getfield 66, 3) := by decide +kernel
theorem dX3_addDependence_86 : decode cX3_addDependence 86 = .ok (.iload_n 2, 1) := by decide +kernel
theorem dX3_addDependence_87 : decode cX3_addDependence 87 = .ok (.iastore, 1) := by decide +kernel
theorem dX3_addDependence_88 : decode cX3_addDependence 88 = .ok (.aload_n 0, 1) := by decide +kernel
theorem dX3_addDependence_89 : decode cX3_addDependence 89 = .ok (.getfield 25, 3) := by decide +kernel
theorem dX3_addDependence_92 : decode cX3_addDependence 92 = .ok (.aload_n 0, 1) := by decide +kernel
theorem dX3_addDependence_93 : decode cX3_addDependence 93 = .ok (.getfield 66, 3) := by decide +kernel
theorem dX3_addDependence_96 : decode cX3_addDependence 96 = .ok (.iload_n 3, 1) := by decide +kernel
theorem dX3_addDependence_97 : decode cX3_addDependence 97 = .ok (.iastore, 1) := by decide +kernel
theorem dX3_addDependence_98 : decode cX3_addDependence 98 = .ok (.aload_n 0, 1) := by decide +kernel
theorem dX3_addDependence_99 : decode cX3_addDependence 99 = .ok (.getfield 28, 3) := by decide +kernel
theorem dX3_addDependence_102 : decode cX3_addDependence 102 = .ok (.aload_n 0, 1) := by decide +kernel
theorem dX3_addDependence_103 : decode cX3_addDependence 103 = .ok (.getfield 66, 3) := by decide +kernel
theorem dX3_addDependence_106 : decode cX3_addDependence 106 = .ok (.iload 4, 2) := by decide +kernel
theorem dX3_addDependence_108 : decode cX3_addDependence 108 = .ok (.iastore, 1) := by decide +kernel
theorem dX3_addDependence_109 : decode cX3_addDependence 109 = .ok (.aload_n 0, 1) := by decide +kernel
theorem dX3_addDependence_110 : decode cX3_addDependence 110 = .ok (.dup, 1) := by decide +kernel
theorem dX3_addDependence_111 : decode cX3_addDependence 111 = .ok (.getfield 66, 3) := by decide +kernel
theorem dX3_addDependence_114 : decode cX3_addDependence 114 = .ok (.iconst 1, 1) := by decide +kernel
theorem dX3_addDependence_115 : decode cX3_addDependence 115 = .ok (.iadd, 1) := by decide +kernel
theorem dX3_addDependence_116 : decode cX3_addDependence 116 = .ok (.putfield 66, 3) := by decide +kernel
theorem dX3_addDependence_119 : decode cX3_addDependence 119 = .ok (.aload_n 0, 1) := by decide +kernel
theorem dX3_addDependence_120 : decode cX3_addDependence 120 = .ok (.iconst 0, 1) := by decide +kernel
theorem dX3_addDependence_121 : decode cX3_addDependence 121 = .ok (.putfield 59, 3) := by decide +kernel
theorem dX3_addDependence_124 : decode cX3_addDependence 124 = .ok (.aload_n 0, 1) := by decide +kernel
theorem dX3_addDependence_125 : decode cX3_addDependence 125 = .ok (.getfield 66, 3) := by decide +kernel
theorem dX3_addDependence_128 : decode cX3_addDependence 128 = .ok (.iconst 1, 1) := by decide +kernel
theorem dX3_addDependence_129 : decode cX3_addDependence 129 = .ok (.isub, 1) := by decide +kernel
theorem dX3_addDependence_130 : decode cX3_addDependence 130 = .ok (.ireturn, 1) := by decide +kernel
set_option maxRecDepth 20000 in
theorem ggX3_setDelay_X3_isIn : GoodIn wsX3_setDelay wsX3_isIn := goodIn_r _ [8] (by decide +kernel) (by decide +kernel)
set_option maxRecDepth 20000 in
theorem gX3_setDelay_X3_isIn : GoodIn wsX3_setDelay (va_wsS RX3 51 yX3_isIn wsX3_isIn) := goodIn_app (goodIn_of _ (by decide +kernel)) ggX3_setDelay_X3_isIn
set_option maxRecDepth 20000 in
theorem ggX3_setDelay_X3_no : GoodIn wsX3_setDelay wsX3_no := goodIn_r _ [12, 1, 13, 14, 15, 16, 17, 18, 19, 20, 21, 22, 23, 24, 25, 26, 27, 28] (by decide +kernel) (by decide +kernel)
set_option maxRecDepth 20000 in
theorem gX3_setDelay_X3_no : GoodIn wsX3_setDelay (wsV RX3 55 RX3 yX3_no wsX3_no) := goodIn_app (goodIn_of _ (by decide +kernel)) ggX3_setDelay_X3_no
theorem dX3_setDelay_0 : decode cX3_setDelay 0 = .ok (.aload_n 0, 1) := by decide +kernel
theorem dX3_setDelay_1 : decode cX3_setDelay 1 = .ok (.iconst 0, 1) := by decide +kernel
theorem dX3_setDelay_2 : decode cX3_setDelay 2 = .ok (.putfield 44, 3) := by decide +kernel
theorem dX3_setDelay_5 : decode cX3_setDelay 5 = .ok (.iload_n 1, 1) := by decide +kernel
theorem dX3_setDelay_6 : decode cX3_setDelay 6 = .ok (.iconst 0, 1) := by decide +kernel
theorem dX3_setDelay_7 : decode cX3_setDelay 7 = .ok (.aload_n 0, 1) := by decide +kernel
theorem dX3_setDelay_8 : decode cX3_setDelay 8 = .ok (.getfield 66, 3) := by decide +kernel
theorem dX3_setDelay_11 : decode cX3_setDelay 11 = .ok (.iconst 1, 1) := by decide +kernel
theorem dX3_setDelay_12 : decode cX3_setDelay 12 = .ok (.isub, 1) := by decide +kernel
theorem dX3_setDelay_13 : decode cX3_setDelay 13 = .ok (.invokestatic 51, 3) := by decide +kernel
theorem dX3_setDelay_16 : decode cX3_setDelay 16 = .ok (.ifCond .ne 9, 3) := by decide +kernel
theorem dX3_setDelay_19 : decode cX3_setDelay 19 = .ok (.aload_n 0, 1) := by decide +kernel
theorem dX3_setDelay_20 : decode cX3_setDelay 20 = .ok (.iconst 1, 1) := by decide +kernel
theorem dX3_setDelay_21 : decode cX3_setDelay 21 = .ok (.invokevirtual 55, 3) := by decide +kernel
theorem dX3_setDelay_24 : decode cX3_setDelay 24 = .ok (.ireturn, 1) := by decide +kernel
theorem dX3_setDelay_25 : decode cX3_setDelay 25 = .ok (.iload_n 2, 1) := by decide +kernel
theorem dX3_setDelay_26 : decode cX3_setDelay 26 = .ok (.iconst 0, 1) := by decide +kernel
theorem dX3_setDelay_27 : decode cX3_setDelay 27 = .ok (.bipush 12, 2) := by decide +kernel
theorem dX3_setDelay_29 : decode cX3_setDelay 29 = .ok (.invokestatic 51, 3) := by decide +kernel
theorem dX3_setDelay_32 : decode cX3_setDelay 32 = .ok (.ifCond .ne 9, 3) := by decide +kernel
theorem dX3_setDelay_35 : decode cX3_setDelay 35 = .ok (.aload_n 0, 1) := by decide +kernel
theorem dX3_setDelay_36 : decode cX3_setDelay 36 = .ok (.iconst 2, 1) := by decide +kernel
theorem dX3_setDelay_37 : decode cX3_setDelay 37 = .ok (.invokevirtual 55, 3) := by decide +kernel
theorem dX3_setDelay_40 : decode cX3_setDelay 40 = .ok (.ireturn, 1) := by decide +kernel
theorem dX3_setDelay_41 : decode cX3_setDelay 41 = .ok (.aload_n 0, 1) := by decide +kernel
theorem dX3_setDelay_42 : decode cX3_setDelay 42 = .ok (.getfield 25, 3) := by decide +kernel
theorem dX3_setDelay_45 : decode cX3_setDelay 45 = .ok (.iload_n 1, 1) := by decide +kernel
theorem dX3_setDelay_46 : decode cX3_setDelay 46 = .ok (.iaload, 1) := by decide +kernel
theorem dX3_setDelay_47 : decode cX3_setDelay 47 = .ok (.istore_n 3, 1) := by decide +kernel
theorem dX3_setDelay_48 : decode cX3_setDelay 48 = .ok (.aload_n 0, 1) := by decide +kernel
theorem dX3_setDelay_49 : decode cX3_setDelay 49 = .ok (.getfield 25, 3) := by decide +kernel
theorem dX3_setDelay_52 : decode cX3_setDelay 52 = .ok (.iload_n 1, 1) := by decide +kernel
theorem dX3_setDelay_53 : decode cX3_setDelay 53 = .ok (.iload_n 2, 1) := by decide +kernel
theorem dX3_setDelay_54 : decode cX3_setDelay 54 = .ok (.iastore, 1) := by decide +kernel
theorem dX3_setDelay_55 : decode cX3_setDelay 55 = .ok (.aload_n 0, 1) := by decide +kernel
theorem dX3_setDelay_56 : decode cX3_setDelay 56 = .ok (.iconst 0, 1) := by decide +kernel
theorem dX3_setDelay_57 : decode cX3_setDelay 57 = .ok (.putfield 59, 3) := by decide +kernel
theorem dX3_setDelay_60 : decode cX3_setDelay 60 = .ok (.iload_n 3, 1) := by decide +kernel
theorem dX3_setDelay_61 : decode cX3_setDelay 61 = .ok (.ireturn, 1) := by decide +kernel
theorem dX3_operationCount_0 : decode cX3_operationCount 0 = .ok (.aload_n 0, 1) := by decide +kernel
theorem dX3_operationCount_1 : decode cX3_operationCount 1 = .ok (.iconst 0, 1) := by decide +kernel
theorem dX3_operationCount_2 : decode cX3_operationCount 2 = .ok (.putfield 44, 3) := by decide +kernel
theorem dX3_operationCount_5 : decode cX3_operationCount 5 = .ok (.aload_n 0, 1) := by decide +kernel
theorem dX3_operationCount_6 : decode cX3_operationCount 6 = .ok (.getfield 48, 3) := by decide +kernel
theorem dX3_operationCount_9 : decode cX3_operationCount 9 = .ok (.ireturn, 1) := by decide +kernel
theorem dX3_dependenceCount_0 : decode cX3_dependenceCount 0 = .ok (.aload_n 0, 1) := by decide +kernel
theorem dX3_dependenceCount_1 : decode cX3_dependenceCount 1 = .ok (.iconst 0, 1) := by decide +kernel
theorem dX3_dependenceCount_2 : decode cX3_dependenceCount 2 = .ok (.putfield 44, 3) := by decide +kernel
theorem dX3_dependenceCount_5 : decode cX3_dependenceCount 5 = .ok (.aload_n 0, 1) := by decide +kernel
theorem dX3_dependenceCount_6 : decode cX3_dependenceCount 6 = .ok (.getfield 66, 3) := by decide +kernel
theorem dX3_dependenceCount_9 : decode cX3_dependenceCount 9 = .ok (.ireturn, 1) := by decide +kernel
theorem dX3_byResources_0 : decode cX3_byResources 0 = .ok (.iconst 1, 1) := by decide +kernel
theorem dX3_byResources_1 : decode cX3_byResources 1 = .ok (.istore_n 1, 1) := by decide +kernel
theorem dX3_byResources_2 : decode cX3_byResources 2 = .ok (.iconst 0, 1) := by decide +kernel
theorem dX3_byResources_3 : decode cX3_byResources 3 = .ok (.istore_n 2, 1) := by decide +kernel
theorem dX3_byResources_4 : decode cX3_byResources 4 = .ok (.iload_n 2, 1) := by decide +kernel
theorem dX3_byResources_5 : decode cX3_byResources 5 = .ok (.iconst 3, 1) := by decide +kernel
theorem dX3_byResources_6 : decode cX3_byResources 6 = .ok (.if_icmp .ge 72, 3) := by decide +kernel
theorem dX3_byResources_9 : decode cX3_byResources 9 = .ok (.iconst 0, 1) := by decide +kernel
theorem dX3_byResources_10 : decode cX3_byResources 10 = .ok (.istore_n 3, 1) := by decide +kernel
theorem dX3_byResources_11 : decode cX3_byResources 11 = .ok (.iconst 0, 1) := by decide +kernel
theorem dX3_byResources_12 : decode cX3_byResources 12 = .ok (.istore 4, 2) := by decide +kernel
theorem dX3_byResources_14 : decode cX3_byResources 14 = .ok (.iload 4, 2) := by decide +kernel
theorem dX3_byResources_16 : decode cX3_byResources 16 = .ok (.aload_n 0, 1) := by decide +kernel
theorem dX3_byResources_17 : decode cX3_byResources 17 = .ok (.getfield 48, 3) := by decide +kernel
theorem dX3_byResources_20 : decode cX3_byResources 20 = .ok (.if_icmp .ge 34, 3) := by decide +kernel
theorem dX3_byResources_23 : decode cX3_byResources 23 = .ok (.iload_n 3, 1) := by decide +kernel
theorem dX3_byResources_24 : decode cX3_byResources 24 = .ok (.aload_n 0, 1) := by decide +kernel
theorem dX3_byResources_25 : decode cX3_byResources 25 = .ok (.getfield 13, 3) := by decide +kernel
theorem dX3_byResources_28 : decode cX3_byResources 28 = .ok (.iload 4, 2) := by decide +kernel
theorem dX3_byResources_30 : decode cX3_byResources 30 = .ok (.iaload, 1) := by decide +kernel
theorem dX3_byResources_31 : decode cX3_byResources 31 = .ok (.iload_n 2, 1) := by decide +kernel
theorem dX3_byResources_32 : decode cX3_byResources 32 = .ok (.if_icmp .ne 13, 3) := by decide +kernel
theorem dX3_byResources_35 : decode cX3_byResources 35 = .ok (.aload_n 0, 1) := by decide +kernel
theorem dX3_byResources_36 : decode cX3_byResources 36 = .ok (.getfield 16, 3) := by decide +kernel
theorem dX3_byResources_39 : decode cX3_byResources 39 = .ok (.iload 4, 2) := by decide +kernel
theorem dX3_byResources_41 : decode cX3_byResources 41 = .ok (.iaload, 1) := by decide +kernel
theorem dX3_byResources_42 : decode cX3_byResources 42 = .ok (.goto 4, 3) := by decide +kernel
theorem dX3_byResources_45 : decode cX3_byResources 45 = .ok (.iconst 0, 1) := by decide +kernel
theorem dX3_byResources_46 : decode cX3_byResources 46 = .ok (.iadd, 1) := by decide +kernel
theorem dX3_byResources_47 : decode cX3_byResources 47 = .ok (.istore_n 3, 1) := by decide +kernel
theorem dX3_byResources_48 : decode cX3_byResources 48 = .ok (.iinc 4 1, 3) := by decide +kernel
theorem dX3_byResources_51 : decode cX3_byResources 51 = .ok (.goto (-37), 3) := by decide +kernel
theorem dX3_byResources_54 : decode cX3_byResources 54 = .ok (.iload_n 1, 1) := by decide +kernel
theorem dX3_byResources_55 : decode cX3_byResources 55 = .ok (.aload_n 0, 1) := by decide +kernel
theorem dX3_byResources_56 : decode cX3_byResources 56 = .ok (.getfield 7, 3) := by decide +kernel
theorem dX3_byResources_59 : decode cX3_byResources 59 = .ok (.iload_n 2, 1) := by decide +kernel
theorem dX3_byResources_60 : decode cX3_byResources 60 = .ok (.iaload, 1) := by decide +kernel
theorem dX3_byResources_61 : decode cX3_byResources 61 = .ok (.imul, 1) := by decide +kernel
theorem dX3_byResources_62 : decode cX3_byResources 62 = .ok (.iload_n 3, 1) := by decide +kernel
theorem dX3_byResources_63 : decode cX3_byResources 63 = .ok (.if_icmp .ge 9, 3) := by decide +kernel
theorem dX3_byResources_66 : decode cX3_byResources 66 = .ok (.iinc 1 1, 3) := by decide +kernel
theorem dX3_byResources_69 : decode cX3_byResources 69 = .ok (.goto (-15), 3) := by decide +kernel
theorem dX3_byResources_72 : decode cX3_byResources 72 = .ok (.iinc 2 1, 3) := by decide +kernel
theorem dX3_byResources_75 : decode cX3_byResources 75 = .ok (.goto (-71), 3) := by decide +kernel
theorem dX3_byResources_78 : decode cX3_byResources 78 = .ok (.iload_n 1, 1) := by decide +kernel
theorem dX3_byResources_79 : decode cX3_byResources 79 = .ok (.ireturn, 1) := by decide +kernel
set_option maxRecDepth 20000 in
theorem ggX3_resourceBound_X3_byResources : GoodIn wsX3_resourceBound wsX3_byResources := goodIn_r _ [6, 7, 8, 9, 10, 11, 12, 13, 14, 15, 16, 17, 18, 19, 20, 21, 22, 23, 24, 25, 26] (by decide +kernel) (by decide +kernel)
set_option maxRecDepth 20000 in
theorem gX3_resourceBound_X3_byResources : GoodIn wsX3_resourceBound (wsV RX3 69 RX3 yX3_byResources wsX3_byResources) := goodIn_app (goodIn_of _ (by decide +kernel)) ggX3_resourceBound_X3_byResources
theorem dX3_resourceBound_0 : decode cX3_resourceBound 0 = .ok (.aload_n 0, 1) := by decide +kernel
theorem dX3_resourceBound_1 : decode cX3_resourceBound 1 = .ok (.iconst 0, 1) := by decide +kernel
theorem dX3_resourceBound_2 : decode cX3_resourceBound 2 = .ok (.putfield 44, 3) := by decide +kernel
theorem dX3_resourceBound_5 : decode cX3_resourceBound 5 = .ok (.aload_n 0, 1) := by decide +kernel
theorem dX3_resourceBound_6 : decode cX3_resourceBound 6 = .ok (.invokevirtual 69, 3) := by decide +kernel
theorem dX3_resourceBound_9 : decode cX3_resourceBound 9 = .ok (.ireturn, 1) := by decide +kernel
theorem dX3_lengthOf_0 : decode cX3_lengthOf 0 = .ok (.aload_n 0, 1) := by decide +kernel
theorem dX3_lengthOf_1 : decode cX3_lengthOf 1 = .ok (.getfield 25, 3) := by decide +kernel
theorem dX3_lengthOf_4 : decode cX3_lengthOf 4 = .ok (.iload_n 1, 1) := by decide +kernel
theorem dX3_lengthOf_5 : decode cX3_lengthOf 5 = .ok (.iaload, 1) := by decide +kernel
theorem dX3_lengthOf_6 : decode cX3_lengthOf 6 = .ok (.iload_n 2, 1) := by decide +kernel
theorem dX3_lengthOf_7 : decode cX3_lengthOf 7 = .ok (.aload_n 0, 1) := by decide +kernel
theorem dX3_lengthOf_8 : decode cX3_lengthOf 8 = .ok (.getfield 28, 3) := by decide +kernel
theorem dX3_lengthOf_11 : decode cX3_lengthOf 11 = .ok (.iload_n 1, 1) := by decide +kernel
theorem dX3_lengthOf_12 : decode cX3_lengthOf 12 = .ok (.iaload, 1) := by decide +kernel
theorem dX3_lengthOf_13 : decode cX3_lengthOf 13 = .ok (.imul, 1) := by decide +kernel
theorem dX3_lengthOf_14 : decode cX3_lengthOf 14 = .ok (.isub, 1) := by decide +kernel
theorem dX3_lengthOf_15 : decode cX3_lengthOf 15 = .ok (.ireturn, 1) := by decide +kernel
set_option maxRecDepth 20000 in
theorem ggX3_findHeights_X3_grow : GoodIn wsX3_findHeights wsX3_grow := goodIn_r _ [7, 8, 2, 9, 10, 11, 12, 13, 6, 14, 15, 16, 17, 18, 19, 20, 21, 22, 23, 24, 25, 26, 27, 28, 29, 30, 31, 32] (by decide +kernel) (by decide +kernel)
set_option maxRecDepth 20000 in
theorem gX3_findHeights_X3_grow : GoodIn wsX3_findHeights (wsV RX3 73 RX3 yX3_grow wsX3_grow) := goodIn_app (goodIn_of _ (by decide +kernel)) ggX3_findHeights_X3_grow
theorem dX3_findHeights_0 : decode cX3_findHeights 0 = .ok (.iconst 0, 1) := by decide +kernel
theorem dX3_findHeights_1 : decode cX3_findHeights 1 = .ok (.istore_n 2, 1) := by decide +kernel
theorem dX3_findHeights_2 : decode cX3_findHeights 2 = .ok (.iload_n 2, 1) := by decide +kernel
theorem dX3_findHeights_3 : decode cX3_findHeights 3 = .ok (.aload_n 0, 1) := by decide +kernel
theorem dX3_findHeights_4 : decode cX3_findHeights 4 = .ok (.getfield 48, 3) := by decide +kernel
theorem dX3_findHeights_7 : decode cX3_findHeights 7 = .ok (.if_icmp .ge 16, 3) := by decide +kernel
theorem dX3_findHeights_10 : decode cX3_findHeights 10 = .ok (.aload_n 0, 1) := by decide +kernel
theorem dX3_findHeights_11 : decode cX3_findHeights 11 = .ok (.getfield 34, 3) := by decide +kernel
theorem dX3_findHeights_14 : decode cX3_findHeights 14 = .ok (.iload_n 2, 1) := by decide +kernel
theorem dX3_findHeights_15 : decode cX3_findHeights 15 = .ok (.iconst 0, 1) := by decide +kernel
theorem dX3_findHeights_16 : decode cX3_findHeights 16 = .ok (.iastore, 1) := by decide +kernel
theorem dX3_findHeights_17 : decode cX3_findHeights 17 = .ok (.iinc 2 1, 3) := by decide +kernel
theorem dX3_findHeights_20 : decode cX3_findHeights 20 = .ok (.goto (-18), 3) := by decide +kernel
theorem dX3_findHeights_23 : decode cX3_findHeights 23 = .ok (.iconst 0, 1) := by decide +kernel
theorem dX3_findHeights_24 : decode cX3_findHeights 24 = .ok (.istore_n 2, 1) := by decide +kernel
theorem dX3_findHeights_25 : decode cX3_findHeights 25 = .ok (.iload_n 2, 1) := by decide +kernel
theorem dX3_findHeights_26 : decode cX3_findHeights 26 = .ok (.aload_n 0, 1) := by decide +kernel
theorem dX3_findHeights_27 : decode cX3_findHeights 27 = .ok (.getfield 48, 3) := by decide +kernel
theorem dX3_findHeights_30 : decode cX3_findHeights 30 = .ok (.if_icmp .ge 15, 3) := by decide +kernel
theorem dX3_findHeights_33 : decode cX3_findHeights 33 = .ok (.aload_n 0, 1) := by decide +kernel
theorem dX3_findHeights_34 : decode cX3_findHeights 34 = .ok (.iload_n 1, 1) := by decide +kernel
theorem dX3_findHeights_35 : decode cX3_findHeights 35 = .ok (.invokevirtual 73, 3) := by decide +kernel
theorem dX3_findHeights_38 : decode cX3_findHeights 38 = .ok (.pop, 1) := by decide +kernel
theorem dX3_findHeights_39 : decode cX3_findHeights 39 = .ok (.iinc 2 1, 3) := by decide +kernel
theorem dX3_findHeights_42 : decode cX3_findHeights 42 = .ok (.goto (-17), 3) := by decide +kernel
theorem dX3_findHeights_45 : decode cX3_findHeights 45 = .ok (.aload_n 0, 1) := by decide +kernel
theorem dX3_findHeights_46 : decode cX3_findHeights 46 = .ok (.iload_n 1, 1) := by decide +kernel
theorem dX3_findHeights_47 : decode cX3_findHeights 47 = .ok (.invokevirtual 73, 3) := by decide +kernel
theorem dX3_findHeights_50 : decode cX3_findHeights 50 = .ok (.ifCond .ne 7, 3) := by decide +kernel
theorem dX3_findHeights_53 : decode cX3_findHeights 53 = .ok (.iconst 1, 1) := by decide +kernel
theorem dX3_findHeights_54 : decode cX3_findHeights 54 = .ok (.goto 4, 3) := by decide +kernel
theorem dX3_findHeights_57 : decode cX3_findHeights 57 = .ok (.iconst 0, 1) := by decide +kernel
theorem dX3_findHeights_58 : decode cX3_findHeights 58 = .ok (.ireturn, 1) := by decide +kernel
set_option maxRecDepth 20000 in
theorem ggX3_grow_X3_lengthOf : GoodIn wsX3_grow wsX3_lengthOf := goodIn_r _ [9, 10, 11, 12, 13, 14, 15, 16, 17, 18, 19, 20, 21, 22, 23, 24, 25, 26, 27] (by decide +kernel) (by decide +kernel)
set_option maxRecDepth 20000 in
theorem gX3_grow_X3_lengthOf : GoodIn wsX3_grow (wsV RX3 76 RX3 yX3_lengthOf wsX3_lengthOf) := goodIn_app (goodIn_of _ (by decide +kernel)) ggX3_grow_X3_lengthOf
theorem dX3_grow_0 : decode cX3_grow 0 = .ok (.iconst 0, 1) := by decide +kernel
theorem dX3_grow_1 : decode cX3_grow 1 = .ok (.istore_n 2, 1) := by decide +kernel
theorem dX3_grow_2 : decode cX3_grow 2 = .ok (.iconst 0, 1) := by decide +kernel
theorem dX3_grow_3 : decode cX3_grow 3 = .ok (.istore_n 3, 1) := by decide +kernel
theorem dX3_grow_4 : decode cX3_grow 4 = .ok (.iload_n 3, 1) := by decide +kernel
theorem dX3_grow_5 : decode cX3_grow 5 = .ok (.aload_n 0, 1) := by decide +kernel
theorem dX3_grow_6 : decode cX3_grow 6 = .ok (.getfield 66, 3) := by decide +kernel
theorem dX3_grow_9 : decode cX3_grow 9 = .ok (.if_icmp .ge 63, 3) := by decide +kernel
theorem dX3_grow_12 : decode cX3_grow 12 = .ok (.aload_n 0, 1) := by decide +kernel
theorem dX3_grow_13 : decode cX3_grow 13 = .ok (.iload_n 3, 1) := by decide +kernel
theorem dX3_grow_14 : decode cX3_grow 14 = .ok (.iload_n 1, 1) := by decide +kernel
theorem dX3_grow_15 : decode cX3_grow 15 = .ok (.invokevirtual 76, 3) := by decide +kernel
theorem dX3_grow_18 : decode cX3_grow 18 = .ok (.aload_n 0, 1) := by decide +kernel
theorem dX3_grow_19 : decode cX3_grow 19 = .ok (.getfield 34, 3) := by decide +kernel
theorem dX3_grow_22 : decode cX3_grow 22 = .ok (.aload_n 0, 1) := by decide +kernel
theorem dX3_grow_23 : decode cX3_grow 23 = .ok (.getfield 22, 3) := by decide +kernel
theorem dX3_grow_26 : decode cX3_grow 26 = .ok (.iload_n 3, 1) := by decide +kernel
theorem dX3_grow_27 : decode cX3_grow 27 = .ok (.iaload, 1) := by decide +kernel
theorem dX3_grow_28 : decode cX3_grow 28 = .ok (.iaload, 1) := by decide +kernel
theorem dX3_grow_29 : decode cX3_grow 29 = .ok (.iadd, 1) := by decide +kernel
theorem dX3_grow_30 : decode cX3_grow 30 = .ok (.istore 4, 2) := by decide +kernel
theorem dX3_grow_32 : decode cX3_grow 32 = .ok (.iload 4, 2) := by decide +kernel
theorem dX3_grow_34 : decode cX3_grow 34 = .ok (.aload_n 0, 1) := by decide +kernel
theorem dX3_grow_35 : decode cX3_grow 35 = .ok (.getfield 34, 3) := by decide +kernel
theorem dX3_grow_38 : decode cX3_grow 38 = .ok (.aload_n 0, 1) := by decide +kernel
theorem dX3_grow_39 : decode cX3_grow 39 = .ok (.getfield 19, 3) := by decide +kernel
theorem dX3_grow_42 : decode cX3_grow 42 = .ok (.iload_n 3, 1) := by decide +kernel
theorem dX3_grow_43 : decode cX3_grow 43 = .ok (.iaload, 1) := by decide +kernel
theorem dX3_grow_44 : decode cX3_grow 44 = .ok (.iaload, 1) := by decide +kernel
theorem dX3_grow_45 : decode cX3_grow 45 = .ok (.if_icmp .gt 6, 3) := by decide +kernel
theorem dX3_grow_48 : decode cX3_grow 48 = .ok (.goto 18, 3) := by decide +kernel
theorem dX3_grow_51 : decode cX3_grow 51 = .ok (.aload_n 0, 1) := by decide +kernel
theorem dX3_grow_52 : decode cX3_grow 52 = .ok (.getfield 34, 3) := by decide +kernel
theorem dX3_grow_55 : decode cX3_grow 55 = .ok (.aload_n 0, 1) := by decide +kernel
theorem dX3_grow_56 : decode cX3_grow 56 = .ok (.getfield 19, 3) := by decide +kernel
theorem dX3_grow_59 : decode cX3_grow 59 = .ok (.iload_n 3, 1) := by decide +kernel
theorem dX3_grow_60 : decode cX3_grow 60 = .ok (.iaload, 1) := by decide +kernel
theorem dX3_grow_61 : decode cX3_grow 61 = .ok (.iload 4, 2) := by decide +kernel
theorem dX3_grow_63 : decode cX3_grow 63 = .ok (.iastore, 1) := by decide +kernel
theorem dX3_grow_64 : decode cX3_grow 64 = .ok (.iconst 1, 1) := by decide +kernel
theorem dX3_grow_65 : decode cX3_grow 65 = .ok (.istore_n 2, 1) := by decide +kernel
theorem dX3_grow_66 : decode cX3_grow 66 = .ok (.iinc 3 1, 3) := by decide +kernel
theorem dX3_grow_69 : decode cX3_grow 69 = .ok (.goto (-65), 3) := by decide +kernel
theorem dX3_grow_72 : decode cX3_grow 72 = .ok (.iload_n 2, 1) := by decide +kernel
theorem dX3_grow_73 : decode cX3_grow 73 = .ok (.ireturn, 1) := by decide +kernel
set_option maxRecDepth 20000 in
theorem ggX3_byRecurrences_X3_findHeights : GoodIn wsX3_byRecurrences wsX3_findHeights := goodIn_r _ [5, 6, 7, 8, 9, 10, 4, 11, 12, 13, 14, 15, 16, 17, 18, 19, 20, 21, 22, 23, 24, 25, 26, 27, 28, 29, 30, 31, 32, 33, 34, 35, 36] (by decide +kernel) (by decide +kernel)
set_option maxRecDepth 20000 in
theorem gX3_byRecurrences_X3_findHeights : GoodIn wsX3_byRecurrences (wsV RX3 80 RX3 yX3_findHeights wsX3_findHeights) := goodIn_app (goodIn_of _ (by decide +kernel)) ggX3_byRecurrences_X3_findHeights
theorem dX3_byRecurrences_0 : decode cX3_byRecurrences 0 = .ok (.iconst 1, 1) := by decide +kernel
theorem dX3_byRecurrences_1 : decode cX3_byRecurrences 1 = .ok (.istore_n 1, 1) := by decide +kernel
theorem dX3_byRecurrences_2 : decode cX3_byRecurrences 2 = .ok (.iload_n 1, 1) := by decide +kernel
theorem dX3_byRecurrences_3 : decode cX3_byRecurrences 3 = .ok (.sipush 200, 3) := by decide +kernel
theorem dX3_byRecurrences_6 : decode cX3_byRecurrences 6 = .ok (.if_icmp .gt 19, 3) := by decide +kernel
theorem dX3_byRecurrences_9 : decode cX3_byRecurrences 9 = .ok (.aload_n 0, 1) := by decide +kernel
theorem dX3_byRecurrences_10 : decode cX3_byRecurrences 10 = .ok (.iload_n 1, 1) := by decide +kernel
theorem dX3_byRecurrences_11 : decode cX3_byRecurrences 11 = .ok (.invokevirtual 80, 3) := by decide +kernel
theorem dX3_byRecurrences_14 : decode cX3_byRecurrences 14 = .ok (.ifCond .eq 5, 3) := by decide +kernel
theorem dX3_byRecurrences_17 : decode cX3_byRecurrences 17 = .ok (.iload_n 1, 1) := by decide +kernel
theorem dX3_byRecurrences_18 : decode cX3_byRecurrences 18 = .ok (.ireturn, 1) := by decide +kernel
theorem dX3_byRecurrences_19 : decode cX3_byRecurrences 19 = .ok (.iinc 1 1, 3) := by decide +kernel
theorem dX3_byRecurrences_22 : decode cX3_byRecurrences 22 = .ok (.goto (-20), 3) := by decide +kernel
theorem dX3_byRecurrences_25 : decode cX3_byRecurrences 25 = .ok (.iconst (-1), 1) := by decide +kernel
theorem dX3_byRecurrences_26 : decode cX3_byRecurrences 26 = .ok (.ireturn, 1) := by decide +kernel
set_option maxRecDepth 20000 in
theorem ggX3_recurrenceBound_X3_byRecurrences : GoodIn wsX3_recurrenceBound wsX3_byRecurrences := goodIn_r _ [6, 7, 8, 9, 5, 10, 11, 12, 13, 14, 15, 16, 17, 18, 19, 20, 21, 22, 23, 24, 25, 26, 27, 28, 29, 30, 31, 32, 33, 34, 35, 36, 37, 38, 39, 40, 41] (by decide +kernel) (by decide +kernel)
set_option maxRecDepth 20000 in
theorem gX3_recurrenceBound_X3_byRecurrences : GoodIn wsX3_recurrenceBound (wsV RX3 83 RX3 yX3_byRecurrences wsX3_byRecurrences) := goodIn_app (goodIn_of _ (by decide +kernel)) ggX3_recurrenceBound_X3_byRecurrences
theorem dX3_recurrenceBound_0 : decode cX3_recurrenceBound 0 = .ok (.aload_n 0, 1) := by decide +kernel
theorem dX3_recurrenceBound_1 : decode cX3_recurrenceBound 1 = .ok (.iconst 0, 1) := by decide +kernel
theorem dX3_recurrenceBound_2 : decode cX3_recurrenceBound 2 = .ok (.putfield 44, 3) := by decide +kernel
theorem dX3_recurrenceBound_5 : decode cX3_recurrenceBound 5 = .ok (.aload_n 0, 1) := by decide +kernel
theorem dX3_recurrenceBound_6 : decode cX3_recurrenceBound 6 = .ok (.invokevirtual 83, 3) := by decide +kernel
theorem dX3_recurrenceBound_9 : decode cX3_recurrenceBound 9 = .ok (.ireturn, 1) := by decide +kernel
set_option maxRecDepth 20000 in
theorem ggX3_height_X3_isOperation : GoodIn wsX3_height wsX3_isOperation := goodIn_r _ [7, 8, 9, 10, 6, 11, 37, 38, 39, 40, 41, 42, 43, 44, 45, 46, 47, 48, 49, 50, 51, 52] (by decide +kernel) (by decide +kernel)
set_option maxRecDepth 20000 in
theorem gX3_height_X3_isOperation : GoodIn wsX3_height (wsV RX3 62 RX3 yX3_isOperation wsX3_isOperation) := goodIn_app (goodIn_of _ (by decide +kernel)) ggX3_height_X3_isOperation
set_option maxRecDepth 20000 in
theorem ggX3_height_X3_no : GoodIn wsX3_height wsX3_no := goodIn_r _ [15, 1, 37, 38, 39, 40, 41, 42, 43, 44, 45, 46, 47, 48, 49, 50, 51, 52] (by decide +kernel) (by decide +kernel)
set_option maxRecDepth 20000 in
theorem gX3_height_X3_no : GoodIn wsX3_height (wsV RX3 55 RX3 yX3_no wsX3_no) := goodIn_app (goodIn_of _ (by decide +kernel)) ggX3_height_X3_no
set_option maxRecDepth 20000 in
theorem ggX3_height_X3_byRecurrences : GoodIn wsX3_height wsX3_byRecurrences := goodIn_r _ [19, 20, 21, 22, 6, 23, 8, 2, 24, 25, 26, 27, 28, 29, 30, 31, 32, 33, 34, 35, 36, 37, 38, 39, 40, 41, 42, 43, 44, 45, 46, 47, 48, 49, 50, 51, 52] (by decide +kernel) (by decide +kernel)
set_option maxRecDepth 20000 in
theorem gX3_height_X3_byRecurrences : GoodIn wsX3_height (wsV RX3 83 RX3 yX3_byRecurrences wsX3_byRecurrences) := goodIn_app (goodIn_of _ (by decide +kernel)) ggX3_height_X3_byRecurrences
set_option maxRecDepth 20000 in
theorem ggX3_height_X3_isIn : GoodIn wsX3_height wsX3_isIn := goodIn_r _ [11] (by decide +kernel) (by decide +kernel)
set_option maxRecDepth 20000 in
theorem gX3_height_X3_isIn : GoodIn wsX3_height (va_wsS RX3 51 yX3_isIn wsX3_isIn) := goodIn_app (goodIn_of _ (by decide +kernel)) ggX3_height_X3_isIn
set_option maxRecDepth 20000 in
theorem ggX3_height_X3_findHeights : GoodIn wsX3_height wsX3_findHeights := goodIn_r _ [23, 8, 2, 24, 25, 26, 6, 27, 28, 29, 30, 31, 32, 33, 34, 35, 36, 37, 38, 39, 40, 41, 42, 43, 44, 45, 46, 47, 48, 49, 50, 51, 52] (by decide +kernel) (by decide +kernel)
set_option maxRecDepth 20000 in
theorem gX3_height_X3_findHeights : GoodIn wsX3_height (wsV RX3 80 RX3 yX3_findHeights wsX3_findHeights) := goodIn_app (goodIn_of _ (by decide +kernel)) ggX3_height_X3_findHeights
theorem dX3_height_0 : decode cX3_height 0 = .ok (.aload_n 0, 1) := by decide +kernel
theorem dX3_height_1 : decode cX3_height 1 = .ok (.iconst 0, 1) := by decide +kernel
theorem dX3_height_2 : decode cX3_height 2 = .ok (.putfield 44, 3) := by decide +kernel
theorem dX3_height_5 : decode cX3_height 5 = .ok (.aload_n 0, 1) := by decide +kernel
theorem dX3_height_6 : decode cX3_height 6 = .ok (.iload_n 1, 1) := by decide +kernel
theorem dX3_height_7 : decode cX3_height 7 = .ok (.invokevirtual 62, 3) := by decide +kernel
theorem dX3_height_10 : decode cX3_height 10 = .ok (.ifCond .ne 9, 3) := by decide +kernel
theorem dX3_height_13 : decode cX3_height 13 = .ok (.aload_n 0, 1) := by decide +kernel
theorem dX3_height_14 : decode cX3_height 14 = .ok (.iconst 1, 1) := by decide +kernel
theorem dX3_height_15 : decode cX3_height 15 = .ok (.invokevirtual 55, 3) := by decide +kernel
theorem dX3_height_18 : decode cX3_height 18 = .ok (.ireturn, 1) := by decide +kernel
theorem dX3_height_19 : decode cX3_height 19 = .ok (.aload_n 0, 1) := by decide +kernel
theorem dX3_height_20 : decode cX3_height 20 = .ok (.invokevirtual 83, 3) := by decide +kernel
theorem dX3_height_23 : decode cX3_height 23 = .ok (.istore_n 3, 1) := by decide +kernel
theorem dX3_height_24 : decode cX3_height 24 = .ok (.iload_n 3, 1) := by decide +kernel
theorem dX3_height_25 : decode cX3_height 25 = .ok (.iconst (-1), 1) := by decide +kernel
theorem dX3_height_26 : decode cX3_height 26 = .ok (.if_icmp .eq 14, 3) := by decide +kernel
theorem dX3_height_29 : decode cX3_height 29 = .ok (.iload_n 2, 1) := by decide +kernel
theorem dX3_height_30 : decode cX3_height 30 = .ok (.iload_n 3, 1) := by decide +kernel
theorem dX3_height_31 : decode cX3_height 31 = .ok (.sipush 200, 3) := by decide +kernel
theorem dX3_height_34 : decode cX3_height 34 = .ok (.invokestatic 51, 3) := by decide +kernel
theorem dX3_height_37 : decode cX3_height 37 = .ok (.ifCond .ne 9, 3) := by decide +kernel
theorem dX3_height_40 : decode cX3_height 40 = .ok (.aload_n 0, 1) := by decide +kernel
theorem dX3_height_41 : decode cX3_height 41 = .ok (.iconst 2, 1) := by decide +kernel
theorem dX3_height_42 : decode cX3_height 42 = .ok (.invokevirtual 55, 3) := by decide +kernel
theorem dX3_height_45 : decode cX3_height 45 = .ok (.ireturn, 1) := by decide +kernel
theorem dX3_height_46 : decode cX3_height 46 = .ok (.aload_n 0, 1) := by decide +kernel
theorem dX3_height_47 : decode cX3_height 47 = .ok (.iload_n 2, 1) := by decide +kernel
theorem dX3_height_48 : decode cX3_height 48 = .ok (.invokevirtual 80, 3) := by decide +kernel
theorem dX3_height_51 : decode cX3_height 51 = .ok (.pop, 1) := by decide +kernel
theorem dX3_height_52 : decode cX3_height 52 = .ok (.aload_n 0, 1) := by decide +kernel
theorem dX3_height_53 : decode cX3_height 53 = .ok (.getfield 34, 3) := by decide +kernel
theorem dX3_height_56 : decode cX3_height 56 = .ok (.iload_n 1, 1) := by decide +kernel
theorem dX3_height_57 : decode cX3_height 57 = .ok (.iaload, 1) := by decide +kernel
theorem dX3_height_58 : decode cX3_height 58 = .ok (.ireturn, 1) := by decide +kernel
theorem dX3_takenIn_0 : decode cX3_takenIn 0 = .ok (.iconst 0, 1) := by decide +kernel
theorem dX3_takenIn_1 : decode cX3_takenIn 1 = .ok (.istore 4, 2) := by decide +kernel
theorem dX3_takenIn_3 : decode cX3_takenIn 3 = .ok (.iconst 0, 1) := by decide +kernel
theorem dX3_takenIn_4 : decode cX3_takenIn 4 = .ok (.istore 5, 2) := by decide +kernel
theorem dX3_takenIn_6 : decode cX3_takenIn 6 = .ok (.iload 5, 2) := by decide +kernel
theorem dX3_takenIn_8 : decode cX3_takenIn 8 = .ok (.aload_n 0, 1) := by decide +kernel
theorem dX3_takenIn_9 : decode cX3_takenIn 9 = .ok (.getfield 48, 3) := by decide +kernel
theorem dX3_takenIn_12 : decode cX3_takenIn 12 = .ok (.if_icmp .ge 77, 3) := by decide +kernel
theorem dX3_takenIn_15 : decode cX3_takenIn 15 = .ok (.iconst 0, 1) := by decide +kernel
theorem dX3_takenIn_16 : decode cX3_takenIn 16 = .ok (.istore 6, 2) := by decide +kernel
theorem dX3_takenIn_18 : decode cX3_takenIn 18 = .ok (.iload 6, 2) := by decide +kernel
theorem dX3_takenIn_20 : decode cX3_takenIn 20 = .ok (.aload_n 0, 1) := by decide +kernel
theorem dX3_takenIn_21 : decode cX3_takenIn 21 = .ok (.getfield 16, 3) := by decide +kernel
theorem dX3_takenIn_24 : decode cX3_takenIn 24 = .ok (.iload 5, 2) := by decide +kernel
theorem dX3_takenIn_26 : decode cX3_takenIn 26 = .ok (.iaload, 1) := by decide +kernel
theorem dX3_takenIn_27 : decode cX3_takenIn 27 = .ok (.if_icmp .ge 56, 3) := by decide +kernel
theorem dX3_takenIn_30 : decode cX3_takenIn 30 = .ok (.aload_n 0, 1) := by decide +kernel
theorem dX3_takenIn_31 : decode cX3_takenIn 31 = .ok (.getfield 37, 3) := by decide +kernel
theorem dX3_takenIn_34 : decode cX3_takenIn 34 = .ok (.iload 5, 2) := by decide +kernel
theorem dX3_takenIn_36 : decode cX3_takenIn 36 = .ok (.baload, 1) := by decide +kernel
theorem dX3_takenIn_37 : decode cX3_takenIn 37 = .ok (.ifCond .eq 46, 3) := by decide +kernel
theorem dX3_takenIn_40 : decode cX3_takenIn 40 = .ok (.aload_n 0, 1) := by decide +kernel
theorem dX3_takenIn_41 : decode cX3_takenIn 41 = .ok (.getfield 13, 3) := by decide +kernel
theorem dX3_takenIn_44 : decode cX3_takenIn 44 = .ok (.iload 5, 2) := by decide +kernel
theorem dX3_takenIn_46 : decode cX3_takenIn 46 = .ok (.iaload, 1) := by decide +kernel
theorem dX3_takenIn_47 : decode cX3_takenIn 47 = .ok (.iload_n 2, 1) := by decide +kernel
theorem dX3_takenIn_48 : decode cX3_takenIn 48 = .ok (.if_icmp .ne 35, 3) := by decide +kernel
theorem dX3_takenIn_51 : decode cX3_takenIn 51 = .ok (.iload 4, 2) := by decide +kernel
theorem dX3_takenIn_53 : decode cX3_takenIn 53 = .ok (.aload_n 0, 1) := by decide +kernel
theorem dX3_takenIn_54 : decode cX3_takenIn 54 = .ok (.getfield 31, 3) := by decide +kernel
theorem dX3_takenIn_57 : decode cX3_takenIn 57 = .ok (.iload 5, 2) := by decide +kernel
theorem dX3_takenIn_59 : decode cX3_takenIn 59 = .ok (.iaload, 1) := by decide +kernel
theorem dX3_takenIn_60 : decode cX3_takenIn 60 = .ok (.iload 6, 2) := by decide +kernel
theorem dX3_takenIn_62 : decode cX3_takenIn 62 = .ok (.iadd, 1) := by decide +kernel
theorem dX3_takenIn_63 : decode cX3_takenIn 63 = .ok (.iload_n 3, 1) := by decide +kernel
theorem dX3_takenIn_64 : decode cX3_takenIn 64 = .ok (.irem, 1) := by decide +kernel
theorem dX3_takenIn_65 : decode cX3_takenIn 65 = .ok (.iload_n 1, 1) := by decide +kernel
theorem dX3_takenIn_66 : decode cX3_takenIn 66 = .ok (.if_icmp .ne 7, 3) := by decide +kernel
theorem dX3_takenIn_69 : decode cX3_takenIn 69 = .ok (.iconst 1, 1) := by decide +kernel
theorem dX3_takenIn_70 : decode cX3_takenIn 70 = .ok (.goto 4, 3) := by decide +kernel
theorem dX3_takenIn_73 : decode cX3_takenIn 73 = .ok (.iconst 0, 1) := by decide +kernel
theorem dX3_takenIn_74 : decode cX3_takenIn 74 = .ok (.iadd, 1) := by decide +kernel
theorem dX3_takenIn_75 : decode cX3_takenIn 75 = .ok (.istore 4, 2) := by decide +kernel
theorem dX3_takenIn_77 : decode cX3_takenIn 77 = .ok (.iinc 6 1, 3) := by decide +kernel
theorem dX3_takenIn_80 : decode cX3_takenIn 80 = .ok (.goto (-62), 3) := by decide +kernel
theorem dX3_takenIn_83 : decode cX3_takenIn 83 = .ok (.iinc 5 1, 3) := by decide +kernel
theorem dX3_takenIn_86 : decode cX3_takenIn 86 = .ok (.goto (-80), 3) := by decide +kernel
theorem dX3_takenIn_89 : decode cX3_takenIn 89 = .ok (.iload 4, 2) := by decide +kernel
theorem dX3_takenIn_91 : decode cX3_takenIn 91 = .ok (.ireturn, 1) := by decide +kernel
set_option maxRecDepth 20000 in
theorem ggX3_fits_X3_count : GoodIn wsX3_fits wsX3_count := goodIn_r _ [6, 7, 8, 9, 10, 11, 12, 13, 14, 15, 16, 17, 18, 19, 20, 21, 22, 23, 24, 25, 26, 27, 28] (by decide +kernel) (by decide +kernel)
set_option maxRecDepth 20000 in
theorem gX3_fits_X3_count : GoodIn wsX3_fits (wsV RX3 86 RX3 yX3_count wsX3_count) := goodIn_app (goodIn_of _ (by decide +kernel)) ggX3_fits_X3_count
theorem dX3_fits_0 : decode cX3_fits 0 = .ok (.iconst 1, 1) := by decide +kernel
theorem dX3_fits_1 : decode cX3_fits 1 = .ok (.istore_n 2, 1) := by decide +kernel
theorem dX3_fits_2 : decode cX3_fits 2 = .ok (.iconst 0, 1) := by decide +kernel
theorem dX3_fits_3 : decode cX3_fits 3 = .ok (.istore_n 3, 1) := by decide +kernel
theorem dX3_fits_4 : decode cX3_fits 4 = .ok (.iload_n 3, 1) := by decide +kernel
theorem dX3_fits_5 : decode cX3_fits 5 = .ok (.aload_n 0, 1) := by decide +kernel
theorem dX3_fits_6 : decode cX3_fits 6 = .ok (.getfield 48, 3) := by decide +kernel
theorem dX3_fits_9 : decode cX3_fits 9 = .ok (.if_icmp .ge 29, 3) := by decide +kernel
theorem dX3_fits_12 : decode cX3_fits 12 = .ok (.aload_n 0, 1) := by decide +kernel
theorem dX3_fits_13 : decode cX3_fits 13 = .ok (.iload_n 3, 1) := by decide +kernel
theorem dX3_fits_14 : decode cX3_fits 14 = .ok (.iload_n 1, 1) := by decide +kernel
theorem dX3_fits_15 : decode cX3_fits 15 = .ok (.iconst 1, 1) := by decide +kernel
theorem dX3_fits_16 : decode cX3_fits 16 = .ok (.invokevirtual 86, 3) := by decide +kernel
theorem dX3_fits_19 : decode cX3_fits 19 = .ok (.ifCond .eq 11, 3) := by decide +kernel
theorem dX3_fits_22 : decode cX3_fits 22 = .ok (.iload_n 2, 1) := by decide +kernel
theorem dX3_fits_23 : decode cX3_fits 23 = .ok (.ifCond .eq 7, 3) := by decide +kernel
theorem dX3_fits_26 : decode cX3_fits 26 = .ok (.iconst 1, 1) := by decide +kernel
theorem dX3_fits_27 : decode cX3_fits 27 = .ok (.goto 4, 3) := by decide +kernel
theorem dX3_fits_30 : decode cX3_fits 30 = .ok (.iconst 0, 1) := by decide +kernel
theorem dX3_fits_31 : decode cX3_fits 31 = .ok (.istore_n 2, 1) := by decide +kernel
theorem dX3_fits_32 : decode cX3_fits 32 = .ok (.iinc 3 1, 3) := by decide +kernel
theorem dX3_fits_35 : decode cX3_fits 35 = .ok (.goto (-31), 3) := by decide +kernel
theorem dX3_fits_38 : decode cX3_fits 38 = .ok (.iconst 0, 1) := by decide +kernel
theorem dX3_fits_39 : decode cX3_fits 39 = .ok (.istore_n 3, 1) := by decide +kernel
theorem dX3_fits_40 : decode cX3_fits 40 = .ok (.iload_n 3, 1) := by decide +kernel
theorem dX3_fits_41 : decode cX3_fits 41 = .ok (.aload_n 0, 1) := by decide +kernel
theorem dX3_fits_42 : decode cX3_fits 42 = .ok (.getfield 48, 3) := by decide +kernel
theorem dX3_fits_45 : decode cX3_fits 45 = .ok (.if_icmp .ge 29, 3) := by decide +kernel
theorem dX3_fits_48 : decode cX3_fits 48 = .ok (.aload_n 0, 1) := by decide +kernel
theorem dX3_fits_49 : decode cX3_fits 49 = .ok (.iload_n 3, 1) := by decide +kernel
theorem dX3_fits_50 : decode cX3_fits 50 = .ok (.iload_n 1, 1) := by decide +kernel
theorem dX3_fits_51 : decode cX3_fits 51 = .ok (.iconst (-1), 1) := by decide +kernel
theorem dX3_fits_52 : decode cX3_fits 52 = .ok (.invokevirtual 86, 3) := by decide +kernel
theorem dX3_fits_55 : decode cX3_fits 55 = .ok (.ifCond .eq 11, 3) := by decide +kernel
theorem dX3_fits_58 : decode cX3_fits 58 = .ok (.iload_n 2, 1) := by decide +kernel
theorem dX3_fits_59 : decode cX3_fits 59 = .ok (.ifCond .eq 7, 3) := by decide +kernel
theorem dX3_fits_62 : decode cX3_fits 62 = .ok (.iconst 1, 1) := by decide +kernel
theorem dX3_fits_63 : decode cX3_fits 63 = .ok (.goto 4, 3) := by decide +kernel
theorem dX3_fits_66 : decode cX3_fits 66 = .ok (.iconst 0, 1) := by decide +kernel
theorem dX3_fits_67 : decode cX3_fits 67 = .ok (.istore_n 2, 1) := by decide +kernel
theorem dX3_fits_68 : decode cX3_fits 68 = .ok (.iinc 3 1, 3) := by decide +kernel
theorem dX3_fits_71 : decode cX3_fits 71 = .ok (.goto (-31), 3) := by decide +kernel
theorem dX3_fits_74 : decode cX3_fits 74 = .ok (.iload_n 2, 1) := by decide +kernel
theorem dX3_fits_75 : decode cX3_fits 75 = .ok (.ireturn, 1) := by decide +kernel
theorem dX3_count_0 : decode cX3_count 0 = .ok (.iconst 1, 1) := by decide +kernel
theorem dX3_count_1 : decode cX3_count 1 = .ok (.istore 4, 2) := by decide +kernel
theorem dX3_count_3 : decode cX3_count 3 = .ok (.iconst 0, 1) := by decide +kernel
theorem dX3_count_4 : decode cX3_count 4 = .ok (.istore 5, 2) := by decide +kernel
theorem dX3_count_6 : decode cX3_count 6 = .ok (.iload 5, 2) := by decide +kernel
theorem dX3_count_8 : decode cX3_count 8 = .ok (.aload_n 0, 1) := by decide +kernel
theorem dX3_count_9 : decode cX3_count 9 = .ok (.getfield 16, 3) := by decide +kernel
theorem dX3_count_12 : decode cX3_count 12 = .ok (.iload_n 1, 1) := by decide +kernel
theorem dX3_count_13 : decode cX3_count 13 = .ok (.iaload, 1) := by decide +kernel
theorem dX3_count_14 : decode cX3_count 14 = .ok (.if_icmp .ge 88, 3) := by decide +kernel
theorem dX3_count_17 : decode cX3_count 17 = .ok (.aload_n 0, 1) := by decide +kernel
theorem dX3_count_18 : decode cX3_count 18 = .ok (.getfield 37, 3) := by decide +kernel
theorem dX3_count_21 : decode cX3_count 21 = .ok (.iload_n 1, 1) := by decide +kernel
theorem dX3_count_22 : decode cX3_count 22 = .ok (.baload, 1) := by decide +kernel
theorem dX3_count_23 : decode cX3_count 23 = .ok (.ifCond .eq 79, 3) := by decide +kernel
theorem dX3_count_26 : decode cX3_count 26 = .ok (.sipush 200, 3) := by decide +kernel
theorem dX3_count_29 : decode cX3_count 29 = .ok (.aload_n 0, 1) := by decide +kernel
theorem dX3_count_30 : decode cX3_count 30 = .ok (.getfield 13, 3) := by decide +kernel
theorem dX3_count_33 : decode cX3_count 33 = .ok (.iload_n 1, 1) := by decide +kernel
theorem dX3_count_34 : decode cX3_count 34 = .ok (.iaload, 1) := by decide +kernel
theorem dX3_count_35 : decode cX3_count 35 = .ok (.imul, 1) := by decide +kernel
theorem dX3_count_36 : decode cX3_count 36 = .ok (.aload_n 0, 1) := by decide +kernel
theorem dX3_count_37 : decode cX3_count 37 = .ok (.getfield 31, 3) := by decide +kernel
theorem dX3_count_40 : decode cX3_count 40 = .ok (.iload_n 1, 1) := by decide +kernel
theorem dX3_count_41 : decode cX3_count 41 = .ok (.iaload, 1) := by decide +kernel
theorem dX3_count_42 : decode cX3_count 42 = .ok (.iload 5, 2) := by decide +kernel
theorem dX3_count_44 : decode cX3_count 44 = .ok (.iadd, 1) := by decide +kernel
theorem dX3_count_45 : decode cX3_count 45 = .ok (.iload_n 2, 1) := by decide +kernel
theorem dX3_count_46 : decode cX3_count 46 = .ok (.irem, 1) := by decide +kernel
theorem dX3_count_47 : decode cX3_count 47 = .ok (.iadd, 1) := by decide +kernel
theorem dX3_count_48 : decode cX3_count 48 = .ok (.istore 6, 2) := by decide +kernel
theorem dX3_count_50 : decode cX3_count 50 = .ok (.aload_n 0, 1) := by decide +kernel
theorem dX3_count_51 : decode cX3_count 51 = .ok (.getfield 41, 3) := by decide +kernel
theorem dX3_count_54 : decode cX3_count 54 = .ok (.iload 6, 2) := by decide +kernel
theorem dX3_count_56 : decode cX3_count 56 = .ok (.dup2, 1) := by decide +kernel
theorem dX3_count_57 : decode cX3_count 57 = .ok (.iaload, 1) := by decide +kernel
theorem dX3_count_58 : decode cX3_count 58 = .ok (.iload_n 3, 1) := by decide +kernel
theorem dX3_count_59 : decode cX3_count 59 = .ok (.iadd, 1) := by decide +kernel
theorem dX3_count_60 : decode cX3_count 60 = .ok (.iastore, 1) := by decide +kernel
theorem dX3_count_61 : decode cX3_count 61 = .ok (.iload 4, 2) := by decide +kernel
theorem dX3_count_63 : decode cX3_count 63 = .ok (.iload_n 3, 1) := by decide +kernel
theorem dX3_count_64 : decode cX3_count 64 = .ok (.ifCond .lt 24, 3) := by decide +kernel
theorem dX3_count_67 : decode cX3_count 67 = .ok (.aload_n 0, 1) := by decide +kernel
theorem dX3_count_68 : decode cX3_count 68 = .ok (.getfield 41, 3) := by decide +kernel
theorem dX3_count_71 : decode cX3_count 71 = .ok (.iload 6, 2) := by decide +kernel
theorem dX3_count_73 : decode cX3_count 73 = .ok (.iaload, 1) := by decide +kernel
theorem dX3_count_74 : decode cX3_count 74 = .ok (.aload_n 0, 1) := by decide +kernel
theorem dX3_count_75 : decode cX3_count 75 = .ok (.getfield 7, 3) := by decide +kernel
theorem dX3_count_78 : decode cX3_count 78 = .ok (.aload_n 0, 1) := by decide +kernel
theorem dX3_count_79 : decode cX3_count 79 = .ok (.getfield 13, 3) := by decide +kernel
theorem dX3_count_82 : decode cX3_count 82 = .ok (.iload_n 1, 1) := by decide +kernel
theorem dX3_count_83 : decode cX3_count 83 = .ok (.iaload, 1) := by decide +kernel
theorem dX3_count_84 : decode cX3_count 84 = .ok (.iaload, 1) := by decide +kernel
theorem dX3_count_85 : decode cX3_count 85 = .ok (.if_icmp .gt 7, 3) := by decide +kernel
theorem dX3_count_88 : decode cX3_count 88 = .ok (.iconst 1, 1) := by decide +kernel
theorem dX3_count_89 : decode cX3_count 89 = .ok (.goto 4, 3) := by decide +kernel
theorem dX3_count_92 : decode cX3_count 92 = .ok (.iconst 0, 1) := by decide +kernel
theorem dX3_count_93 : decode cX3_count 93 = .ok (.iand, 1) := by decide +kernel
theorem dX3_count_94 : decode cX3_count 94 = .ok (.istore 4, 2) := by decide +kernel
theorem dX3_count_96 : decode cX3_count 96 = .ok (.iinc 5 1, 3) := by decide +kernel
theorem dX3_count_99 : decode cX3_count 99 = .ok (.goto (-93), 3) := by decide +kernel
theorem dX3_count_102 : decode cX3_count 102 = .ok (.iload 4, 2) := by decide +kernel
theorem dX3_count_104 : decode cX3_count 104 = .ok (.ireturn, 1) := by decide +kernel
set_option maxRecDepth 20000 in
theorem ggX3_attempt_X3_findHeights : GoodIn wsX3_attempt wsX3_findHeights := goodIn_r _ [7, 1, 8, 9, 10, 11, 6, 12, 13, 14, 15, 16, 17, 18, 19, 20, 21, 51, 52, 53, 54, 55, 56, 57, 58, 59, 60, 61, 62, 63, 64, 65, 66] (by decide +kernel) (by decide +kernel)
set_option maxRecDepth 20000 in
theorem gX3_attempt_X3_findHeights : GoodIn wsX3_attempt (wsV RX3 80 RX3 yX3_findHeights wsX3_findHeights) := goodIn_app (goodIn_of _ (by decide +kernel)) ggX3_attempt_X3_findHeights
set_option maxRecDepth 20000 in
theorem ggX3_attempt_X3_next : GoodIn wsX3_attempt wsX3_next := goodIn_r _ [25, 1, 2, 8, 51, 52, 53, 54, 55, 56, 57, 58, 59, 60, 61, 62, 63, 64, 65, 66] (by decide +kernel) (by decide +kernel)
set_option maxRecDepth 20000 in
theorem gX3_attempt_X3_next : GoodIn wsX3_attempt (wsV RX3 89 RX3 yX3_next wsX3_next) := goodIn_app (goodIn_of _ (by decide +kernel)) ggX3_attempt_X3_next
set_option maxRecDepth 20000 in
theorem ggX3_attempt_X3_place : GoodIn wsX3_attempt wsX3_place := goodIn_r _ [29, 30, 13, 14, 2, 15, 31, 32, 33, 34, 35, 36, 37, 38, 16, 17, 18, 6, 19, 20, 21, 39, 40, 41, 42, 1, 43, 44, 45, 46, 47, 48, 49, 50, 51, 52, 53, 54, 55, 56, 57, 58, 59, 60, 61, 62, 63, 64, 65, 66] (by decide +kernel) (by decide +kernel)
set_option maxRecDepth 20000 in
theorem gX3_attempt_X3_place : GoodIn wsX3_attempt (wsV RX3 92 RX3 yX3_place wsX3_place) := goodIn_app (goodIn_of _ (by decide +kernel)) ggX3_attempt_X3_place
theorem dX3_attempt_0 : decode cX3_attempt 0 = .ok (.aload_n 0, 1) := by decide +kernel
theorem dX3_attempt_1 : decode cX3_attempt 1 = .ok (.iload_n 1, 1) := by decide +kernel
theorem dX3_attempt_2 : decode cX3_attempt 2 = .ok (.invokevirtual 80, 3) := by decide +kernel
theorem dX3_attempt_5 : decode cX3_attempt 5 = .ok (.pop, 1) := by decide +kernel
theorem dX3_attempt_6 : decode cX3_attempt 6 = .ok (.iconst 0, 1) := by decide +kernel
theorem dX3_attempt_7 : decode cX3_attempt 7 = .ok (.istore_n 2, 1) := by decide +kernel
theorem dX3_attempt_8 : decode cX3_attempt 8 = .ok (.iload_n 2, 1) := by decide +kernel
theorem dX3_attempt_9 : decode cX3_attempt 9 = .ok (.aload_n 0, 1) := by decide +kernel
theorem dX3_attempt_10 : decode cX3_attempt 10 = .ok (.getfield 48, 3) := by decide +kernel
theorem dX3_attempt_13 : decode cX3_attempt 13 = .ok (.if_icmp .ge 16, 3) := by decide +kernel
theorem dX3_attempt_16 : decode cX3_attempt 16 = .ok (.aload_n 0, 1) := by decide +kernel
theorem dX3_attempt_17 : decode cX3_attempt 17 = .ok (.getfield 37, 3) := by decide +kernel
theorem dX3_attempt_20 : decode cX3_attempt 20 = .ok (.iload_n 2, 1) := by decide +kernel
theorem dX3_attempt_21 : decode cX3_attempt 21 = .ok (.iconst 0, 1) := by decide +kernel
theorem dX3_attempt_22 : decode cX3_attempt 22 = .ok (.bastore, 1) := by decide +kernel
theorem dX3_attempt_23 : decode cX3_attempt 23 = .ok (.iinc 2 1, 3) := by decide +kernel
theorem dX3_attempt_26 : decode cX3_attempt 26 = .ok (.goto (-18), 3) := by decide +kernel
theorem dX3_attempt_29 : decode cX3_attempt 29 = .ok (.iconst 0, 1) := by decide +kernel
theorem dX3_attempt_30 : decode cX3_attempt 30 = .ok (.istore_n 2, 1) := by decide +kernel
theorem dX3_attempt_31 : decode cX3_attempt 31 = .ok (.iload_n 2, 1) := by decide +kernel
theorem dX3_attempt_32 : decode cX3_attempt 32 = .ok (.aload_n 0, 1) := by decide +kernel
theorem dX3_attempt_33 : decode cX3_attempt 33 = .ok (.getfield 48, 3) := by decide +kernel
theorem dX3_attempt_36 : decode cX3_attempt 36 = .ok (.if_icmp .ge 23, 3) := by decide +kernel
theorem dX3_attempt_39 : decode cX3_attempt 39 = .ok (.aload_n 0, 1) := by decide +kernel
theorem dX3_attempt_40 : decode cX3_attempt 40 = .ok (.aload_n 0, 1) := by decide +kernel
theorem dX3_attempt_41 : decode cX3_attempt 41 = .ok (.invokevirtual 89, 3) := by decide +kernel
theorem dX3_attempt_44 : decode cX3_attempt 44 = .ok (.iload_n 1, 1) := by decide +kernel
theorem dX3_attempt_45 : decode cX3_attempt 45 = .ok (.invokevirtual 92, 3) := by decide +kernel
theorem dX3_attempt_48 : decode cX3_attempt 48 = .ok (.ifCond .ne 5, 3) := by decide +kernel
theorem dX3_attempt_51 : decode cX3_attempt 51 = .ok (.iconst 0, 1) := by decide +kernel
theorem dX3_attempt_52 : decode cX3_attempt 52 = .ok (.ireturn, 1) := by decide +kernel
theorem dX3_attempt_53 : decode cX3_attempt 53 = .ok (.iinc 2 1, 3) := by decide +kernel
theorem dX3_attempt_56 : decode cX3_attempt 56 = .ok (.goto (-25), 3) := by decide +kernel
theorem dX3_attempt_59 : decode cX3_attempt 59 = .ok (.iconst 1, 1) := by decide +kernel
theorem dX3_attempt_60 : decode cX3_attempt 60 = .ok (.ireturn, 1) := by decide +kernel
theorem dX3_next_0 : decode cX3_next 0 = .ok (.iconst (-1), 1) := by decide +kernel
theorem dX3_next_1 : decode cX3_next 1 = .ok (.istore_n 1, 1) := by decide +kernel
theorem dX3_next_2 : decode cX3_next 2 = .ok (.iconst 0, 1) := by decide +kernel
theorem dX3_next_3 : decode cX3_next 3 = .ok (.istore_n 2, 1) := by decide +kernel
theorem dX3_next_4 : decode cX3_next 4 = .ok (.iload_n 2, 1) := by decide +kernel
theorem dX3_next_5 : decode cX3_next 5 = .ok (.aload_n 0, 1) := by decide +kernel
theorem dX3_next_6 : decode cX3_next 6 = .ok (.getfield 48, 3) := by decide +kernel
theorem dX3_next_9 : decode cX3_next 9 = .ok (.if_icmp .ge 40, 3) := by decide +kernel
theorem dX3_next_12 : decode cX3_next 12 = .ok (.aload_n 0, 1) := by decide +kernel
theorem dX3_next_13 : decode cX3_next 13 = .ok (.getfield 37, 3) := by decide +kernel
theorem dX3_next_16 : decode cX3_next 16 = .ok (.iload_n 2, 1) := by decide +kernel
theorem dX3_next_17 : decode cX3_next 17 = .ok (.baload, 1) := by decide +kernel
theorem dX3_next_18 : decode cX3_next 18 = .ok (.ifCond .ne 25, 3) := by decide +kernel
theorem dX3_next_21 : decode cX3_next 21 = .ok (.iload_n 1, 1) := by decide +kernel
theorem dX3_next_22 : decode cX3_next 22 = .ok (.iconst (-1), 1) := by decide +kernel
theorem dX3_next_23 : decode cX3_next 23 = .ok (.if_icmp .eq 18, 3) := by decide +kernel
theorem dX3_next_26 : decode cX3_next 26 = .ok (.aload_n 0, 1) := by decide +kernel
theorem dX3_next_27 : decode cX3_next 27 = .ok (.getfield 34, 3) := by decide +kernel
theorem dX3_next_30 : decode cX3_next 30 = .ok (.iload_n 2, 1) := by decide +kernel
theorem dX3_next_31 : decode cX3_next 31 = .ok (.iaload, 1) := by decide +kernel
theorem dX3_next_32 : decode cX3_next 32 = .ok (.aload_n 0, 1) := by decide +kernel
theorem dX3_next_33 : decode cX3_next 33 = .ok (.getfield 34, 3) := by decide +kernel
theorem dX3_next_36 : decode cX3_next 36 = .ok (.iload_n 1, 1) := by decide +kernel
theorem dX3_next_37 : decode cX3_next 37 = .ok (.iaload, 1) := by decide +kernel
theorem dX3_next_38 : decode cX3_next 38 = .ok (.if_icmp .le 5, 3) := by decide +kernel
theorem dX3_next_41 : decode cX3_next 41 = .ok (.iload_n 2, 1) := by decide +kernel
theorem dX3_next_42 : decode cX3_next 42 = .ok (.istore_n 1, 1) := by decide +kernel
theorem dX3_next_43 : decode cX3_next 43 = .ok (.iinc 2 1, 3) := by decide +kernel
theorem dX3_next_46 : decode cX3_next 46 = .ok (.goto (-42), 3) := by decide +kernel
theorem dX3_next_49 : decode cX3_next 49 = .ok (.iload_n 1, 1) := by decide +kernel
theorem dX3_next_50 : decode cX3_next 50 = .ok (.ireturn, 1) := by decide +kernel
set_option maxRecDepth 20000 in
theorem ggX3_place_X3_lengthOf : GoodIn wsX3_place wsX3_lengthOf := goodIn_r _ [18, 19, 20, 34, 35, 36, 37, 38, 39, 40, 41, 42, 43, 44, 45, 46, 47, 48, 49] (by decide +kernel) (by decide +kernel)
set_option maxRecDepth 20000 in
theorem gX3_place_X3_lengthOf : GoodIn wsX3_place (wsV RX3 76 RX3 yX3_lengthOf wsX3_lengthOf) := goodIn_app (goodIn_of _ (by decide +kernel)) ggX3_place_X3_lengthOf
set_option maxRecDepth 20000 in
theorem ggX3_place_X3_fits : GoodIn wsX3_place wsX3_fits := goodIn_r _ [24, 25, 26, 27, 28, 17, 29, 30, 4, 31, 6, 32, 33, 34, 35, 36, 37, 38, 39, 40, 41, 42, 43, 44, 45, 46, 47, 48, 49] (by decide +kernel) (by decide +kernel)
set_option maxRecDepth 20000 in
theorem gX3_place_X3_fits : GoodIn wsX3_place (wsV RX3 105 RX3 yX3_fits wsX3_fits) := goodIn_app (goodIn_of _ (by decide +kernel)) ggX3_place_X3_fits
theorem dX3_place_0 : decode cX3_place 0 = .ok (.iconst 0, 1) := by decide +kernel
theorem dX3_place_1 : decode cX3_place 1 = .ok (.istore_n 3, 1) := by decide +kernel
theorem dX3_place_2 : decode cX3_place 2 = .ok (.ldc 96, 2) := by decide +kernel
theorem dX3_place_4 : decode cX3_place 4 = .ok (.istore 4, 2) := by decide +kernel
theorem dX3_place_6 : decode cX3_place 6 = .ok (.iconst 0, 1) := by decide +kernel
theorem dX3_place_7 : decode cX3_place 7 = .ok (.istore 5, 2) := by decide +kernel
theorem dX3_place_9 : decode cX3_place 9 = .ok (.iload 5, 2) := by decide +kernel
theorem dX3_place_11 : decode cX3_place 11 = .ok (.aload_n 0, 1) := by decide +kernel
theorem dX3_place_12 : decode cX3_place 12 = .ok (.getfield 66, 3) := by decide +kernel
theorem dX3_place_15 : decode cX3_place 15 = .ok (.if_icmp .ge 113, 3) := by decide +kernel
theorem dX3_place_18 : decode cX3_place 18 = .ok (.aload_n 0, 1) := by decide +kernel
theorem dX3_place_19 : decode cX3_place 19 = .ok (.getfield 22, 3) := by decide +kernel
theorem dX3_place_22 : decode cX3_place 22 = .ok (.iload 5, 2) := by decide +kernel
theorem dX3_place_24 : decode cX3_place 24 = .ok (.iaload, 1) := by decide +kernel
theorem dX3_place_25 : decode cX3_place 25 = .ok (.iload_n 1, 1) := by decide +kernel
theorem dX3_place_26 : decode cX3_place 26 = .ok (.if_icmp .ne 43, 3) := by decide +kernel
theorem dX3_place_29 : decode cX3_place 29 = .ok (.aload_n 0, 1) := by decide +kernel
theorem dX3_place_30 : decode cX3_place 30 = .ok (.getfield 37, 3) := by decide +kernel
theorem dX3_place_33 : decode cX3_place 33 = .ok (.aload_n 0, 1) := by decide +kernel
theorem dX3_place_34 : decode cX3_place 34 = .ok (.getfield 19, 3) := by decide +kernel
theorem dX3_place_37 : decode cX3_place 37 = .ok (.iload 5, 2) := by decide +kernel
theorem dX3_place_39 : decode cX3_place 39 = .ok (.iaload, 1) := by decide +kernel
theorem dX3_place_40 : decode cX3_place 40 = .ok (.baload, 1) := by decide +kernel
theorem dX3_place_41 : decode cX3_place 41 = .ok (.ifCond .eq 28, 3) := by decide +kernel
theorem dX3_place_44 : decode cX3_place 44 = .ok (.iload_n 3, 1) := by decide +kernel
theorem dX3_place_45 : decode cX3_place 45 = .ok (.aload_n 0, 1) := by decide +kernel
theorem dX3_place_46 : decode cX3_place 46 = .ok (.getfield 31, 3) := by decide +kernel
theorem dX3_place_49 : decode cX3_place 49 = .ok (.aload_n 0, 1) := by decide +kernel
theorem dX3_place_50 : decode cX3_place 50 = .ok (.getfield 19, 3) := by decide +kernel
theorem dX3_place_53 : decode cX3_place 53 = .ok (.iload 5, 2) := by decide +kernel
theorem dX3_place_55 : decode cX3_place 55 = .ok (.iaload, 1) := by decide +kernel
theorem dX3_place_56 : decode cX3_place 56 = .ok (.iaload, 1) := by decide +kernel
theorem dX3_place_57 : decode cX3_place 57 = .ok (.aload_n 0, 1) := by decide +kernel
theorem dX3_place_58 : decode cX3_place 58 = .ok (.iload 5, 2) := by decide +kernel
theorem dX3_place_60 : decode cX3_place 60 = .ok (.iload_n 2, 1) := by decide +kernel
theorem dX3_place_61 : decode cX3_place 61 = .ok (.invokevirtual 76, 3) := by decide +kernel
theorem dX3_place_64 : decode cX3_place 64 = .ok (.iadd, 1) := by decide +kernel
theorem dX3_place_65 : decode cX3_place 65 = .ok (.invokestatic 97, 3) := by decide +kernel
theorem dX3_place_68 : decode cX3_place 68 = .ok (.istore_n 3, 1) := by decide +kernel
theorem dX3_place_69 : decode cX3_place 69 = .ok (.aload_n 0, 1) := by decide +kernel
theorem dX3_place_70 : decode cX3_place 70 = .ok (.getfield 19, 3) := by decide +kernel
theorem dX3_place_73 : decode cX3_place 73 = .ok (.iload 5, 2) := by decide +kernel
theorem dX3_place_75 : decode cX3_place 75 = .ok (.iaload, 1) := by decide +kernel
theorem dX3_place_76 : decode cX3_place 76 = .ok (.iload_n 1, 1) := by decide +kernel
theorem dX3_place_77 : decode cX3_place 77 = .ok (.if_icmp .ne 45, 3) := by decide +kernel
theorem dX3_place_80 : decode cX3_place 80 = .ok (.aload_n 0, 1) := by decide +kernel
theorem dX3_place_81 : decode cX3_place 81 = .ok (.getfield 37, 3) := by decide +kernel
theorem dX3_place_84 : decode cX3_place 84 = .ok (.aload_n 0, 1) := by decide +kernel
theorem dX3_place_85 : decode cX3_place 85 = .ok (.getfield 22, 3) := by decide +kernel
theorem dX3_place_88 : decode cX3_place 88 = .ok (.iload 5, 2) := by decide +kernel
theorem dX3_place_90 : decode cX3_place 90 = .ok (.iaload, 1) := by decide +kernel
theorem dX3_place_91 : decode cX3_place 91 = .ok (.baload, 1) := by decide +kernel
theorem dX3_place_92 : decode cX3_place 92 = .ok (.ifCond .eq 30, 3) := by decide +kernel
theorem dX3_place_95 : decode cX3_place 95 = .ok (.iload 4, 2) := by decide +kernel
theorem dX3_place_97 : decode cX3_place 97 = .ok (.aload_n 0, 1) := by decide +kernel
theorem dX3_place_98 : decode cX3_place 98 = .ok (.getfield 31, 3) := by decide +kernel
theorem dX3_place_101 : decode cX3_place 101 = .ok (.aload_n 0, 1) := by decide +kernel
theorem dX3_place_102 : decode cX3_place 102 = .ok (.getfield 22, 3) := by decide +kernel
theorem dX3_place_105 : decode cX3_place 105 = .ok (.iload 5, 2) := by decide +kernel
theorem dX3_place_107 : decode cX3_place 107 = .ok (.iaload, 1) := by decide +kernel
theorem dX3_place_108 : decode cX3_place 108 = .ok (.iaload, 1) := by decide +kernel
theorem dX3_place_109 : decode cX3_place 109 = .ok (.aload_n 0, 1) := by decide +kernel
theorem dX3_place_110 : decode cX3_place 110 = .ok (.iload 5, 2) := by decide +kernel
theorem dX3_place_112 : decode cX3_place 112 = .ok (.iload_n 2, 1) := by decide +kernel
theorem dX3_place_113 : decode cX3_place 113 = .ok (.invokevirtual 76, 3) := by decide +kernel
theorem dX3_place_116 : decode cX3_place 116 = .ok (.isub, 1) := by decide +kernel
theorem dX3_place_117 : decode cX3_place 117 = .ok (.invokestatic 102, 3) := by decide +kernel
theorem dX3_place_120 : decode cX3_place 120 = .ok (.istore 4, 2) := by decide +kernel
theorem dX3_place_122 : decode cX3_place 122 = .ok (.iinc 5 1, 3) := by decide +kernel
theorem dX3_place_125 : decode cX3_place 125 = .ok (.goto (-116), 3) := by decide +kernel
theorem dX3_place_128 : decode cX3_place 128 = .ok (.aload_n 0, 1) := by decide +kernel
theorem dX3_place_129 : decode cX3_place 129 = .ok (.getfield 37, 3) := by decide +kernel
theorem dX3_place_132 : decode cX3_place 132 = .ok (.iload_n 1, 1) := by decide +kernel
theorem dX3_place_133 : decode cX3_place 133 = .ok (.iconst 1, 1) := by decide +kernel
theorem dX3_place_134 : decode cX3_place 134 = .ok (.bastore, 1) := by decide +kernel
theorem dX3_place_135 : decode cX3_place 135 = .ok (.iconst 0, 1) := by decide +kernel
theorem dX3_place_136 : decode cX3_place 136 = .ok (.istore 5, 2) := by decide +kernel
theorem dX3_place_138 : decode cX3_place 138 = .ok (.iload 5, 2) := by decide +kernel
theorem dX3_place_140 : decode cX3_place 140 = .ok (.iload_n 2, 1) := by decide +kernel
theorem dX3_place_141 : decode cX3_place 141 = .ok (.if_icmp .ge 38, 3) := by decide +kernel
theorem dX3_place_144 : decode cX3_place 144 = .ok (.iload_n 3, 1) := by decide +kernel
theorem dX3_place_145 : decode cX3_place 145 = .ok (.iload 5, 2) := by decide +kernel
theorem dX3_place_147 : decode cX3_place 147 = .ok (.iadd, 1) := by decide +kernel
theorem dX3_place_148 : decode cX3_place 148 = .ok (.iload 4, 2) := by decide +kernel
theorem dX3_place_150 : decode cX3_place 150 = .ok (.if_icmp .gt 29, 3) := by decide +kernel
theorem dX3_place_153 : decode cX3_place 153 = .ok (.aload_n 0, 1) := by decide +kernel
theorem dX3_place_154 : decode cX3_place 154 = .ok (.getfield 31, 3) := by decide +kernel
theorem dX3_place_157 : decode cX3_place 157 = .ok (.iload_n 1, 1) := by decide +kernel
theorem dX3_place_158 : decode cX3_place 158 = .ok (.iload_n 3, 1) := by decide +kernel
theorem dX3_place_159 : decode cX3_place 159 = .ok (.iload 5, 2) := by decide +kernel
theorem dX3_place_161 : decode cX3_place 161 = .ok (.iadd, 1) := by decide +kernel
theorem dX3_place_162 : decode cX3_place 162 = .ok (.iastore, 1) := by decide +kernel
theorem dX3_place_163 : decode cX3_place 163 = .ok (.aload_n 0, 1) := by decide +kernel
theorem dX3_place_164 : decode cX3_place 164 = .ok (.iload_n 2, 1) := by decide +kernel
theorem dX3_place_165 : decode cX3_place 165 = .ok (.invokevirtual 105, 3) := by decide +kernel
theorem dX3_place_168 : decode cX3_place 168 = .ok (.ifCond .eq 5, 3) := by decide +kernel
theorem dX3_place_171 : decode cX3_place 171 = .ok (.iconst 1, 1) := by decide +kernel
theorem dX3_place_172 : decode cX3_place 172 = .ok (.ireturn, 1) := by decide +kernel
theorem dX3_place_173 : decode cX3_place 173 = .ok (.iinc 5 1, 3) := by decide +kernel
theorem dX3_place_176 : decode cX3_place 176 = .ok (.goto (-38), 3) := by decide +kernel
theorem dX3_place_179 : decode cX3_place 179 = .ok (.iconst 0, 1) := by decide +kernel
theorem dX3_place_180 : decode cX3_place 180 = .ok (.ireturn, 1) := by decide +kernel
set_option maxRecDepth 20000 in
theorem ggX3_schedule_X3_isIn : GoodIn wsX3_schedule wsX3_isIn := goodIn_r _ [11] (by decide +kernel) (by decide +kernel)
set_option maxRecDepth 20000 in
theorem gX3_schedule_X3_isIn : GoodIn wsX3_schedule (va_wsS RX3 51 yX3_isIn wsX3_isIn) := goodIn_app (goodIn_of _ (by decide +kernel)) ggX3_schedule_X3_isIn
set_option maxRecDepth 20000 in
theorem ggX3_schedule_X3_no : GoodIn wsX3_schedule wsX3_no := goodIn_r _ [15, 1, 73, 74, 75, 76, 77, 78, 79, 80, 81, 82, 83, 84, 85, 86, 87, 88] (by decide +kernel) (by decide +kernel)
set_option maxRecDepth 20000 in
theorem gX3_schedule_X3_no : GoodIn wsX3_schedule (wsV RX3 55 RX3 yX3_no wsX3_no) := goodIn_app (goodIn_of _ (by decide +kernel)) ggX3_schedule_X3_no
set_option maxRecDepth 20000 in
theorem ggX3_schedule_X3_byRecurrences : GoodIn wsX3_schedule wsX3_byRecurrences := goodIn_r _ [19, 20, 21, 22, 10, 23, 24, 25, 26, 27, 28, 29, 30, 31, 32, 33, 34, 35, 36, 37, 38, 73, 74, 75, 76, 77, 78, 79, 80, 81, 82, 83, 84, 85, 86, 87, 88] (by decide +kernel) (by decide +kernel)
set_option maxRecDepth 20000 in
theorem gX3_schedule_X3_byRecurrences : GoodIn wsX3_schedule (wsV RX3 83 RX3 yX3_byRecurrences wsX3_byRecurrences) := goodIn_app (goodIn_of _ (by decide +kernel)) ggX3_schedule_X3_byRecurrences
set_option maxRecDepth 20000 in
theorem ggX3_schedule_X3_byResources : GoodIn wsX3_schedule wsX3_byResources := goodIn_r _ [42, 24, 43, 44, 45, 73, 74, 75, 76, 77, 78, 79, 80, 81, 82, 83, 84, 85, 86, 87, 88] (by decide +kernel) (by decide +kernel)
set_option maxRecDepth 20000 in
theorem gX3_schedule_X3_byResources : GoodIn wsX3_schedule (wsV RX3 69 RX3 yX3_byResources wsX3_byResources) := goodIn_app (goodIn_of _ (by decide +kernel)) ggX3_schedule_X3_byResources
set_option maxRecDepth 20000 in
theorem ggX3_schedule_X3_attempt : GoodIn wsX3_schedule wsX3_attempt := goodIn_r _ [49, 24, 50, 20, 21, 22, 10, 23, 25, 26, 27, 28, 29, 30, 31, 32, 33, 34, 35, 36, 37, 38, 51, 52, 53, 54, 55, 56, 57, 58, 59, 60, 4, 5, 6, 7, 61, 62, 63, 64, 65, 66, 67, 68, 69, 70, 71, 44, 43, 72, 45, 73, 74, 75, 76, 77, 78, 79, 80, 81, 82, 83, 84, 85, 86, 87, 88] (by decide +kernel) (by decide +kernel)
set_option maxRecDepth 20000 in
theorem gX3_schedule_X3_attempt : GoodIn wsX3_schedule (wsV RX3 111 RX3 yX3_attempt wsX3_attempt) := goodIn_app (goodIn_of _ (by decide +kernel)) ggX3_schedule_X3_attempt
theorem dX3_schedule_0 : decode cX3_schedule 0 = .ok (.aload_n 0, 1) := by decide +kernel
theorem dX3_schedule_1 : decode cX3_schedule 1 = .ok (.iconst 0, 1) := by decide +kernel
theorem dX3_schedule_2 : decode cX3_schedule 2 = .ok (.putfield 44, 3) := by decide +kernel
theorem dX3_schedule_5 : decode cX3_schedule 5 = .ok (.iload_n 1, 1) := by decide +kernel
theorem dX3_schedule_6 : decode cX3_schedule 6 = .ok (.iconst 1, 1) := by decide +kernel
theorem dX3_schedule_7 : decode cX3_schedule 7 = .ok (.sipush 200, 3) := by decide +kernel
theorem dX3_schedule_10 : decode cX3_schedule 10 = .ok (.invokestatic 51, 3) := by decide +kernel
theorem dX3_schedule_13 : decode cX3_schedule 13 = .ok (.ifCond .ne 9, 3) := by decide +kernel
theorem dX3_schedule_16 : decode cX3_schedule 16 = .ok (.aload_n 0, 1) := by decide +kernel
theorem dX3_schedule_17 : decode cX3_schedule 17 = .ok (.iconst 1, 1) := by decide +kernel
theorem dX3_schedule_18 : decode cX3_schedule 18 = .ok (.invokevirtual 55, 3) := by decide +kernel
theorem dX3_schedule_21 : decode cX3_schedule 21 = .ok (.ireturn, 1) := by decide +kernel
theorem dX3_schedule_22 : decode cX3_schedule 22 = .ok (.aload_n 0, 1) := by decide +kernel
theorem dX3_schedule_23 : decode cX3_schedule 23 = .ok (.iconst 0, 1) := by decide +kernel
theorem dX3_schedule_24 : decode cX3_schedule 24 = .ok (.putfield 108, 3) := by decide +kernel
theorem dX3_schedule_27 : decode cX3_schedule 27 = .ok (.aload_n 0, 1) := by decide +kernel
theorem dX3_schedule_28 : decode cX3_schedule 28 = .ok (.iconst 0, 1) := by decide +kernel
theorem dX3_schedule_29 : decode cX3_schedule 29 = .ok (.putfield 59, 3) := by decide +kernel
theorem dX3_schedule_32 : decode cX3_schedule 32 = .ok (.aload_n 0, 1) := by decide +kernel
theorem dX3_schedule_33 : decode cX3_schedule 33 = .ok (.invokevirtual 83, 3) := by decide +kernel
theorem dX3_schedule_36 : decode cX3_schedule 36 = .ok (.istore_n 2, 1) := by decide +kernel
theorem dX3_schedule_37 : decode cX3_schedule 37 = .ok (.iload_n 2, 1) := by decide +kernel
theorem dX3_schedule_38 : decode cX3_schedule 38 = .ok (.iconst (-1), 1) := by decide +kernel
theorem dX3_schedule_39 : decode cX3_schedule 39 = .ok (.if_icmp .ne 5, 3) := by decide +kernel
theorem dX3_schedule_42 : decode cX3_schedule 42 = .ok (.iconst (-1), 1) := by decide +kernel
theorem dX3_schedule_43 : decode cX3_schedule 43 = .ok (.ireturn, 1) := by decide +kernel
theorem dX3_schedule_44 : decode cX3_schedule 44 = .ok (.iload_n 2, 1) := by decide +kernel
theorem dX3_schedule_45 : decode cX3_schedule 45 = .ok (.aload_n 0, 1) := by decide +kernel
theorem dX3_schedule_46 : decode cX3_schedule 46 = .ok (.invokevirtual 69, 3) := by decide +kernel
theorem dX3_schedule_49 : decode cX3_schedule 49 = .ok (.invokestatic 97, 3) := by decide +kernel
theorem dX3_schedule_52 : decode cX3_schedule 52 = .ok (.istore_n 3, 1) := by decide +kernel
theorem dX3_schedule_53 : decode cX3_schedule 53 = .ok (.iload_n 3, 1) := by decide +kernel
theorem dX3_schedule_54 : decode cX3_schedule 54 = .ok (.iload_n 1, 1) := by decide +kernel
theorem dX3_schedule_55 : decode cX3_schedule 55 = .ok (.if_icmp .gt 37, 3) := by decide +kernel
theorem dX3_schedule_58 : decode cX3_schedule 58 = .ok (.aload_n 0, 1) := by decide +kernel
theorem dX3_schedule_59 : decode cX3_schedule 59 = .ok (.dup, 1) := by decide +kernel
theorem dX3_schedule_60 : decode cX3_schedule 60 = .ok (.getfield 108, 3) := by decide +kernel
theorem dX3_schedule_63 : decode cX3_schedule 63 = .ok (.iconst 1, 1) := by decide +kernel
theorem dX3_schedule_64 : decode cX3_schedule 64 = .ok (.iadd, 1) := by decide +kernel
theorem dX3_schedule_65 : decode cX3_schedule 65 = .ok (.putfield 108, 3) := by decide +kernel
theorem dX3_schedule_68 : decode cX3_schedule 68 = .ok (.aload_n 0, 1) := by decide +kernel
theorem dX3_schedule_69 : decode cX3_schedule 69 = .ok (.iload_n 3, 1) := by decide +kernel
theorem dX3_schedule_70 : decode cX3_schedule 70 = .ok (.invokevirtual 111, 3) := by decide +kernel
theorem dX3_schedule_73 : decode cX3_schedule 73 = .ok (.ifCond .ne 6, 3) := by decide +kernel
theorem dX3_schedule_76 : decode cX3_schedule 76 = .ok (.goto 10, 3) := by decide +kernel
theorem dX3_schedule_79 : decode cX3_schedule 79 = .ok (.aload_n 0, 1) := by decide +kernel
theorem dX3_schedule_80 : decode cX3_schedule 80 = .ok (.iload_n 3, 1) := by decide +kernel
theorem dX3_schedule_81 : decode cX3_schedule 81 = .ok (.putfield 59, 3) := by decide +kernel
theorem dX3_schedule_84 : decode cX3_schedule 84 = .ok (.iload_n 3, 1) := by decide +kernel
theorem dX3_schedule_85 : decode cX3_schedule 85 = .ok (.ireturn, 1) := by decide +kernel
theorem dX3_schedule_86 : decode cX3_schedule 86 = .ok (.iinc 3 1, 3) := by decide +kernel
theorem dX3_schedule_89 : decode cX3_schedule 89 = .ok (.goto (-36), 3) := by decide +kernel
theorem dX3_schedule_92 : decode cX3_schedule 92 = .ok (.iconst (-1), 1) := by decide +kernel
theorem dX3_schedule_93 : decode cX3_schedule 93 = .ok (.ireturn, 1) := by decide +kernel
theorem dX3_attempts_0 : decode cX3_attempts 0 = .ok (.aload_n 0, 1) := by decide +kernel
theorem dX3_attempts_1 : decode cX3_attempts 1 = .ok (.iconst 0, 1) := by decide +kernel
theorem dX3_attempts_2 : decode cX3_attempts 2 = .ok (.putfield 44, 3) := by decide +kernel
theorem dX3_attempts_5 : decode cX3_attempts 5 = .ok (.aload_n 0, 1) := by decide +kernel
theorem dX3_attempts_6 : decode cX3_attempts 6 = .ok (.getfield 108, 3) := by decide +kernel
theorem dX3_attempts_9 : decode cX3_attempts 9 = .ok (.ireturn, 1) := by decide +kernel
theorem dX3_hasSchedule_0 : decode cX3_hasSchedule 0 = .ok (.aload_n 0, 1) := by decide +kernel
theorem dX3_hasSchedule_1 : decode cX3_hasSchedule 1 = .ok (.iconst 0, 1) := by decide +kernel
theorem dX3_hasSchedule_2 : decode cX3_hasSchedule 2 = .ok (.putfield 44, 3) := by decide +kernel
theorem dX3_hasSchedule_5 : decode cX3_hasSchedule 5 = .ok (.aload_n 0, 1) := by decide +kernel
theorem dX3_hasSchedule_6 : decode cX3_hasSchedule 6 = .ok (.getfield 59, 3) := by decide +kernel
theorem dX3_hasSchedule_9 : decode cX3_hasSchedule 9 = .ok (.ifCond .le 7, 3) := by decide +kernel
theorem dX3_hasSchedule_12 : decode cX3_hasSchedule 12 = .ok (.iconst 1, 1) := by decide +kernel
theorem dX3_hasSchedule_13 : decode cX3_hasSchedule 13 = .ok (.goto 4, 3) := by decide +kernel
theorem dX3_hasSchedule_16 : decode cX3_hasSchedule 16 = .ok (.iconst 0, 1) := by decide +kernel
theorem dX3_hasSchedule_17 : decode cX3_hasSchedule 17 = .ok (.ireturn, 1) := by decide +kernel
theorem dX3_has_0 : decode cX3_has 0 = .ok (.aload_n 0, 1) := by decide +kernel
theorem dX3_has_1 : decode cX3_has 1 = .ok (.aload_n 0, 1) := by decide +kernel
theorem dX3_has_2 : decode cX3_has 2 = .ok (.getfield 59, 3) := by decide +kernel
theorem dX3_has_5 : decode cX3_has 5 = .ok (.ifCond .le 7, 3) := by decide +kernel
theorem dX3_has_8 : decode cX3_has 8 = .ok (.iconst 0, 1) := by decide +kernel
theorem dX3_has_9 : decode cX3_has 9 = .ok (.goto 4, 3) := by decide +kernel
theorem dX3_has_12 : decode cX3_has 12 = .ok (.iconst 1, 1) := by decide +kernel
theorem dX3_has_13 : decode cX3_has 13 = .ok (.putfield 44, 3) := by decide +kernel
theorem dX3_has_16 : decode cX3_has 16 = .ok (.aload_n 0, 1) := by decide +kernel
theorem dX3_has_17 : decode cX3_has 17 = .ok (.getfield 44, 3) := by decide +kernel
theorem dX3_has_20 : decode cX3_has 20 = .ok (.ifCond .ne 7, 3) := by decide +kernel
theorem dX3_has_23 : decode cX3_has 23 = .ok (.iconst 1, 1) := by decide +kernel
theorem dX3_has_24 : decode cX3_has 24 = .ok (.goto 4, 3) := by decide +kernel
theorem dX3_has_27 : decode cX3_has 27 = .ok (.iconst 0, 1) := by decide +kernel
theorem dX3_has_28 : decode cX3_has 28 = .ok (.ireturn, 1) := by decide +kernel
set_option maxRecDepth 20000 in
theorem ggX3_asks_X3_isOperation : GoodIn wsX3_asks wsX3_isOperation := goodIn_r _ [7, 8, 9, 10, 6, 11, 12, 13, 14, 15, 16, 17, 18, 19, 20, 21, 22, 23, 24, 25, 26, 27] (by decide +kernel) (by decide +kernel)
set_option maxRecDepth 20000 in
theorem gX3_asks_X3_isOperation : GoodIn wsX3_asks (wsV RX3 62 RX3 yX3_isOperation wsX3_isOperation) := goodIn_app (goodIn_of _ (by decide +kernel)) ggX3_asks_X3_isOperation
theorem dX3_asks_0 : decode cX3_asks 0 = .ok (.aload_n 0, 1) := by decide +kernel
theorem dX3_asks_1 : decode cX3_asks 1 = .ok (.aload_n 0, 1) := by decide +kernel
theorem dX3_asks_2 : decode cX3_asks 2 = .ok (.iload_n 1, 1) := by decide +kernel
theorem dX3_asks_3 : decode cX3_asks 3 = .ok (.invokevirtual 62, 3) := by decide +kernel
theorem dX3_asks_6 : decode cX3_asks 6 = .ok (.ifCond .ne 7, 3) := by decide +kernel
theorem dX3_asks_9 : decode cX3_asks 9 = .ok (.iconst 1, 1) := by decide +kernel
theorem dX3_asks_10 : decode cX3_asks 10 = .ok (.goto 15, 3) := by decide +kernel
theorem dX3_asks_13 : decode cX3_asks 13 = .ok (.aload_n 0, 1) := by decide +kernel
theorem dX3_asks_14 : decode cX3_asks 14 = .ok (.getfield 59, 3) := by decide +kernel
theorem dX3_asks_17 : decode cX3_asks 17 = .ok (.ifCond .ne 7, 3) := by decide +kernel
theorem dX3_asks_20 : decode cX3_asks 20 = .ok (.iconst 2, 1) := by decide +kernel
theorem dX3_asks_21 : decode cX3_asks 21 = .ok (.goto 4, 3) := by decide +kernel
theorem dX3_asks_24 : decode cX3_asks 24 = .ok (.iconst 0, 1) := by decide +kernel
theorem dX3_asks_25 : decode cX3_asks 25 = .ok (.putfield 44, 3) := by decide +kernel
theorem dX3_asks_28 : decode cX3_asks 28 = .ok (.aload_n 0, 1) := by decide +kernel
theorem dX3_asks_29 : decode cX3_asks 29 = .ok (.getfield 44, 3) := by decide +kernel
theorem dX3_asks_32 : decode cX3_asks 32 = .ok (.ifCond .ne 7, 3) := by decide +kernel
theorem dX3_asks_35 : decode cX3_asks 35 = .ok (.iconst 1, 1) := by decide +kernel
theorem dX3_asks_36 : decode cX3_asks 36 = .ok (.goto 4, 3) := by decide +kernel
theorem dX3_asks_39 : decode cX3_asks 39 = .ok (.iconst 0, 1) := by decide +kernel
theorem dX3_asks_40 : decode cX3_asks 40 = .ok (.ireturn, 1) := by decide +kernel
set_option maxRecDepth 20000 in
theorem ggX3_interval_X3_has : GoodIn wsX3_interval wsX3_has := goodIn_r _ [6, 1, 7, 8, 9, 10, 11, 12, 13, 14, 15, 16, 17, 18, 19, 20, 21, 22, 23] (by decide +kernel) (by decide +kernel)
set_option maxRecDepth 20000 in
theorem gX3_interval_X3_has : GoodIn wsX3_interval (wsV RX3 114 RX3 yX3_has wsX3_has) := goodIn_app (goodIn_of _ (by decide +kernel)) ggX3_interval_X3_has
theorem dX3_interval_0 : decode cX3_interval 0 = .ok (.aload_n 0, 1) := by decide +kernel
theorem dX3_interval_1 : decode cX3_interval 1 = .ok (.invokevirtual 114, 3) := by decide +kernel
theorem dX3_interval_4 : decode cX3_interval 4 = .ok (.ifCond .eq 10, 3) := by decide +kernel
theorem dX3_interval_7 : decode cX3_interval 7 = .ok (.aload_n 0, 1) := by decide +kernel
theorem dX3_interval_8 : decode cX3_interval 8 = .ok (.getfield 59, 3) := by decide +kernel
theorem dX3_interval_11 : decode cX3_interval 11 = .ok (.goto 4, 3) := by decide +kernel
theorem dX3_interval_14 : decode cX3_interval 14 = .ok (.iconst 0, 1) := by decide +kernel
theorem dX3_interval_15 : decode cX3_interval 15 = .ok (.ireturn, 1) := by decide +kernel
set_option maxRecDepth 20000 in
theorem ggX3_time_X3_asks : GoodIn wsX3_time wsX3_asks := goodIn_r _ [6, 7, 8, 9, 10, 11, 5, 12, 13, 14, 15, 16, 17, 18, 19, 20, 21, 22, 23, 24, 25, 26, 27, 28, 29, 30, 31, 32] (by decide +kernel) (by decide +kernel)
set_option maxRecDepth 20000 in
theorem gX3_time_X3_asks : GoodIn wsX3_time (wsV RX3 118 RX3 yX3_asks wsX3_asks) := goodIn_app (goodIn_of _ (by decide +kernel)) ggX3_time_X3_asks
theorem dX3_time_0 : decode cX3_time 0 = .ok (.aload_n 0, 1) := by decide +kernel
theorem dX3_time_1 : decode cX3_time 1 = .ok (.iload_n 1, 1) := by decide +kernel
theorem dX3_time_2 : decode cX3_time 2 = .ok (.invokevirtual 118, 3) := by decide +kernel
theorem dX3_time_5 : decode cX3_time 5 = .ok (.ifCond .eq 12, 3) := by decide +kernel
theorem dX3_time_8 : decode cX3_time 8 = .ok (.aload_n 0, 1) := by decide +kernel
theorem dX3_time_9 : decode cX3_time 9 = .ok (.getfield 31, 3) := by decide +kernel
theorem dX3_time_12 : decode cX3_time 12 = .ok (.iload_n 1, 1) := by decide +kernel
theorem dX3_time_13 : decode cX3_time 13 = .ok (.iaload, 1) := by decide +kernel
theorem dX3_time_14 : decode cX3_time 14 = .ok (.goto 4, 3) := by decide +kernel
theorem dX3_time_17 : decode cX3_time 17 = .ok (.iconst 0, 1) := by decide +kernel
theorem dX3_time_18 : decode cX3_time 18 = .ok (.ireturn, 1) := by decide +kernel
set_option maxRecDepth 20000 in
theorem ggX3_isValid_X3_lengthOf : GoodIn wsX3_isValid wsX3_lengthOf := goodIn_r _ [12, 13, 14, 27, 28, 29, 30, 31, 32, 33, 34, 35, 36, 37, 38, 39, 40, 41, 42] (by decide +kernel) (by decide +kernel)
set_option maxRecDepth 20000 in
theorem gX3_isValid_X3_lengthOf : GoodIn wsX3_isValid (wsV RX3 76 RX3 yX3_lengthOf wsX3_lengthOf) := goodIn_app (goodIn_of _ (by decide +kernel)) ggX3_isValid_X3_lengthOf
set_option maxRecDepth 20000 in
theorem ggX3_isValid_X3_fits : GoodIn wsX3_isValid wsX3_fits := goodIn_r _ [18, 6, 19, 20, 21, 11, 22, 23, 7, 24, 2, 25, 26, 27, 28, 29, 30, 31, 32, 33, 34, 35, 36, 37, 38, 39, 40, 41, 42] (by decide +kernel) (by decide +kernel)
set_option maxRecDepth 20000 in
theorem gX3_isValid_X3_fits : GoodIn wsX3_isValid (wsV RX3 105 RX3 yX3_fits wsX3_fits) := goodIn_app (goodIn_of _ (by decide +kernel)) ggX3_isValid_X3_fits
theorem dX3_isValid_0 : decode cX3_isValid 0 = .ok (.iconst 0, 1) := by decide +kernel
theorem dX3_isValid_1 : decode cX3_isValid 1 = .ok (.istore_n 1, 1) := by decide +kernel
theorem dX3_isValid_2 : decode cX3_isValid 2 = .ok (.iload_n 1, 1) := by decide +kernel
theorem dX3_isValid_3 : decode cX3_isValid 3 = .ok (.aload_n 0, 1) := by decide +kernel
theorem dX3_isValid_4 : decode cX3_isValid 4 = .ok (.getfield 66, 3) := by decide +kernel
theorem dX3_isValid_7 : decode cX3_isValid 7 = .ok (.if_icmp .ge 46, 3) := by decide +kernel
theorem dX3_isValid_10 : decode cX3_isValid 10 = .ok (.aload_n 0, 1) := by decide +kernel
theorem dX3_isValid_11 : decode cX3_isValid 11 = .ok (.getfield 31, 3) := by decide +kernel
theorem dX3_isValid_14 : decode cX3_isValid 14 = .ok (.aload_n 0, 1) := by decide +kernel
theorem dX3_isValid_15 : decode cX3_isValid 15 = .ok (.getfield 22, 3) := by decide +kernel
theorem dX3_isValid_18 : decode cX3_isValid 18 = .ok (.iload_n 1, 1) := by decide +kernel
theorem dX3_isValid_19 : decode cX3_isValid 19 = .ok (.iaload, 1) := by decide +kernel
theorem dX3_isValid_20 : decode cX3_isValid 20 = .ok (.iaload, 1) := by decide +kernel
theorem dX3_isValid_21 : decode cX3_isValid 21 = .ok (.aload_n 0, 1) := by decide +kernel
theorem dX3_isValid_22 : decode cX3_isValid 22 = .ok (.getfield 31, 3) := by decide +kernel
theorem dX3_isValid_25 : decode cX3_isValid 25 = .ok (.aload_n 0, 1) := by decide +kernel
theorem dX3_isValid_26 : decode cX3_isValid 26 = .ok (.getfield 19, 3) := by decide +kernel
theorem dX3_isValid_29 : decode cX3_isValid 29 = .ok (.iload_n 1, 1) := by decide +kernel
theorem dX3_isValid_30 : decode cX3_isValid 30 = .ok (.iaload, 1) := by decide +kernel
theorem dX3_isValid_31 : decode cX3_isValid 31 = .ok (.iaload, 1) := by decide +kernel
theorem dX3_isValid_32 : decode cX3_isValid 32 = .ok (.aload_n 0, 1) := by decide +kernel
theorem dX3_isValid_33 : decode cX3_isValid 33 = .ok (.iload_n 1, 1) := by decide +kernel
theorem dX3_isValid_34 : decode cX3_isValid 34 = .ok (.aload_n 0, 1) := by decide +kernel
theorem dX3_isValid_35 : decode cX3_isValid 35 = .ok (.getfield 59, 3) := by decide +kernel
theorem dX3_isValid_38 : decode cX3_isValid 38 = .ok (.invokevirtual 76, 3) := by decide +kernel
theorem dX3_isValid_41 : decode cX3_isValid 41 = .ok (.iadd, 1) := by decide +kernel
theorem dX3_isValid_42 : decode cX3_isValid 42 = .ok (.if_icmp .ge 5, 3) := by decide +kernel
theorem dX3_isValid_45 : decode cX3_isValid 45 = .ok (.iconst 0, 1) := by decide +kernel
theorem dX3_isValid_46 : decode cX3_isValid 46 = .ok (.ireturn, 1) := by decide +kernel
theorem dX3_isValid_47 : decode cX3_isValid 47 = .ok (.iinc 1 1, 3) := by decide +kernel
theorem dX3_isValid_50 : decode cX3_isValid 50 = .ok (.goto (-48), 3) := by decide +kernel
theorem dX3_isValid_53 : decode cX3_isValid 53 = .ok (.iconst 0, 1) := by decide +kernel
theorem dX3_isValid_54 : decode cX3_isValid 54 = .ok (.istore_n 1, 1) := by decide +kernel
theorem dX3_isValid_55 : decode cX3_isValid 55 = .ok (.iload_n 1, 1) := by decide +kernel
theorem dX3_isValid_56 : decode cX3_isValid 56 = .ok (.aload_n 0, 1) := by decide +kernel
theorem dX3_isValid_57 : decode cX3_isValid 57 = .ok (.getfield 48, 3) := by decide +kernel
theorem dX3_isValid_60 : decode cX3_isValid 60 = .ok (.if_icmp .ge 16, 3) := by decide +kernel
theorem dX3_isValid_63 : decode cX3_isValid 63 = .ok (.aload_n 0, 1) := by decide +kernel
theorem dX3_isValid_64 : decode cX3_isValid 64 = .ok (.getfield 37, 3) := by decide +kernel
theorem dX3_isValid_67 : decode cX3_isValid 67 = .ok (.iload_n 1, 1) := by decide +kernel
theorem dX3_isValid_68 : decode cX3_isValid 68 = .ok (.iconst 1, 1) := by decide +kernel
theorem dX3_isValid_69 : decode cX3_isValid 69 = .ok (.bastore, 1) := by decide +kernel
theorem dX3_isValid_70 : decode cX3_isValid 70 = .ok (.iinc 1 1, 3) := by decide +kernel
theorem dX3_isValid_73 : decode cX3_isValid 73 = .ok (.goto (-18), 3) := by decide +kernel
theorem dX3_isValid_76 : decode cX3_isValid 76 = .ok (.aload_n 0, 1) := by decide +kernel
theorem dX3_isValid_77 : decode cX3_isValid 77 = .ok (.aload_n 0, 1) := by decide +kernel
theorem dX3_isValid_78 : decode cX3_isValid 78 = .ok (.getfield 59, 3) := by decide +kernel
theorem dX3_isValid_81 : decode cX3_isValid 81 = .ok (.invokevirtual 105, 3) := by decide +kernel
theorem dX3_isValid_84 : decode cX3_isValid 84 = .ok (.ireturn, 1) := by decide +kernel
set_option maxRecDepth 20000 in
theorem ggX3_isValidWith_X3_isValid : GoodIn wsX3_isValidWith wsX3_isValid := goodIn_r _ [6, 7, 1, 8, 9, 10, 11, 12, 13, 14, 15, 5, 16, 17, 18, 19, 20, 21, 22, 23, 24, 25, 26, 27, 28, 29, 30, 31, 32, 33, 34, 35, 36, 37, 38, 39, 40, 41, 42, 43, 44, 45, 46] (by decide +kernel) (by decide +kernel)
set_option maxRecDepth 20000 in
theorem gX3_isValidWith_X3_isValid : GoodIn wsX3_isValidWith (wsV RX3 121 RX3 yX3_isValid wsX3_isValid) := goodIn_app (goodIn_of _ (by decide +kernel)) ggX3_isValidWith_X3_isValid
theorem dX3_isValidWith_0 : decode cX3_isValidWith 0 = .ok (.aload_n 0, 1) := by decide +kernel
theorem dX3_isValidWith_1 : decode cX3_isValidWith 1 = .ok (.getfield 31, 3) := by decide +kernel
theorem dX3_isValidWith_4 : decode cX3_isValidWith 4 = .ok (.iload_n 1, 1) := by decide +kernel
theorem dX3_isValidWith_5 : decode cX3_isValidWith 5 = .ok (.iaload, 1) := by decide +kernel
theorem dX3_isValidWith_6 : decode cX3_isValidWith 6 = .ok (.istore_n 3, 1) := by decide +kernel
theorem dX3_isValidWith_7 : decode cX3_isValidWith 7 = .ok (.aload_n 0, 1) := by decide +kernel
theorem dX3_isValidWith_8 : decode cX3_isValidWith 8 = .ok (.getfield 31, 3) := by decide +kernel
theorem dX3_isValidWith_11 : decode cX3_isValidWith 11 = .ok (.iload_n 1, 1) := by decide +kernel
theorem dX3_isValidWith_12 : decode cX3_isValidWith 12 = .ok (.iload_n 2, 1) := by decide +kernel
theorem dX3_isValidWith_13 : decode cX3_isValidWith 13 = .ok (.iastore, 1) := by decide +kernel
theorem dX3_isValidWith_14 : decode cX3_isValidWith 14 = .ok (.aload_n 0, 1) := by decide +kernel
theorem dX3_isValidWith_15 : decode cX3_isValidWith 15 = .ok (.invokevirtual 121, 3) := by decide +kernel
theorem dX3_isValidWith_18 : decode cX3_isValidWith 18 = .ok (.istore 4, 2) := by decide +kernel
theorem dX3_isValidWith_20 : decode cX3_isValidWith 20 = .ok (.aload_n 0, 1) := by decide +kernel
theorem dX3_isValidWith_21 : decode cX3_isValidWith 21 = .ok (.getfield 31, 3) := by decide +kernel
theorem dX3_isValidWith_24 : decode cX3_isValidWith 24 = .ok (.iload_n 1, 1) := by decide +kernel
theorem dX3_isValidWith_25 : decode cX3_isValidWith 25 = .ok (.iload_n 3, 1) := by decide +kernel
theorem dX3_isValidWith_26 : decode cX3_isValidWith 26 = .ok (.iastore, 1) := by decide +kernel
theorem dX3_isValidWith_27 : decode cX3_isValidWith 27 = .ok (.iload 4, 2) := by decide +kernel
theorem dX3_isValidWith_29 : decode cX3_isValidWith 29 = .ok (.ireturn, 1) := by decide +kernel
set_option maxRecDepth 20000 in
theorem ggX3_move_X3_isOperation : GoodIn wsX3_move wsX3_isOperation := goodIn_r _ [8, 9, 10, 11, 7, 12, 43, 44, 45, 46, 47, 48, 49, 50, 51, 52, 53, 54, 55, 56, 57, 58] (by decide +kernel) (by decide +kernel)
set_option maxRecDepth 20000 in
theorem gX3_move_X3_isOperation : GoodIn wsX3_move (wsV RX3 62 RX3 yX3_isOperation wsX3_isOperation) := goodIn_app (goodIn_of _ (by decide +kernel)) ggX3_move_X3_isOperation
set_option maxRecDepth 20000 in
theorem ggX3_move_X3_isIn : GoodIn wsX3_move wsX3_isIn := goodIn_r _ [12] (by decide +kernel) (by decide +kernel)
set_option maxRecDepth 20000 in
theorem gX3_move_X3_isIn : GoodIn wsX3_move (va_wsS RX3 51 yX3_isIn wsX3_isIn) := goodIn_app (goodIn_of _ (by decide +kernel)) ggX3_move_X3_isIn
set_option maxRecDepth 20000 in
theorem ggX3_move_X3_isValidWith : GoodIn wsX3_move wsX3_isValidWith := goodIn_r _ [16, 3, 17, 18, 19, 7, 20, 21, 22, 23, 1, 9, 24, 25, 26, 27, 28, 29, 30, 31, 32, 33, 34, 35, 36, 37, 38, 39, 40, 41, 42, 43, 44, 45, 46, 47, 48, 49, 50, 51, 52, 53, 54, 55, 56, 57, 58] (by decide +kernel) (by decide +kernel)
set_option maxRecDepth 20000 in
theorem gX3_move_X3_isValidWith : GoodIn wsX3_move (wsV RX3 124 RX3 yX3_isValidWith wsX3_isValidWith) := goodIn_app (goodIn_of _ (by decide +kernel)) ggX3_move_X3_isValidWith
theorem dX3_move_0 : decode cX3_move 0 = .ok (.aload_n 0, 1) := by decide +kernel
theorem dX3_move_1 : decode cX3_move 1 = .ok (.aload_n 0, 1) := by decide +kernel
theorem dX3_move_2 : decode cX3_move 2 = .ok (.iload_n 1, 1) := by decide +kernel
theorem dX3_move_3 : decode cX3_move 3 = .ok (.invokevirtual 62, 3) := by decide +kernel
theorem dX3_move_6 : decode cX3_move 6 = .ok (.ifCond .ne 7, 3) := by decide +kernel
theorem dX3_move_9 : decode cX3_move 9 = .ok (.iconst 1, 1) := by decide +kernel
theorem dX3_move_10 : decode cX3_move 10 = .ok (.goto 30, 3) := by decide +kernel
theorem dX3_move_13 : decode cX3_move 13 = .ok (.iload_n 2, 1) := by decide +kernel
theorem dX3_move_14 : decode cX3_move 14 = .ok (.iconst 0, 1) := by decide +kernel
theorem dX3_move_15 : decode cX3_move 15 = .ok (.sipush 1000, 3) := by decide +kernel
theorem dX3_move_18 : decode cX3_move 18 = .ok (.invokestatic 51, 3) := by decide +kernel
theorem dX3_move_21 : decode cX3_move 21 = .ok (.ifCond .ne 7, 3) := by decide +kernel
theorem dX3_move_24 : decode cX3_move 24 = .ok (.iconst 2, 1) := by decide +kernel
theorem dX3_move_25 : decode cX3_move 25 = .ok (.goto 15, 3) := by decide +kernel
theorem dX3_move_28 : decode cX3_move 28 = .ok (.aload_n 0, 1) := by decide +kernel
theorem dX3_move_29 : decode cX3_move 29 = .ok (.getfield 59, 3) := by decide +kernel
theorem dX3_move_32 : decode cX3_move 32 = .ok (.ifCond .ne 7, 3) := by decide +kernel
theorem dX3_move_35 : decode cX3_move 35 = .ok (.iconst 3, 1) := by decide +kernel
theorem dX3_move_36 : decode cX3_move 36 = .ok (.goto 4, 3) := by decide +kernel
theorem dX3_move_39 : decode cX3_move 39 = .ok (.iconst 0, 1) := by decide +kernel
theorem dX3_move_40 : decode cX3_move 40 = .ok (.putfield 44, 3) := by decide +kernel
theorem dX3_move_43 : decode cX3_move 43 = .ok (.aload_n 0, 1) := by decide +kernel
theorem dX3_move_44 : decode cX3_move 44 = .ok (.getfield 44, 3) := by decide +kernel
theorem dX3_move_47 : decode cX3_move 47 = .ok (.ifCond .le 5, 3) := by decide +kernel
theorem dX3_move_50 : decode cX3_move 50 = .ok (.iconst 0, 1) := by decide +kernel
theorem dX3_move_51 : decode cX3_move 51 = .ok (.ireturn, 1) := by decide +kernel
theorem dX3_move_52 : decode cX3_move 52 = .ok (.aload_n 0, 1) := by decide +kernel
theorem dX3_move_53 : decode cX3_move 53 = .ok (.iload_n 1, 1) := by decide +kernel
theorem dX3_move_54 : decode cX3_move 54 = .ok (.iload_n 2, 1) := by decide +kernel
theorem dX3_move_55 : decode cX3_move 55 = .ok (.invokevirtual 124, 3) := by decide +kernel
theorem dX3_move_58 : decode cX3_move 58 = .ok (.istore_n 3, 1) := by decide +kernel
theorem dX3_move_59 : decode cX3_move 59 = .ok (.iload_n 3, 1) := by decide +kernel
theorem dX3_move_60 : decode cX3_move 60 = .ok (.ifCond .eq 10, 3) := by decide +kernel
theorem dX3_move_63 : decode cX3_move 63 = .ok (.aload_n 0, 1) := by decide +kernel
theorem dX3_move_64 : decode cX3_move 64 = .ok (.getfield 31, 3) := by decide +kernel
theorem dX3_move_67 : decode cX3_move 67 = .ok (.iload_n 1, 1) := by decide +kernel
theorem dX3_move_68 : decode cX3_move 68 = .ok (.iload_n 2, 1) := by decide +kernel
theorem dX3_move_69 : decode cX3_move 69 = .ok (.iastore, 1) := by decide +kernel
theorem dX3_move_70 : decode cX3_move 70 = .ok (.iload_n 3, 1) := by decide +kernel
theorem dX3_move_71 : decode cX3_move 71 = .ok (.ireturn, 1) := by decide +kernel
set_option maxRecDepth 20000 in
theorem ggX3_freedom_X3_asks : GoodIn wsX3_freedom wsX3_asks := goodIn_r _ [5, 6, 7, 8, 9, 10, 4, 11, 12, 13, 14, 15, 47, 48, 49, 50, 51, 52, 53, 54, 55, 56, 57, 58, 59, 60, 61, 62] (by decide +kernel) (by decide +kernel)
set_option maxRecDepth 20000 in
theorem gX3_freedom_X3_asks : GoodIn wsX3_freedom (wsV RX3 118 RX3 yX3_asks wsX3_asks) := goodIn_app (goodIn_of _ (by decide +kernel)) ggX3_freedom_X3_asks
set_option maxRecDepth 20000 in
theorem ggX3_freedom_X3_isValidWith : GoodIn wsX3_freedom wsX3_isValidWith := goodIn_r _ [19, 20, 21, 22, 23, 4, 24, 25, 26, 27, 6, 12, 28, 29, 30, 31, 32, 33, 34, 35, 36, 37, 38, 39, 40, 41, 42, 43, 44, 45, 46, 47, 48, 49, 50, 51, 52, 53, 54, 55, 56, 57, 58, 59, 60, 61, 62] (by decide +kernel) (by decide +kernel)
set_option maxRecDepth 20000 in
theorem gX3_freedom_X3_isValidWith : GoodIn wsX3_freedom (wsV RX3 124 RX3 yX3_isValidWith wsX3_isValidWith) := goodIn_app (goodIn_of _ (by decide +kernel)) ggX3_freedom_X3_isValidWith
theorem dX3_freedom_0 : decode cX3_freedom 0 = .ok (.aload_n 0, 1) := by decide +kernel
theorem dX3_freedom_1 : decode cX3_freedom 1 = .ok (.iload_n 1, 1) := by decide +kernel
theorem dX3_freedom_2 : decode cX3_freedom 2 = .ok (.invokevirtual 118, 3) := by decide +kernel
theorem dX3_freedom_5 : decode cX3_freedom 5 = .ok (.ifCond .ne 5, 3) := by decide +kernel
theorem dX3_freedom_8 : decode cX3_freedom 8 = .ok (.iconst 0, 1) := by decide +kernel
theorem dX3_freedom_9 : decode cX3_freedom 9 = .ok (.ireturn, 1) := by decide +kernel
theorem dX3_freedom_10 : decode cX3_freedom 10 = .ok (.iconst 0, 1) := by decide +kernel
theorem dX3_freedom_11 : decode cX3_freedom 11 = .ok (.istore_n 2, 1) := by decide +kernel
theorem dX3_freedom_12 : decode cX3_freedom 12 = .ok (.iconst 0, 1) := by decide +kernel
theorem dX3_freedom_13 : decode cX3_freedom 13 = .ok (.istore_n 3, 1) := by decide +kernel
theorem dX3_freedom_14 : decode cX3_freedom 14 = .ok (.iload_n 3, 1) := by decide +kernel
theorem dX3_freedom_15 : decode cX3_freedom 15 = .ok (.sipush 1000, 3) := by decide +kernel
theorem dX3_freedom_18 : decode cX3_freedom 18 = .ok (.if_icmp .gt 26, 3) := by decide +kernel
theorem dX3_freedom_21 : decode cX3_freedom 21 = .ok (.iload_n 2, 1) := by decide +kernel
theorem dX3_freedom_22 : decode cX3_freedom 22 = .ok (.aload_n 0, 1) := by decide +kernel
theorem dX3_freedom_23 : decode cX3_freedom 23 = .ok (.iload_n 1, 1) := by decide +kernel
theorem dX3_freedom_24 : decode cX3_freedom 24 = .ok (.iload_n 3, 1) := by decide +kernel
theorem dX3_freedom_25 : decode cX3_freedom 25 = .ok (.invokevirtual 124, 3) := by decide +kernel
theorem dX3_freedom_28 : decode cX3_freedom 28 = .ok (.ifCond .eq 7, 3) := by decide +kernel
theorem dX3_freedom_31 : decode cX3_freedom 31 = .ok (.iconst 1, 1) := by decide +kernel
theorem dX3_freedom_32 : decode cX3_freedom 32 = .ok (.goto 4, 3) := by decide +kernel
theorem dX3_freedom_35 : decode cX3_freedom 35 = .ok (.iconst 0, 1) := by decide +kernel
theorem dX3_freedom_36 : decode cX3_freedom 36 = .ok (.iadd, 1) := by decide +kernel
theorem dX3_freedom_37 : decode cX3_freedom 37 = .ok (.istore_n 2, 1) := by decide +kernel
theorem dX3_freedom_38 : decode cX3_freedom 38 = .ok (.iinc 3 1, 3) := by decide +kernel
theorem dX3_freedom_41 : decode cX3_freedom 41 = .ok (.goto (-27), 3) := by decide +kernel
theorem dX3_freedom_44 : decode cX3_freedom 44 = .ok (.iload_n 2, 1) := by decide +kernel
theorem dX3_freedom_45 : decode cX3_freedom 45 = .ok (.ireturn, 1) := by decide +kernel
theorem dX3_latest_0 : decode cX3_latest 0 = .ok (.iconst 0, 1) := by decide +kernel
theorem dX3_latest_1 : decode cX3_latest 1 = .ok (.istore_n 1, 1) := by decide +kernel
theorem dX3_latest_2 : decode cX3_latest 2 = .ok (.iconst 0, 1) := by decide +kernel
theorem dX3_latest_3 : decode cX3_latest 3 = .ok (.istore_n 2, 1) := by decide +kernel
theorem dX3_latest_4 : decode cX3_latest 4 = .ok (.iload_n 2, 1) := by decide +kernel
theorem dX3_latest_5 : decode cX3_latest 5 = .ok (.aload_n 0, 1) := by decide +kernel
theorem dX3_latest_6 : decode cX3_latest 6 = .ok (.getfield 48, 3) := by decide +kernel
theorem dX3_latest_9 : decode cX3_latest 9 = .ok (.if_icmp .ge 20, 3) := by decide +kernel
theorem dX3_latest_12 : decode cX3_latest 12 = .ok (.iload_n 1, 1) := by decide +kernel
theorem dX3_latest_13 : decode cX3_latest 13 = .ok (.aload_n 0, 1) := by decide +kernel
theorem dX3_latest_14 : decode cX3_latest 14 = .ok (.getfield 31, 3) := by decide +kernel
theorem dX3_latest_17 : decode cX3_latest 17 = .ok (.iload_n 2, 1) := by decide +kernel
theorem dX3_latest_18 : decode cX3_latest 18 = .ok (.iaload, 1) := by decide +kernel
theorem dX3_latest_19 : decode cX3_latest 19 = .ok (.invokestatic 97, 3) := by decide +kernel
theorem dX3_latest_22 : decode cX3_latest 22 = .ok (.istore_n 1, 1) := by decide +kernel
theorem dX3_latest_23 : decode cX3_latest 23 = .ok (.iinc 2 1, 3) := by decide +kernel
theorem dX3_latest_26 : decode cX3_latest 26 = .ok (.goto (-22), 3) := by decide +kernel
theorem dX3_latest_29 : decode cX3_latest 29 = .ok (.iload_n 1, 1) := by decide +kernel
theorem dX3_latest_30 : decode cX3_latest 30 = .ok (.ireturn, 1) := by decide +kernel
set_option maxRecDepth 20000 in
theorem ggX3_stageCount_X3_latest : GoodIn wsX3_stageCount wsX3_latest := goodIn_r _ [7, 1, 8, 9, 10, 11, 12, 13, 14, 15, 16, 17, 18, 19, 20, 21, 22, 23, 24, 25, 26, 27, 28] (by decide +kernel) (by decide +kernel)
set_option maxRecDepth 20000 in
theorem gX3_stageCount_X3_latest : GoodIn wsX3_stageCount (wsV RX3 127 RX3 yX3_latest wsX3_latest) := goodIn_app (goodIn_of _ (by decide +kernel)) ggX3_stageCount_X3_latest
theorem dX3_stageCount_0 : decode cX3_stageCount 0 = .ok (.aload_n 0, 1) := by decide +kernel
theorem dX3_stageCount_1 : decode cX3_stageCount 1 = .ok (.getfield 48, 3) := by decide +kernel
theorem dX3_stageCount_4 : decode cX3_stageCount 4 = .ok (.ifCond .ne 7, 3) := by decide +kernel
theorem dX3_stageCount_7 : decode cX3_stageCount 7 = .ok (.iconst 0, 1) := by decide +kernel
theorem dX3_stageCount_8 : decode cX3_stageCount 8 = .ok (.goto 14, 3) := by decide +kernel
theorem dX3_stageCount_11 : decode cX3_stageCount 11 = .ok (.aload_n 0, 1) := by decide +kernel
theorem dX3_stageCount_12 : decode cX3_stageCount 12 = .ok (.invokevirtual 127, 3) := by decide +kernel
theorem dX3_stageCount_15 : decode cX3_stageCount 15 = .ok (.aload_n 0, 1) := by decide +kernel
theorem dX3_stageCount_16 : decode cX3_stageCount 16 = .ok (.getfield 59, 3) := by decide +kernel
theorem dX3_stageCount_19 : decode cX3_stageCount 19 = .ok (.idiv, 1) := by decide +kernel
theorem dX3_stageCount_20 : decode cX3_stageCount 20 = .ok (.iconst 1, 1) := by decide +kernel
theorem dX3_stageCount_21 : decode cX3_stageCount 21 = .ok (.iadd, 1) := by decide +kernel
theorem dX3_stageCount_22 : decode cX3_stageCount 22 = .ok (.ireturn, 1) := by decide +kernel
set_option maxRecDepth 20000 in
theorem ggX3_stages_X3_has : GoodIn wsX3_stages wsX3_has := goodIn_r _ [5, 6, 7, 22, 23, 24, 25, 26, 27, 28, 29, 30, 31, 32, 33, 34, 35, 36, 37] (by decide +kernel) (by decide +kernel)
set_option maxRecDepth 20000 in
theorem gX3_stages_X3_has : GoodIn wsX3_stages (wsV RX3 114 RX3 yX3_has wsX3_has) := goodIn_app (goodIn_of _ (by decide +kernel)) ggX3_stages_X3_has
set_option maxRecDepth 20000 in
theorem ggX3_stages_X3_stageCount : GoodIn wsX3_stages wsX3_stageCount := goodIn_r _ [11, 12, 6, 13, 14, 15, 4, 16, 17, 18, 19, 20, 21, 22, 23, 24, 25, 26, 27, 28, 29, 30, 31, 32, 33, 34, 35, 36, 37] (by decide +kernel) (by decide +kernel)
set_option maxRecDepth 20000 in
theorem gX3_stages_X3_stageCount : GoodIn wsX3_stages (wsV RX3 130 RX3 yX3_stageCount wsX3_stageCount) := goodIn_app (goodIn_of _ (by decide +kernel)) ggX3_stages_X3_stageCount
theorem dX3_stages_0 : decode cX3_stages 0 = .ok (.aload_n 0, 1) := by decide +kernel
theorem dX3_stages_1 : decode cX3_stages 1 = .ok (.invokevirtual 114, 3) := by decide +kernel
theorem dX3_stages_4 : decode cX3_stages 4 = .ok (.ifCond .eq 10, 3) := by decide +kernel
theorem dX3_stages_7 : decode cX3_stages 7 = .ok (.aload_n 0, 1) := by decide +kernel
theorem dX3_stages_8 : decode cX3_stages 8 = .ok (.invokevirtual 130, 3) := by decide +kernel
theorem dX3_stages_11 : decode cX3_stages 11 = .ok (.goto 4, 3) := by decide +kernel
theorem dX3_stages_14 : decode cX3_stages 14 = .ok (.iconst 0, 1) := by decide +kernel
theorem dX3_stages_15 : decode cX3_stages 15 = .ok (.ireturn, 1) := by decide +kernel
set_option maxRecDepth 20000 in
theorem ggX3_taken_X3_isIn : GoodIn wsX3_taken wsX3_isIn := goodIn_r _ [8] (by decide +kernel) (by decide +kernel)
set_option maxRecDepth 20000 in
theorem gX3_taken_X3_isIn : GoodIn wsX3_taken (va_wsS RX3 51 yX3_isIn wsX3_isIn) := goodIn_app (goodIn_of _ (by decide +kernel)) ggX3_taken_X3_isIn
set_option maxRecDepth 20000 in
theorem ggX3_taken_X3_takenIn : GoodIn wsX3_taken wsX3_takenIn := goodIn_r _ [12, 3, 13, 4, 14, 15, 16, 17, 18, 19, 20, 21, 22, 23, 24, 25, 26, 27, 28, 29, 30, 31] (by decide +kernel) (by decide +kernel)
set_option maxRecDepth 20000 in
theorem gX3_taken_X3_takenIn : GoodIn wsX3_taken (wsV RX3 133 RX3 yX3_takenIn wsX3_takenIn) := goodIn_app (goodIn_of _ (by decide +kernel)) ggX3_taken_X3_takenIn
theorem dX3_taken_0 : decode cX3_taken 0 = .ok (.aload_n 0, 1) := by decide +kernel
theorem dX3_taken_1 : decode cX3_taken 1 = .ok (.iload_n 2, 1) := by decide +kernel
theorem dX3_taken_2 : decode cX3_taken 2 = .ok (.iconst 0, 1) := by decide +kernel
theorem dX3_taken_3 : decode cX3_taken 3 = .ok (.iconst 2, 1) := by decide +kernel
theorem dX3_taken_4 : decode cX3_taken 4 = .ok (.invokestatic 51, 3) := by decide +kernel
theorem dX3_taken_7 : decode cX3_taken 7 = .ok (.ifCond .ne 7, 3) := by decide +kernel
theorem dX3_taken_10 : decode cX3_taken 10 = .ok (.iconst 1, 1) := by decide +kernel
theorem dX3_taken_11 : decode cX3_taken 11 = .ok (.goto 33, 3) := by decide +kernel
theorem dX3_taken_14 : decode cX3_taken 14 = .ok (.aload_n 0, 1) := by decide +kernel
theorem dX3_taken_15 : decode cX3_taken 15 = .ok (.getfield 59, 3) := by decide +kernel
theorem dX3_taken_18 : decode cX3_taken 18 = .ok (.ifCond .ne 7, 3) := by decide +kernel
theorem dX3_taken_21 : decode cX3_taken 21 = .ok (.iconst 2, 1) := by decide +kernel
theorem dX3_taken_22 : decode cX3_taken 22 = .ok (.goto 22, 3) := by decide +kernel
theorem dX3_taken_25 : decode cX3_taken 25 = .ok (.iload_n 1, 1) := by decide +kernel
theorem dX3_taken_26 : decode cX3_taken 26 = .ok (.iconst 0, 1) := by decide +kernel
theorem dX3_taken_27 : decode cX3_taken 27 = .ok (.aload_n 0, 1) := by decide +kernel
theorem dX3_taken_28 : decode cX3_taken 28 = .ok (.getfield 59, 3) := by decide +kernel
theorem dX3_taken_31 : decode cX3_taken 31 = .ok (.iconst 1, 1) := by decide +kernel
theorem dX3_taken_32 : decode cX3_taken 32 = .ok (.isub, 1) := by decide +kernel
theorem dX3_taken_33 : decode cX3_taken 33 = .ok (.invokestatic 51, 3) := by decide +kernel
theorem dX3_taken_36 : decode cX3_taken 36 = .ok (.ifCond .ne 7, 3) := by decide +kernel
theorem dX3_taken_39 : decode cX3_taken 39 = .ok (.iconst 3, 1) := by decide +kernel
theorem dX3_taken_40 : decode cX3_taken 40 = .ok (.goto 4, 3) := by decide +kernel
theorem dX3_taken_43 : decode cX3_taken 43 = .ok (.iconst 0, 1) := by decide +kernel
theorem dX3_taken_44 : decode cX3_taken 44 = .ok (.putfield 44, 3) := by decide +kernel
theorem dX3_taken_47 : decode cX3_taken 47 = .ok (.aload_n 0, 1) := by decide +kernel
theorem dX3_taken_48 : decode cX3_taken 48 = .ok (.getfield 44, 3) := by decide +kernel
theorem dX3_taken_51 : decode cX3_taken 51 = .ok (.ifCond .le 5, 3) := by decide +kernel
theorem dX3_taken_54 : decode cX3_taken 54 = .ok (.iconst 0, 1) := by decide +kernel
theorem dX3_taken_55 : decode cX3_taken 55 = .ok (.ireturn, 1) := by decide +kernel
theorem dX3_taken_56 : decode cX3_taken 56 = .ok (.iconst 0, 1) := by decide +kernel
theorem dX3_taken_57 : decode cX3_taken 57 = .ok (.istore_n 3, 1) := by decide +kernel
theorem dX3_taken_58 : decode cX3_taken 58 = .ok (.iload_n 3, 1) := by decide +kernel
theorem dX3_taken_59 : decode cX3_taken 59 = .ok (.aload_n 0, 1) := by decide +kernel
theorem dX3_taken_60 : decode cX3_taken 60 = .ok (.getfield 48, 3) := by decide +kernel
theorem dX3_taken_63 : decode cX3_taken 63 = .ok (.if_icmp .ge 16, 3) := by decide +kernel
theorem dX3_taken_66 : decode cX3_taken 66 = .ok (.aload_n 0, 1) := by decide +kernel
theorem dX3_taken_67 : decode cX3_taken 67 = .ok (.getfield 37, 3) := by decide +kernel
theorem dX3_taken_70 : decode cX3_taken 70 = .ok (.iload_n 3, 1) := by decide +kernel
theorem dX3_taken_71 : decode cX3_taken 71 = .ok (.iconst 1, 1) := by decide +kernel
theorem dX3_taken_72 : decode cX3_taken 72 = .ok (.bastore, 1) := by decide +kernel
theorem dX3_taken_73 : decode cX3_taken 73 = .ok (.iinc 3 1, 3) := by decide +kernel
theorem dX3_taken_76 : decode cX3_taken 76 = .ok (.goto (-18), 3) := by decide +kernel
theorem dX3_taken_79 : decode cX3_taken 79 = .ok (.aload_n 0, 1) := by decide +kernel
theorem dX3_taken_80 : decode cX3_taken 80 = .ok (.iload_n 1, 1) := by decide +kernel
theorem dX3_taken_81 : decode cX3_taken 81 = .ok (.iload_n 2, 1) := by decide +kernel
theorem dX3_taken_82 : decode cX3_taken 82 = .ok (.aload_n 0, 1) := by decide +kernel
theorem dX3_taken_83 : decode cX3_taken 83 = .ok (.getfield 59, 3) := by decide +kernel
theorem dX3_taken_86 : decode cX3_taken 86 = .ok (.invokevirtual 133, 3) := by decide +kernel
theorem dX3_taken_89 : decode cX3_taken 89 = .ok (.ireturn, 1) := by decide +kernel
theorem dX3_lifeOf_0 : decode cX3_lifeOf 0 = .ok (.aload_n 0, 1) := by decide +kernel
theorem dX3_lifeOf_1 : decode cX3_lifeOf 1 = .ok (.getfield 31, 3) := by decide +kernel
theorem dX3_lifeOf_4 : decode cX3_lifeOf 4 = .ok (.iload_n 1, 1) := by decide +kernel
theorem dX3_lifeOf_5 : decode cX3_lifeOf 5 = .ok (.iaload, 1) := by decide +kernel
theorem dX3_lifeOf_6 : decode cX3_lifeOf 6 = .ok (.istore_n 2, 1) := by decide +kernel
theorem dX3_lifeOf_7 : decode cX3_lifeOf 7 = .ok (.iconst 0, 1) := by decide +kernel
theorem dX3_lifeOf_8 : decode cX3_lifeOf 8 = .ok (.istore_n 3, 1) := by decide +kernel
theorem dX3_lifeOf_9 : decode cX3_lifeOf 9 = .ok (.iload_n 3, 1) := by decide +kernel
theorem dX3_lifeOf_10 : decode cX3_lifeOf 10 = .ok (.aload_n 0, 1) := by decide +kernel
theorem dX3_lifeOf_11 : decode cX3_lifeOf 11 = .ok (.getfield 66, 3) := by decide +kernel
theorem dX3_lifeOf_14 : decode cX3_lifeOf 14 = .ok (.if_icmp .ge 47, 3) := by decide +kernel
theorem dX3_lifeOf_17 : decode cX3_lifeOf 17 = .ok (.aload_n 0, 1) := by decide +kernel
theorem dX3_lifeOf_18 : decode cX3_lifeOf 18 = .ok (.getfield 19, 3) := by decide +kernel
theorem dX3_lifeOf_21 : decode cX3_lifeOf 21 = .ok (.iload_n 3, 1) := by decide +kernel
theorem dX3_lifeOf_22 : decode cX3_lifeOf 22 = .ok (.iaload, 1) := by decide +kernel
theorem dX3_lifeOf_23 : decode cX3_lifeOf 23 = .ok (.iload_n 1, 1) := by decide +kernel
theorem dX3_lifeOf_24 : decode cX3_lifeOf 24 = .ok (.if_icmp .ne 31, 3) := by decide +kernel
theorem dX3_lifeOf_27 : decode cX3_lifeOf 27 = .ok (.iload_n 2, 1) := by decide +kernel
theorem dX3_lifeOf_28 : decode cX3_lifeOf 28 = .ok (.aload_n 0, 1) := by decide +kernel
theorem dX3_lifeOf_29 : decode cX3_lifeOf 29 = .ok (.getfield 31, 3) := by decide +kernel
theorem dX3_lifeOf_32 : decode cX3_lifeOf 32 = .ok (.aload_n 0, 1) := by decide +kernel
theorem dX3_lifeOf_33 : decode cX3_lifeOf 33 = .ok (.getfield 22, 3) := by decide +kernel
theorem dX3_lifeOf_36 : decode cX3_lifeOf 36 = .ok (.iload_n 3, 1) := by decide +kernel
theorem dX3_lifeOf_37 : decode cX3_lifeOf 37 = .ok (.iaload, 1) := by decide +kernel
theorem dX3_lifeOf_38 : decode cX3_lifeOf 38 = .ok (.iaload, 1) := by decide +kernel
theorem dX3_lifeOf_39 : decode cX3_lifeOf 39 = .ok (.aload_n 0, 1) := by decide +kernel
theorem dX3_lifeOf_40 : decode cX3_lifeOf 40 = .ok (.getfield 59, 3) := by decide +kernel
theorem dX3_lifeOf_43 : decode cX3_lifeOf 43 = .ok (.aload_n 0, 1) := by decide +kernel
theorem dX3_lifeOf_44 : decode cX3_lifeOf 44 = .ok (.getfield 28, 3) := by decide +kernel
theorem dX3_lifeOf_47 : decode cX3_lifeOf 47 = .ok (.iload_n 3, 1) := by decide +kernel
theorem dX3_lifeOf_48 : decode cX3_lifeOf 48 = .ok (.iaload, 1) := by decide +kernel
theorem dX3_lifeOf_49 : decode cX3_lifeOf 49 = .ok (.imul, 1) := by decide +kernel
theorem dX3_lifeOf_50 : decode cX3_lifeOf 50 = .ok (.iadd, 1) := by decide +kernel
theorem dX3_lifeOf_51 : decode cX3_lifeOf 51 = .ok (.invokestatic 97, 3) := by decide +kernel
theorem dX3_lifeOf_54 : decode cX3_lifeOf 54 = .ok (.istore_n 2, 1) := by decide +kernel
theorem dX3_lifeOf_55 : decode cX3_lifeOf 55 = .ok (.iinc 3 1, 3) := by decide +kernel
theorem dX3_lifeOf_58 : decode cX3_lifeOf 58 = .ok (.goto (-49), 3) := by decide +kernel
theorem dX3_lifeOf_61 : decode cX3_lifeOf 61 = .ok (.iload_n 2, 1) := by decide +kernel
theorem dX3_lifeOf_62 : decode cX3_lifeOf 62 = .ok (.aload_n 0, 1) := by decide +kernel
theorem dX3_lifeOf_63 : decode cX3_lifeOf 63 = .ok (.getfield 31, 3) := by decide +kernel
theorem dX3_lifeOf_66 : decode cX3_lifeOf 66 = .ok (.iload_n 1, 1) := by decide +kernel
theorem dX3_lifeOf_67 : decode cX3_lifeOf 67 = .ok (.iaload, 1) := by decide +kernel
theorem dX3_lifeOf_68 : decode cX3_lifeOf 68 = .ok (.isub, 1) := by decide +kernel
theorem dX3_lifeOf_69 : decode cX3_lifeOf 69 = .ok (.ireturn, 1) := by decide +kernel
set_option maxRecDepth 20000 in
theorem ggX3_lifetime_X3_asks : GoodIn wsX3_lifetime wsX3_asks := goodIn_r _ [5, 6, 7, 8, 9, 10, 4, 11, 12, 13, 14, 15, 29, 30, 31, 32, 33, 34, 35, 36, 37, 38, 39, 40, 41, 42, 43, 44] (by decide +kernel) (by decide +kernel)
set_option maxRecDepth 20000 in
theorem gX3_lifetime_X3_asks : GoodIn wsX3_lifetime (wsV RX3 118 RX3 yX3_asks wsX3_asks) := goodIn_app (goodIn_of _ (by decide +kernel)) ggX3_lifetime_X3_asks
set_option maxRecDepth 20000 in
theorem ggX3_lifetime_X3_lifeOf : GoodIn wsX3_lifetime wsX3_lifeOf := goodIn_r _ [19, 20, 21, 22, 23, 6, 24, 25, 26, 27, 28, 29, 30, 31, 32, 33, 34, 35, 36, 37, 38, 39, 40, 41, 42, 43, 44] (by decide +kernel) (by decide +kernel)
set_option maxRecDepth 20000 in
theorem gX3_lifetime_X3_lifeOf : GoodIn wsX3_lifetime (wsV RX3 137 RX3 yX3_lifeOf wsX3_lifeOf) := goodIn_app (goodIn_of _ (by decide +kernel)) ggX3_lifetime_X3_lifeOf
theorem dX3_lifetime_0 : decode cX3_lifetime 0 = .ok (.aload_n 0, 1) := by decide +kernel
theorem dX3_lifetime_1 : decode cX3_lifetime 1 = .ok (.iload_n 1, 1) := by decide +kernel
theorem dX3_lifetime_2 : decode cX3_lifetime 2 = .ok (.invokevirtual 118, 3) := by decide +kernel
theorem dX3_lifetime_5 : decode cX3_lifetime 5 = .ok (.ifCond .eq 11, 3) := by decide +kernel
theorem dX3_lifetime_8 : decode cX3_lifetime 8 = .ok (.aload_n 0, 1) := by decide +kernel
theorem dX3_lifetime_9 : decode cX3_lifetime 9 = .ok (.iload_n 1, 1) := by decide +kernel
theorem dX3_lifetime_10 : decode cX3_lifetime 10 = .ok (.invokevirtual 137, 3) := by decide +kernel
theorem dX3_lifetime_13 : decode cX3_lifetime 13 = .ok (.goto 4, 3) := by decide +kernel
theorem dX3_lifetime_16 : decode cX3_lifetime 16 = .ok (.iconst 0, 1) := by decide +kernel
theorem dX3_lifetime_17 : decode cX3_lifetime 17 = .ok (.ireturn, 1) := by decide +kernel
set_option maxRecDepth 20000 in
theorem ggX3_liveIn_X3_lifeOf : GoodIn wsX3_liveIn wsX3_lifeOf := goodIn_r _ [8, 2, 9, 10, 11, 3, 12, 13, 14, 15, 16, 17, 18, 19, 20, 21, 22, 23, 24, 25, 26, 27, 28, 29, 30, 31, 32] (by decide +kernel) (by decide +kernel)
set_option maxRecDepth 20000 in
theorem gX3_liveIn_X3_lifeOf : GoodIn wsX3_liveIn (wsV RX3 137 RX3 yX3_lifeOf wsX3_lifeOf) := goodIn_app (goodIn_of _ (by decide +kernel)) ggX3_liveIn_X3_lifeOf
theorem dX3_liveIn_0 : decode cX3_liveIn 0 = .ok (.iconst 0, 1) := by decide +kernel
theorem dX3_liveIn_1 : decode cX3_liveIn 1 = .ok (.istore_n 2, 1) := by decide +kernel
theorem dX3_liveIn_2 : decode cX3_liveIn 2 = .ok (.iconst 0, 1) := by decide +kernel
theorem dX3_liveIn_3 : decode cX3_liveIn 3 = .ok (.istore_n 3, 1) := by decide +kernel
theorem dX3_liveIn_4 : decode cX3_liveIn 4 = .ok (.iload_n 3, 1) := by decide +kernel
theorem dX3_liveIn_5 : decode cX3_liveIn 5 = .ok (.aload_n 0, 1) := by decide +kernel
theorem dX3_liveIn_6 : decode cX3_liveIn 6 = .ok (.getfield 48, 3) := by decide +kernel
theorem dX3_liveIn_9 : decode cX3_liveIn 9 = .ok (.if_icmp .ge 54, 3) := by decide +kernel
theorem dX3_liveIn_12 : decode cX3_liveIn 12 = .ok (.iconst 0, 1) := by decide +kernel
theorem dX3_liveIn_13 : decode cX3_liveIn 13 = .ok (.istore 4, 2) := by decide +kernel
theorem dX3_liveIn_15 : decode cX3_liveIn 15 = .ok (.iload 4, 2) := by decide +kernel
theorem dX3_liveIn_17 : decode cX3_liveIn 17 = .ok (.aload_n 0, 1) := by decide +kernel
theorem dX3_liveIn_18 : decode cX3_liveIn 18 = .ok (.iload_n 3, 1) := by decide +kernel
theorem dX3_liveIn_19 : decode cX3_liveIn 19 = .ok (.invokevirtual 137, 3) := by decide +kernel
theorem dX3_liveIn_22 : decode cX3_liveIn 22 = .ok (.if_icmp .ge 35, 3) := by decide +kernel
theorem dX3_liveIn_25 : decode cX3_liveIn 25 = .ok (.iload_n 2, 1) := by decide +kernel
theorem dX3_liveIn_26 : decode cX3_liveIn 26 = .ok (.aload_n 0, 1) := by decide +kernel
theorem dX3_liveIn_27 : decode cX3_liveIn 27 = .ok (.getfield 31, 3) := by decide +kernel
theorem dX3_liveIn_30 : decode cX3_liveIn 30 = .ok (.iload_n 3, 1) := by decide +kernel
theorem dX3_liveIn_31 : decode cX3_liveIn 31 = .ok (.iaload, 1) := by decide +kernel
theorem dX3_liveIn_32 : decode cX3_liveIn 32 = .ok (.iload 4, 2) := by decide +kernel
theorem dX3_liveIn_34 : decode cX3_liveIn 34 = .ok (.iadd, 1) := by decide +kernel
theorem dX3_liveIn_35 : decode cX3_liveIn 35 = .ok (.aload_n 0, 1) := by decide +kernel
theorem dX3_liveIn_36 : decode cX3_liveIn 36 = .ok (.getfield 59, 3) := by decide +kernel
theorem dX3_liveIn_39 : decode cX3_liveIn 39 = .ok (.irem, 1) := by decide +kernel
theorem dX3_liveIn_40 : decode cX3_liveIn 40 = .ok (.iload_n 1, 1) := by decide +kernel
theorem dX3_liveIn_41 : decode cX3_liveIn 41 = .ok (.if_icmp .ne 7, 3) := by decide +kernel
theorem dX3_liveIn_44 : decode cX3_liveIn 44 = .ok (.iconst 1, 1) := by decide +kernel
theorem dX3_liveIn_45 : decode cX3_liveIn 45 = .ok (.goto 4, 3) := by decide +kernel
theorem dX3_liveIn_48 : decode cX3_liveIn 48 = .ok (.iconst 0, 1) := by decide +kernel
theorem dX3_liveIn_49 : decode cX3_liveIn 49 = .ok (.iadd, 1) := by decide +kernel
theorem dX3_liveIn_50 : decode cX3_liveIn 50 = .ok (.istore_n 2, 1) := by decide +kernel
theorem dX3_liveIn_51 : decode cX3_liveIn 51 = .ok (.iinc 4 1, 3) := by decide +kernel
theorem dX3_liveIn_54 : decode cX3_liveIn 54 = .ok (.goto (-39), 3) := by decide +kernel
theorem dX3_liveIn_57 : decode cX3_liveIn 57 = .ok (.iinc 3 1, 3) := by decide +kernel
theorem dX3_liveIn_60 : decode cX3_liveIn 60 = .ok (.goto (-56), 3) := by decide +kernel
theorem dX3_liveIn_63 : decode cX3_liveIn 63 = .ok (.iload_n 2, 1) := by decide +kernel
theorem dX3_liveIn_64 : decode cX3_liveIn 64 = .ok (.ireturn, 1) := by decide +kernel
set_option maxRecDepth 20000 in
theorem ggX3_live_X3_isIn : GoodIn wsX3_live wsX3_isIn := goodIn_r _ [6] (by decide +kernel) (by decide +kernel)
set_option maxRecDepth 20000 in
theorem gX3_live_X3_isIn : GoodIn wsX3_live (va_wsS RX3 51 yX3_isIn wsX3_isIn) := goodIn_app (goodIn_of _ (by decide +kernel)) ggX3_live_X3_isIn
set_option maxRecDepth 20000 in
theorem ggX3_live_X3_liveIn : GoodIn wsX3_live wsX3_liveIn := goodIn_r _ [10, 11, 12, 1, 13, 14, 15, 5, 16, 17, 18, 19, 20, 21, 22, 23, 24, 25, 26, 27, 28, 29, 30, 31, 32, 33, 34, 35, 36, 37, 38, 39, 40] (by decide +kernel) (by decide +kernel)
set_option maxRecDepth 20000 in
theorem gX3_live_X3_liveIn : GoodIn wsX3_live (wsV RX3 140 RX3 yX3_liveIn wsX3_liveIn) := goodIn_app (goodIn_of _ (by decide +kernel)) ggX3_live_X3_liveIn
theorem dX3_live_0 : decode cX3_live 0 = .ok (.aload_n 0, 1) := by decide +kernel
theorem dX3_live_1 : decode cX3_live 1 = .ok (.aload_n 0, 1) := by decide +kernel
theorem dX3_live_2 : decode cX3_live 2 = .ok (.getfield 59, 3) := by decide +kernel
theorem dX3_live_5 : decode cX3_live 5 = .ok (.ifCond .ne 7, 3) := by decide +kernel
theorem dX3_live_8 : decode cX3_live 8 = .ok (.iconst 1, 1) := by decide +kernel
theorem dX3_live_9 : decode cX3_live 9 = .ok (.goto 22, 3) := by decide +kernel
theorem dX3_live_12 : decode cX3_live 12 = .ok (.iload_n 1, 1) := by decide +kernel
theorem dX3_live_13 : decode cX3_live 13 = .ok (.iconst 0, 1) := by decide +kernel
theorem dX3_live_14 : decode cX3_live 14 = .ok (.aload_n 0, 1) := by decide +kernel
theorem dX3_live_15 : decode cX3_live 15 = .ok (.getfield 59, 3) := by decide +kernel
theorem dX3_live_18 : decode cX3_live 18 = .ok (.iconst 1, 1) := by decide +kernel
theorem dX3_live_19 : decode cX3_live 19 = .ok (.isub, 1) := by decide +kernel
theorem dX3_live_20 : decode cX3_live 20 = .ok (.invokestatic 51, 3) := by decide +kernel
theorem dX3_live_23 : decode cX3_live 23 = .ok (.ifCond .ne 7, 3) := by decide +kernel
theorem dX3_live_26 : decode cX3_live 26 = .ok (.iconst 2, 1) := by decide +kernel
theorem dX3_live_27 : decode cX3_live 27 = .ok (.goto 4, 3) := by decide +kernel
theorem dX3_live_30 : decode cX3_live 30 = .ok (.iconst 0, 1) := by decide +kernel
theorem dX3_live_31 : decode cX3_live 31 = .ok (.putfield 44, 3) := by decide +kernel
theorem dX3_live_34 : decode cX3_live 34 = .ok (.aload_n 0, 1) := by decide +kernel
theorem dX3_live_35 : decode cX3_live 35 = .ok (.getfield 44, 3) := by decide +kernel
theorem dX3_live_38 : decode cX3_live 38 = .ok (.ifCond .ne 11, 3) := by decide +kernel
theorem dX3_live_41 : decode cX3_live 41 = .ok (.aload_n 0, 1) := by decide +kernel
theorem dX3_live_42 : decode cX3_live 42 = .ok (.iload_n 1, 1) := by decide +kernel
theorem dX3_live_43 : decode cX3_live 43 = .ok (.invokevirtual 140, 3) := by decide +kernel
theorem dX3_live_46 : decode cX3_live 46 = .ok (.goto 4, 3) := by decide +kernel
theorem dX3_live_49 : decode cX3_live 49 = .ok (.iconst 0, 1) := by decide +kernel
theorem dX3_live_50 : decode cX3_live 50 = .ok (.ireturn, 1) := by decide +kernel
set_option maxRecDepth 20000 in
theorem ggX3_registers_X3_liveIn : GoodIn wsX3_registers wsX3_liveIn := goodIn_r _ [10, 11, 12, 1, 13, 14, 15, 9, 16, 17, 18, 19, 20, 2, 3, 4, 5, 26, 27, 28, 29, 30, 31, 32, 33, 34, 35, 36, 37, 38, 39, 40, 41] (by decide +kernel) (by decide +kernel)
set_option maxRecDepth 20000 in
theorem gX3_registers_X3_liveIn : GoodIn wsX3_registers (wsV RX3 140 RX3 yX3_liveIn wsX3_liveIn) := goodIn_app (goodIn_of _ (by decide +kernel)) ggX3_registers_X3_liveIn
set_option maxRecDepth 20000 in
theorem ggX3_registers_X3_has : GoodIn wsX3_registers wsX3_has := goodIn_r _ [24, 1, 25, 26, 27, 28, 29, 30, 31, 32, 33, 34, 35, 36, 37, 38, 39, 40, 41] (by decide +kernel) (by decide +kernel)
set_option maxRecDepth 20000 in
theorem gX3_registers_X3_has : GoodIn wsX3_registers (wsV RX3 114 RX3 yX3_has wsX3_has) := goodIn_app (goodIn_of _ (by decide +kernel)) ggX3_registers_X3_has
theorem dX3_registers_0 : decode cX3_registers 0 = .ok (.iconst 0, 1) := by decide +kernel
theorem dX3_registers_1 : decode cX3_registers 1 = .ok (.istore_n 1, 1) := by decide +kernel
theorem dX3_registers_2 : decode cX3_registers 2 = .ok (.iconst 0, 1) := by decide +kernel
theorem dX3_registers_3 : decode cX3_registers 3 = .ok (.istore_n 2, 1) := by decide +kernel
theorem dX3_registers_4 : decode cX3_registers 4 = .ok (.iload_n 2, 1) := by decide +kernel
theorem dX3_registers_5 : decode cX3_registers 5 = .ok (.aload_n 0, 1) := by decide +kernel
theorem dX3_registers_6 : decode cX3_registers 6 = .ok (.getfield 59, 3) := by decide +kernel
theorem dX3_registers_9 : decode cX3_registers 9 = .ok (.if_icmp .ge 19, 3) := by decide +kernel
theorem dX3_registers_12 : decode cX3_registers 12 = .ok (.iload_n 1, 1) := by decide +kernel
theorem dX3_registers_13 : decode cX3_registers 13 = .ok (.aload_n 0, 1) := by decide +kernel
theorem dX3_registers_14 : decode cX3_registers 14 = .ok (.iload_n 2, 1) := by decide +kernel
theorem dX3_registers_15 : decode cX3_registers 15 = .ok (.invokevirtual 140, 3) := by decide +kernel
theorem dX3_registers_18 : decode cX3_registers 18 = .ok (.invokestatic 97, 3) := by decide +kernel
theorem dX3_registers_21 : decode cX3_registers 21 = .ok (.istore_n 1, 1) := by decide +kernel
theorem dX3_registers_22 : decode cX3_registers 22 = .ok (.iinc 2 1, 3) := by decide +kernel
theorem dX3_registers_25 : decode cX3_registers 25 = .ok (.goto (-21), 3) := by decide +kernel
theorem dX3_registers_28 : decode cX3_registers 28 = .ok (.aload_n 0, 1) := by decide +kernel
theorem dX3_registers_29 : decode cX3_registers 29 = .ok (.invokevirtual 114, 3) := by decide +kernel
theorem dX3_registers_32 : decode cX3_registers 32 = .ok (.ifCond .eq 7, 3) := by decide +kernel
theorem dX3_registers_35 : decode cX3_registers 35 = .ok (.iload_n 1, 1) := by decide +kernel
theorem dX3_registers_36 : decode cX3_registers 36 = .ok (.goto 4, 3) := by decide +kernel
theorem dX3_registers_39 : decode cX3_registers 39 = .ok (.iconst 0, 1) := by decide +kernel
theorem dX3_registers_40 : decode cX3_registers 40 = .ok (.ireturn, 1) := by decide +kernel
set_option maxRecDepth 20000 in
theorem ggX3_copiesOf_X3_lifeOf : GoodIn wsX3_copiesOf wsX3_lifeOf := goodIn_r _ [6, 7, 8, 9, 10, 1, 11, 12, 13, 14, 15, 16, 17, 18, 19, 20, 21, 22, 23, 24, 25, 26, 27, 28, 29, 30, 31] (by decide +kernel) (by decide +kernel)
set_option maxRecDepth 20000 in
theorem gX3_copiesOf_X3_lifeOf : GoodIn wsX3_copiesOf (wsV RX3 137 RX3 yX3_lifeOf wsX3_lifeOf) := goodIn_app (goodIn_of _ (by decide +kernel)) ggX3_copiesOf_X3_lifeOf
theorem dX3_copiesOf_0 : decode cX3_copiesOf 0 = .ok (.iconst 1, 1) := by decide +kernel
theorem dX3_copiesOf_1 : decode cX3_copiesOf 1 = .ok (.istore_n 2, 1) := by decide +kernel
theorem dX3_copiesOf_2 : decode cX3_copiesOf 2 = .ok (.iload_n 2, 1) := by decide +kernel
theorem dX3_copiesOf_3 : decode cX3_copiesOf 3 = .ok (.aload_n 0, 1) := by decide +kernel
theorem dX3_copiesOf_4 : decode cX3_copiesOf 4 = .ok (.getfield 59, 3) := by decide +kernel
theorem dX3_copiesOf_7 : decode cX3_copiesOf 7 = .ok (.imul, 1) := by decide +kernel
theorem dX3_copiesOf_8 : decode cX3_copiesOf 8 = .ok (.aload_n 0, 1) := by decide +kernel
theorem dX3_copiesOf_9 : decode cX3_copiesOf 9 = .ok (.iload_n 1, 1) := by decide +kernel
theorem dX3_copiesOf_10 : decode cX3_copiesOf 10 = .ok (.invokevirtual 137, 3) := by decide +kernel
theorem dX3_copiesOf_13 : decode cX3_copiesOf 13 = .ok (.if_icmp .ge 9, 3) := by decide +kernel
theorem dX3_copiesOf_16 : decode cX3_copiesOf 16 = .ok (.iinc 2 1, 3) := by decide +kernel
theorem dX3_copiesOf_19 : decode cX3_copiesOf 19 = .ok (.goto (-17), 3) := by decide +kernel
theorem dX3_copiesOf_22 : decode cX3_copiesOf 22 = .ok (.iload_n 2, 1) := by decide +kernel
theorem dX3_copiesOf_23 : decode cX3_copiesOf 23 = .ok (.ireturn, 1) := by decide +kernel
set_option maxRecDepth 20000 in
theorem ggX3_copies_X3_asks : GoodIn wsX3_copies wsX3_asks := goodIn_r _ [5, 6, 7, 8, 9, 10, 4, 11, 12, 13, 14, 15, 33, 34, 35, 36, 37, 38, 39, 40, 41, 42, 43, 44, 45, 46, 47, 48] (by decide +kernel) (by decide +kernel)
set_option maxRecDepth 20000 in
theorem gX3_copies_X3_asks : GoodIn wsX3_copies (wsV RX3 118 RX3 yX3_asks wsX3_asks) := goodIn_app (goodIn_of _ (by decide +kernel)) ggX3_copies_X3_asks
set_option maxRecDepth 20000 in
theorem ggX3_copies_X3_copiesOf : GoodIn wsX3_copies wsX3_copiesOf := goodIn_r _ [19, 6, 20, 21, 22, 4, 23, 24, 25, 26, 27, 28, 29, 30, 31, 32, 33, 34, 35, 36, 37, 38, 39, 40, 41, 42, 43, 44, 45, 46, 47, 48] (by decide +kernel) (by decide +kernel)
set_option maxRecDepth 20000 in
theorem gX3_copies_X3_copiesOf : GoodIn wsX3_copies (wsV RX3 143 RX3 yX3_copiesOf wsX3_copiesOf) := goodIn_app (goodIn_of _ (by decide +kernel)) ggX3_copies_X3_copiesOf
theorem dX3_copies_0 : decode cX3_copies 0 = .ok (.aload_n 0, 1) := by decide +kernel
theorem dX3_copies_1 : decode cX3_copies 1 = .ok (.iload_n 1, 1) := by decide +kernel
theorem dX3_copies_2 : decode cX3_copies 2 = .ok (.invokevirtual 118, 3) := by decide +kernel
theorem dX3_copies_5 : decode cX3_copies 5 = .ok (.ifCond .eq 11, 3) := by decide +kernel
theorem dX3_copies_8 : decode cX3_copies 8 = .ok (.aload_n 0, 1) := by decide +kernel
theorem dX3_copies_9 : decode cX3_copies 9 = .ok (.iload_n 1, 1) := by decide +kernel
theorem dX3_copies_10 : decode cX3_copies 10 = .ok (.invokevirtual 143, 3) := by decide +kernel
theorem dX3_copies_13 : decode cX3_copies 13 = .ok (.goto 4, 3) := by decide +kernel
theorem dX3_copies_16 : decode cX3_copies 16 = .ok (.iconst 0, 1) := by decide +kernel
theorem dX3_copies_17 : decode cX3_copies 17 = .ok (.ireturn, 1) := by decide +kernel
set_option maxRecDepth 20000 in
theorem ggX3_unrolling_X3_has : GoodIn wsX3_unrolling wsX3_has := goodIn_r _ [8, 9, 10, 28, 29, 30, 31, 32, 33, 34, 35, 36, 37, 38, 39, 40, 41, 42, 43] (by decide +kernel) (by decide +kernel)
set_option maxRecDepth 20000 in
theorem gX3_unrolling_X3_has : GoodIn wsX3_unrolling (wsV RX3 114 RX3 yX3_has wsX3_has) := goodIn_app (goodIn_of _ (by decide +kernel)) ggX3_unrolling_X3_has
set_option maxRecDepth 20000 in
theorem ggX3_unrolling_X3_copiesOf : GoodIn wsX3_unrolling wsX3_copiesOf := goodIn_r _ [14, 9, 15, 16, 17, 7, 18, 19, 20, 21, 22, 23, 24, 25, 26, 27, 28, 29, 30, 31, 32, 33, 34, 35, 36, 37, 38, 39, 40, 41, 42, 43] (by decide +kernel) (by decide +kernel)
set_option maxRecDepth 20000 in
theorem gX3_unrolling_X3_copiesOf : GoodIn wsX3_unrolling (wsV RX3 143 RX3 yX3_copiesOf wsX3_copiesOf) := goodIn_app (goodIn_of _ (by decide +kernel)) ggX3_unrolling_X3_copiesOf
theorem dX3_unrolling_0 : decode cX3_unrolling 0 = .ok (.aload_n 0, 1) := by decide +kernel
theorem dX3_unrolling_1 : decode cX3_unrolling 1 = .ok (.invokevirtual 114, 3) := by decide +kernel
theorem dX3_unrolling_4 : decode cX3_unrolling 4 = .ok (.ifCond .ne 5, 3) := by decide +kernel
theorem dX3_unrolling_7 : decode cX3_unrolling 7 = .ok (.iconst 0, 1) := by decide +kernel
theorem dX3_unrolling_8 : decode cX3_unrolling 8 = .ok (.ireturn, 1) := by decide +kernel
theorem dX3_unrolling_9 : decode cX3_unrolling 9 = .ok (.lconst 1, 1) := by decide +kernel
theorem dX3_unrolling_10 : decode cX3_unrolling 10 = .ok (.lstore_n 1, 1) := by decide +kernel
theorem dX3_unrolling_11 : decode cX3_unrolling 11 = .ok (.iconst 0, 1) := by decide +kernel
theorem dX3_unrolling_12 : decode cX3_unrolling 12 = .ok (.istore_n 3, 1) := by decide +kernel
theorem dX3_unrolling_13 : decode cX3_unrolling 13 = .ok (.iload_n 3, 1) := by decide +kernel
theorem dX3_unrolling_14 : decode cX3_unrolling 14 = .ok (.aload_n 0, 1) := by decide +kernel
theorem dX3_unrolling_15 : decode cX3_unrolling 15 = .ok (.getfield 48, 3) := by decide +kernel
theorem dX3_unrolling_18 : decode cX3_unrolling 18 = .ok (.if_icmp .ge 44, 3) := by decide +kernel
theorem dX3_unrolling_21 : decode cX3_unrolling 21 = .ok (.lload_n 1, 1) := by decide +kernel
theorem dX3_unrolling_22 : decode cX3_unrolling 22 = .ok (.lstore 4, 2) := by decide +kernel
theorem dX3_unrolling_24 : decode cX3_unrolling 24 = .ok (.lload_n 1, 1) := by decide +kernel
theorem dX3_unrolling_25 : decode cX3_unrolling 25 = .ok (.aload_n 0, 1) := by decide +kernel
theorem dX3_unrolling_26 : decode cX3_unrolling 26 = .ok (.iload_n 3, 1) := by decide +kernel
theorem dX3_unrolling_27 : decode cX3_unrolling 27 = .ok (.invokevirtual 143, 3) := by decide +kernel
theorem dX3_unrolling_30 : decode cX3_unrolling 30 = .ok (.i2l, 1) := by decide +kernel
theorem dX3_unrolling_31 : decode cX3_unrolling 31 = .ok (.lrem, 1) := by decide +kernel
theorem dX3_unrolling_32 : decode cX3_unrolling 32 = .ok (.lconst 0, 1) := by decide +kernel
theorem dX3_unrolling_33 : decode cX3_unrolling 33 = .ok (.lcmp, 1) := by decide +kernel
theorem dX3_unrolling_34 : decode cX3_unrolling 34 = .ok (.ifCond .eq 11, 3) := by decide +kernel
theorem dX3_unrolling_37 : decode cX3_unrolling 37 = .ok (.lload_n 1, 1) := by decide +kernel
theorem dX3_unrolling_38 : decode cX3_unrolling 38 = .ok (.lload 4, 2) := by decide +kernel
theorem dX3_unrolling_40 : decode cX3_unrolling 40 = .ok (.ladd, 1) := by decide +kernel
theorem dX3_unrolling_41 : decode cX3_unrolling 41 = .ok (.lstore_n 1, 1) := by decide +kernel
theorem dX3_unrolling_42 : decode cX3_unrolling 42 = .ok (.goto (-18), 3) := by decide +kernel
theorem dX3_unrolling_45 : decode cX3_unrolling 45 = .ok (.lload_n 1, 1) := by decide +kernel
theorem dX3_unrolling_46 : decode cX3_unrolling 46 = .ok (.ldc2_w 146, 3) := by decide +kernel
theorem dX3_unrolling_49 : decode cX3_unrolling 49 = .ok (.lcmp, 1) := by decide +kernel
theorem dX3_unrolling_50 : decode cX3_unrolling 50 = .ok (.ifCond .le 6, 3) := by decide +kernel
theorem dX3_unrolling_53 : decode cX3_unrolling 53 = .ok (.ldc 96, 2) := by decide +kernel
theorem dX3_unrolling_55 : decode cX3_unrolling 55 = .ok (.ireturn, 1) := by decide +kernel
theorem dX3_unrolling_56 : decode cX3_unrolling 56 = .ok (.iinc 3 1, 3) := by decide +kernel
theorem dX3_unrolling_59 : decode cX3_unrolling 59 = .ok (.goto (-46), 3) := by decide +kernel
theorem dX3_unrolling_62 : decode cX3_unrolling 62 = .ok (.lload_n 1, 1) := by decide +kernel
theorem dX3_unrolling_63 : decode cX3_unrolling 63 = .ok (.l2i, 1) := by decide +kernel
theorem dX3_unrolling_64 : decode cX3_unrolling 64 = .ok (.ireturn, 1) := by decide +kernel
set_option maxRecDepth 20000 in
theorem ggX3_cycles_X3_isIn : GoodIn wsX3_cycles wsX3_isIn := goodIn_r _ [7] (by decide +kernel) (by decide +kernel)
set_option maxRecDepth 20000 in
theorem gX3_cycles_X3_isIn : GoodIn wsX3_cycles (va_wsS RX3 51 yX3_isIn wsX3_isIn) := goodIn_app (goodIn_of _ (by decide +kernel)) ggX3_cycles_X3_isIn
set_option maxRecDepth 20000 in
theorem ggX3_cycles_X3_latest : GoodIn wsX3_cycles wsX3_latest := goodIn_r _ [11, 3, 12, 13, 14, 15, 16, 17, 18, 19, 20, 21, 22, 23, 24, 25, 26, 27, 28, 29, 30, 31, 32] (by decide +kernel) (by decide +kernel)
set_option maxRecDepth 20000 in
theorem gX3_cycles_X3_latest : GoodIn wsX3_cycles (wsV RX3 127 RX3 yX3_latest wsX3_latest) := goodIn_app (goodIn_of _ (by decide +kernel)) ggX3_cycles_X3_latest
theorem dX3_cycles_0 : decode cX3_cycles 0 = .ok (.aload_n 0, 1) := by decide +kernel
theorem dX3_cycles_1 : decode cX3_cycles 1 = .ok (.aload_n 0, 1) := by decide +kernel
theorem dX3_cycles_2 : decode cX3_cycles 2 = .ok (.getfield 59, 3) := by decide +kernel
theorem dX3_cycles_5 : decode cX3_cycles 5 = .ok (.ifCond .ne 7, 3) := by decide +kernel
theorem dX3_cycles_8 : decode cX3_cycles 8 = .ok (.iconst 1, 1) := by decide +kernel
theorem dX3_cycles_9 : decode cX3_cycles 9 = .ok (.goto 19, 3) := by decide +kernel
theorem dX3_cycles_12 : decode cX3_cycles 12 = .ok (.iload_n 1, 1) := by decide +kernel
theorem dX3_cycles_13 : decode cX3_cycles 13 = .ok (.iconst 1, 1) := by decide +kernel
theorem dX3_cycles_14 : decode cX3_cycles 14 = .ok (.sipush 1000, 3) := by decide +kernel
theorem dX3_cycles_17 : decode cX3_cycles 17 = .ok (.invokestatic 51, 3) := by decide +kernel
theorem dX3_cycles_20 : decode cX3_cycles 20 = .ok (.ifCond .ne 7, 3) := by decide +kernel
theorem dX3_cycles_23 : decode cX3_cycles 23 = .ok (.iconst 2, 1) := by decide +kernel
theorem dX3_cycles_24 : decode cX3_cycles 24 = .ok (.goto 4, 3) := by decide +kernel
theorem dX3_cycles_27 : decode cX3_cycles 27 = .ok (.iconst 0, 1) := by decide +kernel
theorem dX3_cycles_28 : decode cX3_cycles 28 = .ok (.putfield 44, 3) := by decide +kernel
theorem dX3_cycles_31 : decode cX3_cycles 31 = .ok (.aload_n 0, 1) := by decide +kernel
theorem dX3_cycles_32 : decode cX3_cycles 32 = .ok (.getfield 44, 3) := by decide +kernel
theorem dX3_cycles_35 : decode cX3_cycles 35 = .ok (.ifCond .gt 10, 3) := by decide +kernel
theorem dX3_cycles_38 : decode cX3_cycles 38 = .ok (.aload_n 0, 1) := by decide +kernel
theorem dX3_cycles_39 : decode cX3_cycles 39 = .ok (.getfield 48, 3) := by decide +kernel
theorem dX3_cycles_42 : decode cX3_cycles 42 = .ok (.ifCond .ne 7, 3) := by decide +kernel
theorem dX3_cycles_45 : decode cX3_cycles 45 = .ok (.iconst 0, 1) := by decide +kernel
theorem dX3_cycles_46 : decode cX3_cycles 46 = .ok (.goto 18, 3) := by decide +kernel
theorem dX3_cycles_49 : decode cX3_cycles 49 = .ok (.aload_n 0, 1) := by decide +kernel
theorem dX3_cycles_50 : decode cX3_cycles 50 = .ok (.invokevirtual 127, 3) := by decide +kernel
theorem dX3_cycles_53 : decode cX3_cycles 53 = .ok (.iload_n 1, 1) := by decide +kernel
theorem dX3_cycles_54 : decode cX3_cycles 54 = .ok (.iconst 1, 1) := by decide +kernel
theorem dX3_cycles_55 : decode cX3_cycles 55 = .ok (.isub, 1) := by decide +kernel
theorem dX3_cycles_56 : decode cX3_cycles 56 = .ok (.aload_n 0, 1) := by decide +kernel
theorem dX3_cycles_57 : decode cX3_cycles 57 = .ok (.getfield 59, 3) := by decide +kernel
theorem dX3_cycles_60 : decode cX3_cycles 60 = .ok (.imul, 1) := by decide +kernel
theorem dX3_cycles_61 : decode cX3_cycles 61 = .ok (.iadd, 1) := by decide +kernel
theorem dX3_cycles_62 : decode cX3_cycles 62 = .ok (.iconst 1, 1) := by decide +kernel
theorem dX3_cycles_63 : decode cX3_cycles 63 = .ok (.iadd, 1) := by decide +kernel
theorem dX3_cycles_64 : decode cX3_cycles 64 = .ok (.ireturn, 1) := by decide +kernel
theorem dX3_issueAt_0 : decode cX3_issueAt 0 = .ok (.iload_n 3, 1) := by decide +kernel
theorem dX3_issueAt_1 : decode cX3_issueAt 1 = .ok (.istore 4, 2) := by decide +kernel
theorem dX3_issueAt_3 : decode cX3_issueAt 3 = .ok (.iconst 0, 1) := by decide +kernel
theorem dX3_issueAt_4 : decode cX3_issueAt 4 = .ok (.istore 5, 2) := by decide +kernel
theorem dX3_issueAt_6 : decode cX3_issueAt 6 = .ok (.iload 5, 2) := by decide +kernel
theorem dX3_issueAt_8 : decode cX3_issueAt 8 = .ok (.iload_n 1, 1) := by decide +kernel
theorem dX3_issueAt_9 : decode cX3_issueAt 9 = .ok (.if_icmp .ge 71, 3) := by decide +kernel
theorem dX3_issueAt_12 : decode cX3_issueAt 12 = .ok (.iload 4, 2) := by decide +kernel
theorem dX3_issueAt_14 : decode cX3_issueAt 14 = .ok (.ifCond .lt 66, 3) := by decide +kernel
theorem dX3_issueAt_17 : decode cX3_issueAt 17 = .ok (.iconst 0, 1) := by decide +kernel
theorem dX3_issueAt_18 : decode cX3_issueAt 18 = .ok (.istore 6, 2) := by decide +kernel
theorem dX3_issueAt_20 : decode cX3_issueAt 20 = .ok (.iload 6, 2) := by decide +kernel
theorem dX3_issueAt_22 : decode cX3_issueAt 22 = .ok (.aload_n 0, 1) := by decide +kernel
theorem dX3_issueAt_23 : decode cX3_issueAt 23 = .ok (.getfield 48, 3) := by decide +kernel
theorem dX3_issueAt_26 : decode cX3_issueAt 26 = .ok (.if_icmp .ge 48, 3) := by decide +kernel
theorem dX3_issueAt_29 : decode cX3_issueAt 29 = .ok (.aload_n 0, 1) := by decide +kernel
theorem dX3_issueAt_30 : decode cX3_issueAt 30 = .ok (.getfield 31, 3) := by decide +kernel
theorem dX3_issueAt_33 : decode cX3_issueAt 33 = .ok (.iload 6, 2) := by decide +kernel
theorem dX3_issueAt_35 : decode cX3_issueAt 35 = .ok (.iaload, 1) := by decide +kernel
theorem dX3_issueAt_36 : decode cX3_issueAt 36 = .ok (.iload 5, 2) := by decide +kernel
theorem dX3_issueAt_38 : decode cX3_issueAt 38 = .ok (.aload_n 0, 1) := by decide +kernel
theorem dX3_issueAt_39 : decode cX3_issueAt 39 = .ok (.getfield 59, 3) := by decide +kernel
theorem dX3_issueAt_42 : decode cX3_issueAt 42 = .ok (.imul, 1) := by decide +kernel
theorem dX3_issueAt_43 : decode cX3_issueAt 43 = .ok (.iadd, 1) := by decide +kernel
theorem dX3_issueAt_44 : decode cX3_issueAt 44 = .ok (.iload_n 2, 1) := by decide +kernel
theorem dX3_issueAt_45 : decode cX3_issueAt 45 = .ok (.if_icmp .eq 6, 3) := by decide +kernel
theorem dX3_issueAt_48 : decode cX3_issueAt 48 = .ok (.goto 20, 3) := by decide +kernel
theorem dX3_issueAt_51 : decode cX3_issueAt 51 = .ok (.iload 4, 2) := by decide +kernel
theorem dX3_issueAt_53 : decode cX3_issueAt 53 = .ok (.ifCond .ne 12, 3) := by decide +kernel
theorem dX3_issueAt_56 : decode cX3_issueAt 56 = .ok (.bipush 14, 2) := by decide +kernel
theorem dX3_issueAt_58 : decode cX3_issueAt 58 = .ok (.iload 5, 2) := by decide +kernel
theorem dX3_issueAt_60 : decode cX3_issueAt 60 = .ok (.imul, 1) := by decide +kernel
theorem dX3_issueAt_61 : decode cX3_issueAt 61 = .ok (.iload 6, 2) := by decide +kernel
theorem dX3_issueAt_63 : decode cX3_issueAt 63 = .ok (.iadd, 1) := by decide +kernel
theorem dX3_issueAt_64 : decode cX3_issueAt 64 = .ok (.ireturn, 1) := by decide +kernel
theorem dX3_issueAt_65 : decode cX3_issueAt 65 = .ok (.iinc 4 (-1), 3) := by decide +kernel
theorem dX3_issueAt_68 : decode cX3_issueAt 68 = .ok (.iinc 6 1, 3) := by decide +kernel
theorem dX3_issueAt_71 : decode cX3_issueAt 71 = .ok (.goto (-51), 3) := by decide +kernel
theorem dX3_issueAt_74 : decode cX3_issueAt 74 = .ok (.iinc 5 1, 3) := by decide +kernel
theorem dX3_issueAt_77 : decode cX3_issueAt 77 = .ok (.goto (-71), 3) := by decide +kernel
theorem dX3_issueAt_80 : decode cX3_issueAt 80 = .ok (.iconst (-1), 1) := by decide +kernel
theorem dX3_issueAt_81 : decode cX3_issueAt 81 = .ok (.ireturn, 1) := by decide +kernel
theorem dX3_issuedIn_0 : decode cX3_issuedIn 0 = .ok (.iconst 0, 1) := by decide +kernel
theorem dX3_issuedIn_1 : decode cX3_issuedIn 1 = .ok (.istore_n 3, 1) := by decide +kernel
theorem dX3_issuedIn_2 : decode cX3_issuedIn 2 = .ok (.iconst 0, 1) := by decide +kernel
theorem dX3_issuedIn_3 : decode cX3_issuedIn 3 = .ok (.istore 4, 2) := by decide +kernel
theorem dX3_issuedIn_5 : decode cX3_issuedIn 5 = .ok (.iload 4, 2) := by decide +kernel
theorem dX3_issuedIn_7 : decode cX3_issuedIn 7 = .ok (.aload_n 0, 1) := by decide +kernel
theorem dX3_issuedIn_8 : decode cX3_issuedIn 8 = .ok (.getfield 48, 3) := by decide +kernel
theorem dX3_issuedIn_11 : decode cX3_issuedIn 11 = .ok (.if_icmp .ge 54, 3) := by decide +kernel
theorem dX3_issuedIn_14 : decode cX3_issuedIn 14 = .ok (.iload_n 2, 1) := by decide +kernel
theorem dX3_issuedIn_15 : decode cX3_issuedIn 15 = .ok (.aload_n 0, 1) := by decide +kernel
theorem dX3_issuedIn_16 : decode cX3_issuedIn 16 = .ok (.getfield 31, 3) := by decide +kernel
theorem dX3_issuedIn_19 : decode cX3_issuedIn 19 = .ok (.iload 4, 2) := by decide +kernel
theorem dX3_issuedIn_21 : decode cX3_issuedIn 21 = .ok (.iaload, 1) := by decide +kernel
theorem dX3_issuedIn_22 : decode cX3_issuedIn 22 = .ok (.isub, 1) := by decide +kernel
theorem dX3_issuedIn_23 : decode cX3_issuedIn 23 = .ok (.istore 5, 2) := by decide +kernel
theorem dX3_issuedIn_25 : decode cX3_issuedIn 25 = .ok (.iload_n 3, 1) := by decide +kernel
theorem dX3_issuedIn_26 : decode cX3_issuedIn 26 = .ok (.iload 5, 2) := by decide +kernel
theorem dX3_issuedIn_28 : decode cX3_issuedIn 28 = .ok (.ifCond .lt 28, 3) := by decide +kernel
theorem dX3_issuedIn_31 : decode cX3_issuedIn 31 = .ok (.iload 5, 2) := by decide +kernel
theorem dX3_issuedIn_33 : decode cX3_issuedIn 33 = .ok (.aload_n 0, 1) := by decide +kernel
theorem dX3_issuedIn_34 : decode cX3_issuedIn 34 = .ok (.getfield 59, 3) := by decide +kernel
theorem dX3_issuedIn_37 : decode cX3_issuedIn 37 = .ok (.irem, 1) := by decide +kernel
theorem dX3_issuedIn_38 : decode cX3_issuedIn 38 = .ok (.ifCond .ne 18, 3) := by decide +kernel
theorem dX3_issuedIn_41 : decode cX3_issuedIn 41 = .ok (.iload 5, 2) := by decide +kernel
theorem dX3_issuedIn_43 : decode cX3_issuedIn 43 = .ok (.aload_n 0, 1) := by decide +kernel
theorem dX3_issuedIn_44 : decode cX3_issuedIn 44 = .ok (.getfield 59, 3) := by decide +kernel
theorem dX3_issuedIn_47 : decode cX3_issuedIn 47 = .ok (.idiv, 1) := by decide +kernel
theorem dX3_issuedIn_48 : decode cX3_issuedIn 48 = .ok (.iload_n 1, 1) := by decide +kernel
theorem dX3_issuedIn_49 : decode cX3_issuedIn 49 = .ok (.if_icmp .ge 7, 3) := by decide +kernel
theorem dX3_issuedIn_52 : decode cX3_issuedIn 52 = .ok (.iconst 1, 1) := by decide +kernel
theorem dX3_issuedIn_53 : decode cX3_issuedIn 53 = .ok (.goto 4, 3) := by decide +kernel
theorem dX3_issuedIn_56 : decode cX3_issuedIn 56 = .ok (.iconst 0, 1) := by decide +kernel
theorem dX3_issuedIn_57 : decode cX3_issuedIn 57 = .ok (.iadd, 1) := by decide +kernel
theorem dX3_issuedIn_58 : decode cX3_issuedIn 58 = .ok (.istore_n 3, 1) := by decide +kernel
theorem dX3_issuedIn_59 : decode cX3_issuedIn 59 = .ok (.iinc 4 1, 3) := by decide +kernel
theorem dX3_issuedIn_62 : decode cX3_issuedIn 62 = .ok (.goto (-57), 3) := by decide +kernel
theorem dX3_issuedIn_65 : decode cX3_issuedIn 65 = .ok (.iload_n 3, 1) := by decide +kernel
theorem dX3_issuedIn_66 : decode cX3_issuedIn 66 = .ok (.ireturn, 1) := by decide +kernel
set_option maxRecDepth 20000 in
theorem ggX3_issued_X3_isIn : GoodIn wsX3_issued wsX3_isIn := goodIn_r _ [6] (by decide +kernel) (by decide +kernel)
set_option maxRecDepth 20000 in
theorem gX3_issued_X3_isIn : GoodIn wsX3_issued (va_wsS RX3 51 yX3_isIn wsX3_isIn) := goodIn_app (goodIn_of _ (by decide +kernel)) ggX3_issued_X3_isIn
set_option maxRecDepth 20000 in
theorem ggX3_issued_X3_issuedIn : GoodIn wsX3_issued wsX3_issuedIn := goodIn_r _ [10, 11, 12, 1, 13, 14, 15, 16, 17, 18, 19, 20, 21, 22, 23, 24, 25, 26, 27, 28] (by decide +kernel) (by decide +kernel)
set_option maxRecDepth 20000 in
theorem gX3_issued_X3_issuedIn : GoodIn wsX3_issued (wsV RX3 148 RX3 yX3_issuedIn wsX3_issuedIn) := goodIn_app (goodIn_of _ (by decide +kernel)) ggX3_issued_X3_issuedIn
theorem dX3_issued_0 : decode cX3_issued 0 = .ok (.aload_n 0, 1) := by decide +kernel
theorem dX3_issued_1 : decode cX3_issued 1 = .ok (.aload_n 0, 1) := by decide +kernel
theorem dX3_issued_2 : decode cX3_issued 2 = .ok (.getfield 59, 3) := by decide +kernel
theorem dX3_issued_5 : decode cX3_issued 5 = .ok (.ifCond .ne 7, 3) := by decide +kernel
theorem dX3_issued_8 : decode cX3_issued 8 = .ok (.iconst 1, 1) := by decide +kernel
theorem dX3_issued_9 : decode cX3_issued 9 = .ok (.goto 23, 3) := by decide +kernel
theorem dX3_issued_12 : decode cX3_issued 12 = .ok (.iload_n 1, 1) := by decide +kernel
theorem dX3_issued_13 : decode cX3_issued 13 = .ok (.iconst 1, 1) := by decide +kernel
theorem dX3_issued_14 : decode cX3_issued 14 = .ok (.sipush 1000, 3) := by decide +kernel
theorem dX3_issued_17 : decode cX3_issued 17 = .ok (.invokestatic 51, 3) := by decide +kernel
theorem dX3_issued_20 : decode cX3_issued 20 = .ok (.ifCond .eq 7, 3) := by decide +kernel
theorem dX3_issued_23 : decode cX3_issued 23 = .ok (.iload_n 2, 1) := by decide +kernel
theorem dX3_issued_24 : decode cX3_issued 24 = .ok (.ifCond .ge 7, 3) := by decide +kernel
theorem dX3_issued_27 : decode cX3_issued 27 = .ok (.iconst 2, 1) := by decide +kernel
theorem dX3_issued_28 : decode cX3_issued 28 = .ok (.goto 4, 3) := by decide +kernel
theorem dX3_issued_31 : decode cX3_issued 31 = .ok (.iconst 0, 1) := by decide +kernel
theorem dX3_issued_32 : decode cX3_issued 32 = .ok (.putfield 44, 3) := by decide +kernel
theorem dX3_issued_35 : decode cX3_issued 35 = .ok (.aload_n 0, 1) := by decide +kernel
theorem dX3_issued_36 : decode cX3_issued 36 = .ok (.getfield 44, 3) := by decide +kernel
theorem dX3_issued_39 : decode cX3_issued 39 = .ok (.ifCond .ne 12, 3) := by decide +kernel
theorem dX3_issued_42 : decode cX3_issued 42 = .ok (.aload_n 0, 1) := by decide +kernel
theorem dX3_issued_43 : decode cX3_issued 43 = .ok (.iload_n 1, 1) := by decide +kernel
theorem dX3_issued_44 : decode cX3_issued 44 = .ok (.iload_n 2, 1) := by decide +kernel
theorem dX3_issued_45 : decode cX3_issued 45 = .ok (.invokevirtual 148, 3) := by decide +kernel
theorem dX3_issued_48 : decode cX3_issued 48 = .ok (.goto 4, 3) := by decide +kernel
theorem dX3_issued_51 : decode cX3_issued 51 = .ok (.iconst 0, 1) := by decide +kernel
theorem dX3_issued_52 : decode cX3_issued 52 = .ok (.ireturn, 1) := by decide +kernel
set_option maxRecDepth 20000 in
theorem ggX3_issue_X3_isIn : GoodIn wsX3_issue wsX3_isIn := goodIn_r _ [6] (by decide +kernel) (by decide +kernel)
set_option maxRecDepth 20000 in
theorem gX3_issue_X3_isIn : GoodIn wsX3_issue (va_wsS RX3 51 yX3_isIn wsX3_isIn) := goodIn_app (goodIn_of _ (by decide +kernel)) ggX3_issue_X3_isIn
set_option maxRecDepth 20000 in
theorem ggX3_issue_X3_issuedIn : GoodIn wsX3_issue wsX3_issuedIn := goodIn_r _ [10, 11, 12, 1, 17, 18, 19, 20, 21, 22, 23, 24, 25, 26, 27, 28, 29, 30, 31, 32] (by decide +kernel) (by decide +kernel)
set_option maxRecDepth 20000 in
theorem gX3_issue_X3_issuedIn : GoodIn wsX3_issue (wsV RX3 148 RX3 yX3_issuedIn wsX3_issuedIn) := goodIn_app (goodIn_of _ (by decide +kernel)) ggX3_issue_X3_issuedIn
set_option maxRecDepth 20000 in
theorem ggX3_issue_X3_issueAt : GoodIn wsX3_issue wsX3_issueAt := goodIn_r _ [16, 11, 12, 1, 17, 18, 19, 20, 21, 22, 23, 24, 25, 26, 27, 28, 29, 30, 31, 32] (by decide +kernel) (by decide +kernel)
set_option maxRecDepth 20000 in
theorem gX3_issue_X3_issueAt : GoodIn wsX3_issue (wsV RX3 151 RX3 yX3_issueAt wsX3_issueAt) := goodIn_app (goodIn_of _ (by decide +kernel)) ggX3_issue_X3_issueAt
theorem dX3_issue_0 : decode cX3_issue 0 = .ok (.aload_n 0, 1) := by decide +kernel
theorem dX3_issue_1 : decode cX3_issue 1 = .ok (.aload_n 0, 1) := by decide +kernel
theorem dX3_issue_2 : decode cX3_issue 2 = .ok (.getfield 59, 3) := by decide +kernel
theorem dX3_issue_5 : decode cX3_issue 5 = .ok (.ifCond .ne 7, 3) := by decide +kernel
theorem dX3_issue_8 : decode cX3_issue 8 = .ok (.iconst 1, 1) := by decide +kernel
theorem dX3_issue_9 : decode cX3_issue 9 = .ok (.goto 41, 3) := by decide +kernel
theorem dX3_issue_12 : decode cX3_issue 12 = .ok (.iload_n 1, 1) := by decide +kernel
theorem dX3_issue_13 : decode cX3_issue 13 = .ok (.iconst 1, 1) := by decide +kernel
theorem dX3_issue_14 : decode cX3_issue 14 = .ok (.sipush 1000, 3) := by decide +kernel
theorem dX3_issue_17 : decode cX3_issue 17 = .ok (.invokestatic 51, 3) := by decide +kernel
theorem dX3_issue_20 : decode cX3_issue 20 = .ok (.ifCond .eq 7, 3) := by decide +kernel
theorem dX3_issue_23 : decode cX3_issue 23 = .ok (.iload_n 2, 1) := by decide +kernel
theorem dX3_issue_24 : decode cX3_issue 24 = .ok (.ifCond .ge 7, 3) := by decide +kernel
theorem dX3_issue_27 : decode cX3_issue 27 = .ok (.iconst 2, 1) := by decide +kernel
theorem dX3_issue_28 : decode cX3_issue 28 = .ok (.goto 22, 3) := by decide +kernel
theorem dX3_issue_31 : decode cX3_issue 31 = .ok (.iload_n 3, 1) := by decide +kernel
theorem dX3_issue_32 : decode cX3_issue 32 = .ok (.ifCond .lt 13, 3) := by decide +kernel
theorem dX3_issue_35 : decode cX3_issue 35 = .ok (.iload_n 3, 1) := by decide +kernel
theorem dX3_issue_36 : decode cX3_issue 36 = .ok (.aload_n 0, 1) := by decide +kernel
theorem dX3_issue_37 : decode cX3_issue 37 = .ok (.iload_n 1, 1) := by decide +kernel
theorem dX3_issue_38 : decode cX3_issue 38 = .ok (.iload_n 2, 1) := by decide +kernel
theorem dX3_issue_39 : decode cX3_issue 39 = .ok (.invokevirtual 148, 3) := by decide +kernel
theorem dX3_issue_42 : decode cX3_issue 42 = .ok (.if_icmp .lt 7, 3) := by decide +kernel
theorem dX3_issue_45 : decode cX3_issue 45 = .ok (.iconst 3, 1) := by decide +kernel
theorem dX3_issue_46 : decode cX3_issue 46 = .ok (.goto 4, 3) := by decide +kernel
theorem dX3_issue_49 : decode cX3_issue 49 = .ok (.iconst 0, 1) := by decide +kernel
theorem dX3_issue_50 : decode cX3_issue 50 = .ok (.putfield 44, 3) := by decide +kernel
theorem dX3_issue_53 : decode cX3_issue 53 = .ok (.aload_n 0, 1) := by decide +kernel
theorem dX3_issue_54 : decode cX3_issue 54 = .ok (.getfield 44, 3) := by decide +kernel
theorem dX3_issue_57 : decode cX3_issue 57 = .ok (.ifCond .ne 13, 3) := by decide +kernel
theorem dX3_issue_60 : decode cX3_issue 60 = .ok (.aload_n 0, 1) := by decide +kernel
theorem dX3_issue_61 : decode cX3_issue 61 = .ok (.iload_n 1, 1) := by decide +kernel
theorem dX3_issue_62 : decode cX3_issue 62 = .ok (.iload_n 2, 1) := by decide +kernel
theorem dX3_issue_63 : decode cX3_issue 63 = .ok (.iload_n 3, 1) := by decide +kernel
theorem dX3_issue_64 : decode cX3_issue 64 = .ok (.invokevirtual 151, 3) := by decide +kernel
theorem dX3_issue_67 : decode cX3_issue 67 = .ok (.goto 4, 3) := by decide +kernel
theorem dX3_issue_70 : decode cX3_issue 70 = .ok (.iconst 0, 1) := by decide +kernel
theorem dX3_issue_71 : decode cX3_issue 71 = .ok (.ireturn, 1) := by decide +kernel
set_option maxRecDepth 20000 in
theorem ggX3_prologue_X3_has : GoodIn wsX3_prologue wsX3_has := goodIn_r _ [6, 1, 7, 26, 27, 28, 29, 30, 31, 32, 33, 34, 35, 36, 37, 38, 39, 40, 41] (by decide +kernel) (by decide +kernel)
set_option maxRecDepth 20000 in
theorem gX3_prologue_X3_has : GoodIn wsX3_prologue (wsV RX3 114 RX3 yX3_has wsX3_has) := goodIn_app (goodIn_of _ (by decide +kernel)) ggX3_prologue_X3_has
set_option maxRecDepth 20000 in
theorem ggX3_prologue_X3_stageCount : GoodIn wsX3_prologue wsX3_stageCount := goodIn_r _ [11, 12, 1, 13, 14, 15, 5, 16, 17, 18, 19, 20, 21, 26, 27, 28, 29, 30, 31, 32, 33, 34, 35, 36, 37, 38, 39, 40, 41] (by decide +kernel) (by decide +kernel)
set_option maxRecDepth 20000 in
theorem gX3_prologue_X3_stageCount : GoodIn wsX3_prologue (wsV RX3 130 RX3 yX3_stageCount wsX3_stageCount) := goodIn_app (goodIn_of _ (by decide +kernel)) ggX3_prologue_X3_stageCount
set_option maxRecDepth 20000 in
theorem ggX3_prologue_X3_issuedIn : GoodIn wsX3_prologue wsX3_issuedIn := goodIn_r _ [25, 12, 17, 1, 26, 27, 28, 29, 30, 31, 32, 33, 34, 35, 36, 37, 38, 39, 40, 41] (by decide +kernel) (by decide +kernel)
set_option maxRecDepth 20000 in
theorem gX3_prologue_X3_issuedIn : GoodIn wsX3_prologue (wsV RX3 148 RX3 yX3_issuedIn wsX3_issuedIn) := goodIn_app (goodIn_of _ (by decide +kernel)) ggX3_prologue_X3_issuedIn
theorem dX3_prologue_0 : decode cX3_prologue 0 = .ok (.aload_n 0, 1) := by decide +kernel
theorem dX3_prologue_1 : decode cX3_prologue 1 = .ok (.invokevirtual 114, 3) := by decide +kernel
theorem dX3_prologue_4 : decode cX3_prologue 4 = .ok (.ifCond .ne 5, 3) := by decide +kernel
theorem dX3_prologue_7 : decode cX3_prologue 7 = .ok (.iconst 0, 1) := by decide +kernel
theorem dX3_prologue_8 : decode cX3_prologue 8 = .ok (.ireturn, 1) := by decide +kernel
theorem dX3_prologue_9 : decode cX3_prologue 9 = .ok (.iconst 0, 1) := by decide +kernel
theorem dX3_prologue_10 : decode cX3_prologue 10 = .ok (.istore_n 1, 1) := by decide +kernel
theorem dX3_prologue_11 : decode cX3_prologue 11 = .ok (.iconst 0, 1) := by decide +kernel
theorem dX3_prologue_12 : decode cX3_prologue 12 = .ok (.istore_n 2, 1) := by decide +kernel
theorem dX3_prologue_13 : decode cX3_prologue 13 = .ok (.iload_n 2, 1) := by decide +kernel
theorem dX3_prologue_14 : decode cX3_prologue 14 = .ok (.aload_n 0, 1) := by decide +kernel
theorem dX3_prologue_15 : decode cX3_prologue 15 = .ok (.invokevirtual 130, 3) := by decide +kernel
theorem dX3_prologue_18 : decode cX3_prologue 18 = .ok (.iconst 1, 1) := by decide +kernel
theorem dX3_prologue_19 : decode cX3_prologue 19 = .ok (.isub, 1) := by decide +kernel
theorem dX3_prologue_20 : decode cX3_prologue 20 = .ok (.aload_n 0, 1) := by decide +kernel
theorem dX3_prologue_21 : decode cX3_prologue 21 = .ok (.getfield 59, 3) := by decide +kernel
theorem dX3_prologue_24 : decode cX3_prologue 24 = .ok (.imul, 1) := by decide +kernel
theorem dX3_prologue_25 : decode cX3_prologue 25 = .ok (.if_icmp .ge 20, 3) := by decide +kernel
theorem dX3_prologue_28 : decode cX3_prologue 28 = .ok (.iload_n 1, 1) := by decide +kernel
theorem dX3_prologue_29 : decode cX3_prologue 29 = .ok (.aload_n 0, 1) := by decide +kernel
theorem dX3_prologue_30 : decode cX3_prologue 30 = .ok (.sipush 1000, 3) := by decide +kernel
theorem dX3_prologue_33 : decode cX3_prologue 33 = .ok (.iload_n 2, 1) := by decide +kernel
theorem dX3_prologue_34 : decode cX3_prologue 34 = .ok (.invokevirtual 148, 3) := by decide +kernel
theorem dX3_prologue_37 : decode cX3_prologue 37 = .ok (.iadd, 1) := by decide +kernel
theorem dX3_prologue_38 : decode cX3_prologue 38 = .ok (.istore_n 1, 1) := by decide +kernel
theorem dX3_prologue_39 : decode cX3_prologue 39 = .ok (.iinc 2 1, 3) := by decide +kernel
theorem dX3_prologue_42 : decode cX3_prologue 42 = .ok (.goto (-29), 3) := by decide +kernel
theorem dX3_prologue_45 : decode cX3_prologue 45 = .ok (.iload_n 1, 1) := by decide +kernel
theorem dX3_prologue_46 : decode cX3_prologue 46 = .ok (.ireturn, 1) := by decide +kernel
set_option maxRecDepth 20000 in
theorem ggX3_epilogue_X3_has : GoodIn wsX3_epilogue wsX3_has := goodIn_r _ [10, 1, 11, 26, 27, 28, 29, 30, 31, 32, 33, 34, 35, 36, 37, 38, 39, 40, 41] (by decide +kernel) (by decide +kernel)
set_option maxRecDepth 20000 in
theorem gX3_epilogue_X3_has : GoodIn wsX3_epilogue (wsV RX3 114 RX3 yX3_has wsX3_has) := goodIn_app (goodIn_of _ (by decide +kernel)) ggX3_epilogue_X3_has
set_option maxRecDepth 20000 in
theorem ggX3_epilogue_X3_latest : GoodIn wsX3_epilogue wsX3_latest := goodIn_r _ [15, 16, 17, 2, 3, 4, 5, 26, 27, 28, 29, 30, 31, 32, 33, 34, 35, 36, 37, 38, 39, 40, 41] (by decide +kernel) (by decide +kernel)
set_option maxRecDepth 20000 in
theorem gX3_epilogue_X3_latest : GoodIn wsX3_epilogue (wsV RX3 127 RX3 yX3_latest wsX3_latest) := goodIn_app (goodIn_of _ (by decide +kernel)) ggX3_epilogue_X3_latest
set_option maxRecDepth 20000 in
theorem ggX3_epilogue_X3_stageCount : GoodIn wsX3_epilogue wsX3_stageCount := goodIn_r _ [21, 16, 1, 12, 13, 14, 9, 15, 17, 2, 3, 4, 5, 26, 27, 28, 29, 30, 31, 32, 33, 34, 35, 36, 37, 38, 39, 40, 41] (by decide +kernel) (by decide +kernel)
set_option maxRecDepth 20000 in
theorem gX3_epilogue_X3_stageCount : GoodIn wsX3_epilogue (wsV RX3 130 RX3 yX3_stageCount wsX3_stageCount) := goodIn_app (goodIn_of _ (by decide +kernel)) ggX3_epilogue_X3_stageCount
set_option maxRecDepth 20000 in
theorem ggX3_epilogue_X3_issuedIn : GoodIn wsX3_epilogue wsX3_issuedIn := goodIn_r _ [25, 16, 17, 1, 26, 27, 28, 29, 30, 31, 32, 33, 34, 35, 36, 37, 38, 39, 40, 41] (by decide +kernel) (by decide +kernel)
set_option maxRecDepth 20000 in
theorem gX3_epilogue_X3_issuedIn : GoodIn wsX3_epilogue (wsV RX3 148 RX3 yX3_issuedIn wsX3_issuedIn) := goodIn_app (goodIn_of _ (by decide +kernel)) ggX3_epilogue_X3_issuedIn
theorem dX3_epilogue_0 : decode cX3_epilogue 0 = .ok (.aload_n 0, 1) := by decide +kernel
theorem dX3_epilogue_1 : decode cX3_epilogue 1 = .ok (.invokevirtual 114, 3) := by decide +kernel
theorem dX3_epilogue_4 : decode cX3_epilogue 4 = .ok (.ifCond .ne 5, 3) := by decide +kernel
theorem dX3_epilogue_7 : decode cX3_epilogue 7 = .ok (.iconst 0, 1) := by decide +kernel
theorem dX3_epilogue_8 : decode cX3_epilogue 8 = .ok (.ireturn, 1) := by decide +kernel
theorem dX3_epilogue_9 : decode cX3_epilogue 9 = .ok (.iconst 0, 1) := by decide +kernel
theorem dX3_epilogue_10 : decode cX3_epilogue 10 = .ok (.istore_n 1, 1) := by decide +kernel
theorem dX3_epilogue_11 : decode cX3_epilogue 11 = .ok (.aload_n 0, 1) := by decide +kernel
theorem dX3_epilogue_12 : decode cX3_epilogue 12 = .ok (.invokevirtual 127, 3) := by decide +kernel
theorem dX3_epilogue_15 : decode cX3_epilogue 15 = .ok (.aload_n 0, 1) := by decide +kernel
theorem dX3_epilogue_16 : decode cX3_epilogue 16 = .ok (.invokevirtual 130, 3) := by decide +kernel
theorem dX3_epilogue_19 : decode cX3_epilogue 19 = .ok (.aload_n 0, 1) := by decide +kernel
theorem dX3_epilogue_20 : decode cX3_epilogue 20 = .ok (.getfield 59, 3) := by decide +kernel
theorem dX3_epilogue_23 : decode cX3_epilogue 23 = .ok (.imul, 1) := by decide +kernel
theorem dX3_epilogue_24 : decode cX3_epilogue 24 = .ok (.iadd, 1) := by decide +kernel
theorem dX3_epilogue_25 : decode cX3_epilogue 25 = .ok (.istore_n 2, 1) := by decide +kernel
theorem dX3_epilogue_26 : decode cX3_epilogue 26 = .ok (.aload_n 0, 1) := by decide +kernel
theorem dX3_epilogue_27 : decode cX3_epilogue 27 = .ok (.invokevirtual 130, 3) := by decide +kernel
theorem dX3_epilogue_30 : decode cX3_epilogue 30 = .ok (.aload_n 0, 1) := by decide +kernel
theorem dX3_epilogue_31 : decode cX3_epilogue 31 = .ok (.getfield 59, 3) := by decide +kernel
theorem dX3_epilogue_34 : decode cX3_epilogue 34 = .ok (.imul, 1) := by decide +kernel
theorem dX3_epilogue_35 : decode cX3_epilogue 35 = .ok (.istore_n 3, 1) := by decide +kernel
theorem dX3_epilogue_36 : decode cX3_epilogue 36 = .ok (.iload_n 3, 1) := by decide +kernel
theorem dX3_epilogue_37 : decode cX3_epilogue 37 = .ok (.iload_n 2, 1) := by decide +kernel
theorem dX3_epilogue_38 : decode cX3_epilogue 38 = .ok (.if_icmp .gt 25, 3) := by decide +kernel
theorem dX3_epilogue_41 : decode cX3_epilogue 41 = .ok (.iload_n 1, 1) := by decide +kernel
theorem dX3_epilogue_42 : decode cX3_epilogue 42 = .ok (.aload_n 0, 1) := by decide +kernel
theorem dX3_epilogue_43 : decode cX3_epilogue 43 = .ok (.aload_n 0, 1) := by decide +kernel
theorem dX3_epilogue_44 : decode cX3_epilogue 44 = .ok (.invokevirtual 130, 3) := by decide +kernel
theorem dX3_epilogue_47 : decode cX3_epilogue 47 = .ok (.iconst 1, 1) := by decide +kernel
theorem dX3_epilogue_48 : decode cX3_epilogue 48 = .ok (.invokestatic 97, 3) := by decide +kernel
theorem dX3_epilogue_51 : decode cX3_epilogue 51 = .ok (.iload_n 3, 1) := by decide +kernel
theorem dX3_epilogue_52 : decode cX3_epilogue 52 = .ok (.invokevirtual 148, 3) := by decide +kernel
theorem dX3_epilogue_55 : decode cX3_epilogue 55 = .ok (.iadd, 1) := by decide +kernel
theorem dX3_epilogue_56 : decode cX3_epilogue 56 = .ok (.istore_n 1, 1) := by decide +kernel
theorem dX3_epilogue_57 : decode cX3_epilogue 57 = .ok (.iinc 3 1, 3) := by decide +kernel
theorem dX3_epilogue_60 : decode cX3_epilogue 60 = .ok (.goto (-24), 3) := by decide +kernel
theorem dX3_epilogue_63 : decode cX3_epilogue 63 = .ok (.iload_n 1, 1) := by decide +kernel
theorem dX3_epilogue_64 : decode cX3_epilogue 64 = .ok (.ireturn, 1) := by decide +kernel
theorem dX3_digest_0 : decode cX3_digest 0 = .ok (.aload_n 0, 1) := by decide +kernel
theorem dX3_digest_1 : decode cX3_digest 1 = .ok (.iconst 0, 1) := by decide +kernel
theorem dX3_digest_2 : decode cX3_digest 2 = .ok (.putfield 44, 3) := by decide +kernel
theorem dX3_digest_5 : decode cX3_digest 5 = .ok (.ldc2_w 154, 3) := by decide +kernel
theorem dX3_digest_8 : decode cX3_digest 8 = .ok (.lstore_n 1, 1) := by decide +kernel
theorem dX3_digest_9 : decode cX3_digest 9 = .ok (.iconst 0, 1) := by decide +kernel
theorem dX3_digest_10 : decode cX3_digest 10 = .ok (.istore_n 3, 1) := by decide +kernel
theorem dX3_digest_11 : decode cX3_digest 11 = .ok (.iload_n 3, 1) := by decide +kernel
theorem dX3_digest_12 : decode cX3_digest 12 = .ok (.iconst 3, 1) := by decide +kernel
theorem dX3_digest_13 : decode cX3_digest 13 = .ok (.if_icmp .ge 23, 3) := by decide +kernel
theorem dX3_digest_16 : decode cX3_digest 16 = .ok (.lload_n 1, 1) := by decide +kernel
theorem dX3_digest_17 : decode cX3_digest 17 = .ok (.ldc2_w 156, 3) := by decide +kernel
theorem dX3_digest_20 : decode cX3_digest 20 = .ok (.lmul, 1) := by decide +kernel
theorem dX3_digest_21 : decode cX3_digest 21 = .ok (.aload_n 0, 1) := by decide +kernel
theorem dX3_digest_22 : decode cX3_digest 22 = .ok (.getfield 7, 3) := by decide +kernel
theorem dX3_digest_25 : decode cX3_digest 25 = .ok (.iload_n 3, 1) := by decide +kernel
theorem dX3_digest_26 : decode cX3_digest 26 = .ok (.iaload, 1) := by decide +kernel
theorem dX3_digest_27 : decode cX3_digest 27 = .ok (.i2l, 1) := by decide +kernel
theorem dX3_digest_28 : decode cX3_digest 28 = .ok (.ladd, 1) := by decide +kernel
theorem dX3_digest_29 : decode cX3_digest 29 = .ok (.lstore_n 1, 1) := by decide +kernel
theorem dX3_digest_30 : decode cX3_digest 30 = .ok (.iinc 3 1, 3) := by decide +kernel
theorem dX3_digest_33 : decode cX3_digest 33 = .ok (.goto (-22), 3) := by decide +kernel
theorem dX3_digest_36 : decode cX3_digest 36 = .ok (.lload_n 1, 1) := by decide +kernel
theorem dX3_digest_37 : decode cX3_digest 37 = .ok (.ldc2_w 156, 3) := by decide +kernel
theorem dX3_digest_40 : decode cX3_digest 40 = .ok (.lmul, 1) := by decide +kernel
theorem dX3_digest_41 : decode cX3_digest 41 = .ok (.aload_n 0, 1) := by decide +kernel
theorem dX3_digest_42 : decode cX3_digest 42 = .ok (.getfield 48, 3) := by decide +kernel
theorem dX3_digest_45 : decode cX3_digest 45 = .ok (.i2l, 1) := by decide +kernel
theorem dX3_digest_46 : decode cX3_digest 46 = .ok (.ladd, 1) := by decide +kernel
theorem dX3_digest_47 : decode cX3_digest 47 = .ok (.lstore_n 1, 1) := by decide +kernel
theorem dX3_digest_48 : decode cX3_digest 48 = .ok (.iconst 0, 1) := by decide +kernel
theorem dX3_digest_49 : decode cX3_digest 49 = .ok (.istore_n 3, 1) := by decide +kernel
theorem dX3_digest_50 : decode cX3_digest 50 = .ok (.iload_n 3, 1) := by decide +kernel
theorem dX3_digest_51 : decode cX3_digest 51 = .ok (.aload_n 0, 1) := by decide +kernel
theorem dX3_digest_52 : decode cX3_digest 52 = .ok (.getfield 48, 3) := by decide +kernel
theorem dX3_digest_55 : decode cX3_digest 55 = .ok (.if_icmp .ge 35, 3) := by decide +kernel
theorem dX3_digest_58 : decode cX3_digest 58 = .ok (.lload_n 1, 1) := by decide +kernel
theorem dX3_digest_59 : decode cX3_digest 59 = .ok (.ldc2_w 156, 3) := by decide +kernel
theorem dX3_digest_62 : decode cX3_digest 62 = .ok (.lmul, 1) := by decide +kernel
theorem dX3_digest_63 : decode cX3_digest 63 = .ok (.aload_n 0, 1) := by decide +kernel
theorem dX3_digest_64 : decode cX3_digest 64 = .ok (.getfield 13, 3) := by decide +kernel
theorem dX3_digest_67 : decode cX3_digest 67 = .ok (.iload_n 3, 1) := by decide +kernel
theorem dX3_digest_68 : decode cX3_digest 68 = .ok (.iaload, 1) := by decide +kernel
theorem dX3_digest_69 : decode cX3_digest 69 = .ok (.i2l, 1) := by decide +kernel
theorem dX3_digest_70 : decode cX3_digest 70 = .ok (.ladd, 1) := by decide +kernel
theorem dX3_digest_71 : decode cX3_digest 71 = .ok (.ldc2_w 156, 3) := by decide +kernel
theorem dX3_digest_74 : decode cX3_digest 74 = .ok (.lmul, 1) := by decide +kernel
theorem dX3_digest_75 : decode cX3_digest 75 = .ok (.aload_n 0, 1) := by decide +kernel
theorem dX3_digest_76 : decode cX3_digest 76 = .ok (.getfield 16, 3) := by decide +kernel
theorem dX3_digest_79 : decode cX3_digest 79 = .ok (.iload_n 3, 1) := by decide +kernel
theorem dX3_digest_80 : decode cX3_digest 80 = .ok (.iaload, 1) := by decide +kernel
theorem dX3_digest_81 : decode cX3_digest 81 = .ok (.i2l, 1) := by decide +kernel
theorem dX3_digest_82 : decode cX3_digest 82 = .ok (.ladd, 1) := by decide +kernel
theorem dX3_digest_83 : decode cX3_digest 83 = .ok (.lstore_n 1, 1) := by decide +kernel
theorem dX3_digest_84 : decode cX3_digest 84 = .ok (.iinc 3 1, 3) := by decide +kernel
theorem dX3_digest_87 : decode cX3_digest 87 = .ok (.goto (-37), 3) := by decide +kernel
theorem dX3_digest_90 : decode cX3_digest 90 = .ok (.lload_n 1, 1) := by decide +kernel
theorem dX3_digest_91 : decode cX3_digest 91 = .ok (.ldc2_w 156, 3) := by decide +kernel
theorem dX3_digest_94 : decode cX3_digest 94 = .ok (.lmul, 1) := by decide +kernel
theorem dX3_digest_95 : decode cX3_digest 95 = .ok (.aload_n 0, 1) := by decide +kernel
theorem dX3_digest_96 : decode cX3_digest 96 = .ok (.getfield 66, 3) := by decide +kernel
theorem dX3_digest_99 : decode cX3_digest 99 = .ok (.i2l, 1) := by decide +kernel
theorem dX3_digest_100 : decode cX3_digest 100 = .ok (.ladd, 1) := by decide +kernel
theorem dX3_digest_101 : decode cX3_digest 101 = .ok (.lstore_n 1, 1) := by decide +kernel
theorem dX3_digest_102 : decode cX3_digest 102 = .ok (.iconst 0, 1) := by decide +kernel
theorem dX3_digest_103 : decode cX3_digest 103 = .ok (.istore_n 3, 1) := by decide +kernel
theorem dX3_digest_104 : decode cX3_digest 104 = .ok (.iload_n 3, 1) := by decide +kernel
theorem dX3_digest_105 : decode cX3_digest 105 = .ok (.aload_n 0, 1) := by decide +kernel
theorem dX3_digest_106 : decode cX3_digest 106 = .ok (.getfield 66, 3) := by decide +kernel
theorem dX3_digest_109 : decode cX3_digest 109 = .ok (.if_icmp .ge 59, 3) := by decide +kernel
theorem dX3_digest_112 : decode cX3_digest 112 = .ok (.lload_n 1, 1) := by decide +kernel
theorem dX3_digest_113 : decode cX3_digest 113 = .ok (.ldc2_w 156, 3) := by decide +kernel
theorem dX3_digest_116 : decode cX3_digest 116 = .ok (.lmul, 1) := by decide +kernel
theorem dX3_digest_117 : decode cX3_digest 117 = .ok (.aload_n 0, 1) := by decide +kernel
theorem dX3_digest_118 : decode cX3_digest 118 = .ok (.getfield 19, 3) := by decide +kernel
theorem dX3_digest_121 : decode cX3_digest 121 = .ok (.iload_n 3, 1) := by decide +kernel
theorem dX3_digest_122 : decode cX3_digest 122 = .ok (.iaload, 1) := by decide +kernel
theorem dX3_digest_123 : decode cX3_digest 123 = .ok (.i2l, 1) := by decide +kernel
theorem dX3_digest_124 : decode cX3_digest 124 = .ok (.ladd, 1) := by decide +kernel
theorem dX3_digest_125 : decode cX3_digest 125 = .ok (.ldc2_w 156, 3) := by decide +kernel
theorem dX3_digest_128 : decode cX3_digest 128 = .ok (.lmul, 1) := by decide +kernel
theorem dX3_digest_129 : decode cX3_digest 129 = .ok (.aload_n 0, 1) := by decide +kernel
theorem dX3_digest_130 : decode cX3_digest 130 = .ok (.getfield 22, 3) := by decide +kernel
theorem dX3_digest_133 : decode cX3_digest 133 = .ok (.iload_n 3, 1) := by decide +kernel
theorem dX3_digest_134 : decode cX3_digest 134 = .ok (.iaload, 1) := by decide +kernel
theorem dX3_digest_135 : decode cX3_digest 135 = .ok (.i2l, 1) := by decide +kernel
theorem dX3_digest_136 : decode cX3_digest 136 = .ok (.ladd, 1) := by decide +kernel
theorem dX3_digest_137 : decode cX3_digest 137 = .ok (.ldc2_w 156, 3) := by decide +kernel
theorem dX3_digest_140 : decode cX3_digest 140 = .ok (.lmul, 1) := by decide +kernel
theorem dX3_digest_141 : decode cX3_digest 141 = .ok (.aload_n 0, 1) := by decide +kernel
theorem dX3_digest_142 : decode cX3_digest 142 = .ok (.getfield 25, 3) := by decide +kernel
theorem dX3_digest_145 : decode cX3_digest 145 = .ok (.iload_n 3, 1) := by decide +kernel
theorem dX3_digest_146 : decode cX3_digest 146 = .ok (.iaload, 1) := by decide +kernel
theorem dX3_digest_147 : decode cX3_digest 147 = .ok (.i2l, 1) := by decide +kernel
theorem dX3_digest_148 : decode cX3_digest 148 = .ok (.ladd, 1) := by decide +kernel
theorem dX3_digest_149 : decode cX3_digest 149 = .ok (.ldc2_w 156, 3) := by decide +kernel
theorem dX3_digest_152 : decode cX3_digest 152 = .ok (.lmul, 1) := by decide +kernel
theorem dX3_digest_153 : decode cX3_digest 153 = .ok (.aload_n 0, 1) := by decide +kernel
theorem dX3_digest_154 : decode cX3_digest 154 = .ok (.getfield 28, 3) := by decide +kernel
theorem dX3_digest_157 : decode cX3_digest 157 = .ok (.iload_n 3, 1) := by decide +kernel
theorem dX3_digest_158 : decode cX3_digest 158 = .ok (.iaload, 1) := by decide +kernel
theorem dX3_digest_159 : decode cX3_digest 159 = .ok (.i2l, 1) := by decide +kernel
theorem dX3_digest_160 : decode cX3_digest 160 = .ok (.ladd, 1) := by decide +kernel
theorem dX3_digest_161 : decode cX3_digest 161 = .ok (.lstore_n 1, 1) := by decide +kernel
theorem dX3_digest_162 : decode cX3_digest 162 = .ok (.iinc 3 1, 3) := by decide +kernel
theorem dX3_digest_165 : decode cX3_digest 165 = .ok (.goto (-61), 3) := by decide +kernel
theorem dX3_digest_168 : decode cX3_digest 168 = .ok (.lload_n 1, 1) := by decide +kernel
theorem dX3_digest_169 : decode cX3_digest 169 = .ok (.ldc2_w 156, 3) := by decide +kernel
theorem dX3_digest_172 : decode cX3_digest 172 = .ok (.lmul, 1) := by decide +kernel
theorem dX3_digest_173 : decode cX3_digest 173 = .ok (.aload_n 0, 1) := by decide +kernel
theorem dX3_digest_174 : decode cX3_digest 174 = .ok (.getfield 59, 3) := by decide +kernel
theorem dX3_digest_177 : decode cX3_digest 177 = .ok (.i2l, 1) := by decide +kernel
theorem dX3_digest_178 : decode cX3_digest 178 = .ok (.ladd, 1) := by decide +kernel
theorem dX3_digest_179 : decode cX3_digest 179 = .ok (.lstore_n 1, 1) := by decide +kernel
theorem dX3_digest_180 : decode cX3_digest 180 = .ok (.iconst 0, 1) := by decide +kernel
theorem dX3_digest_181 : decode cX3_digest 181 = .ok (.istore_n 3, 1) := by decide +kernel
theorem dX3_digest_182 : decode cX3_digest 182 = .ok (.iload_n 3, 1) := by decide +kernel
theorem dX3_digest_183 : decode cX3_digest 183 = .ok (.aload_n 0, 1) := by decide +kernel
theorem dX3_digest_184 : decode cX3_digest 184 = .ok (.getfield 48, 3) := by decide +kernel
theorem dX3_digest_187 : decode cX3_digest 187 = .ok (.if_icmp .ge 30, 3) := by decide +kernel
theorem dX3_digest_190 : decode cX3_digest 190 = .ok (.aload_n 0, 1) := by decide +kernel
theorem dX3_digest_191 : decode cX3_digest 191 = .ok (.getfield 59, 3) := by decide +kernel
theorem dX3_digest_194 : decode cX3_digest 194 = .ok (.ifCond .le 23, 3) := by decide +kernel
theorem dX3_digest_197 : decode cX3_digest 197 = .ok (.lload_n 1, 1) := by decide +kernel
theorem dX3_digest_198 : decode cX3_digest 198 = .ok (.ldc2_w 156, 3) := by decide +kernel
theorem dX3_digest_201 : decode cX3_digest 201 = .ok (.lmul, 1) := by decide +kernel
theorem dX3_digest_202 : decode cX3_digest 202 = .ok (.aload_n 0, 1) := by decide +kernel
theorem dX3_digest_203 : decode cX3_digest 203 = .ok (.getfield 31, 3) := by decide +kernel
theorem dX3_digest_206 : decode cX3_digest 206 = .ok (.iload_n 3, 1) := by decide +kernel
theorem dX3_digest_207 : decode cX3_digest 207 = .ok (.iaload, 1) := by decide +kernel
theorem dX3_digest_208 : decode cX3_digest 208 = .ok (.i2l, 1) := by decide +kernel
theorem dX3_digest_209 : decode cX3_digest 209 = .ok (.ladd, 1) := by decide +kernel
theorem dX3_digest_210 : decode cX3_digest 210 = .ok (.lstore_n 1, 1) := by decide +kernel
theorem dX3_digest_211 : decode cX3_digest 211 = .ok (.iinc 3 1, 3) := by decide +kernel
theorem dX3_digest_214 : decode cX3_digest 214 = .ok (.goto (-32), 3) := by decide +kernel
theorem dX3_digest_217 : decode cX3_digest 217 = .ok (.lload_n 1, 1) := by decide +kernel
theorem dX3_digest_218 : decode cX3_digest 218 = .ok (.lreturn, 1) := by decide +kernel
