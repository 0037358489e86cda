theorem dX0_init_0 : decode cX0_init 0 = .ok (.aload_n 0, 1) := by decide +kernel
theorem dX0_init_1 : decode cX0_init 1 = .ok (.invokespecial 3, 3) := by decide +kernel
theorem dX0_init_4 : decode cX0_init 4 = .ok (.aload_n 0, 1) := by decide +kernel
theorem dX0_init_5 : decode cX0_init 5 = .ok (.bipush 6, 2) := by decide +kernel
theorem dX0_init_7 : decode cX0_init 7 = .ok (.newarray .int, 2) := by decide +kernel
theorem dX0_init_9 : decode cX0_init 9 = .ok (.putfield 9, 3) := by decide +kernel
theorem dX0_init_12 : decode cX0_init 12 = .ok (.aload_n 0, 1) := by decide +kernel
theorem dX0_init_13 : decode cX0_init 13 = .ok (.bipush 20, 2) := by decide +kernel
theorem dX0_init_15 : decode cX0_init 15 = .ok (.newarray .int, 2) := by decide +kernel
theorem dX0_init_17 : decode cX0_init 17 = .ok (.putfield 15, 3) := by decide +kernel
theorem dX0_init_20 : decode cX0_init 20 = .ok (.aload_n 0, 1) := by decide +kernel
theorem dX0_init_21 : decode cX0_init 21 = .ok (.bipush 20, 2) := by decide +kernel
theorem dX0_init_23 : decode cX0_init 23 = .ok (.newarray .int, 2) := by decide +kernel
theorem dX0_init_25 : decode cX0_init 25 = .ok (.putfield 18, 3) := by decide +kernel
theorem dX0_init_28 : decode cX0_init 28 = .ok (.aload_n 0, 1) := by decide +kernel
theorem dX0_init_29 : decode cX0_init 29 = .ok (.bipush 20, 2) := by decide +kernel
theorem dX0_init_31 : decode cX0_init 31 = .ok (.newarray .int, 2) := by decide +kernel
theorem dX0_init_33 : decode cX0_init 33 = .ok (.putfield 21, 3) := by decide +kernel
theorem dX0_init_36 : decode cX0_init 36 = .ok (.aload_n 0, 1) := by decide +kernel
theorem dX0_init_37 : decode cX0_init 37 = .ok (.bipush 20, 2) := by decide +kernel
theorem dX0_init_39 : decode cX0_init 39 = .ok (.newarray .int, 2) := by decide +kernel
theorem dX0_init_41 : decode cX0_init 41 = .ok (.putfield 24, 3) := by decide +kernel
theorem dX0_init_44 : decode cX0_init 44 = .ok (.aload_n 0, 1) := by decide +kernel
theorem dX0_init_45 : decode cX0_init 45 = .ok (.bipush 20, 2) := by decide +kernel
theorem dX0_init_47 : decode cX0_init 47 = .ok (.newarray .int, 2) := by decide +kernel
theorem dX0_init_49 : decode cX0_init 49 = .ok (.putfield 27, 3) := by decide +kernel
theorem dX0_init_52 : decode cX0_init 52 = .ok (.aload_n 0, 1) := by decide +kernel
theorem dX0_init_53 : decode cX0_init 53 = .ok (.bipush 20, 2) := by decide +kernel
theorem dX0_init_55 : decode cX0_init 55 = .ok (.newarray .int, 2) := by decide +kernel
theorem dX0_init_57 : decode cX0_init 57 = .ok (.putfield 30, 3) := by decide +kernel
theorem dX0_init_60 : decode cX0_init 60 = .ok (.aload_n 0, 1) := by decide +kernel
theorem dX0_init_61 : decode cX0_init 61 = .ok (.bipush 40, 2) := by decide +kernel
theorem dX0_init_63 : decode cX0_init 63 = .ok (.newarray .int, 2) := by decide +kernel
theorem dX0_init_65 : decode cX0_init 65 = .ok (.putfield 33, 3) := by decide +kernel
theorem dX0_init_68 : decode cX0_init 68 = .ok (.aload_n 0, 1) := by decide +kernel
theorem dX0_init_69 : decode cX0_init 69 = .ok (.bipush 10, 2) := by decide +kernel
theorem dX0_init_71 : decode cX0_init 71 = .ok (.newarray .int, 2) := by decide +kernel
theorem dX0_init_73 : decode cX0_init 73 = .ok (.putfield 36, 3) := by decide +kernel
theorem dX0_init_76 : decode cX0_init 76 = .ok (.return_, 1) := by decide +kernel
set_option maxRecDepth 20000 in
theorem ggX0_lay_X5_copyRow : GoodIn wsX0_lay wsX5_copyRow := goodIn_r _ [12] (by decide +kernel) (by decide +kernel)
set_option maxRecDepth 20000 in
theorem gX0_lay_X5_copyRow_n42 : GoodIn wsX0_lay (wsX5_copyRow) := ggX0_lay_X5_copyRow
set_option maxRecDepth 20000 in
theorem ggX0_lay_X5_store : GoodIn wsX0_lay wsX5_store := goodIn_r _ [14] (by decide +kernel) (by decide +kernel)
set_option maxRecDepth 20000 in
theorem gX0_lay_X5_store_n46 : GoodIn wsX0_lay (wsX5_store) := ggX0_lay_X5_store
set_option maxRecDepth 20000 in
theorem ggX0_lay_X5_valueAt : GoodIn wsX0_lay wsX5_valueAt := goodIn_r _ [16] (by decide +kernel) (by decide +kernel)
set_option maxRecDepth 20000 in
theorem gX0_lay_X5_valueAt_n50 : GoodIn wsX0_lay (wsX5_valueAt) := ggX0_lay_X5_valueAt
set_option maxRecDepth 20000 in
theorem ggX0_lay_X0_brushEdges : GoodIn wsX0_lay wsX0_brushEdges := goodIn_r _ [21, 22, 23, 11, 24, 25, 26, 27, 98, 99, 100, 101, 102, 103, 104, 105, 106, 107, 108, 109, 110, 111, 112, 113, 114] (by decide +kernel) (by decide +kernel)
set_option maxRecDepth 20000 in
theorem gX0_lay_X0_brushEdges : GoodIn wsX0_lay (wsV RX0 67 RX0 yX0_brushEdges wsX0_brushEdges) := goodIn_app (goodIn_of _ (by decide +kernel)) ggX0_lay_X0_brushEdges
set_option maxRecDepth 20000 in
theorem ggX0_lay_X0_layItem : GoodIn wsX0_lay wsX0_layItem := goodIn_r _ [31, 9, 32, 1, 33, 34, 35, 36, 37, 38, 39, 40, 41, 42, 43, 44, 15, 11, 16, 45, 46, 47, 20, 48, 49, 22, 50, 51, 52, 53, 54, 55, 56, 57, 58, 59, 60, 61, 62, 63, 7, 5, 8, 64, 65, 66, 67, 2, 3, 68, 69, 70, 71, 72, 73, 74, 75, 76, 77, 78, 79, 4, 80, 81, 82, 83, 13, 14, 84, 85, 86, 87, 88, 89, 90, 91, 92, 98, 99, 100, 101, 102, 103, 104, 105, 106, 107, 108, 109, 110, 111, 112, 113, 114, 93, 94, 95, 96, 97] (by decide +kernel) (by decide +kernel)
set_option maxRecDepth 20000 in
theorem gX0_lay_X0_layItem : GoodIn wsX0_lay (wsV RX0 84 RX0 yX0_layItem wsX0_layItem) := goodIn_app (goodIn_of _ (by decide +kernel)) ggX0_lay_X0_layItem
theorem dX0_lay_0 : decode cX0_lay 0 = .ok (.aload_n 1, 1) := by decide +kernel
theorem dX0_lay_1 : decode cX0_lay 1 = .ok (.getfield 39, 3) := by decide +kernel
theorem dX0_lay_4 : decode cX0_lay 4 = .ok (.aload_n 0, 1) := by decide +kernel
theorem dX0_lay_5 : decode cX0_lay 5 = .ok (.getfield 9, 3) := by decide +kernel
theorem dX0_lay_8 : decode cX0_lay 8 = .ok (.invokestatic 42, 3) := by decide +kernel
theorem dX0_lay_11 : decode cX0_lay 11 = .ok (.aload_n 0, 1) := by decide +kernel
theorem dX0_lay_12 : decode cX0_lay 12 = .ok (.getfield 9, 3) := by decide +kernel
theorem dX0_lay_15 : decode cX0_lay 15 = .ok (.iload_n 2, 1) := by decide +kernel
theorem dX0_lay_16 : decode cX0_lay 16 = .ok (.iload_n 3, 1) := by decide +kernel
theorem dX0_lay_17 : decode cX0_lay 17 = .ok (.invokestatic 46, 3) := by decide +kernel
theorem dX0_lay_20 : decode cX0_lay 20 = .ok (.aload_n 0, 1) := by decide +kernel
theorem dX0_lay_21 : decode cX0_lay 21 = .ok (.aload_n 0, 1) := by decide +kernel
theorem dX0_lay_22 : decode cX0_lay 22 = .ok (.getfield 9, 3) := by decide +kernel
theorem dX0_lay_25 : decode cX0_lay 25 = .ok (.iconst 1, 1) := by decide +kernel
theorem dX0_lay_26 : decode cX0_lay 26 = .ok (.invokestatic 50, 3) := by decide +kernel
theorem dX0_lay_29 : decode cX0_lay 29 = .ok (.putfield 54, 3) := by decide +kernel
theorem dX0_lay_32 : decode cX0_lay 32 = .ok (.aload_n 0, 1) := by decide +kernel
theorem dX0_lay_33 : decode cX0_lay 33 = .ok (.aload_n 0, 1) := by decide +kernel
theorem dX0_lay_34 : decode cX0_lay 34 = .ok (.getfield 9, 3) := by decide +kernel
theorem dX0_lay_37 : decode cX0_lay 37 = .ok (.iconst 3, 1) := by decide +kernel
theorem dX0_lay_38 : decode cX0_lay 38 = .ok (.invokestatic 50, 3) := by decide +kernel
theorem dX0_lay_41 : decode cX0_lay 41 = .ok (.putfield 58, 3) := by decide +kernel
theorem dX0_lay_44 : decode cX0_lay 44 = .ok (.aload_n 0, 1) := by decide +kernel
theorem dX0_lay_45 : decode cX0_lay 45 = .ok (.aload_n 0, 1) := by decide +kernel
theorem dX0_lay_46 : decode cX0_lay 46 = .ok (.getfield 9, 3) := by decide +kernel
theorem dX0_lay_49 : decode cX0_lay 49 = .ok (.iconst 4, 1) := by decide +kernel
theorem dX0_lay_50 : decode cX0_lay 50 = .ok (.invokestatic 50, 3) := by decide +kernel
theorem dX0_lay_53 : decode cX0_lay 53 = .ok (.putfield 61, 3) := by decide +kernel
theorem dX0_lay_56 : decode cX0_lay 56 = .ok (.aload_n 0, 1) := by decide +kernel
theorem dX0_lay_57 : decode cX0_lay 57 = .ok (.aload_n 0, 1) := by decide +kernel
theorem dX0_lay_58 : decode cX0_lay 58 = .ok (.getfield 9, 3) := by decide +kernel
theorem dX0_lay_61 : decode cX0_lay 61 = .ok (.iconst 5, 1) := by decide +kernel
theorem dX0_lay_62 : decode cX0_lay 62 = .ok (.invokestatic 50, 3) := by decide +kernel
theorem dX0_lay_65 : decode cX0_lay 65 = .ok (.putfield 64, 3) := by decide +kernel
theorem dX0_lay_68 : decode cX0_lay 68 = .ok (.aload_n 0, 1) := by decide +kernel
theorem dX0_lay_69 : decode cX0_lay 69 = .ok (.aload_n 0, 1) := by decide +kernel
theorem dX0_lay_70 : decode cX0_lay 70 = .ok (.getfield 9, 3) := by decide +kernel
theorem dX0_lay_73 : decode cX0_lay 73 = .ok (.iconst 0, 1) := by decide +kernel
theorem dX0_lay_74 : decode cX0_lay 74 = .ok (.invokestatic 50, 3) := by decide +kernel
theorem dX0_lay_77 : decode cX0_lay 77 = .ok (.invokevirtual 67, 3) := by decide +kernel
theorem dX0_lay_80 : decode cX0_lay 80 = .ok (.aload_n 0, 1) := by decide +kernel
theorem dX0_lay_81 : decode cX0_lay 81 = .ok (.aload_n 1, 1) := by decide +kernel
theorem dX0_lay_82 : decode cX0_lay 82 = .ok (.getfield 71, 3) := by decide +kernel
theorem dX0_lay_85 : decode cX0_lay 85 = .ok (.putfield 74, 3) := by decide +kernel
theorem dX0_lay_88 : decode cX0_lay 88 = .ok (.aload_n 0, 1) := by decide +kernel
theorem dX0_lay_89 : decode cX0_lay 89 = .ok (.iconst 0, 1) := by decide +kernel
theorem dX0_lay_90 : decode cX0_lay 90 = .ok (.putfield 75, 3) := by decide +kernel
theorem dX0_lay_93 : decode cX0_lay 93 = .ok (.aload_n 0, 1) := by decide +kernel
theorem dX0_lay_94 : decode cX0_lay 94 = .ok (.iconst 0, 1) := by decide +kernel
theorem dX0_lay_95 : decode cX0_lay 95 = .ok (.putfield 78, 3) := by decide +kernel
theorem dX0_lay_98 : decode cX0_lay 98 = .ok (.aload_n 0, 1) := by decide +kernel
theorem dX0_lay_99 : decode cX0_lay 99 = .ok (.iconst 0, 1) := by decide +kernel
theorem dX0_lay_100 : decode cX0_lay 100 = .ok (.putfield 81, 3) := by decide +kernel
theorem dX0_lay_103 : decode cX0_lay 103 = .ok (.iconst 0, 1) := by decide +kernel
theorem dX0_lay_104 : decode cX0_lay 104 = .ok (.istore 4, 2) := by decide +kernel
theorem dX0_lay_106 : decode cX0_lay 106 = .ok (.iload 4, 2) := by decide +kernel
theorem dX0_lay_108 : decode cX0_lay 108 = .ok (.aload_n 0, 1) := by decide +kernel
theorem dX0_lay_109 : decode cX0_lay 109 = .ok (.getfield 74, 3) := by decide +kernel
theorem dX0_lay_112 : decode cX0_lay 112 = .ok (.if_icmp .ge 16, 3) := by decide +kernel
theorem dX0_lay_115 : decode cX0_lay 115 = .ok (.aload_n 0, 1) := by decide +kernel
theorem dX0_lay_116 : decode cX0_lay 116 = .ok (.aload_n 1, 1) := by decide +kernel
theorem dX0_lay_117 : decode cX0_lay 117 = .ok (.iload 4, 2) := by decide +kernel
theorem dX0_lay_119 : decode cX0_lay 119 = .ok (.invokevirtual 84, 3) := by decide +kernel
theorem dX0_lay_122 : decode cX0_lay 122 = .ok (.iinc 4 1, 3) := by decide +kernel
theorem dX0_lay_125 : decode cX0_lay 125 = .ok (.goto (-19), 3) := by decide +kernel
theorem dX0_lay_128 : decode cX0_lay 128 = .ok (.return_, 1) := by decide +kernel
set_option maxRecDepth 20000 in
theorem ggX0_isPair_X5_valueAt : GoodIn wsX0_isPair wsX5_valueAt := goodIn_r _ [5] (by decide +kernel) (by decide +kernel)
set_option maxRecDepth 20000 in
theorem gX0_isPair_X5_valueAt_n50 : GoodIn wsX0_isPair (wsX5_valueAt) := ggX0_isPair_X5_valueAt
theorem dX0_isPair_0 : decode cX0_isPair 0 = .ok (.iload_n 1, 1) := by decide +kernel
theorem dX0_isPair_1 : decode cX0_isPair 1 = .ok (.ifCond .le 27, 3) := by decide +kernel
theorem dX0_isPair_4 : decode cX0_isPair 4 = .ok (.iload_n 1, 1) := by decide +kernel
theorem dX0_isPair_5 : decode cX0_isPair 5 = .ok (.aload_n 0, 1) := by decide +kernel
theorem dX0_isPair_6 : decode cX0_isPair 6 = .ok (.getfield 74, 3) := by decide +kernel
theorem dX0_isPair_9 : decode cX0_isPair 9 = .ok (.if_icmp .ge 19, 3) := by decide +kernel
theorem dX0_isPair_12 : decode cX0_isPair 12 = .ok (.aload_n 0, 1) := by decide +kernel
theorem dX0_isPair_13 : decode cX0_isPair 13 = .ok (.getfield 24, 3) := by decide +kernel
theorem dX0_isPair_16 : decode cX0_isPair 16 = .ok (.iload_n 1, 1) := by decide +kernel
theorem dX0_isPair_17 : decode cX0_isPair 17 = .ok (.invokestatic 50, 3) := by decide +kernel
theorem dX0_isPair_20 : decode cX0_isPair 20 = .ok (.iconst (-1), 1) := by decide +kernel
theorem dX0_isPair_21 : decode cX0_isPair 21 = .ok (.if_icmp .eq 7, 3) := by decide +kernel
theorem dX0_isPair_24 : decode cX0_isPair 24 = .ok (.iconst 1, 1) := by decide +kernel
theorem dX0_isPair_25 : decode cX0_isPair 25 = .ok (.goto 4, 3) := by decide +kernel
theorem dX0_isPair_28 : decode cX0_isPair 28 = .ok (.iconst 0, 1) := by decide +kernel
theorem dX0_isPair_29 : decode cX0_isPair 29 = .ok (.ireturn, 1) := by decide +kernel
set_option maxRecDepth 20000 in
theorem ggX0_isFault_X0_isPair : GoodIn wsX0_isFault wsX0_isPair := goodIn_r _ [7, 8, 9, 10, 11, 12, 13, 14, 15, 16, 17, 18, 19, 20, 21, 22, 23, 24, 25, 26, 27, 28, 29] (by decide +kernel) (by decide +kernel)
set_option maxRecDepth 20000 in
theorem gX0_isFault_X0_isPair : GoodIn wsX0_isFault (wsV RX0 88 RX0 yX0_isPair wsX0_isPair) := goodIn_app (goodIn_of _ (by decide +kernel)) ggX0_isFault_X0_isPair
set_option maxRecDepth 20000 in
theorem ggX0_isFault_X5_valueAt : GoodIn wsX0_isFault wsX5_valueAt := goodIn_r _ [12] (by decide +kernel) (by decide +kernel)
set_option maxRecDepth 20000 in
theorem gX0_isFault_X5_valueAt_n50 : GoodIn wsX0_isFault (wsX5_valueAt) := ggX0_isFault_X5_valueAt
theorem dX0_isFault_0 : decode cX0_isFault 0 = .ok (.aload_n 0, 1) := by decide +kernel
theorem dX0_isFault_1 : decode cX0_isFault 1 = .ok (.iload_n 1, 1) := by decide +kernel
theorem dX0_isFault_2 : decode cX0_isFault 2 = .ok (.invokevirtual 88, 3) := by decide +kernel
theorem dX0_isFault_5 : decode cX0_isFault 5 = .ok (.ifCond .eq 22, 3) := by decide +kernel
theorem dX0_isFault_8 : decode cX0_isFault 8 = .ok (.aload_n 0, 1) := by decide +kernel
theorem dX0_isFault_9 : decode cX0_isFault 9 = .ok (.getfield 30, 3) := by decide +kernel
theorem dX0_isFault_12 : decode cX0_isFault 12 = .ok (.iload_n 1, 1) := by decide +kernel
theorem dX0_isFault_13 : decode cX0_isFault 13 = .ok (.invokestatic 50, 3) := by decide +kernel
theorem dX0_isFault_16 : decode cX0_isFault 16 = .ok (.aload_n 0, 1) := by decide +kernel
theorem dX0_isFault_17 : decode cX0_isFault 17 = .ok (.getfield 64, 3) := by decide +kernel
theorem dX0_isFault_20 : decode cX0_isFault 20 = .ok (.if_icmp .le 7, 3) := by decide +kernel
theorem dX0_isFault_23 : decode cX0_isFault 23 = .ok (.iconst 1, 1) := by decide +kernel
theorem dX0_isFault_24 : decode cX0_isFault 24 = .ok (.goto 4, 3) := by decide +kernel
theorem dX0_isFault_27 : decode cX0_isFault 27 = .ok (.iconst 0, 1) := by decide +kernel
theorem dX0_isFault_28 : decode cX0_isFault 28 = .ok (.ireturn, 1) := by decide +kernel
set_option maxRecDepth 20000 in
theorem ggX0_brushEdges_X5_brushedIndent : GoodIn wsX0_brushEdges wsX5_brushedIndent := goodIn_r _ [4, 5, 6, 3, 7] (by decide +kernel) (by decide +kernel)
set_option maxRecDepth 20000 in
theorem gX0_brushEdges_X5_brushedIndent_n92 : GoodIn wsX0_brushEdges (wsX5_brushedIndent) := ggX0_brushEdges_X5_brushedIndent
theorem dX0_brushEdges_0 : decode cX0_brushEdges 0 = .ok (.iconst 0, 1) := by decide +kernel
theorem dX0_brushEdges_1 : decode cX0_brushEdges 1 = .ok (.istore_n 2, 1) := by decide +kernel
theorem dX0_brushEdges_2 : decode cX0_brushEdges 2 = .ok (.iload_n 2, 1) := by decide +kernel
theorem dX0_brushEdges_3 : decode cX0_brushEdges 3 = .ok (.aload_n 0, 1) := by decide +kernel
theorem dX0_brushEdges_4 : decode cX0_brushEdges 4 = .ok (.getfield 33, 3) := by decide +kernel
theorem dX0_brushEdges_7 : decode cX0_brushEdges 7 = .ok (.arraylength, 1) := by decide +kernel
theorem dX0_brushEdges_8 : decode cX0_brushEdges 8 = .ok (.if_icmp .ge 27, 3) := by decide +kernel
theorem dX0_brushEdges_11 : decode cX0_brushEdges 11 = .ok (.aload_n 0, 1) := by decide +kernel
theorem dX0_brushEdges_12 : decode cX0_brushEdges 12 = .ok (.getfield 33, 3) := by decide +kernel
theorem dX0_brushEdges_15 : decode cX0_brushEdges 15 = .ok (.iload_n 2, 1) := by decide +kernel
theorem dX0_brushEdges_16 : decode cX0_brushEdges 16 = .ok (.iload_n 2, 1) := by decide +kernel
theorem dX0_brushEdges_17 : decode cX0_brushEdges 17 = .ok (.bipush 10, 2) := by decide +kernel
theorem dX0_brushEdges_19 : decode cX0_brushEdges 19 = .ok (.idiv, 1) := by decide +kernel
theorem dX0_brushEdges_20 : decode cX0_brushEdges 20 = .ok (.iload_n 2, 1) := by decide +kernel
theorem dX0_brushEdges_21 : decode cX0_brushEdges 21 = .ok (.bipush 10, 2) := by decide +kernel
theorem dX0_brushEdges_23 : decode cX0_brushEdges 23 = .ok (.irem, 1) := by decide +kernel
theorem dX0_brushEdges_24 : decode cX0_brushEdges 24 = .ok (.iload_n 1, 1) := by decide +kernel
theorem dX0_brushEdges_25 : decode cX0_brushEdges 25 = .ok (.invokestatic 92, 3) := by decide +kernel
theorem dX0_brushEdges_28 : decode cX0_brushEdges 28 = .ok (.iastore, 1) := by decide +kernel
theorem dX0_brushEdges_29 : decode cX0_brushEdges 29 = .ok (.iinc 2 1, 3) := by decide +kernel
theorem dX0_brushEdges_32 : decode cX0_brushEdges 32 = .ok (.goto (-30), 3) := by decide +kernel
theorem dX0_brushEdges_35 : decode cX0_brushEdges 35 = .ok (.return_, 1) := by decide +kernel
set_option maxRecDepth 20000 in
theorem ggX0_layItem_X3_letterAt : GoodIn wsX0_layItem wsX3_letterAt := goodIn_r _ [9, 10, 11, 12, 13, 8, 14, 15, 16, 17, 18, 94, 95, 96, 97, 98] (by decide +kernel) (by decide +kernel)
set_option maxRecDepth 20000 in
theorem gX0_layItem_X3_letterAt : GoodIn wsX0_layItem (wsV RX0 96 RX3 yX3_letterAt wsX3_letterAt) := goodIn_app (goodIn_of _ (by decide +kernel)) ggX0_layItem_X3_letterAt
set_option maxRecDepth 20000 in
theorem ggX0_layItem_X0_joinEdges : GoodIn wsX0_layItem wsX0_joinEdges := goodIn_r _ [23, 24, 25, 26, 17, 27, 28, 29, 16, 18, 77, 78, 79, 80, 81, 82, 83, 84, 85, 86, 87, 88, 89, 90, 91, 92, 93] (by decide +kernel) (by decide +kernel)
set_option maxRecDepth 20000 in
theorem gX0_layItem_X0_joinEdges : GoodIn wsX0_layItem (wsV RX0 100 RX0 yX0_joinEdges wsX0_joinEdges) := goodIn_app (goodIn_of _ (by decide +kernel)) ggX0_layItem_X0_joinEdges
set_option maxRecDepth 20000 in
theorem ggX0_layItem_X3_kernAt : GoodIn wsX0_layItem wsX3_kernAt := goodIn_r _ [33, 34, 16, 17, 18, 94, 95, 96, 97, 98] (by decide +kernel) (by decide +kernel)
set_option maxRecDepth 20000 in
theorem gX0_layItem_X3_kernAt : GoodIn wsX0_layItem (wsV RX0 104 RX3 yX3_kernAt wsX3_kernAt) := goodIn_app (goodIn_of _ (by decide +kernel)) ggX0_layItem_X3_kernAt
set_option maxRecDepth 20000 in
theorem ggX0_layItem_X0_layPair : GoodIn wsX0_layItem wsX0_layPair := goodIn_r _ [38, 1, 39, 40, 41, 42, 43, 44, 45, 22, 46, 47, 48, 49, 50, 51, 52, 24, 53, 54, 55, 56, 57, 58, 59, 60, 61, 62, 63, 64, 65, 66, 17, 67, 68, 69, 70, 71, 72, 73, 74, 77, 78, 79, 80, 81, 82, 83, 84, 85, 86, 87, 88, 89, 90, 91, 92, 93] (by decide +kernel) (by decide +kernel)
set_option maxRecDepth 20000 in
theorem gX0_layItem_X0_layPair : GoodIn wsX0_layItem (wsV RX0 107 RX0 yX0_layPair wsX0_layPair) := goodIn_app (goodIn_of _ (by decide +kernel)) ggX0_layItem_X0_layPair
set_option maxRecDepth 20000 in
theorem ggX0_layItem_X0_snapped : GoodIn wsX0_layItem wsX0_snapped := goodIn_r _ [60, 61, 77, 78, 79, 80, 81, 82, 83, 84, 85, 86, 87, 88, 89, 90, 91, 92, 93] (by decide +kernel) (by decide +kernel)
set_option maxRecDepth 20000 in
theorem gX0_layItem_X0_snapped : GoodIn wsX0_layItem (wsV RX0 111 RX0 yX0_snapped wsX0_snapped) := goodIn_app (goodIn_of _ (by decide +kernel)) ggX0_layItem_X0_snapped
set_option maxRecDepth 20000 in
theorem ggX0_layItem_X0_storePair : GoodIn wsX0_layItem wsX0_storePair := goodIn_r _ [71, 72, 73, 74, 66, 17, 67, 77, 78, 79, 80, 81, 82, 83, 84, 85, 86, 87, 88, 89, 90, 91, 92, 93] (by decide +kernel) (by decide +kernel)
set_option maxRecDepth 20000 in
theorem gX0_layItem_X0_storePair : GoodIn wsX0_layItem (wsV RX0 114 RX0 yX0_storePair wsX0_storePair) := goodIn_app (goodIn_of _ (by decide +kernel)) ggX0_layItem_X0_storePair
set_option maxRecDepth 20000 in
theorem ggX0_layItem_X5_store : GoodIn wsX0_layItem wsX5_store := goodIn_r _ [67] (by decide +kernel) (by decide +kernel)
set_option maxRecDepth 20000 in
theorem gX0_layItem_X5_store_n46 : GoodIn wsX0_layItem (wsX5_store) := ggX0_layItem_X5_store
set_option maxRecDepth 20000 in
theorem ggX0_layItem_X5_valueAt : GoodIn wsX0_layItem wsX5_valueAt := goodIn_r _ [18] (by decide +kernel) (by decide +kernel)
set_option maxRecDepth 20000 in
theorem gX0_layItem_X5_valueAt_n50 : GoodIn wsX0_layItem (wsX5_valueAt) := ggX0_layItem_X5_valueAt
set_option maxRecDepth 20000 in
theorem ggX0_layItem_X5_widthOf : GoodIn wsX0_layItem wsX5_widthOf := goodIn_r _ [76] (by decide +kernel) (by decide +kernel)
set_option maxRecDepth 20000 in
theorem gX0_layItem_X5_widthOf_n118 : GoodIn wsX0_layItem (wsX5_widthOf) := ggX0_layItem_X5_widthOf
theorem dX0_layItem_0 : decode cX0_layItem 0 = .ok (.aload_n 1, 1) := by decide +kernel
theorem dX0_layItem_1 : decode cX0_layItem 1 = .ok (.iload_n 2, 1) := by decide +kernel
theorem dX0_layItem_2 : decode cX0_layItem 2 = .ok (.invokevirtual 96, 3) := by decide +kernel
theorem dX0_layItem_5 : decode cX0_layItem 5 = .ok (.istore_n 3, 1) := by decide +kernel
theorem dX0_layItem_6 : decode cX0_layItem 6 = .ok (.aload_n 1, 1) := by decide +kernel
theorem dX0_layItem_7 : decode cX0_layItem 7 = .ok (.iload_n 2, 1) := by decide +kernel
theorem dX0_layItem_8 : decode cX0_layItem 8 = .ok (.iconst 1, 1) := by decide +kernel
theorem dX0_layItem_9 : decode cX0_layItem 9 = .ok (.isub, 1) := by decide +kernel
theorem dX0_layItem_10 : decode cX0_layItem 10 = .ok (.invokevirtual 96, 3) := by decide +kernel
theorem dX0_layItem_13 : decode cX0_layItem 13 = .ok (.istore 4, 2) := by decide +kernel
theorem dX0_layItem_15 : decode cX0_layItem 15 = .ok (.aload_n 0, 1) := by decide +kernel
theorem dX0_layItem_16 : decode cX0_layItem 16 = .ok (.getfield 81, 3) := by decide +kernel
theorem dX0_layItem_19 : decode cX0_layItem 19 = .ok (.istore 5, 2) := by decide +kernel
theorem dX0_layItem_21 : decode cX0_layItem 21 = .ok (.iload_n 3, 1) := by decide +kernel
theorem dX0_layItem_22 : decode cX0_layItem 22 = .ok (.iconst (-1), 1) := by decide +kernel
theorem dX0_layItem_23 : decode cX0_layItem 23 = .ok (.if_icmp .eq 34, 3) := by decide +kernel
theorem dX0_layItem_26 : decode cX0_layItem 26 = .ok (.iload 4, 2) := by decide +kernel
theorem dX0_layItem_28 : decode cX0_layItem 28 = .ok (.iconst (-1), 1) := by decide +kernel
theorem dX0_layItem_29 : decode cX0_layItem 29 = .ok (.if_icmp .eq 28, 3) := by decide +kernel
theorem dX0_layItem_32 : decode cX0_layItem 32 = .ok (.aload_n 0, 1) := by decide +kernel
theorem dX0_layItem_33 : decode cX0_layItem 33 = .ok (.iload 4, 2) := by decide +kernel
theorem dX0_layItem_35 : decode cX0_layItem 35 = .ok (.iload_n 3, 1) := by decide +kernel
theorem dX0_layItem_36 : decode cX0_layItem 36 = .ok (.invokevirtual 100, 3) := by decide +kernel
theorem dX0_layItem_39 : decode cX0_layItem 39 = .ok (.iload 5, 2) := by decide +kernel
theorem dX0_layItem_41 : decode cX0_layItem 41 = .ok (.aload_n 0, 1) := by decide +kernel
theorem dX0_layItem_42 : decode cX0_layItem 42 = .ok (.iload_n 2, 1) := by decide +kernel
theorem dX0_layItem_43 : decode cX0_layItem 43 = .ok (.aload_n 1, 1) := by decide +kernel
theorem dX0_layItem_44 : decode cX0_layItem 44 = .ok (.iload_n 2, 1) := by decide +kernel
theorem dX0_layItem_45 : decode cX0_layItem 45 = .ok (.invokevirtual 104, 3) := by decide +kernel
theorem dX0_layItem_48 : decode cX0_layItem 48 = .ok (.invokevirtual 107, 3) := by decide +kernel
theorem dX0_layItem_51 : decode cX0_layItem 51 = .ok (.iadd, 1) := by decide +kernel
theorem dX0_layItem_52 : decode cX0_layItem 52 = .ok (.istore 5, 2) := by decide +kernel
theorem dX0_layItem_54 : decode cX0_layItem 54 = .ok (.goto 33, 3) := by decide +kernel
theorem dX0_layItem_57 : decode cX0_layItem 57 = .ok (.iload_n 3, 1) := by decide +kernel
theorem dX0_layItem_58 : decode cX0_layItem 58 = .ok (.iconst (-1), 1) := by decide +kernel
theorem dX0_layItem_59 : decode cX0_layItem 59 = .ok (.if_icmp .eq 7, 3) := by decide +kernel
theorem dX0_layItem_62 : decode cX0_layItem 62 = .ok (.iload_n 2, 1) := by decide +kernel
theorem dX0_layItem_63 : decode cX0_layItem 63 = .ok (.ifCond .ne 8, 3) := by decide +kernel
theorem dX0_layItem_66 : decode cX0_layItem 66 = .ok (.iload 5, 2) := by decide +kernel
theorem dX0_layItem_68 : decode cX0_layItem 68 = .ok (.goto 9, 3) := by decide +kernel
theorem dX0_layItem_71 : decode cX0_layItem 71 = .ok (.aload_n 0, 1) := by decide +kernel
theorem dX0_layItem_72 : decode cX0_layItem 72 = .ok (.iload 5, 2) := by decide +kernel
theorem dX0_layItem_74 : decode cX0_layItem 74 = .ok (.invokevirtual 111, 3) := by decide +kernel
theorem dX0_layItem_77 : decode cX0_layItem 77 = .ok (.istore 5, 2) := by decide +kernel
theorem dX0_layItem_79 : decode cX0_layItem 79 = .ok (.aload_n 0, 1) := by decide +kernel
theorem dX0_layItem_80 : decode cX0_layItem 80 = .ok (.iload_n 2, 1) := by decide +kernel
theorem dX0_layItem_81 : decode cX0_layItem 81 = .ok (.iconst (-1), 1) := by decide +kernel
theorem dX0_layItem_82 : decode cX0_layItem 82 = .ok (.iconst (-1), 1) := by decide +kernel
theorem dX0_layItem_83 : decode cX0_layItem 83 = .ok (.iconst (-1), 1) := by decide +kernel
theorem dX0_layItem_84 : decode cX0_layItem 84 = .ok (.invokevirtual 114, 3) := by decide +kernel
theorem dX0_layItem_87 : decode cX0_layItem 87 = .ok (.aload_n 0, 1) := by decide +kernel
theorem dX0_layItem_88 : decode cX0_layItem 88 = .ok (.getfield 15, 3) := by decide +kernel
theorem dX0_layItem_91 : decode cX0_layItem 91 = .ok (.iload_n 2, 1) := by decide +kernel
theorem dX0_layItem_92 : decode cX0_layItem 92 = .ok (.iload 5, 2) := by decide +kernel
theorem dX0_layItem_94 : decode cX0_layItem 94 = .ok (.invokestatic 46, 3) := by decide +kernel
theorem dX0_layItem_97 : decode cX0_layItem 97 = .ok (.aload_n 0, 1) := by decide +kernel
theorem dX0_layItem_98 : decode cX0_layItem 98 = .ok (.iload 5, 2) := by decide +kernel
theorem dX0_layItem_100 : decode cX0_layItem 100 = .ok (.iload_n 3, 1) := by decide +kernel
theorem dX0_layItem_101 : decode cX0_layItem 101 = .ok (.iconst (-1), 1) := by decide +kernel
theorem dX0_layItem_102 : decode cX0_layItem 102 = .ok (.if_icmp .ne 14, 3) := by decide +kernel
theorem dX0_layItem_105 : decode cX0_layItem 105 = .ok (.aload_n 0, 1) := by decide +kernel
theorem dX0_layItem_106 : decode cX0_layItem 106 = .ok (.getfield 9, 3) := by decide +kernel
theorem dX0_layItem_109 : decode cX0_layItem 109 = .ok (.iconst 2, 1) := by decide +kernel
theorem dX0_layItem_110 : decode cX0_layItem 110 = .ok (.invokestatic 50, 3) := by decide +kernel
theorem dX0_layItem_113 : decode cX0_layItem 113 = .ok (.goto 7, 3) := by decide +kernel
theorem dX0_layItem_116 : decode cX0_layItem 116 = .ok (.iload_n 3, 1) := by decide +kernel
theorem dX0_layItem_117 : decode cX0_layItem 117 = .ok (.invokestatic 118, 3) := by decide +kernel
theorem dX0_layItem_120 : decode cX0_layItem 120 = .ok (.iadd, 1) := by decide +kernel
theorem dX0_layItem_121 : decode cX0_layItem 121 = .ok (.putfield 81, 3) := by decide +kernel
theorem dX0_layItem_124 : decode cX0_layItem 124 = .ok (.aload_n 0, 1) := by decide +kernel
theorem dX0_layItem_125 : decode cX0_layItem 125 = .ok (.getfield 18, 3) := by decide +kernel
theorem dX0_layItem_128 : decode cX0_layItem 128 = .ok (.iload_n 2, 1) := by decide +kernel
theorem dX0_layItem_129 : decode cX0_layItem 129 = .ok (.aload_n 0, 1) := by decide +kernel
theorem dX0_layItem_130 : decode cX0_layItem 130 = .ok (.getfield 81, 3) := by decide +kernel
theorem dX0_layItem_133 : decode cX0_layItem 133 = .ok (.invokestatic 46, 3) := by decide +kernel
theorem dX0_layItem_136 : decode cX0_layItem 136 = .ok (.return_, 1) := by decide +kernel
set_option maxRecDepth 20000 in
theorem ggX0_layPair_X0_leastGap : GoodIn wsX0_layPair wsX0_leastGap := goodIn_r _ [10, 11, 12, 13, 14, 15, 9, 16, 17, 41, 42, 43, 44, 45, 46, 47, 48, 49, 50, 51, 52, 53, 54, 55, 56, 57] (by decide +kernel) (by decide +kernel)
set_option maxRecDepth 20000 in
theorem gX0_layPair_X0_leastGap : GoodIn wsX0_layPair (wsV RX0 121 RX0 yX0_leastGap wsX0_leastGap) := goodIn_app (goodIn_of _ (by decide +kernel)) ggX0_layPair_X0_leastGap
set_option maxRecDepth 20000 in
theorem ggX0_layPair_X0_gapBehind : GoodIn wsX0_layPair wsX0_gapBehind := goodIn_r _ [21, 22, 23, 24, 9, 25, 26, 41, 42, 43, 44, 45, 46, 47, 48, 49, 50, 51, 52, 53, 54, 55, 56, 57] (by decide +kernel) (by decide +kernel)
set_option maxRecDepth 20000 in
theorem gX0_layPair_X0_gapBehind : GoodIn wsX0_layPair (wsV RX0 125 RX0 yX0_gapBehind wsX0_gapBehind) := goodIn_app (goodIn_of _ (by decide +kernel)) ggX0_layPair_X0_gapBehind
set_option maxRecDepth 20000 in
theorem ggX0_layPair_X0_areaBy : GoodIn wsX0_layPair wsX0_areaBy := goodIn_r _ [16, 17, 11, 41, 42, 43, 44, 45, 46, 47, 48, 49, 50, 51, 52, 53, 54, 55, 56, 57] (by decide +kernel) (by decide +kernel)
set_option maxRecDepth 20000 in
theorem gX0_layPair_X0_areaBy : GoodIn wsX0_layPair (wsV RX0 128 RX0 yX0_areaBy wsX0_areaBy) := goodIn_app (goodIn_of _ (by decide +kernel)) ggX0_layPair_X0_areaBy
set_option maxRecDepth 20000 in
theorem ggX0_layPair_X0_shareOf : GoodIn wsX0_layPair wsX0_shareOf := goodIn_r _ [30, 12, 41, 42, 43, 44, 45, 46, 47, 48, 49, 50, 51, 52, 53, 54, 55, 56, 57] (by decide +kernel) (by decide +kernel)
set_option maxRecDepth 20000 in
theorem gX0_layPair_X0_shareOf : GoodIn wsX0_layPair (wsV RX0 131 RX0 yX0_shareOf wsX0_shareOf) := goodIn_app (goodIn_of _ (by decide +kernel)) ggX0_layPair_X0_shareOf
set_option maxRecDepth 20000 in
theorem ggX0_layPair_X5_store : GoodIn wsX0_layPair wsX5_store := goodIn_r _ [33] (by decide +kernel) (by decide +kernel)
set_option maxRecDepth 20000 in
theorem gX0_layPair_X5_store_n46 : GoodIn wsX0_layPair (wsX5_store) := ggX0_layPair_X5_store
set_option maxRecDepth 20000 in
theorem ggX0_layPair_X0_storePair : GoodIn wsX0_layPair wsX0_storePair := goodIn_r _ [37, 38, 39, 40, 31, 32, 33, 41, 42, 43, 44, 45, 46, 47, 48, 49, 50, 51, 52, 53, 54, 55, 56, 57] (by decide +kernel) (by decide +kernel)
set_option maxRecDepth 20000 in
theorem gX0_layPair_X0_storePair : GoodIn wsX0_layPair (wsV RX0 114 RX0 yX0_storePair wsX0_storePair) := goodIn_app (goodIn_of _ (by decide +kernel)) ggX0_layPair_X0_storePair
theorem dX0_layPair_0 : decode cX0_layPair 0 = .ok (.aload_n 0, 1) := by decide +kernel
theorem dX0_layPair_1 : decode cX0_layPair 1 = .ok (.invokevirtual 121, 3) := by decide +kernel
theorem dX0_layPair_4 : decode cX0_layPair 4 = .ok (.istore_n 3, 1) := by decide +kernel
theorem dX0_layPair_5 : decode cX0_layPair 5 = .ok (.aload_n 0, 1) := by decide +kernel
theorem dX0_layPair_6 : decode cX0_layPair 6 = .ok (.aload_n 0, 1) := by decide +kernel
theorem dX0_layPair_7 : decode cX0_layPair 7 = .ok (.getfield 81, 3) := by decide +kernel
theorem dX0_layPair_10 : decode cX0_layPair 10 = .ok (.iload_n 3, 1) := by decide +kernel
theorem dX0_layPair_11 : decode cX0_layPair 11 = .ok (.iload_n 2, 1) := by decide +kernel
theorem dX0_layPair_12 : decode cX0_layPair 12 = .ok (.iadd, 1) := by decide +kernel
theorem dX0_layPair_13 : decode cX0_layPair 13 = .ok (.invokevirtual 125, 3) := by decide +kernel
theorem dX0_layPair_16 : decode cX0_layPair 16 = .ok (.istore 4, 2) := by decide +kernel
theorem dX0_layPair_18 : decode cX0_layPair 18 = .ok (.aload_n 0, 1) := by decide +kernel
theorem dX0_layPair_19 : decode cX0_layPair 19 = .ok (.iload 4, 2) := by decide +kernel
theorem dX0_layPair_21 : decode cX0_layPair 21 = .ok (.invokevirtual 128, 3) := by decide +kernel
theorem dX0_layPair_24 : decode cX0_layPair 24 = .ok (.istore 5, 2) := by decide +kernel
theorem dX0_layPair_26 : decode cX0_layPair 26 = .ok (.aload_n 0, 1) := by decide +kernel
theorem dX0_layPair_27 : decode cX0_layPair 27 = .ok (.iload 5, 2) := by decide +kernel
theorem dX0_layPair_29 : decode cX0_layPair 29 = .ok (.invokevirtual 131, 3) := by decide +kernel
theorem dX0_layPair_32 : decode cX0_layPair 32 = .ok (.istore 6, 2) := by decide +kernel
theorem dX0_layPair_34 : decode cX0_layPair 34 = .ok (.aload_n 0, 1) := by decide +kernel
theorem dX0_layPair_35 : decode cX0_layPair 35 = .ok (.getfield 21, 3) := by decide +kernel
theorem dX0_layPair_38 : decode cX0_layPair 38 = .ok (.iload_n 1, 1) := by decide +kernel
theorem dX0_layPair_39 : decode cX0_layPair 39 = .ok (.iload_n 3, 1) := by decide +kernel
theorem dX0_layPair_40 : decode cX0_layPair 40 = .ok (.invokestatic 46, 3) := by decide +kernel
theorem dX0_layPair_43 : decode cX0_layPair 43 = .ok (.aload_n 0, 1) := by decide +kernel
theorem dX0_layPair_44 : decode cX0_layPair 44 = .ok (.iload_n 1, 1) := by decide +kernel
theorem dX0_layPair_45 : decode cX0_layPair 45 = .ok (.iload 4, 2) := by decide +kernel
theorem dX0_layPair_47 : decode cX0_layPair 47 = .ok (.iload 5, 2) := by decide +kernel
theorem dX0_layPair_49 : decode cX0_layPair 49 = .ok (.iload 6, 2) := by decide +kernel
theorem dX0_layPair_51 : decode cX0_layPair 51 = .ok (.invokevirtual 114, 3) := by decide +kernel
theorem dX0_layPair_54 : decode cX0_layPair 54 = .ok (.aload_n 0, 1) := by decide +kernel
theorem dX0_layPair_55 : decode cX0_layPair 55 = .ok (.dup, 1) := by decide +kernel
theorem dX0_layPair_56 : decode cX0_layPair 56 = .ok (.getfield 75, 3) := by decide +kernel
theorem dX0_layPair_59 : decode cX0_layPair 59 = .ok (.iconst 1, 1) := by decide +kernel
theorem dX0_layPair_60 : decode cX0_layPair 60 = .ok (.iadd, 1) := by decide +kernel
theorem dX0_layPair_61 : decode cX0_layPair 61 = .ok (.putfield 75, 3) := by decide +kernel
theorem dX0_layPair_64 : decode cX0_layPair 64 = .ok (.iload 6, 2) := by decide +kernel
theorem dX0_layPair_66 : decode cX0_layPair 66 = .ok (.aload_n 0, 1) := by decide +kernel
theorem dX0_layPair_67 : decode cX0_layPair 67 = .ok (.getfield 64, 3) := by decide +kernel
theorem dX0_layPair_70 : decode cX0_layPair 70 = .ok (.if_icmp .le 13, 3) := by decide +kernel
theorem dX0_layPair_73 : decode cX0_layPair 73 = .ok (.aload_n 0, 1) := by decide +kernel
theorem dX0_layPair_74 : decode cX0_layPair 74 = .ok (.dup, 1) := by decide +kernel
theorem dX0_layPair_75 : decode cX0_layPair 75 = .ok (.getfield 78, 3) := by decide +kernel
theorem dX0_layPair_78 : decode cX0_layPair 78 = .ok (.iconst 1, 1) := by decide +kernel
theorem dX0_layPair_79 : decode cX0_layPair 79 = .ok (.iadd, 1) := by decide +kernel
theorem dX0_layPair_80 : decode cX0_layPair 80 = .ok (.putfield 78, 3) := by decide +kernel
theorem dX0_layPair_83 : decode cX0_layPair 83 = .ok (.iload 4, 2) := by decide +kernel
theorem dX0_layPair_85 : decode cX0_layPair 85 = .ok (.ireturn, 1) := by decide +kernel
set_option maxRecDepth 20000 in
theorem ggX0_storePair_X5_store : GoodIn wsX0_storePair wsX5_store := goodIn_r _ [6] (by decide +kernel) (by decide +kernel)
set_option maxRecDepth 20000 in
theorem gX0_storePair_X5_store_n46 : GoodIn wsX0_storePair (wsX5_store) := ggX0_storePair_X5_store
theorem dX0_storePair_0 : decode cX0_storePair 0 = .ok (.aload_n 0, 1) := by decide +kernel
theorem dX0_storePair_1 : decode cX0_storePair 1 = .ok (.getfield 24, 3) := by decide +kernel
theorem dX0_storePair_4 : decode cX0_storePair 4 = .ok (.iload_n 1, 1) := by decide +kernel
theorem dX0_storePair_5 : decode cX0_storePair 5 = .ok (.iload_n 2, 1) := by decide +kernel
theorem dX0_storePair_6 : decode cX0_storePair 6 = .ok (.invokestatic 46, 3) := by decide +kernel
theorem dX0_storePair_9 : decode cX0_storePair 9 = .ok (.aload_n 0, 1) := by decide +kernel
theorem dX0_storePair_10 : decode cX0_storePair 10 = .ok (.getfield 27, 3) := by decide +kernel
theorem dX0_storePair_13 : decode cX0_storePair 13 = .ok (.iload_n 1, 1) := by decide +kernel
theorem dX0_storePair_14 : decode cX0_storePair 14 = .ok (.iload_n 3, 1) := by decide +kernel
theorem dX0_storePair_15 : decode cX0_storePair 15 = .ok (.invokestatic 46, 3) := by decide +kernel
theorem dX0_storePair_18 : decode cX0_storePair 18 = .ok (.aload_n 0, 1) := by decide +kernel
theorem dX0_storePair_19 : decode cX0_storePair 19 = .ok (.getfield 30, 3) := by decide +kernel
theorem dX0_storePair_22 : decode cX0_storePair 22 = .ok (.iload_n 1, 1) := by decide +kernel
theorem dX0_storePair_23 : decode cX0_storePair 23 = .ok (.iload 4, 2) := by decide +kernel
theorem dX0_storePair_25 : decode cX0_storePair 25 = .ok (.invokestatic 46, 3) := by decide +kernel
theorem dX0_storePair_28 : decode cX0_storePair 28 = .ok (.return_, 1) := by decide +kernel
set_option maxRecDepth 20000 in
theorem ggX0_joinEdges_X5_rightShape : GoodIn wsX0_joinEdges wsX5_rightShape := goodIn_r _ [5] (by decide +kernel) (by decide +kernel)
set_option maxRecDepth 20000 in
theorem gX0_joinEdges_X5_rightShape_n134 : GoodIn wsX0_joinEdges (wsX5_rightShape) := ggX0_joinEdges_X5_rightShape
set_option maxRecDepth 20000 in
theorem ggX0_joinEdges_X5_leftShape : GoodIn wsX0_joinEdges wsX5_leftShape := goodIn_r _ [7] (by decide +kernel) (by decide +kernel)
set_option maxRecDepth 20000 in
theorem gX0_joinEdges_X5_leftShape_n137 : GoodIn wsX0_joinEdges (wsX5_leftShape) := ggX0_joinEdges_X5_leftShape
set_option maxRecDepth 20000 in
theorem ggX0_joinEdges_X5_valueAt : GoodIn wsX0_joinEdges wsX5_valueAt := goodIn_r _ [9] (by decide +kernel) (by decide +kernel)
set_option maxRecDepth 20000 in
theorem gX0_joinEdges_X5_valueAt_n50 : GoodIn wsX0_joinEdges (wsX5_valueAt) := ggX0_joinEdges_X5_valueAt
theorem dX0_joinEdges_0 : decode cX0_joinEdges 0 = .ok (.bipush 10, 2) := by decide +kernel
theorem dX0_joinEdges_2 : decode cX0_joinEdges 2 = .ok (.iload_n 1, 1) := by decide +kernel
theorem dX0_joinEdges_3 : decode cX0_joinEdges 3 = .ok (.invokestatic 134, 3) := by decide +kernel
theorem dX0_joinEdges_6 : decode cX0_joinEdges 6 = .ok (.imul, 1) := by decide +kernel
theorem dX0_joinEdges_7 : decode cX0_joinEdges 7 = .ok (.istore_n 3, 1) := by decide +kernel
theorem dX0_joinEdges_8 : decode cX0_joinEdges 8 = .ok (.bipush 10, 2) := by decide +kernel
theorem dX0_joinEdges_10 : decode cX0_joinEdges 10 = .ok (.iload_n 2, 1) := by decide +kernel
theorem dX0_joinEdges_11 : decode cX0_joinEdges 11 = .ok (.invokestatic 137, 3) := by decide +kernel
theorem dX0_joinEdges_14 : decode cX0_joinEdges 14 = .ok (.imul, 1) := by decide +kernel
theorem dX0_joinEdges_15 : decode cX0_joinEdges 15 = .ok (.istore 4, 2) := by decide +kernel
theorem dX0_joinEdges_17 : decode cX0_joinEdges 17 = .ok (.iconst 0, 1) := by decide +kernel
theorem dX0_joinEdges_18 : decode cX0_joinEdges 18 = .ok (.istore 5, 2) := by decide +kernel
theorem dX0_joinEdges_20 : decode cX0_joinEdges 20 = .ok (.iload 5, 2) := by decide +kernel
theorem dX0_joinEdges_22 : decode cX0_joinEdges 22 = .ok (.aload_n 0, 1) := by decide +kernel
theorem dX0_joinEdges_23 : decode cX0_joinEdges 23 = .ok (.getfield 36, 3) := by decide +kernel
theorem dX0_joinEdges_26 : decode cX0_joinEdges 26 = .ok (.arraylength, 1) := by decide +kernel
theorem dX0_joinEdges_27 : decode cX0_joinEdges 27 = .ok (.if_icmp .ge 40, 3) := by decide +kernel
theorem dX0_joinEdges_30 : decode cX0_joinEdges 30 = .ok (.aload_n 0, 1) := by decide +kernel
theorem dX0_joinEdges_31 : decode cX0_joinEdges 31 = .ok (.getfield 36, 3) := by decide +kernel
theorem dX0_joinEdges_34 : decode cX0_joinEdges 34 = .ok (.iload 5, 2) := by decide +kernel
theorem dX0_joinEdges_36 : decode cX0_joinEdges 36 = .ok (.aload_n 0, 1) := by decide +kernel
theorem dX0_joinEdges_37 : decode cX0_joinEdges 37 = .ok (.getfield 33, 3) := by decide +kernel
theorem dX0_joinEdges_40 : decode cX0_joinEdges 40 = .ok (.iload_n 3, 1) := by decide +kernel
theorem dX0_joinEdges_41 : decode cX0_joinEdges 41 = .ok (.iload 5, 2) := by decide +kernel
theorem dX0_joinEdges_43 : decode cX0_joinEdges 43 = .ok (.iadd, 1) := by decide +kernel
theorem dX0_joinEdges_44 : decode cX0_joinEdges 44 = .ok (.invokestatic 50, 3) := by decide +kernel
theorem dX0_joinEdges_47 : decode cX0_joinEdges 47 = .ok (.aload_n 0, 1) := by decide +kernel
theorem dX0_joinEdges_48 : decode cX0_joinEdges 48 = .ok (.getfield 33, 3) := by decide +kernel
theorem dX0_joinEdges_51 : decode cX0_joinEdges 51 = .ok (.iload 4, 2) := by decide +kernel
theorem dX0_joinEdges_53 : decode cX0_joinEdges 53 = .ok (.iload 5, 2) := by decide +kernel
theorem dX0_joinEdges_55 : decode cX0_joinEdges 55 = .ok (.iadd, 1) := by decide +kernel
theorem dX0_joinEdges_56 : decode cX0_joinEdges 56 = .ok (.invokestatic 50, 3) := by decide +kernel
theorem dX0_joinEdges_59 : decode cX0_joinEdges 59 = .ok (.iadd, 1) := by decide +kernel
theorem dX0_joinEdges_60 : decode cX0_joinEdges 60 = .ok (.iastore, 1) := by decide +kernel
theorem dX0_joinEdges_61 : decode cX0_joinEdges 61 = .ok (.iinc 5 1, 3) := by decide +kernel
theorem dX0_joinEdges_64 : decode cX0_joinEdges 64 = .ok (.goto (-44), 3) := by decide +kernel
theorem dX0_joinEdges_67 : decode cX0_joinEdges 67 = .ok (.return_, 1) := by decide +kernel
set_option maxRecDepth 20000 in
theorem ggX0_leastGap_X0_areaBy : GoodIn wsX0_leastGap wsX0_areaBy := goodIn_r _ [7, 8, 1, 9, 10, 11, 12, 13, 14, 15, 16, 17, 18, 19, 20, 21, 22, 23, 24, 25] (by decide +kernel) (by decide +kernel)
set_option maxRecDepth 20000 in
theorem gX0_leastGap_X0_areaBy : GoodIn wsX0_leastGap (wsV RX0 128 RX0 yX0_areaBy wsX0_areaBy) := goodIn_app (goodIn_of _ (by decide +kernel)) ggX0_leastGap_X0_areaBy
theorem dX0_leastGap_0 : decode cX0_leastGap 0 = .ok (.bipush 10, 2) := by decide +kernel
theorem dX0_leastGap_2 : decode cX0_leastGap 2 = .ok (.aload_n 0, 1) := by decide +kernel
theorem dX0_leastGap_3 : decode cX0_leastGap 3 = .ok (.getfield 54, 3) := by decide +kernel
theorem dX0_leastGap_6 : decode cX0_leastGap 6 = .ok (.imul, 1) := by decide +kernel
theorem dX0_leastGap_7 : decode cX0_leastGap 7 = .ok (.aload_n 0, 1) := by decide +kernel
theorem dX0_leastGap_8 : decode cX0_leastGap 8 = .ok (.getfield 58, 3) := by decide +kernel
theorem dX0_leastGap_11 : decode cX0_leastGap 11 = .ok (.if_icmp .ge 6, 3) := by decide +kernel
theorem dX0_leastGap_14 : decode cX0_leastGap 14 = .ok (.bipush 40, 2) := by decide +kernel
theorem dX0_leastGap_16 : decode cX0_leastGap 16 = .ok (.ireturn, 1) := by decide +kernel
theorem dX0_leastGap_17 : decode cX0_leastGap 17 = .ok (.iconst 0, 1) := by decide +kernel
theorem dX0_leastGap_18 : decode cX0_leastGap 18 = .ok (.istore_n 1, 1) := by decide +kernel
theorem dX0_leastGap_19 : decode cX0_leastGap 19 = .ok (.iload_n 1, 1) := by decide +kernel
theorem dX0_leastGap_20 : decode cX0_leastGap 20 = .ok (.bipush 40, 2) := by decide +kernel
theorem dX0_leastGap_22 : decode cX0_leastGap 22 = .ok (.if_icmp .ge 23, 3) := by decide +kernel
theorem dX0_leastGap_25 : decode cX0_leastGap 25 = .ok (.aload_n 0, 1) := by decide +kernel
theorem dX0_leastGap_26 : decode cX0_leastGap 26 = .ok (.iload_n 1, 1) := by decide +kernel
theorem dX0_leastGap_27 : decode cX0_leastGap 27 = .ok (.invokevirtual 128, 3) := by decide +kernel
theorem dX0_leastGap_30 : decode cX0_leastGap 30 = .ok (.aload_n 0, 1) := by decide +kernel
theorem dX0_leastGap_31 : decode cX0_leastGap 31 = .ok (.getfield 58, 3) := by decide +kernel
theorem dX0_leastGap_34 : decode cX0_leastGap 34 = .ok (.if_icmp .lt 5, 3) := by decide +kernel
theorem dX0_leastGap_37 : decode cX0_leastGap 37 = .ok (.iload_n 1, 1) := by decide +kernel
theorem dX0_leastGap_38 : decode cX0_leastGap 38 = .ok (.ireturn, 1) := by decide +kernel
theorem dX0_leastGap_39 : decode cX0_leastGap 39 = .ok (.iinc 1 1, 3) := by decide +kernel
theorem dX0_leastGap_42 : decode cX0_leastGap 42 = .ok (.goto (-23), 3) := by decide +kernel
theorem dX0_leastGap_45 : decode cX0_leastGap 45 = .ok (.bipush 40, 2) := by decide +kernel
theorem dX0_leastGap_47 : decode cX0_leastGap 47 = .ok (.ireturn, 1) := by decide +kernel
set_option maxRecDepth 20000 in
theorem ggX0_gapBehind_X0_snapped : GoodIn wsX0_gapBehind wsX0_snapped := goodIn_r _ [5, 6, 7, 8, 9, 10, 11, 12, 13, 14, 15, 16, 17, 18, 19, 20, 21, 22, 23] (by decide +kernel) (by decide +kernel)
set_option maxRecDepth 20000 in
theorem gX0_gapBehind_X0_snapped : GoodIn wsX0_gapBehind (wsV RX0 111 RX0 yX0_snapped wsX0_snapped) := goodIn_app (goodIn_of _ (by decide +kernel)) ggX0_gapBehind_X0_snapped
theorem dX0_gapBehind_0 : decode cX0_gapBehind 0 = .ok (.aload_n 0, 1) := by decide +kernel
theorem dX0_gapBehind_1 : decode cX0_gapBehind 1 = .ok (.iload_n 1, 1) := by decide +kernel
theorem dX0_gapBehind_2 : decode cX0_gapBehind 2 = .ok (.iload_n 2, 1) := by decide +kernel
theorem dX0_gapBehind_3 : decode cX0_gapBehind 3 = .ok (.ifCond .le 7, 3) := by decide +kernel
theorem dX0_gapBehind_6 : decode cX0_gapBehind 6 = .ok (.iload_n 2, 1) := by decide +kernel
theorem dX0_gapBehind_7 : decode cX0_gapBehind 7 = .ok (.goto 4, 3) := by decide +kernel
theorem dX0_gapBehind_10 : decode cX0_gapBehind 10 = .ok (.iconst 0, 1) := by decide +kernel
theorem dX0_gapBehind_11 : decode cX0_gapBehind 11 = .ok (.iadd, 1) := by decide +kernel
theorem dX0_gapBehind_12 : decode cX0_gapBehind 12 = .ok (.invokevirtual 111, 3) := by decide +kernel
theorem dX0_gapBehind_15 : decode cX0_gapBehind 15 = .ok (.iload_n 1, 1) := by decide +kernel
theorem dX0_gapBehind_16 : decode cX0_gapBehind 16 = .ok (.isub, 1) := by decide +kernel
theorem dX0_gapBehind_17 : decode cX0_gapBehind 17 = .ok (.ireturn, 1) := by decide +kernel
theorem dX0_snapped_0 : decode cX0_snapped 0 = .ok (.aload_n 0, 1) := by decide +kernel
theorem dX0_snapped_1 : decode cX0_snapped 1 = .ok (.getfield 61, 3) := by decide +kernel
theorem dX0_snapped_4 : decode cX0_snapped 4 = .ok (.iconst 1, 1) := by decide +kernel
theorem dX0_snapped_5 : decode cX0_snapped 5 = .ok (.if_icmp .gt 5, 3) := by decide +kernel
theorem dX0_snapped_8 : decode cX0_snapped 8 = .ok (.iload_n 1, 1) := by decide +kernel
theorem dX0_snapped_9 : decode cX0_snapped 9 = .ok (.ireturn, 1) := by decide +kernel
theorem dX0_snapped_10 : decode cX0_snapped 10 = .ok (.iload_n 1, 1) := by decide +kernel
theorem dX0_snapped_11 : decode cX0_snapped 11 = .ok (.aload_n 0, 1) := by decide +kernel
theorem dX0_snapped_12 : decode cX0_snapped 12 = .ok (.getfield 61, 3) := by decide +kernel
theorem dX0_snapped_15 : decode cX0_snapped 15 = .ok (.irem, 1) := by decide +kernel
theorem dX0_snapped_16 : decode cX0_snapped 16 = .ok (.istore_n 2, 1) := by decide +kernel
theorem dX0_snapped_17 : decode cX0_snapped 17 = .ok (.iload_n 2, 1) := by decide +kernel
theorem dX0_snapped_18 : decode cX0_snapped 18 = .ok (.ifCond .ne 7, 3) := by decide +kernel
theorem dX0_snapped_21 : decode cX0_snapped 21 = .ok (.iload_n 1, 1) := by decide +kernel
theorem dX0_snapped_22 : decode cX0_snapped 22 = .ok (.goto 11, 3) := by decide +kernel
theorem dX0_snapped_25 : decode cX0_snapped 25 = .ok (.iload_n 1, 1) := by decide +kernel
theorem dX0_snapped_26 : decode cX0_snapped 26 = .ok (.aload_n 0, 1) := by decide +kernel
theorem dX0_snapped_27 : decode cX0_snapped 27 = .ok (.getfield 61, 3) := by decide +kernel
theorem dX0_snapped_30 : decode cX0_snapped 30 = .ok (.iadd, 1) := by decide +kernel
theorem dX0_snapped_31 : decode cX0_snapped 31 = .ok (.iload_n 2, 1) := by decide +kernel
theorem dX0_snapped_32 : decode cX0_snapped 32 = .ok (.isub, 1) := by decide +kernel
theorem dX0_snapped_33 : decode cX0_snapped 33 = .ok (.ireturn, 1) := by decide +kernel
theorem dX0_areaBy_0 : decode cX0_areaBy 0 = .ok (.iconst 0, 1) := by decide +kernel
theorem dX0_areaBy_1 : decode cX0_areaBy 1 = .ok (.istore_n 2, 1) := by decide +kernel
theorem dX0_areaBy_2 : decode cX0_areaBy 2 = .ok (.iconst 0, 1) := by decide +kernel
theorem dX0_areaBy_3 : decode cX0_areaBy 3 = .ok (.istore_n 3, 1) := by decide +kernel
theorem dX0_areaBy_4 : decode cX0_areaBy 4 = .ok (.iload_n 3, 1) := by decide +kernel
theorem dX0_areaBy_5 : decode cX0_areaBy 5 = .ok (.aload_n 0, 1) := by decide +kernel
theorem dX0_areaBy_6 : decode cX0_areaBy 6 = .ok (.getfield 36, 3) := by decide +kernel
theorem dX0_areaBy_9 : decode cX0_areaBy 9 = .ok (.arraylength, 1) := by decide +kernel
theorem dX0_areaBy_10 : decode cX0_areaBy 10 = .ok (.if_icmp .ge 40, 3) := by decide +kernel
theorem dX0_areaBy_13 : decode cX0_areaBy 13 = .ok (.iload_n 1, 1) := by decide +kernel
theorem dX0_areaBy_14 : decode cX0_areaBy 14 = .ok (.aload_n 0, 1) := by decide +kernel
theorem dX0_areaBy_15 : decode cX0_areaBy 15 = .ok (.getfield 36, 3) := by decide +kernel
theorem dX0_areaBy_18 : decode cX0_areaBy 18 = .ok (.iload_n 3, 1) := by decide +kernel
theorem dX0_areaBy_19 : decode cX0_areaBy 19 = .ok (.iaload, 1) := by decide +kernel
theorem dX0_areaBy_20 : decode cX0_areaBy 20 = .ok (.iadd, 1) := by decide +kernel
theorem dX0_areaBy_21 : decode cX0_areaBy 21 = .ok (.istore 4, 2) := by decide +kernel
theorem dX0_areaBy_23 : decode cX0_areaBy 23 = .ok (.iload_n 2, 1) := by decide +kernel
theorem dX0_areaBy_24 : decode cX0_areaBy 24 = .ok (.iload 4, 2) := by decide +kernel
theorem dX0_areaBy_26 : decode cX0_areaBy 26 = .ok (.aload_n 0, 1) := by decide +kernel
theorem dX0_areaBy_27 : decode cX0_areaBy 27 = .ok (.getfield 54, 3) := by decide +kernel
theorem dX0_areaBy_30 : decode cX0_areaBy 30 = .ok (.if_icmp .ge 8, 3) := by decide +kernel
theorem dX0_areaBy_33 : decode cX0_areaBy 33 = .ok (.iload 4, 2) := by decide +kernel
theorem dX0_areaBy_35 : decode cX0_areaBy 35 = .ok (.goto 7, 3) := by decide +kernel
theorem dX0_areaBy_38 : decode cX0_areaBy 38 = .ok (.aload_n 0, 1) := by decide +kernel
theorem dX0_areaBy_39 : decode cX0_areaBy 39 = .ok (.getfield 54, 3) := by decide +kernel
theorem dX0_areaBy_42 : decode cX0_areaBy 42 = .ok (.iadd, 1) := by decide +kernel
theorem dX0_areaBy_43 : decode cX0_areaBy 43 = .ok (.istore_n 2, 1) := by decide +kernel
theorem dX0_areaBy_44 : decode cX0_areaBy 44 = .ok (.iinc 3 1, 3) := by decide +kernel
theorem dX0_areaBy_47 : decode cX0_areaBy 47 = .ok (.goto (-43), 3) := by decide +kernel
theorem dX0_areaBy_50 : decode cX0_areaBy 50 = .ok (.iload_n 2, 1) := by decide +kernel
theorem dX0_areaBy_51 : decode cX0_areaBy 51 = .ok (.ireturn, 1) := by decide +kernel
theorem dX0_shareOf_0 : decode cX0_shareOf 0 = .ok (.iload_n 1, 1) := by decide +kernel
theorem dX0_shareOf_1 : decode cX0_shareOf 1 = .ok (.aload_n 0, 1) := by decide +kernel
theorem dX0_shareOf_2 : decode cX0_shareOf 2 = .ok (.getfield 58, 3) := by decide +kernel
theorem dX0_shareOf_5 : decode cX0_shareOf 5 = .ok (.if_icmp .le 12, 3) := by decide +kernel
theorem dX0_shareOf_8 : decode cX0_shareOf 8 = .ok (.iload_n 1, 1) := by decide +kernel
theorem dX0_shareOf_9 : decode cX0_shareOf 9 = .ok (.aload_n 0, 1) := by decide +kernel
theorem dX0_shareOf_10 : decode cX0_shareOf 10 = .ok (.getfield 58, 3) := by decide +kernel
theorem dX0_shareOf_13 : decode cX0_shareOf 13 = .ok (.isub, 1) := by decide +kernel
theorem dX0_shareOf_14 : decode cX0_shareOf 14 = .ok (.goto 9, 3) := by decide +kernel
theorem dX0_shareOf_17 : decode cX0_shareOf 17 = .ok (.aload_n 0, 1) := by decide +kernel
theorem dX0_shareOf_18 : decode cX0_shareOf 18 = .ok (.getfield 58, 3) := by decide +kernel
theorem dX0_shareOf_21 : decode cX0_shareOf 21 = .ok (.iload_n 1, 1) := by decide +kernel
theorem dX0_shareOf_22 : decode cX0_shareOf 22 = .ok (.isub, 1) := by decide +kernel
theorem dX0_shareOf_23 : decode cX0_shareOf 23 = .ok (.istore_n 2, 1) := by decide +kernel
theorem dX0_shareOf_24 : decode cX0_shareOf 24 = .ok (.aload_n 0, 1) := by decide +kernel
theorem dX0_shareOf_25 : decode cX0_shareOf 25 = .ok (.getfield 58, 3) := by decide +kernel
theorem dX0_shareOf_28 : decode cX0_shareOf 28 = .ok (.ifCond .le 15, 3) := by decide +kernel
theorem dX0_shareOf_31 : decode cX0_shareOf 31 = .ok (.iload_n 2, 1) := by decide +kernel
theorem dX0_shareOf_32 : decode cX0_shareOf 32 = .ok (.bipush 100, 2) := by decide +kernel
theorem dX0_shareOf_34 : decode cX0_shareOf 34 = .ok (.imul, 1) := by decide +kernel
theorem dX0_shareOf_35 : decode cX0_shareOf 35 = .ok (.aload_n 0, 1) := by decide +kernel
theorem dX0_shareOf_36 : decode cX0_shareOf 36 = .ok (.getfield 58, 3) := by decide +kernel
theorem dX0_shareOf_39 : decode cX0_shareOf 39 = .ok (.idiv, 1) := by decide +kernel
theorem dX0_shareOf_40 : decode cX0_shareOf 40 = .ok (.goto 4, 3) := by decide +kernel
theorem dX0_shareOf_43 : decode cX0_shareOf 43 = .ok (.iconst 0, 1) := by decide +kernel
theorem dX0_shareOf_44 : decode cX0_shareOf 44 = .ok (.ireturn, 1) := by decide +kernel
set_option maxRecDepth 20000 in
theorem ggX0_countedCells_X3_letterAt : GoodIn wsX0_countedCells wsX3_letterAt := goodIn_r _ [8, 9, 10, 11, 12, 7, 13, 14, 15, 16, 17, 45, 46, 47, 48, 49] (by decide +kernel) (by decide +kernel)
set_option maxRecDepth 20000 in
theorem gX0_countedCells_X3_letterAt : GoodIn wsX0_countedCells (wsV RX0 96 RX3 yX3_letterAt wsX3_letterAt) := goodIn_app (goodIn_of _ (by decide +kernel)) ggX0_countedCells_X3_letterAt
set_option maxRecDepth 20000 in
theorem ggX0_countedCells_X0_joinEdges : GoodIn wsX0_countedCells wsX0_joinEdges := goodIn_r _ [22, 2, 23, 24, 16, 25, 26, 27, 15, 17, 28, 29, 30, 31, 32, 33, 34, 35, 36, 37, 38, 39, 40, 41, 42, 43, 44] (by decide +kernel) (by decide +kernel)
set_option maxRecDepth 20000 in
theorem gX0_countedCells_X0_joinEdges : GoodIn wsX0_countedCells (wsV RX0 100 RX0 yX0_joinEdges wsX0_joinEdges) := goodIn_app (goodIn_of _ (by decide +kernel)) ggX0_countedCells_X0_joinEdges
set_option maxRecDepth 20000 in
theorem ggX0_countedCells_X5_valueAt : GoodIn wsX0_countedCells wsX5_valueAt := goodIn_r _ [17] (by decide +kernel) (by decide +kernel)
set_option maxRecDepth 20000 in
theorem gX0_countedCells_X5_valueAt_n50 : GoodIn wsX0_countedCells (wsX5_valueAt) := ggX0_countedCells_X5_valueAt
theorem dX0_countedCells_0 : decode cX0_countedCells 0 = .ok (.aload_n 0, 1) := by decide +kernel
theorem dX0_countedCells_1 : decode cX0_countedCells 1 = .ok (.aload_n 1, 1) := by decide +kernel
theorem dX0_countedCells_2 : decode cX0_countedCells 2 = .ok (.iload_n 2, 1) := by decide +kernel
theorem dX0_countedCells_3 : decode cX0_countedCells 3 = .ok (.iconst 1, 1) := by decide +kernel
theorem dX0_countedCells_4 : decode cX0_countedCells 4 = .ok (.isub, 1) := by decide +kernel
theorem dX0_countedCells_5 : decode cX0_countedCells 5 = .ok (.invokevirtual 96, 3) := by decide +kernel
theorem dX0_countedCells_8 : decode cX0_countedCells 8 = .ok (.aload_n 1, 1) := by decide +kernel
theorem dX0_countedCells_9 : decode cX0_countedCells 9 = .ok (.iload_n 2, 1) := by decide +kernel
theorem dX0_countedCells_10 : decode cX0_countedCells 10 = .ok (.invokevirtual 96, 3) := by decide +kernel
theorem dX0_countedCells_13 : decode cX0_countedCells 13 = .ok (.invokevirtual 100, 3) := by decide +kernel
theorem dX0_countedCells_16 : decode cX0_countedCells 16 = .ok (.aload_n 0, 1) := by decide +kernel
theorem dX0_countedCells_17 : decode cX0_countedCells 17 = .ok (.getfield 24, 3) := by decide +kernel
theorem dX0_countedCells_20 : decode cX0_countedCells 20 = .ok (.iload_n 2, 1) := by decide +kernel
theorem dX0_countedCells_21 : decode cX0_countedCells 21 = .ok (.invokestatic 50, 3) := by decide +kernel
theorem dX0_countedCells_24 : decode cX0_countedCells 24 = .ok (.istore_n 3, 1) := by decide +kernel
theorem dX0_countedCells_25 : decode cX0_countedCells 25 = .ok (.iconst 0, 1) := by decide +kernel
theorem dX0_countedCells_26 : decode cX0_countedCells 26 = .ok (.istore 4, 2) := by decide +kernel
theorem dX0_countedCells_28 : decode cX0_countedCells 28 = .ok (.iconst 0, 1) := by decide +kernel
theorem dX0_countedCells_29 : decode cX0_countedCells 29 = .ok (.istore 5, 2) := by decide +kernel
theorem dX0_countedCells_31 : decode cX0_countedCells 31 = .ok (.iload 5, 2) := by decide +kernel
theorem dX0_countedCells_33 : decode cX0_countedCells 33 = .ok (.aload_n 0, 1) := by decide +kernel
theorem dX0_countedCells_34 : decode cX0_countedCells 34 = .ok (.getfield 36, 3) := by decide +kernel
theorem dX0_countedCells_37 : decode cX0_countedCells 37 = .ok (.arraylength, 1) := by decide +kernel
theorem dX0_countedCells_38 : decode cX0_countedCells 38 = .ok (.if_icmp .ge 44, 3) := by decide +kernel
theorem dX0_countedCells_41 : decode cX0_countedCells 41 = .ok (.iconst 0, 1) := by decide +kernel
theorem dX0_countedCells_42 : decode cX0_countedCells 42 = .ok (.istore 6, 2) := by decide +kernel
theorem dX0_countedCells_44 : decode cX0_countedCells 44 = .ok (.iload 6, 2) := by decide +kernel
theorem dX0_countedCells_46 : decode cX0_countedCells 46 = .ok (.aload_n 0, 1) := by decide +kernel
theorem dX0_countedCells_47 : decode cX0_countedCells 47 = .ok (.getfield 54, 3) := by decide +kernel
theorem dX0_countedCells_50 : decode cX0_countedCells 50 = .ok (.if_icmp .ge 26, 3) := by decide +kernel
theorem dX0_countedCells_53 : decode cX0_countedCells 53 = .ok (.iload 6, 2) := by decide +kernel
theorem dX0_countedCells_55 : decode cX0_countedCells 55 = .ok (.iload_n 3, 1) := by decide +kernel
theorem dX0_countedCells_56 : decode cX0_countedCells 56 = .ok (.aload_n 0, 1) := by decide +kernel
theorem dX0_countedCells_57 : decode cX0_countedCells 57 = .ok (.getfield 36, 3) := by decide +kernel
theorem dX0_countedCells_60 : decode cX0_countedCells 60 = .ok (.iload 5, 2) := by decide +kernel
theorem dX0_countedCells_62 : decode cX0_countedCells 62 = .ok (.iaload, 1) := by decide +kernel
theorem dX0_countedCells_63 : decode cX0_countedCells 63 = .ok (.iadd, 1) := by decide +kernel
theorem dX0_countedCells_64 : decode cX0_countedCells 64 = .ok (.if_icmp .ge 12, 3) := by decide +kernel
theorem dX0_countedCells_67 : decode cX0_countedCells 67 = .ok (.iinc 4 1, 3) := by decide +kernel
theorem dX0_countedCells_70 : decode cX0_countedCells 70 = .ok (.iinc 6 1, 3) := by decide +kernel
theorem dX0_countedCells_73 : decode cX0_countedCells 73 = .ok (.goto (-29), 3) := by decide +kernel
theorem dX0_countedCells_76 : decode cX0_countedCells 76 = .ok (.iinc 5 1, 3) := by decide +kernel
theorem dX0_countedCells_79 : decode cX0_countedCells 79 = .ok (.goto (-48), 3) := by decide +kernel
theorem dX0_countedCells_82 : decode cX0_countedCells 82 = .ok (.iload 4, 2) := by decide +kernel
theorem dX0_countedCells_84 : decode cX0_countedCells 84 = .ok (.ireturn, 1) := by decide +kernel
set_option maxRecDepth 20000 in
theorem ggX1_init_X3_init : GoodIn wsX1_init wsX3_init := goodIn_r _ [10, 11, 2, 3, 12, 13, 14, 15, 16, 17, 18, 19, 23, 24, 25, 26, 27] (by decide +kernel) (by decide +kernel)
set_option maxRecDepth 20000 in
theorem gX1_init_X3_init : GoodIn wsX1_init (wsX3_init) := ggX1_init_X3_init
theorem dX1_init_0 : decode cX1_init 0 = .ok (.aload_n 0, 1) := by decide +kernel
theorem dX1_init_1 : decode cX1_init 1 = .ok (.invokespecial 3, 3) := by decide +kernel
theorem dX1_init_4 : decode cX1_init 4 = .ok (.aload_n 0, 1) := by decide +kernel
theorem dX1_init_5 : decode cX1_init 5 = .ok (.bipush 6, 2) := by decide +kernel
theorem dX1_init_7 : decode cX1_init 7 = .ok (.anewarray 9, 3) := by decide +kernel
theorem dX1_init_10 : decode cX1_init 10 = .ok (.putfield 11, 3) := by decide +kernel
theorem dX1_init_13 : decode cX1_init 13 = .ok (.iconst 0, 1) := by decide +kernel
theorem dX1_init_14 : decode cX1_init 14 = .ok (.istore_n 1, 1) := by decide +kernel
theorem dX1_init_15 : decode cX1_init 15 = .ok (.iload_n 1, 1) := by decide +kernel
theorem dX1_init_16 : decode cX1_init 16 = .ok (.aload_n 0, 1) := by decide +kernel
theorem dX1_init_17 : decode cX1_init 17 = .ok (.getfield 11, 3) := by decide +kernel
theorem dX1_init_20 : decode cX1_init 20 = .ok (.arraylength, 1) := by decide +kernel
theorem dX1_init_21 : decode cX1_init 21 = .ok (.if_icmp .ge 22, 3) := by decide +kernel
theorem dX1_init_24 : decode cX1_init 24 = .ok (.aload_n 0, 1) := by decide +kernel
theorem dX1_init_25 : decode cX1_init 25 = .ok (.getfield 11, 3) := by decide +kernel
theorem dX1_init_28 : decode cX1_init 28 = .ok (.iload_n 1, 1) := by decide +kernel
theorem dX1_init_29 : decode cX1_init 29 = .ok (.new 9, 3) := by decide +kernel
theorem dX1_init_32 : decode cX1_init 32 = .ok (.dup, 1) := by decide +kernel
theorem dX1_init_33 : decode cX1_init 33 = .ok (.invokespecial 17, 3) := by decide +kernel
theorem dX1_init_36 : decode cX1_init 36 = .ok (.aastore, 1) := by decide +kernel
theorem dX1_init_37 : decode cX1_init 37 = .ok (.iinc 1 1, 3) := by decide +kernel
theorem dX1_init_40 : decode cX1_init 40 = .ok (.goto (-25), 3) := by decide +kernel
theorem dX1_init_43 : decode cX1_init 43 = .ok (.return_, 1) := by decide +kernel
set_option maxRecDepth 20000 in
theorem ggX1_save_X1_savedAt : GoodIn wsX1_save wsX1_savedAt := goodIn_r _ [7, 2, 8, 22, 23, 24] (by decide +kernel) (by decide +kernel)
set_option maxRecDepth 20000 in
theorem gX1_save_X1_savedAt : GoodIn wsX1_save (wsV RX1 25 RX1 yX1_savedAt wsX1_savedAt) := goodIn_app (goodIn_of _ (by decide +kernel)) ggX1_save_X1_savedAt
set_option maxRecDepth 20000 in
theorem ggX1_save_X3_copyFrom : GoodIn wsX1_save wsX3_copyFrom := goodIn_r _ [13, 14, 15, 16, 17, 18, 19, 20, 21, 25, 26, 27, 28, 29] (by decide +kernel) (by decide +kernel)
set_option maxRecDepth 20000 in
theorem gX1_save_X3_copyFrom : GoodIn wsX1_save (wsV RX1 29 RX3 yX3_copyFrom wsX3_copyFrom) := goodIn_app (goodIn_of _ (by decide +kernel)) ggX1_save_X3_copyFrom
theorem dX1_save_0 : decode cX1_save 0 = .ok (.aload_n 0, 1) := by decide +kernel
theorem dX1_save_1 : decode cX1_save 1 = .ok (.getfield 18, 3) := by decide +kernel
theorem dX1_save_4 : decode cX1_save 4 = .ok (.bipush 6, 2) := by decide +kernel
theorem dX1_save_6 : decode cX1_save 6 = .ok (.if_icmp .lt 26, 3) := by decide +kernel
theorem dX1_save_9 : decode cX1_save 9 = .ok (.aload_n 0, 1) := by decide +kernel
theorem dX1_save_10 : decode cX1_save 10 = .ok (.aload_n 0, 1) := by decide +kernel
theorem dX1_save_11 : decode cX1_save 11 = .ok (.getfield 22, 3) := by decide +kernel
theorem dX1_save_14 : decode cX1_save 14 = .ok (.iconst 1, 1) := by decide +kernel
theorem dX1_save_15 : decode cX1_save 15 = .ok (.iadd, 1) := by decide +kernel
theorem dX1_save_16 : decode cX1_save 16 = .ok (.bipush 6, 2) := by decide +kernel
theorem dX1_save_18 : decode cX1_save 18 = .ok (.irem, 1) := by decide +kernel
theorem dX1_save_19 : decode cX1_save 19 = .ok (.putfield 22, 3) := by decide +kernel
theorem dX1_save_22 : decode cX1_save 22 = .ok (.aload_n 0, 1) := by decide +kernel
theorem dX1_save_23 : decode cX1_save 23 = .ok (.dup, 1) := by decide +kernel
theorem dX1_save_24 : decode cX1_save 24 = .ok (.getfield 18, 3) := by decide +kernel
theorem dX1_save_27 : decode cX1_save 27 = .ok (.iconst 1, 1) := by decide +kernel
theorem dX1_save_28 : decode cX1_save 28 = .ok (.isub, 1) := by decide +kernel
theorem dX1_save_29 : decode cX1_save 29 = .ok (.putfield 18, 3) := by decide +kernel
theorem dX1_save_32 : decode cX1_save 32 = .ok (.aload_n 0, 1) := by decide +kernel
theorem dX1_save_33 : decode cX1_save 33 = .ok (.aload_n 0, 1) := by decide +kernel
theorem dX1_save_34 : decode cX1_save 34 = .ok (.getfield 18, 3) := by decide +kernel
theorem dX1_save_37 : decode cX1_save 37 = .ok (.invokevirtual 25, 3) := by decide +kernel
theorem dX1_save_40 : decode cX1_save 40 = .ok (.astore_n 2, 1) := by decide +kernel
theorem dX1_save_41 : decode cX1_save 41 = .ok (.aload_n 2, 1) := by decide +kernel
theorem dX1_save_42 : decode cX1_save 42 = .ok (.ifnull 18, 3) := by decide +kernel
theorem dX1_save_45 : decode cX1_save 45 = .ok (.aload_n 2, 1) := by decide +kernel
theorem dX1_save_46 : decode cX1_save 46 = .ok (.aload_n 1, 1) := by decide +kernel
theorem dX1_save_47 : decode cX1_save 47 = .ok (.invokevirtual 29, 3) := by decide +kernel
theorem dX1_save_50 : decode cX1_save 50 = .ok (.aload_n 0, 1) := by decide +kernel
theorem dX1_save_51 : decode cX1_save 51 = .ok (.dup, 1) := by decide +kernel
theorem dX1_save_52 : decode cX1_save 52 = .ok (.getfield 18, 3) := by decide +kernel
theorem dX1_save_55 : decode cX1_save 55 = .ok (.iconst 1, 1) := by decide +kernel
theorem dX1_save_56 : decode cX1_save 56 = .ok (.iadd, 1) := by decide +kernel
theorem dX1_save_57 : decode cX1_save 57 = .ok (.putfield 18, 3) := by decide +kernel
theorem dX1_save_60 : decode cX1_save 60 = .ok (.return_, 1) := by decide +kernel
set_option maxRecDepth 20000 in
theorem ggX1_takeLatest_X1_savedAt : GoodIn wsX1_takeLatest wsX1_savedAt := goodIn_r _ [6, 7, 8, 22, 23, 24] (by decide +kernel) (by decide +kernel)
set_option maxRecDepth 20000 in
theorem gX1_takeLatest_X1_savedAt : GoodIn wsX1_takeLatest (wsV RX1 25 RX1 yX1_savedAt wsX1_savedAt) := goodIn_app (goodIn_of _ (by decide +kernel)) ggX1_takeLatest_X1_savedAt
set_option maxRecDepth 20000 in
theorem ggX1_takeLatest_X3_copyFrom : GoodIn wsX1_takeLatest wsX3_copyFrom := goodIn_r _ [13, 14, 15, 16, 17, 18, 19, 20, 21, 25, 26, 27, 28, 29] (by decide +kernel) (by decide +kernel)
set_option maxRecDepth 20000 in
theorem gX1_takeLatest_X3_copyFrom : GoodIn wsX1_takeLatest (wsV RX1 29 RX3 yX3_copyFrom wsX3_copyFrom) := goodIn_app (goodIn_of _ (by decide +kernel)) ggX1_takeLatest_X3_copyFrom
theorem dX1_takeLatest_0 : decode cX1_takeLatest 0 = .ok (.aload_n 0, 1) := by decide +kernel
theorem dX1_takeLatest_1 : decode cX1_takeLatest 1 = .ok (.getfield 18, 3) := by decide +kernel
theorem dX1_takeLatest_4 : decode cX1_takeLatest 4 = .ok (.ifCond .le 16, 3) := by decide +kernel
theorem dX1_takeLatest_7 : decode cX1_takeLatest 7 = .ok (.aload_n 0, 1) := by decide +kernel
theorem dX1_takeLatest_8 : decode cX1_takeLatest 8 = .ok (.aload_n 0, 1) := by decide +kernel
theorem dX1_takeLatest_9 : decode cX1_takeLatest 9 = .ok (.getfield 18, 3) := by decide +kernel
theorem dX1_takeLatest_12 : decode cX1_takeLatest 12 = .ok (.iconst 1, 1) := by decide +kernel
theorem dX1_takeLatest_13 : decode cX1_takeLatest 13 = .ok (.isub, 1) := by decide +kernel
theorem dX1_takeLatest_14 : decode cX1_takeLatest 14 = .ok (.invokevirtual 25, 3) := by decide +kernel
theorem dX1_takeLatest_17 : decode cX1_takeLatest 17 = .ok (.goto 4, 3) := by decide +kernel
theorem dX1_takeLatest_20 : decode cX1_takeLatest 20 = .ok (.aconst_null, 1) := by decide +kernel
theorem dX1_takeLatest_21 : decode cX1_takeLatest 21 = .ok (.astore_n 2, 1) := by decide +kernel
theorem dX1_takeLatest_22 : decode cX1_takeLatest 22 = .ok (.aload_n 2, 1) := by decide +kernel
theorem dX1_takeLatest_23 : decode cX1_takeLatest 23 = .ok (.ifnull 18, 3) := by decide +kernel
theorem dX1_takeLatest_26 : decode cX1_takeLatest 26 = .ok (.aload_n 1, 1) := by decide +kernel
theorem dX1_takeLatest_27 : decode cX1_takeLatest 27 = .ok (.aload_n 2, 1) := by decide +kernel
theorem dX1_takeLatest_28 : decode cX1_takeLatest 28 = .ok (.invokevirtual 29, 3) := by decide +kernel
theorem dX1_takeLatest_31 : decode cX1_takeLatest 31 = .ok (.aload_n 0, 1) := by decide +kernel
theorem dX1_takeLatest_32 : decode cX1_takeLatest 32 = .ok (.dup, 1) := by decide +kernel
theorem dX1_takeLatest_33 : decode cX1_takeLatest 33 = .ok (.getfield 18, 3) := by decide +kernel
theorem dX1_takeLatest_36 : decode cX1_takeLatest 36 = .ok (.iconst 1, 1) := by decide +kernel
theorem dX1_takeLatest_37 : decode cX1_takeLatest 37 = .ok (.isub, 1) := by decide +kernel
theorem dX1_takeLatest_38 : decode cX1_takeLatest 38 = .ok (.putfield 18, 3) := by decide +kernel
theorem dX1_takeLatest_41 : decode cX1_takeLatest 41 = .ok (.return_, 1) := by decide +kernel
theorem dX1_savedAt_0 : decode cX1_savedAt 0 = .ok (.aload_n 0, 1) := by decide +kernel
theorem dX1_savedAt_1 : decode cX1_savedAt 1 = .ok (.getfield 22, 3) := by decide +kernel
theorem dX1_savedAt_4 : decode cX1_savedAt 4 = .ok (.iload_n 1, 1) := by decide +kernel
theorem dX1_savedAt_5 : decode cX1_savedAt 5 = .ok (.iadd, 1) := by decide +kernel
theorem dX1_savedAt_6 : decode cX1_savedAt 6 = .ok (.bipush 6, 2) := by decide +kernel
theorem dX1_savedAt_8 : decode cX1_savedAt 8 = .ok (.irem, 1) := by decide +kernel
theorem dX1_savedAt_9 : decode cX1_savedAt 9 = .ok (.istore_n 2, 1) := by decide +kernel
theorem dX1_savedAt_10 : decode cX1_savedAt 10 = .ok (.iload_n 2, 1) := by decide +kernel
theorem dX1_savedAt_11 : decode cX1_savedAt 11 = .ok (.ifCond .lt 21, 3) := by decide +kernel
theorem dX1_savedAt_14 : decode cX1_savedAt 14 = .ok (.iload_n 2, 1) := by decide +kernel
theorem dX1_savedAt_15 : decode cX1_savedAt 15 = .ok (.aload_n 0, 1) := by decide +kernel
theorem dX1_savedAt_16 : decode cX1_savedAt 16 = .ok (.getfield 11, 3) := by decide +kernel
theorem dX1_savedAt_19 : decode cX1_savedAt 19 = .ok (.arraylength, 1) := by decide +kernel
theorem dX1_savedAt_20 : decode cX1_savedAt 20 = .ok (.if_icmp .ge 12, 3) := by decide +kernel
theorem dX1_savedAt_23 : decode cX1_savedAt 23 = .ok (.aload_n 0, 1) := by decide +kernel
theorem dX1_savedAt_24 : decode cX1_savedAt 24 = .ok (.getfield 11, 3) := by decide +kernel
theorem dX1_savedAt_27 : decode cX1_savedAt 27 = .ok (.iload_n 2, 1) := by decide +kernel
theorem dX1_savedAt_28 : decode cX1_savedAt 28 = .ok (.aaload, 1) := by decide +kernel
theorem dX1_savedAt_29 : decode cX1_savedAt 29 = .ok (.goto 4, 3) := by decide +kernel
theorem dX1_savedAt_32 : decode cX1_savedAt 32 = .ok (.aconst_null, 1) := by decide +kernel
theorem dX1_savedAt_33 : decode cX1_savedAt 33 = .ok (.areturn, 1) := by decide +kernel
theorem dX2_init_0 : decode cX2_init 0 = .ok (.aload_n 0, 1) := by decide +kernel
theorem dX2_init_1 : decode cX2_init 1 = .ok (.invokespecial 3, 3) := by decide +kernel
theorem dX2_init_4 : decode cX2_init 4 = .ok (.aload_n 0, 1) := by decide +kernel
theorem dX2_init_5 : decode cX2_init 5 = .ok (.bipush 20, 2) := by decide +kernel
theorem dX2_init_7 : decode cX2_init 7 = .ok (.newarray .int, 2) := by decide +kernel
theorem dX2_init_9 : decode cX2_init 9 = .ok (.putfield 9, 3) := by decide +kernel
theorem dX2_init_12 : decode cX2_init 12 = .ok (.aload_n 0, 1) := by decide +kernel
theorem dX2_init_13 : decode cX2_init 13 = .ok (.iload_n 1, 1) := by decide +kernel
theorem dX2_init_14 : decode cX2_init 14 = .ok (.putfield 15, 3) := by decide +kernel
theorem dX2_init_17 : decode cX2_init 17 = .ok (.return_, 1) := by decide +kernel
set_option maxRecDepth 20000 in
theorem ggX2_rank_X0_isPair : GoodIn wsX2_rank wsX0_isPair := goodIn_r _ [6, 7, 8, 9, 10, 11, 28, 29, 30, 31, 32, 33, 34, 35, 36, 37, 38, 39, 40, 41, 42, 43, 44] (by decide +kernel) (by decide +kernel)
set_option maxRecDepth 20000 in
theorem gX2_rank_X0_isPair : GoodIn wsX2_rank (wsV RX2 28 RX0 yX0_isPair wsX0_isPair) := goodIn_app (goodIn_of _ (by decide +kernel)) ggX2_rank_X0_isPair
set_option maxRecDepth 20000 in
theorem ggX2_rank_X2_enter : GoodIn wsX2_rank wsX2_enter := goodIn_r _ [16, 1, 17, 9, 10, 11, 18, 19, 20, 15, 21, 22, 23, 24, 25, 26, 27, 28, 29, 30, 31, 32, 33, 34, 35, 36, 37, 38, 39, 40, 41, 42, 43, 44] (by decide +kernel) (by decide +kernel)
set_option maxRecDepth 20000 in
theorem gX2_rank_X2_enter : GoodIn wsX2_rank (wsV RX2 32 RX2 yX2_enter wsX2_enter) := goodIn_app (goodIn_of _ (by decide +kernel)) ggX2_rank_X2_enter
theorem dX2_rank_0 : decode cX2_rank 0 = .ok (.aload_n 0, 1) := by decide +kernel
theorem dX2_rank_1 : decode cX2_rank 1 = .ok (.iconst 0, 1) := by decide +kernel
theorem dX2_rank_2 : decode cX2_rank 2 = .ok (.putfield 19, 3) := by decide +kernel
theorem dX2_rank_5 : decode cX2_rank 5 = .ok (.iconst 0, 1) := by decide +kernel
theorem dX2_rank_6 : decode cX2_rank 6 = .ok (.istore_n 2, 1) := by decide +kernel
theorem dX2_rank_7 : decode cX2_rank 7 = .ok (.iload_n 2, 1) := by decide +kernel
theorem dX2_rank_8 : decode cX2_rank 8 = .ok (.aload_n 1, 1) := by decide +kernel
theorem dX2_rank_9 : decode cX2_rank 9 = .ok (.getfield 23, 3) := by decide +kernel
theorem dX2_rank_12 : decode cX2_rank 12 = .ok (.if_icmp .ge 23, 3) := by decide +kernel
theorem dX2_rank_15 : decode cX2_rank 15 = .ok (.aload_n 1, 1) := by decide +kernel
theorem dX2_rank_16 : decode cX2_rank 16 = .ok (.iload_n 2, 1) := by decide +kernel
theorem dX2_rank_17 : decode cX2_rank 17 = .ok (.invokevirtual 28, 3) := by decide +kernel
theorem dX2_rank_20 : decode cX2_rank 20 = .ok (.ifCond .eq 9, 3) := by decide +kernel
theorem dX2_rank_23 : decode cX2_rank 23 = .ok (.aload_n 0, 1) := by decide +kernel
theorem dX2_rank_24 : decode cX2_rank 24 = .ok (.aload_n 1, 1) := by decide +kernel
theorem dX2_rank_25 : decode cX2_rank 25 = .ok (.iload_n 2, 1) := by decide +kernel
theorem dX2_rank_26 : decode cX2_rank 26 = .ok (.invokevirtual 32, 3) := by decide +kernel
theorem dX2_rank_29 : decode cX2_rank 29 = .ok (.iinc 2 1, 3) := by decide +kernel
theorem dX2_rank_32 : decode cX2_rank 32 = .ok (.goto (-25), 3) := by decide +kernel
theorem dX2_rank_35 : decode cX2_rank 35 = .ok (.return_, 1) := by decide +kernel
set_option maxRecDepth 20000 in
theorem ggX2_placeAt_X5_valueAt : GoodIn wsX2_placeAt wsX5_valueAt := goodIn_r _ [5] (by decide +kernel) (by decide +kernel)
set_option maxRecDepth 20000 in
theorem gX2_placeAt_X5_valueAt_n36 : GoodIn wsX2_placeAt (wsX5_valueAt) := ggX2_placeAt_X5_valueAt
theorem dX2_placeAt_0 : decode cX2_placeAt 0 = .ok (.iload_n 1, 1) := by decide +kernel
theorem dX2_placeAt_1 : decode cX2_placeAt 1 = .ok (.ifCond .lt 22, 3) := by decide +kernel
theorem dX2_placeAt_4 : decode cX2_placeAt 4 = .ok (.iload_n 1, 1) := by decide +kernel
theorem dX2_placeAt_5 : decode cX2_placeAt 5 = .ok (.aload_n 0, 1) := by decide +kernel
theorem dX2_placeAt_6 : decode cX2_placeAt 6 = .ok (.getfield 19, 3) := by decide +kernel
theorem dX2_placeAt_9 : decode cX2_placeAt 9 = .ok (.if_icmp .ge 14, 3) := by decide +kernel
theorem dX2_placeAt_12 : decode cX2_placeAt 12 = .ok (.aload_n 0, 1) := by decide +kernel
theorem dX2_placeAt_13 : decode cX2_placeAt 13 = .ok (.getfield 9, 3) := by decide +kernel
theorem dX2_placeAt_16 : decode cX2_placeAt 16 = .ok (.iload_n 1, 1) := by decide +kernel
theorem dX2_placeAt_17 : decode cX2_placeAt 17 = .ok (.invokestatic 36, 3) := by decide +kernel
theorem dX2_placeAt_20 : decode cX2_placeAt 20 = .ok (.goto 4, 3) := by decide +kernel
theorem dX2_placeAt_23 : decode cX2_placeAt 23 = .ok (.iconst (-1), 1) := by decide +kernel
theorem dX2_placeAt_24 : decode cX2_placeAt 24 = .ok (.ireturn, 1) := by decide +kernel
set_option maxRecDepth 20000 in
theorem ggX2_enter_X5_valueAt : GoodIn wsX2_enter wsX5_valueAt := goodIn_r _ [5] (by decide +kernel) (by decide +kernel)
set_option maxRecDepth 20000 in
theorem gX2_enter_X5_valueAt_n36 : GoodIn wsX2_enter (wsX5_valueAt) := ggX2_enter_X5_valueAt
set_option maxRecDepth 20000 in
theorem ggX2_enter_X2_comesBefore : GoodIn wsX2_enter wsX2_comesBefore := goodIn_r _ [10, 11, 3, 4, 5, 17, 18, 19, 20, 21, 22, 23, 24, 25, 26, 27, 28, 29, 30, 31, 32, 33, 14, 15, 16] (by decide +kernel) (by decide +kernel)
set_option maxRecDepth 20000 in
theorem gX2_enter_X2_comesBefore : GoodIn wsX2_enter (wsV RX2 40 RX2 yX2_comesBefore wsX2_comesBefore) := goodIn_app (goodIn_of _ (by decide +kernel)) ggX2_enter_X2_comesBefore
set_option maxRecDepth 20000 in
theorem ggX2_enter_X5_store : GoodIn wsX2_enter wsX5_store := goodIn_r _ [13] (by decide +kernel) (by decide +kernel)
set_option maxRecDepth 20000 in
theorem gX2_enter_X5_store_n44 : GoodIn wsX2_enter (wsX5_store) := ggX2_enter_X5_store
theorem dX2_enter_0 : decode cX2_enter 0 = .ok (.aload_n 0, 1) := by decide +kernel
theorem dX2_enter_1 : decode cX2_enter 1 = .ok (.getfield 19, 3) := by decide +kernel
theorem dX2_enter_4 : decode cX2_enter 4 = .ok (.istore_n 3, 1) := by decide +kernel
theorem dX2_enter_5 : decode cX2_enter 5 = .ok (.aload_n 0, 1) := by decide +kernel
theorem dX2_enter_6 : decode cX2_enter 6 = .ok (.getfield 19, 3) := by decide +kernel
theorem dX2_enter_9 : decode cX2_enter 9 = .ok (.iconst 1, 1) := by decide +kernel
theorem dX2_enter_10 : decode cX2_enter 10 = .ok (.isub, 1) := by decide +kernel
theorem dX2_enter_11 : decode cX2_enter 11 = .ok (.istore 4, 2) := by decide +kernel
theorem dX2_enter_13 : decode cX2_enter 13 = .ok (.iload 4, 2) := by decide +kernel
theorem dX2_enter_15 : decode cX2_enter 15 = .ok (.ifCond .lt 47, 3) := by decide +kernel
theorem dX2_enter_18 : decode cX2_enter 18 = .ok (.aload_n 0, 1) := by decide +kernel
theorem dX2_enter_19 : decode cX2_enter 19 = .ok (.getfield 9, 3) := by decide +kernel
theorem dX2_enter_22 : decode cX2_enter 22 = .ok (.iload 4, 2) := by decide +kernel
theorem dX2_enter_24 : decode cX2_enter 24 = .ok (.invokestatic 36, 3) := by decide +kernel
theorem dX2_enter_27 : decode cX2_enter 27 = .ok (.istore 5, 2) := by decide +kernel
theorem dX2_enter_29 : decode cX2_enter 29 = .ok (.aload_n 0, 1) := by decide +kernel
theorem dX2_enter_30 : decode cX2_enter 30 = .ok (.aload_n 1, 1) := by decide +kernel
theorem dX2_enter_31 : decode cX2_enter 31 = .ok (.iload_n 2, 1) := by decide +kernel
theorem dX2_enter_32 : decode cX2_enter 32 = .ok (.iload 5, 2) := by decide +kernel
theorem dX2_enter_34 : decode cX2_enter 34 = .ok (.invokevirtual 40, 3) := by decide +kernel
theorem dX2_enter_37 : decode cX2_enter 37 = .ok (.ifCond .ne 6, 3) := by decide +kernel
theorem dX2_enter_40 : decode cX2_enter 40 = .ok (.goto 22, 3) := by decide +kernel
theorem dX2_enter_43 : decode cX2_enter 43 = .ok (.aload_n 0, 1) := by decide +kernel
theorem dX2_enter_44 : decode cX2_enter 44 = .ok (.getfield 9, 3) := by decide +kernel
theorem dX2_enter_47 : decode cX2_enter 47 = .ok (.iload_n 3, 1) := by decide +kernel
theorem dX2_enter_48 : decode cX2_enter 48 = .ok (.iload 5, 2) := by decide +kernel
theorem dX2_enter_50 : decode cX2_enter 50 = .ok (.invokestatic 44, 3) := by decide +kernel
theorem dX2_enter_53 : decode cX2_enter 53 = .ok (.iload 4, 2) := by decide +kernel
theorem dX2_enter_55 : decode cX2_enter 55 = .ok (.istore_n 3, 1) := by decide +kernel
theorem dX2_enter_56 : decode cX2_enter 56 = .ok (.iinc 4 (-1), 3) := by decide +kernel
theorem dX2_enter_59 : decode cX2_enter 59 = .ok (.goto (-46), 3) := by decide +kernel
theorem dX2_enter_62 : decode cX2_enter 62 = .ok (.aload_n 0, 1) := by decide +kernel
theorem dX2_enter_63 : decode cX2_enter 63 = .ok (.getfield 9, 3) := by decide +kernel
theorem dX2_enter_66 : decode cX2_enter 66 = .ok (.iload_n 3, 1) := by decide +kernel
theorem dX2_enter_67 : decode cX2_enter 67 = .ok (.iload_n 2, 1) := by decide +kernel
theorem dX2_enter_68 : decode cX2_enter 68 = .ok (.invokestatic 44, 3) := by decide +kernel
theorem dX2_enter_71 : decode cX2_enter 71 = .ok (.aload_n 0, 1) := by decide +kernel
theorem dX2_enter_72 : decode cX2_enter 72 = .ok (.dup, 1) := by decide +kernel
theorem dX2_enter_73 : decode cX2_enter 73 = .ok (.getfield 19, 3) := by decide +kernel
theorem dX2_enter_76 : decode cX2_enter 76 = .ok (.iconst 1, 1) := by decide +kernel
theorem dX2_enter_77 : decode cX2_enter 77 = .ok (.iadd, 1) := by decide +kernel
theorem dX2_enter_78 : decode cX2_enter 78 = .ok (.putfield 19, 3) := by decide +kernel
theorem dX2_enter_81 : decode cX2_enter 81 = .ok (.return_, 1) := by decide +kernel
set_option maxRecDepth 20000 in
theorem ggX2_comesBefore_X5_valueAt : GoodIn wsX2_comesBefore wsX5_valueAt := goodIn_r _ [4] (by decide +kernel) (by decide +kernel)
set_option maxRecDepth 20000 in
theorem gX2_comesBefore_X5_valueAt_n36 : GoodIn wsX2_comesBefore (wsX5_valueAt) := ggX2_comesBefore_X5_valueAt
theorem dX2_comesBefore_0 : decode cX2_comesBefore 0 = .ok (.aload_n 1, 1) := by decide +kernel
theorem dX2_comesBefore_1 : decode cX2_comesBefore 1 = .ok (.getfield 48, 3) := by decide +kernel
theorem dX2_comesBefore_4 : decode cX2_comesBefore 4 = .ok (.iload_n 2, 1) := by decide +kernel
theorem dX2_comesBefore_5 : decode cX2_comesBefore 5 = .ok (.invokestatic 36, 3) := by decide +kernel
theorem dX2_comesBefore_8 : decode cX2_comesBefore 8 = .ok (.istore 4, 2) := by decide +kernel
theorem dX2_comesBefore_10 : decode cX2_comesBefore 10 = .ok (.aload_n 1, 1) := by decide +kernel
theorem dX2_comesBefore_11 : decode cX2_comesBefore 11 = .ok (.getfield 48, 3) := by decide +kernel
theorem dX2_comesBefore_14 : decode cX2_comesBefore 14 = .ok (.iload_n 3, 1) := by decide +kernel
theorem dX2_comesBefore_15 : decode cX2_comesBefore 15 = .ok (.invokestatic 36, 3) := by decide +kernel
theorem dX2_comesBefore_18 : decode cX2_comesBefore 18 = .ok (.istore 5, 2) := by decide +kernel
theorem dX2_comesBefore_20 : decode cX2_comesBefore 20 = .ok (.aload_n 0, 1) := by decide +kernel
theorem dX2_comesBefore_21 : decode cX2_comesBefore 21 = .ok (.getfield 15, 3) := by decide +kernel
theorem dX2_comesBefore_24 : decode cX2_comesBefore 24 = .ok (.ifCond .ne 16, 3) := by decide +kernel
theorem dX2_comesBefore_27 : decode cX2_comesBefore 27 = .ok (.iload 4, 2) := by decide +kernel
theorem dX2_comesBefore_29 : decode cX2_comesBefore 29 = .ok (.iload 5, 2) := by decide +kernel
theorem dX2_comesBefore_31 : decode cX2_comesBefore 31 = .ok (.if_icmp .ge 7, 3) := by decide +kernel
theorem dX2_comesBefore_34 : decode cX2_comesBefore 34 = .ok (.iconst 1, 1) := by decide +kernel
theorem dX2_comesBefore_35 : decode cX2_comesBefore 35 = .ok (.goto 4, 3) := by decide +kernel
theorem dX2_comesBefore_38 : decode cX2_comesBefore 38 = .ok (.iconst 0, 1) := by decide +kernel
theorem dX2_comesBefore_39 : decode cX2_comesBefore 39 = .ok (.ireturn, 1) := by decide +kernel
theorem dX2_comesBefore_40 : decode cX2_comesBefore 40 = .ok (.aload_n 1, 1) := by decide +kernel
theorem dX2_comesBefore_41 : decode cX2_comesBefore 41 = .ok (.getfield 51, 3) := by decide +kernel
theorem dX2_comesBefore_44 : decode cX2_comesBefore 44 = .ok (.iload_n 2, 1) := by decide +kernel
theorem dX2_comesBefore_45 : decode cX2_comesBefore 45 = .ok (.invokestatic 36, 3) := by decide +kernel
theorem dX2_comesBefore_48 : decode cX2_comesBefore 48 = .ok (.istore 6, 2) := by decide +kernel
theorem dX2_comesBefore_50 : decode cX2_comesBefore 50 = .ok (.aload_n 1, 1) := by decide +kernel
theorem dX2_comesBefore_51 : decode cX2_comesBefore 51 = .ok (.getfield 51, 3) := by decide +kernel
theorem dX2_comesBefore_54 : decode cX2_comesBefore 54 = .ok (.iload_n 3, 1) := by decide +kernel
theorem dX2_comesBefore_55 : decode cX2_comesBefore 55 = .ok (.invokestatic 36, 3) := by decide +kernel
theorem dX2_comesBefore_58 : decode cX2_comesBefore 58 = .ok (.istore 7, 2) := by decide +kernel
theorem dX2_comesBefore_60 : decode cX2_comesBefore 60 = .ok (.iload 6, 2) := by decide +kernel
theorem dX2_comesBefore_62 : decode cX2_comesBefore 62 = .ok (.iload 7, 2) := by decide +kernel
theorem dX2_comesBefore_64 : decode cX2_comesBefore 64 = .ok (.if_icmp .eq 18, 3) := by decide +kernel
theorem dX2_comesBefore_67 : decode cX2_comesBefore 67 = .ok (.iload 6, 2) := by decide +kernel
theorem dX2_comesBefore_69 : decode cX2_comesBefore 69 = .ok (.iload 7, 2) := by decide +kernel
theorem dX2_comesBefore_71 : decode cX2_comesBefore 71 = .ok (.if_icmp .le 7, 3) := by decide +kernel
theorem dX2_comesBefore_74 : decode cX2_comesBefore 74 = .ok (.iconst 1, 1) := by decide +kernel
theorem dX2_comesBefore_75 : decode cX2_comesBefore 75 = .ok (.goto 19, 3) := by decide +kernel
theorem dX2_comesBefore_78 : decode cX2_comesBefore 78 = .ok (.iconst 0, 1) := by decide +kernel
theorem dX2_comesBefore_79 : decode cX2_comesBefore 79 = .ok (.goto 15, 3) := by decide +kernel
theorem dX2_comesBefore_82 : decode cX2_comesBefore 82 = .ok (.iload 4, 2) := by decide +kernel
theorem dX2_comesBefore_84 : decode cX2_comesBefore 84 = .ok (.iload 5, 2) := by decide +kernel
theorem dX2_comesBefore_86 : decode cX2_comesBefore 86 = .ok (.if_icmp .le 7, 3) := by decide +kernel
theorem dX2_comesBefore_89 : decode cX2_comesBefore 89 = .ok (.iconst 1, 1) := by decide +kernel
theorem dX2_comesBefore_90 : decode cX2_comesBefore 90 = .ok (.goto 4, 3) := by decide +kernel
theorem dX2_comesBefore_93 : decode cX2_comesBefore 93 = .ok (.iconst 0, 1) := by decide +kernel
theorem dX2_comesBefore_94 : decode cX2_comesBefore 94 = .ok (.ireturn, 1) := by decide +kernel
set_option maxRecDepth 20000 in
theorem ggX3_init_X5_copyRow : GoodIn wsX3_init wsX5_copyRow := goodIn_r _ [11] (by decide +kernel) (by decide +kernel)
set_option maxRecDepth 20000 in
theorem gX3_init_X5_copyRow_n28 : GoodIn wsX3_init (wsX5_copyRow) := ggX3_init_X5_copyRow
theorem dX3_init_0 : decode cX3_init 0 = .ok (.aload_n 0, 1) := by decide +kernel
theorem dX3_init_1 : decode cX3_init 1 = .ok (.invokespecial 3, 3) := by decide +kernel
theorem dX3_init_4 : decode cX3_init 4 = .ok (.aload_n 0, 1) := by decide +kernel
theorem dX3_init_5 : decode cX3_init 5 = .ok (.bipush 20, 2) := by decide +kernel
theorem dX3_init_7 : decode cX3_init 7 = .ok (.newarray .int, 2) := by decide +kernel
theorem dX3_init_9 : decode cX3_init 9 = .ok (.putfield 9, 3) := by decide +kernel
theorem dX3_init_12 : decode cX3_init 12 = .ok (.aload_n 0, 1) := by decide +kernel
theorem dX3_init_13 : decode cX3_init 13 = .ok (.bipush 20, 2) := by decide +kernel
theorem dX3_init_15 : decode cX3_init 15 = .ok (.newarray .int, 2) := by decide +kernel
theorem dX3_init_17 : decode cX3_init 17 = .ok (.putfield 15, 3) := by decide +kernel
theorem dX3_init_20 : decode cX3_init 20 = .ok (.aload_n 0, 1) := by decide +kernel
theorem dX3_init_21 : decode cX3_init 21 = .ok (.bipush 6, 2) := by decide +kernel
theorem dX3_init_23 : decode cX3_init 23 = .ok (.newarray .int, 2) := by decide +kernel
theorem dX3_init_25 : decode cX3_init 25 = .ok (.putfield 18, 3) := by decide +kernel
theorem dX3_init_28 : decode cX3_init 28 = .ok (.aload_n 0, 1) := by decide +kernel
theorem dX3_init_29 : decode cX3_init 29 = .ok (.sipush 300, 3) := by decide +kernel
theorem dX3_init_32 : decode cX3_init 32 = .ok (.putfield 21, 3) := by decide +kernel
theorem dX3_init_35 : decode cX3_init 35 = .ok (.getstatic 25, 3) := by decide +kernel
theorem dX3_init_38 : decode cX3_init 38 = .ok (.aload_n 0, 1) := by decide +kernel
theorem dX3_init_39 : decode cX3_init 39 = .ok (.getfield 18, 3) := by decide +kernel
theorem dX3_init_42 : decode cX3_init 42 = .ok (.invokestatic 28, 3) := by decide +kernel
theorem dX3_init_45 : decode cX3_init 45 = .ok (.return_, 1) := by decide +kernel
set_option maxRecDepth 20000 in
theorem ggX3_copyFrom_X5_copyRow : GoodIn wsX3_copyFrom wsX5_copyRow := goodIn_r _ [8] (by decide +kernel) (by decide +kernel)
set_option maxRecDepth 20000 in
theorem gX3_copyFrom_X5_copyRow_n28 : GoodIn wsX3_copyFrom (wsX5_copyRow) := ggX3_copyFrom_X5_copyRow
theorem dX3_copyFrom_0 : decode cX3_copyFrom 0 = .ok (.aload_n 1, 1) := by decide +kernel
theorem dX3_copyFrom_1 : decode cX3_copyFrom 1 = .ok (.getfield 9, 3) := by decide +kernel
theorem dX3_copyFrom_4 : decode cX3_copyFrom 4 = .ok (.aload_n 0, 1) := by decide +kernel
theorem dX3_copyFrom_5 : decode cX3_copyFrom 5 = .ok (.getfield 9, 3) := by decide +kernel
theorem dX3_copyFrom_8 : decode cX3_copyFrom 8 = .ok (.invokestatic 28, 3) := by decide +kernel
theorem dX3_copyFrom_11 : decode cX3_copyFrom 11 = .ok (.aload_n 1, 1) := by decide +kernel
theorem dX3_copyFrom_12 : decode cX3_copyFrom 12 = .ok (.getfield 15, 3) := by decide +kernel
theorem dX3_copyFrom_15 : decode cX3_copyFrom 15 = .ok (.aload_n 0, 1) := by decide +kernel
theorem dX3_copyFrom_16 : decode cX3_copyFrom 16 = .ok (.getfield 15, 3) := by decide +kernel
theorem dX3_copyFrom_19 : decode cX3_copyFrom 19 = .ok (.invokestatic 28, 3) := by decide +kernel
theorem dX3_copyFrom_22 : decode cX3_copyFrom 22 = .ok (.aload_n 1, 1) := by decide +kernel
theorem dX3_copyFrom_23 : decode cX3_copyFrom 23 = .ok (.getfield 18, 3) := by decide +kernel
theorem dX3_copyFrom_26 : decode cX3_copyFrom 26 = .ok (.aload_n 0, 1) := by decide +kernel
theorem dX3_copyFrom_27 : decode cX3_copyFrom 27 = .ok (.getfield 18, 3) := by decide +kernel
theorem dX3_copyFrom_30 : decode cX3_copyFrom 30 = .ok (.invokestatic 28, 3) := by decide +kernel
theorem dX3_copyFrom_33 : decode cX3_copyFrom 33 = .ok (.aload_n 0, 1) := by decide +kernel
theorem dX3_copyFrom_34 : decode cX3_copyFrom 34 = .ok (.aload_n 1, 1) := by decide +kernel
theorem dX3_copyFrom_35 : decode cX3_copyFrom 35 = .ok (.getfield 32, 3) := by decide +kernel
theorem dX3_copyFrom_38 : decode cX3_copyFrom 38 = .ok (.putfield 32, 3) := by decide +kernel
theorem dX3_copyFrom_41 : decode cX3_copyFrom 41 = .ok (.aload_n 0, 1) := by decide +kernel
theorem dX3_copyFrom_42 : decode cX3_copyFrom 42 = .ok (.aload_n 1, 1) := by decide +kernel
theorem dX3_copyFrom_43 : decode cX3_copyFrom 43 = .ok (.getfield 21, 3) := by decide +kernel
theorem dX3_copyFrom_46 : decode cX3_copyFrom 46 = .ok (.putfield 21, 3) := by decide +kernel
theorem dX3_copyFrom_49 : decode cX3_copyFrom 49 = .ok (.return_, 1) := by decide +kernel
theorem dX3_has_0 : decode cX3_has 0 = .ok (.iload_n 1, 1) := by decide +kernel
theorem dX3_has_1 : decode cX3_has 1 = .ok (.ifCond .lt 15, 3) := by decide +kernel
theorem dX3_has_4 : decode cX3_has 4 = .ok (.iload_n 1, 1) := by decide +kernel
theorem dX3_has_5 : decode cX3_has 5 = .ok (.aload_n 0, 1) := by decide +kernel
theorem dX3_has_6 : decode cX3_has 6 = .ok (.getfield 32, 3) := by decide +kernel
theorem dX3_has_9 : decode cX3_has 9 = .ok (.if_icmp .ge 7, 3) := by decide +kernel
theorem dX3_has_12 : decode cX3_has 12 = .ok (.iconst 1, 1) := by decide +kernel
theorem dX3_has_13 : decode cX3_has 13 = .ok (.goto 4, 3) := by decide +kernel
theorem dX3_has_16 : decode cX3_has 16 = .ok (.iconst 0, 1) := by decide +kernel
theorem dX3_has_17 : decode cX3_has 17 = .ok (.ireturn, 1) := by decide +kernel
set_option maxRecDepth 20000 in
theorem ggX3_letterAt_X3_has : GoodIn wsX3_letterAt wsX3_has := goodIn_r _ [6, 7, 11, 12, 13, 14, 15] (by decide +kernel) (by decide +kernel)
set_option maxRecDepth 20000 in
theorem gX3_letterAt_X3_has : GoodIn wsX3_letterAt (wsV RX3 35 RX3 yX3_has wsX3_has) := goodIn_app (goodIn_of _ (by decide +kernel)) ggX3_letterAt_X3_has
set_option maxRecDepth 20000 in
theorem ggX3_letterAt_X5_valueAt : GoodIn wsX3_letterAt wsX5_valueAt := goodIn_r _ [10] (by decide +kernel) (by decide +kernel)
set_option maxRecDepth 20000 in
theorem gX3_letterAt_X5_valueAt_n39 : GoodIn wsX3_letterAt (wsX5_valueAt) := ggX3_letterAt_X5_valueAt
theorem dX3_letterAt_0 : decode cX3_letterAt 0 = .ok (.aload_n 0, 1) := by decide +kernel
theorem dX3_letterAt_1 : decode cX3_letterAt 1 = .ok (.iload_n 1, 1) := by decide +kernel
theorem dX3_letterAt_2 : decode cX3_letterAt 2 = .ok (.invokevirtual 35, 3) := by decide +kernel
theorem dX3_letterAt_5 : decode cX3_letterAt 5 = .ok (.ifCond .eq 14, 3) := by decide +kernel
theorem dX3_letterAt_8 : decode cX3_letterAt 8 = .ok (.aload_n 0, 1) := by decide +kernel
theorem dX3_letterAt_9 : decode cX3_letterAt 9 = .ok (.getfield 9, 3) := by decide +kernel
theorem dX3_letterAt_12 : decode cX3_letterAt 12 = .ok (.iload_n 1, 1) := by decide +kernel
theorem dX3_letterAt_13 : decode cX3_letterAt 13 = .ok (.invokestatic 39, 3) := by decide +kernel
theorem dX3_letterAt_16 : decode cX3_letterAt 16 = .ok (.goto 4, 3) := by decide +kernel
theorem dX3_letterAt_19 : decode cX3_letterAt 19 = .ok (.iconst (-1), 1) := by decide +kernel
theorem dX3_letterAt_20 : decode cX3_letterAt 20 = .ok (.ireturn, 1) := by decide +kernel
set_option maxRecDepth 20000 in
theorem ggX3_kernAt_X5_valueAt : GoodIn wsX3_kernAt wsX5_valueAt := goodIn_r _ [4] (by decide +kernel) (by decide +kernel)
set_option maxRecDepth 20000 in
theorem gX3_kernAt_X5_valueAt_n39 : GoodIn wsX3_kernAt (wsX5_valueAt) := ggX3_kernAt_X5_valueAt
theorem dX3_kernAt_0 : decode cX3_kernAt 0 = .ok (.aload_n 0, 1) := by decide +kernel
theorem dX3_kernAt_1 : decode cX3_kernAt 1 = .ok (.getfield 15, 3) := by decide +kernel
theorem dX3_kernAt_4 : decode cX3_kernAt 4 = .ok (.iload_n 1, 1) := by decide +kernel
theorem dX3_kernAt_5 : decode cX3_kernAt 5 = .ok (.invokestatic 39, 3) := by decide +kernel
theorem dX3_kernAt_8 : decode cX3_kernAt 8 = .ok (.ireturn, 1) := by decide +kernel
set_option maxRecDepth 20000 in
theorem ggX3_changeKern_X5_store : GoodIn wsX3_changeKern wsX5_store := goodIn_r _ [4] (by decide +kernel) (by decide +kernel)
set_option maxRecDepth 20000 in
theorem gX3_changeKern_X5_store_n43 : GoodIn wsX3_changeKern (wsX5_store) := ggX3_changeKern_X5_store
theorem dX3_changeKern_0 : decode cX3_changeKern 0 = .ok (.aload_n 0, 1) := by decide +kernel
theorem dX3_changeKern_1 : decode cX3_changeKern 1 = .ok (.getfield 15, 3) := by decide +kernel
theorem dX3_changeKern_4 : decode cX3_changeKern 4 = .ok (.iload_n 1, 1) := by decide +kernel
theorem dX3_changeKern_5 : decode cX3_changeKern 5 = .ok (.iload_n 2, 1) := by decide +kernel
theorem dX3_changeKern_6 : decode cX3_changeKern 6 = .ok (.invokestatic 43, 3) := by decide +kernel
theorem dX3_changeKern_9 : decode cX3_changeKern 9 = .ok (.return_, 1) := by decide +kernel
set_option maxRecDepth 20000 in
theorem ggX3_countLetters_X3_letterAt : GoodIn wsX3_countLetters wsX3_letterAt := goodIn_r _ [6, 7, 8, 9, 10, 5, 11, 1, 12, 13, 14, 15, 16, 17, 18, 19] (by decide +kernel) (by decide +kernel)
set_option maxRecDepth 20000 in
theorem gX3_countLetters_X3_letterAt : GoodIn wsX3_countLetters (wsV RX3 47 RX3 yX3_letterAt wsX3_letterAt) := goodIn_app (goodIn_of _ (by decide +kernel)) ggX3_countLetters_X3_letterAt
theorem dX3_countLetters_0 : decode cX3_countLetters 0 = .ok (.iconst 0, 1) := by decide +kernel
theorem dX3_countLetters_1 : decode cX3_countLetters 1 = .ok (.istore_n 1, 1) := by decide +kernel
theorem dX3_countLetters_2 : decode cX3_countLetters 2 = .ok (.iconst 0, 1) := by decide +kernel
theorem dX3_countLetters_3 : decode cX3_countLetters 3 = .ok (.istore_n 2, 1) := by decide +kernel
theorem dX3_countLetters_4 : decode cX3_countLetters 4 = .ok (.iload_n 2, 1) := by decide +kernel
theorem dX3_countLetters_5 : decode cX3_countLetters 5 = .ok (.aload_n 0, 1) := by decide +kernel
theorem dX3_countLetters_6 : decode cX3_countLetters 6 = .ok (.getfield 32, 3) := by decide +kernel
theorem dX3_countLetters_9 : decode cX3_countLetters 9 = .ok (.if_icmp .ge 21, 3) := by decide +kernel
theorem dX3_countLetters_12 : decode cX3_countLetters 12 = .ok (.aload_n 0, 1) := by decide +kernel
theorem dX3_countLetters_13 : decode cX3_countLetters 13 = .ok (.iload_n 2, 1) := by decide +kernel
theorem dX3_countLetters_14 : decode cX3_countLetters 14 = .ok (.invokevirtual 47, 3) := by decide +kernel
theorem dX3_countLetters_17 : decode cX3_countLetters 17 = .ok (.iconst (-1), 1) := by decide +kernel
theorem dX3_countLetters_18 : decode cX3_countLetters 18 = .ok (.if_icmp .eq 6, 3) := by decide +kernel
theorem dX3_countLetters_21 : decode cX3_countLetters 21 = .ok (.iinc 1 1, 3) := by decide +kernel
theorem dX3_countLetters_24 : decode cX3_countLetters 24 = .ok (.iinc 2 1, 3) := by decide +kernel
theorem dX3_countLetters_27 : decode cX3_countLetters 27 = .ok (.goto (-23), 3) := by decide +kernel
theorem dX3_countLetters_30 : decode cX3_countLetters 30 = .ok (.iload_n 1, 1) := by decide +kernel
theorem dX3_countLetters_31 : decode cX3_countLetters 31 = .ok (.ireturn, 1) := by decide +kernel
set_option maxRecDepth 20000 in
theorem ggX3_insert_X5_valueAt : GoodIn wsX3_insert wsX5_valueAt := goodIn_r _ [6] (by decide +kernel) (by decide +kernel)
set_option maxRecDepth 20000 in
theorem gX3_insert_X5_valueAt_n39 : GoodIn wsX3_insert (wsX5_valueAt) := ggX3_insert_X5_valueAt
set_option maxRecDepth 20000 in
theorem ggX3_insert_X3_write : GoodIn wsX3_insert wsX3_write := goodIn_r _ [11, 2, 3, 12, 5, 13, 14, 15, 16, 17, 18] (by decide +kernel) (by decide +kernel)
set_option maxRecDepth 20000 in
theorem gX3_insert_X3_write : GoodIn wsX3_insert (wsV RX3 51 RX3 yX3_write wsX3_write) := goodIn_app (goodIn_of _ (by decide +kernel)) ggX3_insert_X3_write
theorem dX3_insert_0 : decode cX3_insert 0 = .ok (.aload_n 0, 1) := by decide +kernel
theorem dX3_insert_1 : decode cX3_insert 1 = .ok (.getfield 32, 3) := by decide +kernel
theorem dX3_insert_4 : decode cX3_insert 4 = .ok (.istore_n 3, 1) := by decide +kernel
theorem dX3_insert_5 : decode cX3_insert 5 = .ok (.iload_n 3, 1) := by decide +kernel
theorem dX3_insert_6 : decode cX3_insert 6 = .ok (.iload_n 1, 1) := by decide +kernel
theorem dX3_insert_7 : decode cX3_insert 7 = .ok (.if_icmp .le 34, 3) := by decide +kernel
theorem dX3_insert_10 : decode cX3_insert 10 = .ok (.aload_n 0, 1) := by decide +kernel
theorem dX3_insert_11 : decode cX3_insert 11 = .ok (.iload_n 3, 1) := by decide +kernel
theorem dX3_insert_12 : decode cX3_insert 12 = .ok (.aload_n 0, 1) := by decide +kernel
theorem dX3_insert_13 : decode cX3_insert 13 = .ok (.getfield 9, 3) := by decide +kernel
theorem dX3_insert_16 : decode cX3_insert 16 = .ok (.iload_n 3, 1) := by decide +kernel
theorem dX3_insert_17 : decode cX3_insert 17 = .ok (.iconst 1, 1) := by decide +kernel
theorem dX3_insert_18 : decode cX3_insert 18 = .ok (.isub, 1) := by decide +kernel
theorem dX3_insert_19 : decode cX3_insert 19 = .ok (.invokestatic 39, 3) := by decide +kernel
theorem dX3_insert_22 : decode cX3_insert 22 = .ok (.aload_n 0, 1) := by decide +kernel
theorem dX3_insert_23 : decode cX3_insert 23 = .ok (.getfield 15, 3) := by decide +kernel
theorem dX3_insert_26 : decode cX3_insert 26 = .ok (.iload_n 3, 1) := by decide +kernel
theorem dX3_insert_27 : decode cX3_insert 27 = .ok (.iconst 1, 1) := by decide +kernel
theorem dX3_insert_28 : decode cX3_insert 28 = .ok (.isub, 1) := by decide +kernel
theorem dX3_insert_29 : decode cX3_insert 29 = .ok (.invokestatic 39, 3) := by decide +kernel
theorem dX3_insert_32 : decode cX3_insert 32 = .ok (.invokevirtual 51, 3) := by decide +kernel
theorem dX3_insert_35 : decode cX3_insert 35 = .ok (.iinc 3 (-1), 3) := by decide +kernel
theorem dX3_insert_38 : decode cX3_insert 38 = .ok (.goto (-33), 3) := by decide +kernel
theorem dX3_insert_41 : decode cX3_insert 41 = .ok (.aload_n 0, 1) := by decide +kernel
theorem dX3_insert_42 : decode cX3_insert 42 = .ok (.iload_n 1, 1) := by decide +kernel
theorem dX3_insert_43 : decode cX3_insert 43 = .ok (.iload_n 2, 1) := by decide +kernel
theorem dX3_insert_44 : decode cX3_insert 44 = .ok (.iconst 0, 1) := by decide +kernel
theorem dX3_insert_45 : decode cX3_insert 45 = .ok (.invokevirtual 51, 3) := by decide +kernel
theorem dX3_insert_48 : decode cX3_insert 48 = .ok (.aload_n 0, 1) := by decide +kernel
theorem dX3_insert_49 : decode cX3_insert 49 = .ok (.dup, 1) := by decide +kernel
theorem dX3_insert_50 : decode cX3_insert 50 = .ok (.getfield 32, 3) := by decide +kernel
theorem dX3_insert_53 : decode cX3_insert 53 = .ok (.iconst 1, 1) := by decide +kernel
theorem dX3_insert_54 : decode cX3_insert 54 = .ok (.iadd, 1) := by decide +kernel
theorem dX3_insert_55 : decode cX3_insert 55 = .ok (.putfield 32, 3) := by decide +kernel
theorem dX3_insert_58 : decode cX3_insert 58 = .ok (.return_, 1) := by decide +kernel
set_option maxRecDepth 20000 in
theorem ggX3_remove_X5_valueAt : GoodIn wsX3_remove wsX5_valueAt := goodIn_r _ [6] (by decide +kernel) (by decide +kernel)
set_option maxRecDepth 20000 in
theorem gX3_remove_X5_valueAt_n39 : GoodIn wsX3_remove (wsX5_valueAt) := ggX3_remove_X5_valueAt
set_option maxRecDepth 20000 in
theorem ggX3_remove_X3_write : GoodIn wsX3_remove wsX3_write := goodIn_r _ [11, 2, 3, 12, 5, 13, 14, 15, 16, 17, 18] (by decide +kernel) (by decide +kernel)
set_option maxRecDepth 20000 in
theorem gX3_remove_X3_write : GoodIn wsX3_remove (wsV RX3 51 RX3 yX3_write wsX3_write) := goodIn_app (goodIn_of _ (by decide +kernel)) ggX3_remove_X3_write
theorem dX3_remove_0 : decode cX3_remove 0 = .ok (.iload_n 1, 1) := by decide +kernel
theorem dX3_remove_1 : decode cX3_remove 1 = .ok (.istore_n 2, 1) := by decide +kernel
theorem dX3_remove_2 : decode cX3_remove 2 = .ok (.iload_n 2, 1) := by decide +kernel
theorem dX3_remove_3 : decode cX3_remove 3 = .ok (.aload_n 0, 1) := by decide +kernel
theorem dX3_remove_4 : decode cX3_remove 4 = .ok (.getfield 32, 3) := by decide +kernel
theorem dX3_remove_7 : decode cX3_remove 7 = .ok (.iconst 1, 1) := by decide +kernel
theorem dX3_remove_8 : decode cX3_remove 8 = .ok (.isub, 1) := by decide +kernel
theorem dX3_remove_9 : decode cX3_remove 9 = .ok (.if_icmp .ge 34, 3) := by decide +kernel
theorem dX3_remove_12 : decode cX3_remove 12 = .ok (.aload_n 0, 1) := by decide +kernel
theorem dX3_remove_13 : decode cX3_remove 13 = .ok (.iload_n 2, 1) := by decide +kernel
theorem dX3_remove_14 : decode cX3_remove 14 = .ok (.aload_n 0, 1) := by decide +kernel
theorem dX3_remove_15 : decode cX3_remove 15 = .ok (.getfield 9, 3) := by decide +kernel
theorem dX3_remove_18 : decode cX3_remove 18 = .ok (.iload_n 2, 1) := by decide +kernel
theorem dX3_remove_19 : decode cX3_remove 19 = .ok (.iconst 1, 1) := by decide +kernel
theorem dX3_remove_20 : decode cX3_remove 20 = .ok (.iadd, 1) := by decide +kernel
theorem dX3_remove_21 : decode cX3_remove 21 = .ok (.invokestatic 39, 3) := by decide +kernel
theorem dX3_remove_24 : decode cX3_remove 24 = .ok (.aload_n 0, 1) := by decide +kernel
theorem dX3_remove_25 : decode cX3_remove 25 = .ok (.getfield 15, 3) := by decide +kernel
theorem dX3_remove_28 : decode cX3_remove 28 = .ok (.iload_n 2, 1) := by decide +kernel
theorem dX3_remove_29 : decode cX3_remove 29 = .ok (.iconst 1, 1) := by decide +kernel
theorem dX3_remove_30 : decode cX3_remove 30 = .ok (.iadd, 1) := by decide +kernel
theorem dX3_remove_31 : decode cX3_remove 31 = .ok (.invokestatic 39, 3) := by decide +kernel
theorem dX3_remove_34 : decode cX3_remove 34 = .ok (.invokevirtual 51, 3) := by decide +kernel
theorem dX3_remove_37 : decode cX3_remove 37 = .ok (.iinc 2 1, 3) := by decide +kernel
theorem dX3_remove_40 : decode cX3_remove 40 = .ok (.goto (-38), 3) := by decide +kernel
theorem dX3_remove_43 : decode cX3_remove 43 = .ok (.aload_n 0, 1) := by decide +kernel
theorem dX3_remove_44 : decode cX3_remove 44 = .ok (.dup, 1) := by decide +kernel
theorem dX3_remove_45 : decode cX3_remove 45 = .ok (.getfield 32, 3) := by decide +kernel
theorem dX3_remove_48 : decode cX3_remove 48 = .ok (.iconst 1, 1) := by decide +kernel
theorem dX3_remove_49 : decode cX3_remove 49 = .ok (.isub, 1) := by decide +kernel
theorem dX3_remove_50 : decode cX3_remove 50 = .ok (.putfield 32, 3) := by decide +kernel
theorem dX3_remove_53 : decode cX3_remove 53 = .ok (.return_, 1) := by decide +kernel
set_option maxRecDepth 20000 in
theorem ggX3_exchange_X5_valueAt : GoodIn wsX3_exchange wsX5_valueAt := goodIn_r _ [5] (by decide +kernel) (by decide +kernel)
set_option maxRecDepth 20000 in
theorem gX3_exchange_X5_valueAt_n39 : GoodIn wsX3_exchange (wsX5_valueAt) := ggX3_exchange_X5_valueAt
set_option maxRecDepth 20000 in
theorem ggX3_exchange_X3_write : GoodIn wsX3_exchange wsX3_write := goodIn_r _ [10, 1, 2, 11, 4, 12, 13, 14, 15, 16, 17] (by decide +kernel) (by decide +kernel)
set_option maxRecDepth 20000 in
theorem gX3_exchange_X3_write : GoodIn wsX3_exchange (wsV RX3 51 RX3 yX3_write wsX3_write) := goodIn_app (goodIn_of _ (by decide +kernel)) ggX3_exchange_X3_write
theorem dX3_exchange_0 : decode cX3_exchange 0 = .ok (.aload_n 0, 1) := by decide +kernel
theorem dX3_exchange_1 : decode cX3_exchange 1 = .ok (.getfield 9, 3) := by decide +kernel
theorem dX3_exchange_4 : decode cX3_exchange 4 = .ok (.iload_n 1, 1) := by decide +kernel
theorem dX3_exchange_5 : decode cX3_exchange 5 = .ok (.invokestatic 39, 3) := by decide +kernel
theorem dX3_exchange_8 : decode cX3_exchange 8 = .ok (.istore_n 3, 1) := by decide +kernel
theorem dX3_exchange_9 : decode cX3_exchange 9 = .ok (.aload_n 0, 1) := by decide +kernel
theorem dX3_exchange_10 : decode cX3_exchange 10 = .ok (.getfield 15, 3) := by decide +kernel
theorem dX3_exchange_13 : decode cX3_exchange 13 = .ok (.iload_n 1, 1) := by decide +kernel
theorem dX3_exchange_14 : decode cX3_exchange 14 = .ok (.invokestatic 39, 3) := by decide +kernel
theorem dX3_exchange_17 : decode cX3_exchange 17 = .ok (.istore 4, 2) := by decide +kernel
theorem dX3_exchange_19 : decode cX3_exchange 19 = .ok (.aload_n 0, 1) := by decide +kernel
theorem dX3_exchange_20 : decode cX3_exchange 20 = .ok (.iload_n 1, 1) := by decide +kernel
theorem dX3_exchange_21 : decode cX3_exchange 21 = .ok (.aload_n 0, 1) := by decide +kernel
theorem dX3_exchange_22 : decode cX3_exchange 22 = .ok (.getfield 9, 3) := by decide +kernel
theorem dX3_exchange_25 : decode cX3_exchange 25 = .ok (.iload_n 2, 1) := by decide +kernel
theorem dX3_exchange_26 : decode cX3_exchange 26 = .ok (.invokestatic 39, 3) := by decide +kernel
theorem dX3_exchange_29 : decode cX3_exchange 29 = .ok (.aload_n 0, 1) := by decide +kernel
theorem dX3_exchange_30 : decode cX3_exchange 30 = .ok (.getfield 15, 3) := by decide +kernel
theorem dX3_exchange_33 : decode cX3_exchange 33 = .ok (.iload_n 2, 1) := by decide +kernel
theorem dX3_exchange_34 : decode cX3_exchange 34 = .ok (.invokestatic 39, 3) := by decide +kernel
theorem dX3_exchange_37 : decode cX3_exchange 37 = .ok (.invokevirtual 51, 3) := by decide +kernel
theorem dX3_exchange_40 : decode cX3_exchange 40 = .ok (.aload_n 0, 1) := by decide +kernel
theorem dX3_exchange_41 : decode cX3_exchange 41 = .ok (.iload_n 2, 1) := by decide +kernel
theorem dX3_exchange_42 : decode cX3_exchange 42 = .ok (.iload_n 3, 1) := by decide +kernel
theorem dX3_exchange_43 : decode cX3_exchange 43 = .ok (.iload 4, 2) := by decide +kernel
theorem dX3_exchange_45 : decode cX3_exchange 45 = .ok (.invokevirtual 51, 3) := by decide +kernel
theorem dX3_exchange_48 : decode cX3_exchange 48 = .ok (.return_, 1) := by decide +kernel
set_option maxRecDepth 20000 in
theorem ggX3_write_X5_store : GoodIn wsX3_write wsX5_store := goodIn_r _ [5] (by decide +kernel) (by decide +kernel)
set_option maxRecDepth 20000 in
theorem gX3_write_X5_store_n43 : GoodIn wsX3_write (wsX5_store) := ggX3_write_X5_store
theorem dX3_write_0 : decode cX3_write 0 = .ok (.aload_n 0, 1) := by decide +kernel
theorem dX3_write_1 : decode cX3_write 1 = .ok (.getfield 9, 3) := by decide +kernel
theorem dX3_write_4 : decode cX3_write 4 = .ok (.iload_n 1, 1) := by decide +kernel
theorem dX3_write_5 : decode cX3_write 5 = .ok (.iload_n 2, 1) := by decide +kernel
theorem dX3_write_6 : decode cX3_write 6 = .ok (.invokestatic 43, 3) := by decide +kernel
theorem dX3_write_9 : decode cX3_write 9 = .ok (.aload_n 0, 1) := by decide +kernel
theorem dX3_write_10 : decode cX3_write 10 = .ok (.getfield 15, 3) := by decide +kernel
theorem dX3_write_13 : decode cX3_write 13 = .ok (.iload_n 1, 1) := by decide +kernel
theorem dX3_write_14 : decode cX3_write 14 = .ok (.iload_n 3, 1) := by decide +kernel
theorem dX3_write_15 : decode cX3_write 15 = .ok (.invokestatic 43, 3) := by decide +kernel
theorem dX3_write_18 : decode cX3_write 18 = .ok (.return_, 1) := by decide +kernel
theorem dX4_init_0 : decode cX4_init 0 = .ok (.aload_n 0, 1) := by decide +kernel
theorem dX4_init_1 : decode cX4_init 1 = .ok (.invokespecial 3, 3) := by decide +kernel
theorem dX4_init_4 : decode cX4_init 4 = .ok (.aload_n 0, 1) := by decide +kernel
theorem dX4_init_5 : decode cX4_init 5 = .ok (.bipush 60, 2) := by decide +kernel
theorem dX4_init_7 : decode cX4_init 7 = .ok (.newarray .int, 2) := by decide +kernel
theorem dX4_init_9 : decode cX4_init 9 = .ok (.putfield 9, 3) := by decide +kernel
theorem dX4_init_12 : decode cX4_init 12 = .ok (.return_, 1) := by decide +kernel
set_option maxRecDepth 20000 in
theorem ggX5_init_X3_init : GoodIn wsX5_init wsX3_init := goodIn_r _ [30, 31, 2, 3, 32, 33, 34, 35, 36, 37, 38, 39, 69, 70, 71, 72, 73] (by decide +kernel) (by decide +kernel)
set_option maxRecDepth 20000 in
theorem gX5_init_X3_init : GoodIn wsX5_init (wsX3_init) := ggX5_init_X3_init
set_option maxRecDepth 20000 in
theorem ggX5_init_X1_init : GoodIn wsX5_init wsX1_init := goodIn_r _ [42, 43, 2, 3, 44, 45, 5, 6, 46, 29, 30, 31, 32, 33, 34, 35, 36, 37, 38, 39, 84, 85, 86, 69, 70, 71, 72, 73] (by decide +kernel) (by decide +kernel)
set_option maxRecDepth 20000 in
theorem gX5_init_X1_init : GoodIn wsX5_init (wsX1_init) := ggX5_init_X1_init
set_option maxRecDepth 20000 in
theorem ggX5_init_X4_init : GoodIn wsX5_init wsX4_init := goodIn_r _ [48, 49, 2, 3, 32, 50, 87, 88] (by decide +kernel) (by decide +kernel)
set_option maxRecDepth 20000 in
theorem gX5_init_X4_init_n28 : GoodIn wsX5_init (wsX4_init) := ggX5_init_X4_init
set_option maxRecDepth 20000 in
theorem ggX5_init_X0_init : GoodIn wsX5_init wsX0_init := goodIn_r _ [52, 53, 2, 3, 32, 54, 55, 56, 57, 58, 59, 60, 61, 62, 89, 90, 91, 92, 93, 94, 95, 96, 97, 98, 99, 100, 101, 102, 103, 104, 105] (by decide +kernel) (by decide +kernel)
set_option maxRecDepth 20000 in
theorem gX5_init_X0_init_n35 : GoodIn wsX5_init (wsX0_init) := ggX5_init_X0_init
set_option maxRecDepth 20000 in
theorem ggX5_init_X2_init : GoodIn wsX5_init wsX2_init := goodIn_r _ [65, 66, 2, 3, 32, 67, 68, 106, 107, 108] (by decide +kernel) (by decide +kernel)
set_option maxRecDepth 20000 in
theorem gX5_init_X2_init : GoodIn wsX5_init (wsX2_init) := ggX5_init_X2_init
theorem dX5_init_0 : decode cX5_init 0 = .ok (.aload_n 0, 1) := by decide +kernel
theorem dX5_init_1 : decode cX5_init 1 = .ok (.invokespecial 1, 3) := by decide +kernel
theorem dX5_init_4 : decode cX5_init 4 = .ok (.aload_n 0, 1) := by decide +kernel
theorem dX5_init_5 : decode cX5_init 5 = .ok (.new 7, 3) := by decide +kernel
theorem dX5_init_8 : decode cX5_init 8 = .ok (.dup, 1) := by decide +kernel
theorem dX5_init_9 : decode cX5_init 9 = .ok (.invokespecial 9, 3) := by decide +kernel
theorem dX5_init_12 : decode cX5_init 12 = .ok (.putfield 10, 3) := by decide +kernel
theorem dX5_init_15 : decode cX5_init 15 = .ok (.aload_n 0, 1) := by decide +kernel
theorem dX5_init_16 : decode cX5_init 16 = .ok (.new 7, 3) := by decide +kernel
theorem dX5_init_19 : decode cX5_init 19 = .ok (.dup, 1) := by decide +kernel
theorem dX5_init_20 : decode cX5_init 20 = .ok (.invokespecial 9, 3) := by decide +kernel
theorem dX5_init_23 : decode cX5_init 23 = .ok (.putfield 16, 3) := by decide +kernel
theorem dX5_init_26 : decode cX5_init 26 = .ok (.aload_n 0, 1) := by decide +kernel
theorem dX5_init_27 : decode cX5_init 27 = .ok (.new 19, 3) := by decide +kernel
theorem dX5_init_30 : decode cX5_init 30 = .ok (.dup, 1) := by decide +kernel
theorem dX5_init_31 : decode cX5_init 31 = .ok (.invokespecial 21, 3) := by decide +kernel
theorem dX5_init_34 : decode cX5_init 34 = .ok (.putfield 22, 3) := by decide +kernel
theorem dX5_init_37 : decode cX5_init 37 = .ok (.aload_n 0, 1) := by decide +kernel
theorem dX5_init_38 : decode cX5_init 38 = .ok (.new 26, 3) := by decide +kernel
theorem dX5_init_41 : decode cX5_init 41 = .ok (.dup, 1) := by decide +kernel
theorem dX5_init_42 : decode cX5_init 42 = .ok (.invokespecial 28, 3) := by decide +kernel
theorem dX5_init_45 : decode cX5_init 45 = .ok (.putfield 29, 3) := by decide +kernel
theorem dX5_init_48 : decode cX5_init 48 = .ok (.aload_n 0, 1) := by decide +kernel
theorem dX5_init_49 : decode cX5_init 49 = .ok (.new 33, 3) := by decide +kernel
theorem dX5_init_52 : decode cX5_init 52 = .ok (.dup, 1) := by decide +kernel
theorem dX5_init_53 : decode cX5_init 53 = .ok (.invokespecial 35, 3) := by decide +kernel
theorem dX5_init_56 : decode cX5_init 56 = .ok (.putfield 36, 3) := by decide +kernel
theorem dX5_init_59 : decode cX5_init 59 = .ok (.aload_n 0, 1) := by decide +kernel
theorem dX5_init_60 : decode cX5_init 60 = .ok (.new 33, 3) := by decide +kernel
theorem dX5_init_63 : decode cX5_init 63 = .ok (.dup, 1) := by decide +kernel
theorem dX5_init_64 : decode cX5_init 64 = .ok (.invokespecial 35, 3) := by decide +kernel
theorem dX5_init_67 : decode cX5_init 67 = .ok (.putfield 40, 3) := by decide +kernel
theorem dX5_init_70 : decode cX5_init 70 = .ok (.aload_n 0, 1) := by decide +kernel
theorem dX5_init_71 : decode cX5_init 71 = .ok (.new 43, 3) := by decide +kernel
theorem dX5_init_74 : decode cX5_init 74 = .ok (.dup, 1) := by decide +kernel
theorem dX5_init_75 : decode cX5_init 75 = .ok (.iconst 0, 1) := by decide +kernel
theorem dX5_init_76 : decode cX5_init 76 = .ok (.invokespecial 45, 3) := by decide +kernel
theorem dX5_init_79 : decode cX5_init 79 = .ok (.putfield 48, 3) := by decide +kernel
theorem dX5_init_82 : decode cX5_init 82 = .ok (.aload_n 0, 1) := by decide +kernel
theorem dX5_init_83 : decode cX5_init 83 = .ok (.new 43, 3) := by decide +kernel
theorem dX5_init_86 : decode cX5_init 86 = .ok (.dup, 1) := by decide +kernel
theorem dX5_init_87 : decode cX5_init 87 = .ok (.iconst 1, 1) := by decide +kernel
theorem dX5_init_88 : decode cX5_init 88 = .ok (.invokespecial 45, 3) := by decide +kernel
theorem dX5_init_91 : decode cX5_init 91 = .ok (.putfield 52, 3) := by decide +kernel
theorem dX5_init_94 : decode cX5_init 94 = .ok (.aload_n 0, 1) := by decide +kernel
theorem dX5_init_95 : decode cX5_init 95 = .ok (.iconst 1, 1) := by decide +kernel
theorem dX5_init_96 : decode cX5_init 96 = .ok (.putfield 55, 3) := by decide +kernel
theorem dX5_init_99 : decode cX5_init 99 = .ok (.return_, 1) := by decide +kernel
set_option maxRecDepth 20000 in
theorem ggX5_put_X5_isLetter : GoodIn wsX5_put wsX5_isLetter := goodIn_r _ [11] (by decide +kernel) (by decide +kernel)
set_option maxRecDepth 20000 in
theorem gX5_put_X5_isLetter : GoodIn wsX5_put (va_wsS RX5 70 yX5_isLetter wsX5_isLetter) := goodIn_app (goodIn_of _ (by decide +kernel)) ggX5_put_X5_isLetter
set_option maxRecDepth 20000 in
theorem ggX5_put_X5_saveState : GoodIn wsX5_put wsX5_saveState := goodIn_r _ [15, 16, 7, 17, 18, 19, 20, 21, 22, 23, 24, 25, 26, 27, 28, 29, 30, 31, 32, 33, 34, 35, 36, 37, 38, 39, 40, 10, 41, 54, 55, 56, 57, 58, 59, 60, 61, 62, 63, 69, 70, 71, 64, 65, 66, 67, 68] (by decide +kernel) (by decide +kernel)
set_option maxRecDepth 20000 in
theorem gX5_put_X5_saveState : GoodIn wsX5_put (wsV RX5 84 RX5 yX5_saveState wsX5_saveState) := goodIn_app (goodIn_of _ (by decide +kernel)) ggX5_put_X5_saveState
set_option maxRecDepth 20000 in
theorem ggX5_put_X3_insert : GoodIn wsX5_put wsX3_insert := goodIn_r _ [45, 38, 35, 36, 46, 10, 47, 48, 49, 50, 33, 51, 52, 53, 64, 65, 66, 67, 68] (by decide +kernel) (by decide +kernel)
set_option maxRecDepth 20000 in
theorem gX5_put_X3_insert : GoodIn wsX5_put (wsV RX5 87 RX3 yX3_insert wsX3_insert) := goodIn_app (goodIn_of _ (by decide +kernel)) ggX5_put_X3_insert
theorem dX5_put_0 : decode cX5_put 0 = .ok (.iload_n 1, 1) := by decide +kernel
theorem dX5_put_1 : decode cX5_put 1 = .ok (.ifCond .lt 14, 3) := by decide +kernel
theorem dX5_put_4 : decode cX5_put 4 = .ok (.iload_n 1, 1) := by decide +kernel
theorem dX5_put_5 : decode cX5_put 5 = .ok (.aload_n 0, 1) := by decide +kernel
theorem dX5_put_6 : decode cX5_put 6 = .ok (.getfield 10, 3) := by decide +kernel
theorem dX5_put_9 : decode cX5_put 9 = .ok (.getfield 59, 3) := by decide +kernel
theorem dX5_put_12 : decode cX5_put 12 = .ok (.if_icmp .le 13, 3) := by decide +kernel
theorem dX5_put_15 : decode cX5_put 15 = .ok (.new 63, 3) := by decide +kernel
theorem dX5_put_18 : decode cX5_put 18 = .ok (.dup, 1) := by decide +kernel
theorem dX5_put_19 : decode cX5_put 19 = .ok (.ldc 65, 2) := by decide +kernel
theorem dX5_put_21 : decode cX5_put 21 = .ok (.invokespecial 67, 3) := by decide +kernel
theorem dX5_put_24 : decode cX5_put 24 = .ok (.athrow, 1) := by decide +kernel
theorem dX5_put_25 : decode cX5_put 25 = .ok (.iload_n 2, 1) := by decide +kernel
theorem dX5_put_26 : decode cX5_put 26 = .ok (.iconst (-1), 1) := by decide +kernel
theorem dX5_put_27 : decode cX5_put 27 = .ok (.if_icmp .eq 20, 3) := by decide +kernel
theorem dX5_put_30 : decode cX5_put 30 = .ok (.iload_n 2, 1) := by decide +kernel
theorem dX5_put_31 : decode cX5_put 31 = .ok (.invokestatic 70, 3) := by decide +kernel
theorem dX5_put_34 : decode cX5_put 34 = .ok (.ifCond .ne 13, 3) := by decide +kernel
theorem dX5_put_37 : decode cX5_put 37 = .ok (.new 74, 3) := by decide +kernel
theorem dX5_put_40 : decode cX5_put 40 = .ok (.dup, 1) := by decide +kernel
theorem dX5_put_41 : decode cX5_put 41 = .ok (.ldc 76, 2) := by decide +kernel
theorem dX5_put_43 : decode cX5_put 43 = .ok (.invokespecial 78, 3) := by decide +kernel
theorem dX5_put_46 : decode cX5_put 46 = .ok (.athrow, 1) := by decide +kernel
theorem dX5_put_47 : decode cX5_put 47 = .ok (.aload_n 0, 1) := by decide +kernel
theorem dX5_put_48 : decode cX5_put 48 = .ok (.getfield 10, 3) := by decide +kernel
theorem dX5_put_51 : decode cX5_put 51 = .ok (.getfield 59, 3) := by decide +kernel
theorem dX5_put_54 : decode cX5_put 54 = .ok (.bipush 20, 2) := by decide +kernel
theorem dX5_put_56 : decode cX5_put 56 = .ok (.if_icmp .lt 13, 3) := by decide +kernel
theorem dX5_put_59 : decode cX5_put 59 = .ok (.new 79, 3) := by decide +kernel
theorem dX5_put_62 : decode cX5_put 62 = .ok (.dup, 1) := by decide +kernel
theorem dX5_put_63 : decode cX5_put 63 = .ok (.ldc 81, 2) := by decide +kernel
theorem dX5_put_65 : decode cX5_put 65 = .ok (.invokespecial 83, 3) := by decide +kernel
theorem dX5_put_68 : decode cX5_put 68 = .ok (.athrow, 1) := by decide +kernel
theorem dX5_put_69 : decode cX5_put 69 = .ok (.aload_n 0, 1) := by decide +kernel
theorem dX5_put_70 : decode cX5_put 70 = .ok (.invokevirtual 84, 3) := by decide +kernel
theorem dX5_put_73 : decode cX5_put 73 = .ok (.aload_n 0, 1) := by decide +kernel
theorem dX5_put_74 : decode cX5_put 74 = .ok (.getfield 10, 3) := by decide +kernel
theorem dX5_put_77 : decode cX5_put 77 = .ok (.iload_n 1, 1) := by decide +kernel
theorem dX5_put_78 : decode cX5_put 78 = .ok (.iload_n 2, 1) := by decide +kernel
theorem dX5_put_79 : decode cX5_put 79 = .ok (.invokevirtual 87, 3) := by decide +kernel
theorem dX5_put_82 : decode cX5_put 82 = .ok (.aload_n 0, 1) := by decide +kernel
theorem dX5_put_83 : decode cX5_put 83 = .ok (.getfield 10, 3) := by decide +kernel
theorem dX5_put_86 : decode cX5_put 86 = .ok (.getfield 59, 3) := by decide +kernel
theorem dX5_put_89 : decode cX5_put 89 = .ok (.ireturn, 1) := by decide +kernel
set_option maxRecDepth 20000 in
theorem ggX5_drop_X3_has : GoodIn wsX5_drop wsX3_has := goodIn_r _ [8, 9, 61, 62, 63, 64, 65] (by decide +kernel) (by decide +kernel)
set_option maxRecDepth 20000 in
theorem gX5_drop_X3_has : GoodIn wsX5_drop (wsV RX5 91 RX3 yX3_has wsX3_has) := goodIn_app (goodIn_of _ (by decide +kernel)) ggX5_drop_X3_has
set_option maxRecDepth 20000 in
theorem ggX5_drop_X5_saveState : GoodIn wsX5_drop wsX5_saveState := goodIn_r _ [14, 15, 3, 16, 17, 18, 19, 20, 21, 22, 23, 24, 25, 26, 27, 28, 29, 30, 31, 7, 32, 33, 34, 35, 9, 36, 37, 13, 38, 51, 52, 53, 54, 55, 56, 57, 58, 59, 60, 66, 67, 68, 61, 62, 63, 64, 65] (by decide +kernel) (by decide +kernel)
set_option maxRecDepth 20000 in
theorem gX5_drop_X5_saveState : GoodIn wsX5_drop (wsV RX5 84 RX5 yX5_saveState wsX5_saveState) := goodIn_app (goodIn_of _ (by decide +kernel)) ggX5_drop_X5_saveState
set_option maxRecDepth 20000 in
theorem ggX5_drop_X3_remove : GoodIn wsX5_drop wsX3_remove := goodIn_r _ [42, 9, 33, 34, 43, 13, 44, 45, 46, 47, 7, 48, 49, 50, 61, 62, 63, 64, 65] (by decide +kernel) (by decide +kernel)
set_option maxRecDepth 20000 in
theorem gX5_drop_X3_remove : GoodIn wsX5_drop (wsV RX5 96 RX3 yX3_remove wsX3_remove) := goodIn_app (goodIn_of _ (by decide +kernel)) ggX5_drop_X3_remove
theorem dX5_drop_0 : decode cX5_drop 0 = .ok (.aload_n 0, 1) := by decide +kernel
theorem dX5_drop_1 : decode cX5_drop 1 = .ok (.getfield 10, 3) := by decide +kernel
theorem dX5_drop_4 : decode cX5_drop 4 = .ok (.iload_n 1, 1) := by decide +kernel
theorem dX5_drop_5 : decode cX5_drop 5 = .ok (.invokevirtual 91, 3) := by decide +kernel
theorem dX5_drop_8 : decode cX5_drop 8 = .ok (.ifCond .ne 13, 3) := by decide +kernel
theorem dX5_drop_11 : decode cX5_drop 11 = .ok (.new 63, 3) := by decide +kernel
theorem dX5_drop_14 : decode cX5_drop 14 = .ok (.dup, 1) := by decide +kernel
theorem dX5_drop_15 : decode cX5_drop 15 = .ok (.ldc 94, 2) := by decide +kernel
theorem dX5_drop_17 : decode cX5_drop 17 = .ok (.invokespecial 67, 3) := by decide +kernel
theorem dX5_drop_20 : decode cX5_drop 20 = .ok (.athrow, 1) := by decide +kernel
theorem dX5_drop_21 : decode cX5_drop 21 = .ok (.aload_n 0, 1) := by decide +kernel
theorem dX5_drop_22 : decode cX5_drop 22 = .ok (.invokevirtual 84, 3) := by decide +kernel
theorem dX5_drop_25 : decode cX5_drop 25 = .ok (.aload_n 0, 1) := by decide +kernel
theorem dX5_drop_26 : decode cX5_drop 26 = .ok (.getfield 10, 3) := by decide +kernel
theorem dX5_drop_29 : decode cX5_drop 29 = .ok (.iload_n 1, 1) := by decide +kernel
theorem dX5_drop_30 : decode cX5_drop 30 = .ok (.invokevirtual 96, 3) := by decide +kernel
theorem dX5_drop_33 : decode cX5_drop 33 = .ok (.aload_n 0, 1) := by decide +kernel
theorem dX5_drop_34 : decode cX5_drop 34 = .ok (.getfield 10, 3) := by decide +kernel
theorem dX5_drop_37 : decode cX5_drop 37 = .ok (.getfield 59, 3) := by decide +kernel
theorem dX5_drop_40 : decode cX5_drop 40 = .ok (.ireturn, 1) := by decide +kernel
set_option maxRecDepth 20000 in
theorem ggX5_swap_X3_has : GoodIn wsX5_swap wsX3_has := goodIn_r _ [8, 9, 187, 188, 189, 190, 191] (by decide +kernel) (by decide +kernel)
set_option maxRecDepth 20000 in
theorem gX5_swap_X3_has : GoodIn wsX5_swap (wsV RX5 91 RX3 yX3_has wsX3_has) := goodIn_app (goodIn_of _ (by decide +kernel)) ggX5_swap_X3_has
set_option maxRecDepth 20000 in
theorem ggX5_swap_X5_saveState : GoodIn wsX5_swap wsX5_saveState := goodIn_r _ [14, 15, 3, 16, 17, 18, 19, 20, 21, 22, 23, 24, 25, 26, 27, 28, 29, 30, 31, 7, 32, 33, 34, 35, 9, 36, 37, 13, 38, 160, 161, 162, 163, 164, 165, 166, 167, 168, 169, 192, 193, 194, 187, 188, 189, 190, 191] (by decide +kernel) (by decide +kernel)
set_option maxRecDepth 20000 in
theorem gX5_swap_X5_saveState : GoodIn wsX5_swap (wsV RX5 84 RX5 yX5_saveState wsX5_saveState) := goodIn_app (goodIn_of _ (by decide +kernel)) ggX5_swap_X5_saveState
set_option maxRecDepth 20000 in
theorem ggX5_swap_X3_exchange : GoodIn wsX5_swap wsX3_exchange := goodIn_r _ [42, 33, 34, 43, 13, 44, 45, 46, 47, 7, 48, 49, 50, 187, 188, 189, 190, 191] (by decide +kernel) (by decide +kernel)
set_option maxRecDepth 20000 in
theorem gX5_swap_X3_exchange : GoodIn wsX5_swap (wsV RX5 100 RX3 yX3_exchange wsX3_exchange) := goodIn_app (goodIn_of _ (by decide +kernel)) ggX5_swap_X3_exchange
set_option maxRecDepth 20000 in
theorem ggX5_swap_X5_look : GoodIn wsX5_swap wsX5_look := goodIn_r _ [54, 16, 55, 3, 56, 57, 58, 59, 60, 61, 62, 63, 64, 65, 66, 67, 68, 69, 70, 71, 37, 13, 38, 49, 50, 43, 44, 72, 73, 74, 75, 76, 77, 78, 79, 80, 81, 82, 83, 84, 85, 86, 87, 88, 89, 90, 7, 91, 33, 92, 5, 6, 8, 9, 93, 94, 95, 96, 97, 98, 99, 100, 101, 102, 103, 104, 105, 34, 106, 107, 108, 109, 110, 111, 112, 113, 114, 115, 116, 117, 118, 119, 120, 121, 122, 123, 124, 125, 126, 127, 128, 129, 130, 131, 132, 133, 134, 135, 136, 137, 138, 139, 140, 141, 142, 143, 144, 145, 146, 147, 148, 149, 150, 151, 152, 153, 154, 155, 156, 157, 158, 159, 160, 161, 162, 163, 164, 165, 166, 167, 168, 169, 187, 188, 189, 190, 191, 170, 171, 172, 173, 174, 175, 176, 177, 178, 179, 180, 181, 182, 183, 184, 185, 186, 195, 196, 197] (by decide +kernel) (by decide +kernel)
set_option maxRecDepth 20000 in
theorem gX5_swap_X5_look : GoodIn wsX5_swap (wsV RX5 103 RX5 yX5_look wsX5_look) := goodIn_app (goodIn_of _ (by decide +kernel)) ggX5_swap_X5_look
theorem dX5_swap_0 : decode cX5_swap 0 = .ok (.aload_n 0, 1) := by decide +kernel
theorem dX5_swap_1 : decode cX5_swap 1 = .ok (.getfield 10, 3) := by decide +kernel
theorem dX5_swap_4 : decode cX5_swap 4 = .ok (.iload_n 1, 1) := by decide +kernel
theorem dX5_swap_5 : decode cX5_swap 5 = .ok (.invokevirtual 91, 3) := by decide +kernel
theorem dX5_swap_8 : decode cX5_swap 8 = .ok (.ifCond .eq 14, 3) := by decide +kernel
theorem dX5_swap_11 : decode cX5_swap 11 = .ok (.aload_n 0, 1) := by decide +kernel
theorem dX5_swap_12 : decode cX5_swap 12 = .ok (.getfield 10, 3) := by decide +kernel
theorem dX5_swap_15 : decode cX5_swap 15 = .ok (.iload_n 2, 1) := by decide +kernel
theorem dX5_swap_16 : decode cX5_swap 16 = .ok (.invokevirtual 91, 3) := by decide +kernel
theorem dX5_swap_19 : decode cX5_swap 19 = .ok (.ifCond .ne 13, 3) := by decide +kernel
theorem dX5_swap_22 : decode cX5_swap 22 = .ok (.new 63, 3) := by decide +kernel
theorem dX5_swap_25 : decode cX5_swap 25 = .ok (.dup, 1) := by decide +kernel
theorem dX5_swap_26 : decode cX5_swap 26 = .ok (.ldc 94, 2) := by decide +kernel
theorem dX5_swap_28 : decode cX5_swap 28 = .ok (.invokespecial 67, 3) := by decide +kernel
theorem dX5_swap_31 : decode cX5_swap 31 = .ok (.athrow, 1) := by decide +kernel
theorem dX5_swap_32 : decode cX5_swap 32 = .ok (.aload_n 0, 1) := by decide +kernel
theorem dX5_swap_33 : decode cX5_swap 33 = .ok (.invokevirtual 84, 3) := by decide +kernel
theorem dX5_swap_36 : decode cX5_swap 36 = .ok (.aload_n 0, 1) := by decide +kernel
theorem dX5_swap_37 : decode cX5_swap 37 = .ok (.getfield 10, 3) := by decide +kernel
theorem dX5_swap_40 : decode cX5_swap 40 = .ok (.iload_n 1, 1) := by decide +kernel
theorem dX5_swap_41 : decode cX5_swap 41 = .ok (.iload_n 2, 1) := by decide +kernel
theorem dX5_swap_42 : decode cX5_swap 42 = .ok (.invokevirtual 100, 3) := by decide +kernel
theorem dX5_swap_45 : decode cX5_swap 45 = .ok (.aload_n 0, 1) := by decide +kernel
theorem dX5_swap_46 : decode cX5_swap 46 = .ok (.invokevirtual 103, 3) := by decide +kernel
theorem dX5_swap_49 : decode cX5_swap 49 = .ok (.getfield 107, 3) := by decide +kernel
theorem dX5_swap_52 : decode cX5_swap 52 = .ok (.ireturn, 1) := by decide +kernel
set_option maxRecDepth 20000 in
theorem ggX5_kern_X3_has : GoodIn wsX5_kern wsX3_has := goodIn_r _ [12, 13, 70, 71, 72, 73, 74] (by decide +kernel) (by decide +kernel)
set_option maxRecDepth 20000 in
theorem gX5_kern_X3_has : GoodIn wsX5_kern (wsV RX5 91 RX3 yX3_has wsX3_has) := goodIn_app (goodIn_of _ (by decide +kernel)) ggX5_kern_X3_has
set_option maxRecDepth 20000 in
theorem ggX5_kern_X3_letterAt : GoodIn wsX5_kern wsX3_letterAt := goodIn_r _ [17, 18, 19, 9, 10, 11, 12, 13, 20, 21, 22, 70, 71, 72, 73, 74] (by decide +kernel) (by decide +kernel)
set_option maxRecDepth 20000 in
theorem gX5_kern_X3_letterAt : GoodIn wsX5_kern (wsV RX5 112 RX3 yX3_letterAt wsX3_letterAt) := goodIn_app (goodIn_of _ (by decide +kernel)) ggX5_kern_X3_letterAt
set_option maxRecDepth 20000 in
theorem ggX5_kern_X5_saveState : GoodIn wsX5_kern wsX5_saveState := goodIn_r _ [26, 27, 7, 28, 29, 30, 31, 32, 33, 34, 35, 36, 37, 38, 39, 40, 41, 42, 43, 11, 44, 18, 45, 46, 13, 47, 48, 21, 49, 60, 61, 62, 63, 64, 65, 66, 67, 68, 69, 75, 76, 77, 70, 71, 72, 73, 74] (by decide +kernel) (by decide +kernel)
set_option maxRecDepth 20000 in
theorem gX5_kern_X5_saveState : GoodIn wsX5_kern (wsV RX5 84 RX5 yX5_saveState wsX5_saveState) := goodIn_app (goodIn_of _ (by decide +kernel)) ggX5_kern_X5_saveState
set_option maxRecDepth 20000 in
theorem ggX5_kern_X3_kernAt : GoodIn wsX5_kern wsX3_kernAt := goodIn_r _ [53, 45, 20, 21, 22, 70, 71, 72, 73, 74] (by decide +kernel) (by decide +kernel)
set_option maxRecDepth 20000 in
theorem gX5_kern_X3_kernAt : GoodIn wsX5_kern (wsV RX5 118 RX3 yX3_kernAt wsX3_kernAt) := goodIn_app (goodIn_of _ (by decide +kernel)) ggX5_kern_X3_kernAt
set_option maxRecDepth 20000 in
theorem ggX5_kern_X3_changeKern : GoodIn wsX5_kern wsX3_changeKern := goodIn_r _ [57, 45, 58, 21, 59, 70, 71, 72, 73, 74] (by decide +kernel) (by decide +kernel)
set_option maxRecDepth 20000 in
theorem gX5_kern_X3_changeKern : GoodIn wsX5_kern (wsV RX5 121 RX3 yX3_changeKern wsX3_changeKern) := goodIn_app (goodIn_of _ (by decide +kernel)) ggX5_kern_X3_changeKern
theorem dX5_kern_0 : decode cX5_kern 0 = .ok (.aload_n 0, 1) := by decide +kernel
theorem dX5_kern_1 : decode cX5_kern 1 = .ok (.getfield 10, 3) := by decide +kernel
theorem dX5_kern_4 : decode cX5_kern 4 = .ok (.iload_n 1, 1) := by decide +kernel
theorem dX5_kern_5 : decode cX5_kern 5 = .ok (.invokevirtual 91, 3) := by decide +kernel
theorem dX5_kern_8 : decode cX5_kern 8 = .ok (.ifCond .ne 13, 3) := by decide +kernel
theorem dX5_kern_11 : decode cX5_kern 11 = .ok (.new 63, 3) := by decide +kernel
theorem dX5_kern_14 : decode cX5_kern 14 = .ok (.dup, 1) := by decide +kernel
theorem dX5_kern_15 : decode cX5_kern 15 = .ok (.ldc 94, 2) := by decide +kernel
theorem dX5_kern_17 : decode cX5_kern 17 = .ok (.invokespecial 67, 3) := by decide +kernel
theorem dX5_kern_20 : decode cX5_kern 20 = .ok (.athrow, 1) := by decide +kernel
theorem dX5_kern_21 : decode cX5_kern 21 = .ok (.iload_n 2, 1) := by decide +kernel
theorem dX5_kern_22 : decode cX5_kern 22 = .ok (.bipush (-5), 2) := by decide +kernel
theorem dX5_kern_24 : decode cX5_kern 24 = .ok (.if_icmp .lt 8, 3) := by decide +kernel
theorem dX5_kern_27 : decode cX5_kern 27 = .ok (.iload_n 2, 1) := by decide +kernel
theorem dX5_kern_28 : decode cX5_kern 28 = .ok (.iconst 5, 1) := by decide +kernel
theorem dX5_kern_29 : decode cX5_kern 29 = .ok (.if_icmp .le 13, 3) := by decide +kernel
theorem dX5_kern_32 : decode cX5_kern 32 = .ok (.new 74, 3) := by decide +kernel
theorem dX5_kern_35 : decode cX5_kern 35 = .ok (.dup, 1) := by decide +kernel
theorem dX5_kern_36 : decode cX5_kern 36 = .ok (.ldc 110, 2) := by decide +kernel
theorem dX5_kern_38 : decode cX5_kern 38 = .ok (.invokespecial 78, 3) := by decide +kernel
theorem dX5_kern_41 : decode cX5_kern 41 = .ok (.athrow, 1) := by decide +kernel
theorem dX5_kern_42 : decode cX5_kern 42 = .ok (.aload_n 0, 1) := by decide +kernel
theorem dX5_kern_43 : decode cX5_kern 43 = .ok (.getfield 10, 3) := by decide +kernel
theorem dX5_kern_46 : decode cX5_kern 46 = .ok (.iload_n 1, 1) := by decide +kernel
theorem dX5_kern_47 : decode cX5_kern 47 = .ok (.invokevirtual 112, 3) := by decide +kernel
theorem dX5_kern_50 : decode cX5_kern 50 = .ok (.iconst (-1), 1) := by decide +kernel
theorem dX5_kern_51 : decode cX5_kern 51 = .ok (.if_icmp .ne 13, 3) := by decide +kernel
theorem dX5_kern_54 : decode cX5_kern 54 = .ok (.new 79, 3) := by decide +kernel
theorem dX5_kern_57 : decode cX5_kern 57 = .ok (.dup, 1) := by decide +kernel
theorem dX5_kern_58 : decode cX5_kern 58 = .ok (.ldc 116, 2) := by decide +kernel
theorem dX5_kern_60 : decode cX5_kern 60 = .ok (.invokespecial 83, 3) := by decide +kernel
theorem dX5_kern_63 : decode cX5_kern 63 = .ok (.athrow, 1) := by decide +kernel
theorem dX5_kern_64 : decode cX5_kern 64 = .ok (.aload_n 0, 1) := by decide +kernel
theorem dX5_kern_65 : decode cX5_kern 65 = .ok (.invokevirtual 84, 3) := by decide +kernel
theorem dX5_kern_68 : decode cX5_kern 68 = .ok (.aload_n 0, 1) := by decide +kernel
theorem dX5_kern_69 : decode cX5_kern 69 = .ok (.getfield 10, 3) := by decide +kernel
theorem dX5_kern_72 : decode cX5_kern 72 = .ok (.iload_n 1, 1) := by decide +kernel
theorem dX5_kern_73 : decode cX5_kern 73 = .ok (.invokevirtual 118, 3) := by decide +kernel
theorem dX5_kern_76 : decode cX5_kern 76 = .ok (.istore_n 3, 1) := by decide +kernel
theorem dX5_kern_77 : decode cX5_kern 77 = .ok (.aload_n 0, 1) := by decide +kernel
theorem dX5_kern_78 : decode cX5_kern 78 = .ok (.getfield 10, 3) := by decide +kernel
theorem dX5_kern_81 : decode cX5_kern 81 = .ok (.iload_n 1, 1) := by decide +kernel
theorem dX5_kern_82 : decode cX5_kern 82 = .ok (.iload_n 2, 1) := by decide +kernel
theorem dX5_kern_83 : decode cX5_kern 83 = .ok (.invokevirtual 121, 3) := by decide +kernel
theorem dX5_kern_86 : decode cX5_kern 86 = .ok (.iload_n 3, 1) := by decide +kernel
theorem dX5_kern_87 : decode cX5_kern 87 = .ok (.bipush 10, 2) := by decide +kernel
theorem dX5_kern_89 : decode cX5_kern 89 = .ok (.iadd, 1) := by decide +kernel
theorem dX5_kern_90 : decode cX5_kern 90 = .ok (.ireturn, 1) := by decide +kernel
set_option maxRecDepth 20000 in
theorem ggX5_board_X5_saveState : GoodIn wsX5_board wsX5_saveState := goodIn_r _ [8, 9, 3, 10, 11, 12, 13, 14, 15, 16, 17, 18, 19, 20, 21, 22, 23, 24, 25, 26, 27, 28, 29, 30, 31, 32, 33, 7, 34, 35, 36, 37, 38, 39, 40, 41, 42, 43, 44, 50, 51, 52, 45, 46, 47, 48, 49] (by decide +kernel) (by decide +kernel)
set_option maxRecDepth 20000 in
theorem gX5_board_X5_saveState : GoodIn wsX5_board (wsV RX5 84 RX5 yX5_saveState wsX5_saveState) := goodIn_app (goodIn_of _ (by decide +kernel)) ggX5_board_X5_saveState
theorem dX5_board_0 : decode cX5_board 0 = .ok (.iload_n 1, 1) := by decide +kernel
theorem dX5_board_1 : decode cX5_board 1 = .ok (.bipush 50, 2) := by decide +kernel
theorem dX5_board_3 : decode cX5_board 3 = .ok (.if_icmp .lt 10, 3) := by decide +kernel
theorem dX5_board_6 : decode cX5_board 6 = .ok (.iload_n 1, 1) := by decide +kernel
theorem dX5_board_7 : decode cX5_board 7 = .ok (.sipush 600, 3) := by decide +kernel
theorem dX5_board_10 : decode cX5_board 10 = .ok (.if_icmp .le 13, 3) := by decide +kernel
theorem dX5_board_13 : decode cX5_board 13 = .ok (.new 74, 3) := by decide +kernel
theorem dX5_board_16 : decode cX5_board 16 = .ok (.dup, 1) := by decide +kernel
theorem dX5_board_17 : decode cX5_board 17 = .ok (.ldc 124, 2) := by decide +kernel
theorem dX5_board_19 : decode cX5_board 19 = .ok (.invokespecial 78, 3) := by decide +kernel
theorem dX5_board_22 : decode cX5_board 22 = .ok (.athrow, 1) := by decide +kernel
theorem dX5_board_23 : decode cX5_board 23 = .ok (.aload_n 0, 1) := by decide +kernel
theorem dX5_board_24 : decode cX5_board 24 = .ok (.invokevirtual 84, 3) := by decide +kernel
theorem dX5_board_27 : decode cX5_board 27 = .ok (.aload_n 0, 1) := by decide +kernel
theorem dX5_board_28 : decode cX5_board 28 = .ok (.getfield 10, 3) := by decide +kernel
theorem dX5_board_31 : decode cX5_board 31 = .ok (.getfield 126, 3) := by decide +kernel
theorem dX5_board_34 : decode cX5_board 34 = .ok (.istore_n 2, 1) := by decide +kernel
theorem dX5_board_35 : decode cX5_board 35 = .ok (.aload_n 0, 1) := by decide +kernel
theorem dX5_board_36 : decode cX5_board 36 = .ok (.getfield 10, 3) := by decide +kernel
theorem dX5_board_39 : decode cX5_board 39 = .ok (.iload_n 1, 1) := by decide +kernel
theorem dX5_board_40 : decode cX5_board 40 = .ok (.putfield 126, 3) := by decide +kernel
theorem dX5_board_43 : decode cX5_board 43 = .ok (.iload_n 2, 1) := by decide +kernel
theorem dX5_board_44 : decode cX5_board 44 = .ok (.ireturn, 1) := by decide +kernel
set_option maxRecDepth 20000 in
theorem ggX5_set_X5_isSetting : GoodIn wsX5_set wsX5_isSetting := goodIn_r _ [9] (by decide +kernel) (by decide +kernel)
set_option maxRecDepth 20000 in
theorem gX5_set_X5_isSetting : GoodIn wsX5_set (va_wsS RX5 129 yX5_isSetting wsX5_isSetting) := goodIn_app (goodIn_of _ (by decide +kernel)) ggX5_set_X5_isSetting
set_option maxRecDepth 20000 in
theorem ggX5_set_X5_isInRange : GoodIn wsX5_set wsX5_isInRange := goodIn_r _ [12, 13, 14, 15, 16, 8, 17] (by decide +kernel) (by decide +kernel)
set_option maxRecDepth 20000 in
theorem gX5_set_X5_isInRange : GoodIn wsX5_set (va_wsS RX5 134 yX5_isInRange wsX5_isInRange) := goodIn_app (goodIn_of _ (by decide +kernel)) ggX5_set_X5_isInRange
set_option maxRecDepth 20000 in
theorem ggX5_set_X5_saveState : GoodIn wsX5_set wsX5_saveState := goodIn_r _ [21, 22, 5, 23, 24, 25, 26, 27, 28, 29, 30, 31, 32, 33, 34, 35, 36, 37, 38, 39, 40, 41, 42, 43, 44, 45, 46, 8, 47, 51, 52, 53, 54, 55, 56, 57, 58, 59, 60, 66, 67, 68, 61, 62, 63, 64, 65] (by decide +kernel) (by decide +kernel)
set_option maxRecDepth 20000 in
theorem gX5_set_X5_saveState : GoodIn wsX5_set (wsV RX5 84 RX5 yX5_saveState wsX5_saveState) := goodIn_app (goodIn_of _ (by decide +kernel)) ggX5_set_X5_saveState
set_option maxRecDepth 20000 in
theorem ggX5_set_X5_valueAt : GoodIn wsX5_set wsX5_valueAt := goodIn_r _ [17] (by decide +kernel) (by decide +kernel)
set_option maxRecDepth 20000 in
theorem gX5_set_X5_valueAt : GoodIn wsX5_set (va_wsS RX5 144 yX5_valueAt wsX5_valueAt) := goodIn_app (goodIn_of _ (by decide +kernel)) ggX5_set_X5_valueAt
set_option maxRecDepth 20000 in
theorem ggX5_set_X5_store : GoodIn wsX5_set wsX5_store := goodIn_r _ [50] (by decide +kernel) (by decide +kernel)
set_option maxRecDepth 20000 in
theorem gX5_set_X5_store : GoodIn wsX5_set (va_wsS RX5 148 yX5_store wsX5_store) := goodIn_app (goodIn_of _ (by decide +kernel)) ggX5_set_X5_store
theorem dX5_set_0 : decode cX5_set 0 = .ok (.iload_n 1, 1) := by decide +kernel
theorem dX5_set_1 : decode cX5_set 1 = .ok (.invokestatic 129, 3) := by decide +kernel
theorem dX5_set_4 : decode cX5_set 4 = .ok (.ifCond .ne 13, 3) := by decide +kernel
theorem dX5_set_7 : decode cX5_set 7 = .ok (.new 63, 3) := by decide +kernel
theorem dX5_set_10 : decode cX5_set 10 = .ok (.dup, 1) := by decide +kernel
theorem dX5_set_11 : decode cX5_set 11 = .ok (.ldc 132, 2) := by decide +kernel
theorem dX5_set_13 : decode cX5_set 13 = .ok (.invokespecial 67, 3) := by decide +kernel
theorem dX5_set_16 : decode cX5_set 16 = .ok (.athrow, 1) := by decide +kernel
theorem dX5_set_17 : decode cX5_set 17 = .ok (.iload_n 1, 1) := by decide +kernel
theorem dX5_set_18 : decode cX5_set 18 = .ok (.iload_n 2, 1) := by decide +kernel
theorem dX5_set_19 : decode cX5_set 19 = .ok (.invokestatic 134, 3) := by decide +kernel
theorem dX5_set_22 : decode cX5_set 22 = .ok (.ifCond .ne 13, 3) := by decide +kernel
theorem dX5_set_25 : decode cX5_set 25 = .ok (.new 74, 3) := by decide +kernel
theorem dX5_set_28 : decode cX5_set 28 = .ok (.dup, 1) := by decide +kernel
theorem dX5_set_29 : decode cX5_set 29 = .ok (.ldc 138, 2) := by decide +kernel
theorem dX5_set_31 : decode cX5_set 31 = .ok (.invokespecial 78, 3) := by decide +kernel
theorem dX5_set_34 : decode cX5_set 34 = .ok (.athrow, 1) := by decide +kernel
theorem dX5_set_35 : decode cX5_set 35 = .ok (.aload_n 0, 1) := by decide +kernel
theorem dX5_set_36 : decode cX5_set 36 = .ok (.invokevirtual 84, 3) := by decide +kernel
theorem dX5_set_39 : decode cX5_set 39 = .ok (.aload_n 0, 1) := by decide +kernel
theorem dX5_set_40 : decode cX5_set 40 = .ok (.getfield 10, 3) := by decide +kernel
theorem dX5_set_43 : decode cX5_set 43 = .ok (.getfield 140, 3) := by decide +kernel
theorem dX5_set_46 : decode cX5_set 46 = .ok (.iload_n 1, 1) := by decide +kernel
theorem dX5_set_47 : decode cX5_set 47 = .ok (.invokestatic 144, 3) := by decide +kernel
theorem dX5_set_50 : decode cX5_set 50 = .ok (.istore_n 3, 1) := by decide +kernel
theorem dX5_set_51 : decode cX5_set 51 = .ok (.aload_n 0, 1) := by decide +kernel
theorem dX5_set_52 : decode cX5_set 52 = .ok (.getfield 10, 3) := by decide +kernel
theorem dX5_set_55 : decode cX5_set 55 = .ok (.getfield 140, 3) := by decide +kernel
theorem dX5_set_58 : decode cX5_set 58 = .ok (.iload_n 1, 1) := by decide +kernel
theorem dX5_set_59 : decode cX5_set 59 = .ok (.iload_n 2, 1) := by decide +kernel
theorem dX5_set_60 : decode cX5_set 60 = .ok (.invokestatic 148, 3) := by decide +kernel
theorem dX5_set_63 : decode cX5_set 63 = .ok (.iload_n 3, 1) := by decide +kernel
theorem dX5_set_64 : decode cX5_set 64 = .ok (.ireturn, 1) := by decide +kernel
set_option maxRecDepth 20000 in
theorem ggX5_undo_X1_takeLatest : GoodIn wsX5_undo wsX1_takeLatest := goodIn_r _ [10, 11, 12, 13, 14, 9, 15, 16, 17, 18, 19, 20, 21, 22, 23, 24, 25, 26, 27, 28, 29, 30, 41, 42, 43, 44, 45, 46, 47, 48] (by decide +kernel) (by decide +kernel)
set_option maxRecDepth 20000 in
theorem gX5_undo_X1_takeLatest : GoodIn wsX5_undo (wsV RX5 181 RX1 yX1_takeLatest wsX1_takeLatest) := goodIn_app (goodIn_of _ (by decide +kernel)) ggX5_undo_X1_takeLatest
theorem dX5_undo_0 : decode cX5_undo 0 = .ok (.aload_n 0, 1) := by decide +kernel
theorem dX5_undo_1 : decode cX5_undo 1 = .ok (.getfield 22, 3) := by decide +kernel
theorem dX5_undo_4 : decode cX5_undo 4 = .ok (.getfield 176, 3) := by decide +kernel
theorem dX5_undo_7 : decode cX5_undo 7 = .ok (.ifCond .gt 13, 3) := by decide +kernel
theorem dX5_undo_10 : decode cX5_undo 10 = .ok (.new 79, 3) := by decide +kernel
theorem dX5_undo_13 : decode cX5_undo 13 = .ok (.dup, 1) := by decide +kernel
theorem dX5_undo_14 : decode cX5_undo 14 = .ok (.ldc 179, 2) := by decide +kernel
theorem dX5_undo_16 : decode cX5_undo 16 = .ok (.invokespecial 83, 3) := by decide +kernel
theorem dX5_undo_19 : decode cX5_undo 19 = .ok (.athrow, 1) := by decide +kernel
theorem dX5_undo_20 : decode cX5_undo 20 = .ok (.aload_n 0, 1) := by decide +kernel
theorem dX5_undo_21 : decode cX5_undo 21 = .ok (.getfield 22, 3) := by decide +kernel
theorem dX5_undo_24 : decode cX5_undo 24 = .ok (.aload_n 0, 1) := by decide +kernel
theorem dX5_undo_25 : decode cX5_undo 25 = .ok (.getfield 10, 3) := by decide +kernel
theorem dX5_undo_28 : decode cX5_undo 28 = .ok (.invokevirtual 181, 3) := by decide +kernel
theorem dX5_undo_31 : decode cX5_undo 31 = .ok (.aload_n 0, 1) := by decide +kernel
theorem dX5_undo_32 : decode cX5_undo 32 = .ok (.iconst 1, 1) := by decide +kernel
theorem dX5_undo_33 : decode cX5_undo 33 = .ok (.putfield 55, 3) := by decide +kernel
theorem dX5_undo_36 : decode cX5_undo 36 = .ok (.aload_n 0, 1) := by decide +kernel
theorem dX5_undo_37 : decode cX5_undo 37 = .ok (.getfield 22, 3) := by decide +kernel
theorem dX5_undo_40 : decode cX5_undo 40 = .ok (.getfield 176, 3) := by decide +kernel
theorem dX5_undo_43 : decode cX5_undo 43 = .ok (.ireturn, 1) := by decide +kernel
set_option maxRecDepth 20000 in
theorem ggX5_keep_X3_copyFrom : GoodIn wsX5_keep wsX3_copyFrom := goodIn_r _ [8, 9, 10, 11, 12, 13, 14, 15, 16, 27, 28, 29, 30, 31] (by decide +kernel) (by decide +kernel)
set_option maxRecDepth 20000 in
theorem gX5_keep_X3_copyFrom : GoodIn wsX5_keep (wsV RX5 184 RX3 yX3_copyFrom wsX3_copyFrom) := goodIn_app (goodIn_of _ (by decide +kernel)) ggX5_keep_X3_copyFrom
theorem dX5_keep_0 : decode cX5_keep 0 = .ok (.aload_n 0, 1) := by decide +kernel
theorem dX5_keep_1 : decode cX5_keep 1 = .ok (.getfield 16, 3) := by decide +kernel
theorem dX5_keep_4 : decode cX5_keep 4 = .ok (.aload_n 0, 1) := by decide +kernel
theorem dX5_keep_5 : decode cX5_keep 5 = .ok (.getfield 10, 3) := by decide +kernel
theorem dX5_keep_8 : decode cX5_keep 8 = .ok (.invokevirtual 184, 3) := by decide +kernel
theorem dX5_keep_11 : decode cX5_keep 11 = .ok (.aload_n 0, 1) := by decide +kernel
theorem dX5_keep_12 : decode cX5_keep 12 = .ok (.iconst 1, 1) := by decide +kernel
theorem dX5_keep_13 : decode cX5_keep 13 = .ok (.putfield 187, 3) := by decide +kernel
theorem dX5_keep_16 : decode cX5_keep 16 = .ok (.aload_n 0, 1) := by decide +kernel
theorem dX5_keep_17 : decode cX5_keep 17 = .ok (.getfield 10, 3) := by decide +kernel
theorem dX5_keep_20 : decode cX5_keep 20 = .ok (.getfield 59, 3) := by decide +kernel
theorem dX5_keep_23 : decode cX5_keep 23 = .ok (.ireturn, 1) := by decide +kernel
set_option maxRecDepth 20000 in
theorem ggX5_restore_X5_saveState : GoodIn wsX5_restore wsX5_saveState := goodIn_r _ [10, 11, 4, 12, 13, 14, 15, 16, 17, 18, 19, 20, 21, 22, 23, 24, 25, 26, 27, 28, 29, 30, 31, 32, 33, 34, 35, 9, 36, 38, 39, 40, 41, 42, 43, 44, 45, 46, 47, 53, 54, 55, 48, 49, 50, 51, 52] (by decide +kernel) (by decide +kernel)
set_option maxRecDepth 20000 in
theorem gX5_restore_X5_saveState : GoodIn wsX5_restore (wsV RX5 84 RX5 yX5_saveState wsX5_saveState) := goodIn_app (goodIn_of _ (by decide +kernel)) ggX5_restore_X5_saveState
set_option maxRecDepth 20000 in
theorem ggX5_restore_X3_copyFrom : GoodIn wsX5_restore wsX3_copyFrom := goodIn_r _ [29, 30, 31, 32, 33, 34, 35, 9, 36, 48, 49, 50, 51, 52] (by decide +kernel) (by decide +kernel)
set_option maxRecDepth 20000 in
theorem gX5_restore_X3_copyFrom : GoodIn wsX5_restore (wsV RX5 184 RX3 yX3_copyFrom wsX3_copyFrom) := goodIn_app (goodIn_of _ (by decide +kernel)) ggX5_restore_X3_copyFrom
theorem dX5_restore_0 : decode cX5_restore 0 = .ok (.aload_n 0, 1) := by decide +kernel
theorem dX5_restore_1 : decode cX5_restore 1 = .ok (.getfield 187, 3) := by decide +kernel
theorem dX5_restore_4 : decode cX5_restore 4 = .ok (.ifCond .ne 13, 3) := by decide +kernel
theorem dX5_restore_7 : decode cX5_restore 7 = .ok (.new 79, 3) := by decide +kernel
theorem dX5_restore_10 : decode cX5_restore 10 = .ok (.dup, 1) := by decide +kernel
theorem dX5_restore_11 : decode cX5_restore 11 = .ok (.ldc 190, 2) := by decide +kernel
theorem dX5_restore_13 : decode cX5_restore 13 = .ok (.invokespecial 83, 3) := by decide +kernel
theorem dX5_restore_16 : decode cX5_restore 16 = .ok (.athrow, 1) := by decide +kernel
theorem dX5_restore_17 : decode cX5_restore 17 = .ok (.aload_n 0, 1) := by decide +kernel
theorem dX5_restore_18 : decode cX5_restore 18 = .ok (.invokevirtual 84, 3) := by decide +kernel
theorem dX5_restore_21 : decode cX5_restore 21 = .ok (.aload_n 0, 1) := by decide +kernel
theorem dX5_restore_22 : decode cX5_restore 22 = .ok (.getfield 10, 3) := by decide +kernel
theorem dX5_restore_25 : decode cX5_restore 25 = .ok (.aload_n 0, 1) := by decide +kernel
theorem dX5_restore_26 : decode cX5_restore 26 = .ok (.getfield 16, 3) := by decide +kernel
theorem dX5_restore_29 : decode cX5_restore 29 = .ok (.invokevirtual 184, 3) := by decide +kernel
theorem dX5_restore_32 : decode cX5_restore 32 = .ok (.aload_n 0, 1) := by decide +kernel
theorem dX5_restore_33 : decode cX5_restore 33 = .ok (.getfield 10, 3) := by decide +kernel
theorem dX5_restore_36 : decode cX5_restore 36 = .ok (.getfield 59, 3) := by decide +kernel
theorem dX5_restore_39 : decode cX5_restore 39 = .ok (.ireturn, 1) := by decide +kernel
set_option maxRecDepth 20000 in
theorem ggX5_letter_X5_isLetter : GoodIn wsX5_letter wsX5_isLetter := goodIn_r _ [8] (by decide +kernel) (by decide +kernel)
set_option maxRecDepth 20000 in
theorem gX5_letter_X5_isLetter : GoodIn wsX5_letter (va_wsS RX5 70 yX5_isLetter wsX5_isLetter) := goodIn_app (goodIn_of _ (by decide +kernel)) ggX5_letter_X5_isLetter
set_option maxRecDepth 20000 in
theorem ggX5_letter_X5_widthOf : GoodIn wsX5_letter wsX5_widthOf := goodIn_r _ [11] (by decide +kernel) (by decide +kernel)
set_option maxRecDepth 20000 in
theorem gX5_letter_X5_widthOf : GoodIn wsX5_letter (va_wsS RX5 196 yX5_widthOf wsX5_widthOf) := goodIn_app (goodIn_of _ (by decide +kernel)) ggX5_letter_X5_widthOf
set_option maxRecDepth 20000 in
theorem ggX5_letter_X5_leftShape : GoodIn wsX5_letter wsX5_leftShape := goodIn_r _ [14] (by decide +kernel) (by decide +kernel)
set_option maxRecDepth 20000 in
theorem gX5_letter_X5_leftShape : GoodIn wsX5_letter (va_wsS RX5 199 yX5_leftShape wsX5_leftShape) := goodIn_app (goodIn_of _ (by decide +kernel)) ggX5_letter_X5_leftShape
set_option maxRecDepth 20000 in
theorem ggX5_letter_X5_rightShape : GoodIn wsX5_letter wsX5_rightShape := goodIn_r _ [17] (by decide +kernel) (by decide +kernel)
set_option maxRecDepth 20000 in
theorem gX5_letter_X5_rightShape : GoodIn wsX5_letter (va_wsS RX5 202 yX5_rightShape wsX5_rightShape) := goodIn_app (goodIn_of _ (by decide +kernel)) ggX5_letter_X5_rightShape
theorem dX5_letter_0 : decode cX5_letter 0 = .ok (.iload_n 1, 1) := by decide +kernel
theorem dX5_letter_1 : decode cX5_letter 1 = .ok (.invokestatic 70, 3) := by decide +kernel
theorem dX5_letter_4 : decode cX5_letter 4 = .ok (.ifCond .ne 13, 3) := by decide +kernel
theorem dX5_letter_7 : decode cX5_letter 7 = .ok (.new 63, 3) := by decide +kernel
theorem dX5_letter_10 : decode cX5_letter 10 = .ok (.dup, 1) := by decide +kernel
theorem dX5_letter_11 : decode cX5_letter 11 = .ok (.ldc 192, 2) := by decide +kernel
theorem dX5_letter_13 : decode cX5_letter 13 = .ok (.invokespecial 67, 3) := by decide +kernel
theorem dX5_letter_16 : decode cX5_letter 16 = .ok (.athrow, 1) := by decide +kernel
theorem dX5_letter_17 : decode cX5_letter 17 = .ok (.iload_n 2, 1) := by decide +kernel
theorem dX5_letter_18 : decode cX5_letter 18 = .ok (.ifCond .lt 8, 3) := by decide +kernel
theorem dX5_letter_21 : decode cX5_letter 21 = .ok (.iload_n 2, 1) := by decide +kernel
theorem dX5_letter_22 : decode cX5_letter 22 = .ok (.iconst 3, 1) := by decide +kernel
theorem dX5_letter_23 : decode cX5_letter 23 = .ok (.if_icmp .lt 13, 3) := by decide +kernel
theorem dX5_letter_26 : decode cX5_letter 26 = .ok (.new 74, 3) := by decide +kernel
theorem dX5_letter_29 : decode cX5_letter 29 = .ok (.dup, 1) := by decide +kernel
theorem dX5_letter_30 : decode cX5_letter 30 = .ok (.ldc 194, 2) := by decide +kernel
theorem dX5_letter_32 : decode cX5_letter 32 = .ok (.invokespecial 78, 3) := by decide +kernel
theorem dX5_letter_35 : decode cX5_letter 35 = .ok (.athrow, 1) := by decide +kernel
theorem dX5_letter_36 : decode cX5_letter 36 = .ok (.iload_n 2, 1) := by decide +kernel
theorem dX5_letter_37 : decode cX5_letter 37 = .ok (.ifCond .ne 8, 3) := by decide +kernel
theorem dX5_letter_40 : decode cX5_letter 40 = .ok (.iload_n 1, 1) := by decide +kernel
theorem dX5_letter_41 : decode cX5_letter 41 = .ok (.invokestatic 196, 3) := by decide +kernel
theorem dX5_letter_44 : decode cX5_letter 44 = .ok (.ireturn, 1) := by decide +kernel
theorem dX5_letter_45 : decode cX5_letter 45 = .ok (.iload_n 2, 1) := by decide +kernel
theorem dX5_letter_46 : decode cX5_letter 46 = .ok (.iconst 1, 1) := by decide +kernel
theorem dX5_letter_47 : decode cX5_letter 47 = .ok (.if_icmp .ne 10, 3) := by decide +kernel
theorem dX5_letter_50 : decode cX5_letter 50 = .ok (.iload_n 1, 1) := by decide +kernel
theorem dX5_letter_51 : decode cX5_letter 51 = .ok (.invokestatic 199, 3) := by decide +kernel
theorem dX5_letter_54 : decode cX5_letter 54 = .ok (.goto 7, 3) := by decide +kernel
theorem dX5_letter_57 : decode cX5_letter 57 = .ok (.iload_n 1, 1) := by decide +kernel
theorem dX5_letter_58 : decode cX5_letter 58 = .ok (.invokestatic 202, 3) := by decide +kernel
theorem dX5_letter_61 : decode cX5_letter 61 = .ok (.ireturn, 1) := by decide +kernel
set_option maxRecDepth 20000 in
theorem ggX5_item_X3_has : GoodIn wsX5_item wsX3_has := goodIn_r _ [10, 11, 162, 163, 164, 165, 166] (by decide +kernel) (by decide +kernel)
set_option maxRecDepth 20000 in
theorem gX5_item_X3_has : GoodIn wsX5_item (wsV RX5 91 RX3 yX3_has wsX3_has) := goodIn_app (goodIn_of _ (by decide +kernel)) ggX5_item_X3_has
set_option maxRecDepth 20000 in
theorem ggX5_item_X5_look : GoodIn wsX5_item wsX5_look := goodIn_r _ [16, 17, 18, 5, 19, 20, 21, 22, 23, 24, 25, 26, 27, 28, 29, 30, 31, 32, 33, 34, 35, 15, 36, 37, 38, 39, 40, 41, 42, 43, 44, 45, 46, 47, 48, 49, 50, 51, 52, 53, 54, 55, 56, 57, 58, 59, 9, 60, 61, 62, 7, 8, 10, 11, 63, 64, 65, 66, 67, 68, 69, 70, 71, 72, 73, 74, 75, 76, 77, 78, 79, 80, 81, 82, 83, 84, 85, 86, 87, 88, 89, 90, 91, 92, 93, 94, 95, 96, 97, 98, 99, 100, 101, 102, 103, 104, 105, 106, 107, 108, 109, 110, 111, 112, 113, 114, 115, 116, 117, 118, 119, 120, 121, 122, 123, 124, 125, 126, 127, 128, 129, 130, 152, 153, 154, 155, 156, 157, 158, 159, 160, 161, 162, 163, 164, 165, 166, 167, 168, 169, 170, 171, 172, 173, 174, 175, 176, 177, 178, 179, 180, 181, 182, 183, 184, 185, 186] (by decide +kernel) (by decide +kernel)
set_option maxRecDepth 20000 in
theorem gX5_item_X5_look : GoodIn wsX5_item (wsV RX5 103 RX5 yX5_look wsX5_look) := goodIn_app (goodIn_of _ (by decide +kernel)) ggX5_item_X5_look
set_option maxRecDepth 20000 in
theorem ggX5_item_X5_itemNumber : GoodIn wsX5_item wsX5_itemNumber := goodIn_r _ [134, 5, 135, 58, 59, 9, 60, 61, 62, 7, 8, 10, 11, 39, 15, 40, 136, 73, 74, 75, 76, 137, 138, 118, 119, 24, 120, 31, 106, 139, 140, 141, 142, 143, 144, 145, 146, 67, 27, 57, 63, 64, 65, 66, 45, 68, 69, 70, 71, 147, 148, 149, 150, 108, 30, 151, 152, 153, 154, 155, 156, 157, 158, 159, 160, 161, 167, 168, 169, 170, 171, 172, 173, 174, 175, 176, 177, 178, 179, 180, 181, 182, 183, 162, 163, 164, 165, 166] (by decide +kernel) (by decide +kernel)
set_option maxRecDepth 20000 in
theorem gX5_item_X5_itemNumber : GoodIn wsX5_item (wsV RX5 211 RX5 yX5_itemNumber wsX5_itemNumber) := goodIn_app (goodIn_of _ (by decide +kernel)) ggX5_item_X5_itemNumber
theorem dX5_item_0 : decode cX5_item 0 = .ok (.aload_n 0, 1) := by decide +kernel
theorem dX5_item_1 : decode cX5_item 1 = .ok (.getfield 10, 3) := by decide +kernel
theorem dX5_item_4 : decode cX5_item 4 = .ok (.iload_n 1, 1) := by decide +kernel
theorem dX5_item_5 : decode cX5_item 5 = .ok (.invokevirtual 91, 3) := by decide +kernel
theorem dX5_item_8 : decode cX5_item 8 = .ok (.ifCond .ne 13, 3) := by decide +kernel
theorem dX5_item_11 : decode cX5_item 11 = .ok (.new 63, 3) := by decide +kernel
theorem dX5_item_14 : decode cX5_item 14 = .ok (.dup, 1) := by decide +kernel
theorem dX5_item_15 : decode cX5_item 15 = .ok (.ldc 94, 2) := by decide +kernel
theorem dX5_item_17 : decode cX5_item 17 = .ok (.invokespecial 67, 3) := by decide +kernel
theorem dX5_item_20 : decode cX5_item 20 = .ok (.athrow, 1) := by decide +kernel
theorem dX5_item_21 : decode cX5_item 21 = .ok (.iload_n 2, 1) := by decide +kernel
theorem dX5_item_22 : decode cX5_item 22 = .ok (.ifCond .lt 9, 3) := by decide +kernel
theorem dX5_item_25 : decode cX5_item 25 = .ok (.iload_n 2, 1) := by decide +kernel
theorem dX5_item_26 : decode cX5_item 26 = .ok (.bipush 9, 2) := by decide +kernel
theorem dX5_item_28 : decode cX5_item 28 = .ok (.if_icmp .lt 13, 3) := by decide +kernel
theorem dX5_item_31 : decode cX5_item 31 = .ok (.new 74, 3) := by decide +kernel
theorem dX5_item_34 : decode cX5_item 34 = .ok (.dup, 1) := by decide +kernel
theorem dX5_item_35 : decode cX5_item 35 = .ok (.ldc 194, 2) := by decide +kernel
theorem dX5_item_37 : decode cX5_item 37 = .ok (.invokespecial 78, 3) := by decide +kernel
theorem dX5_item_40 : decode cX5_item 40 = .ok (.athrow, 1) := by decide +kernel
theorem dX5_item_41 : decode cX5_item 41 = .ok (.aload_n 0, 1) := by decide +kernel
theorem dX5_item_42 : decode cX5_item 42 = .ok (.aload_n 0, 1) := by decide +kernel
theorem dX5_item_43 : decode cX5_item 43 = .ok (.invokevirtual 103, 3) := by decide +kernel
theorem dX5_item_46 : decode cX5_item 46 = .ok (.iload_n 1, 1) := by decide +kernel
theorem dX5_item_47 : decode cX5_item 47 = .ok (.iload_n 2, 1) := by decide +kernel
theorem dX5_item_48 : decode cX5_item 48 = .ok (.invokevirtual 211, 3) := by decide +kernel
theorem dX5_item_51 : decode cX5_item 51 = .ok (.ireturn, 1) := by decide +kernel
set_option maxRecDepth 20000 in
theorem ggX5_byArea_X5_look : GoodIn wsX5_byArea wsX5_look := goodIn_r _ [8, 9, 10, 11, 3, 12, 13, 14, 15, 16, 17, 18, 19, 20, 21, 22, 23, 24, 25, 26, 27, 7, 28, 29, 30, 31, 32, 33, 34, 35, 36, 37, 38, 39, 40, 41, 42, 43, 44, 45, 46, 47, 48, 49, 50, 51, 52, 53, 54, 55, 56, 57, 58, 59, 60, 61, 62, 63, 64, 65, 66, 67, 68, 69, 70, 71, 72, 73, 74, 75, 76, 77, 78, 79, 80, 81, 82, 83, 84, 85, 86, 87, 88, 89, 90, 91, 92, 93, 94, 95, 96, 97, 98, 99, 100, 101, 102, 103, 104, 105, 106, 107, 108, 109, 110, 111, 112, 113, 114, 115, 116, 117, 118, 119, 120, 121, 122, 123, 124, 125, 126, 127, 132, 133, 134, 135, 136, 137, 138, 139, 140, 141, 142, 143, 144, 145, 146, 147, 148, 149, 150, 151, 152, 153, 154, 155, 156, 157, 158, 159, 160, 161, 162, 163, 164, 165, 166] (by decide +kernel) (by decide +kernel)
set_option maxRecDepth 20000 in
theorem gX5_byArea_X5_look : GoodIn wsX5_byArea (wsV RX5 103 RX5 yX5_look wsX5_look) := goodIn_app (goodIn_of _ (by decide +kernel)) ggX5_byArea_X5_look
set_option maxRecDepth 20000 in
theorem ggX5_byArea_X2_placeAt : GoodIn wsX5_byArea wsX2_placeAt := goodIn_r _ [131, 113, 122, 31, 7, 32, 164, 165, 166] (by decide +kernel) (by decide +kernel)
set_option maxRecDepth 20000 in
theorem gX5_byArea_X2_placeAt : GoodIn wsX5_byArea (wsV RX5 217 RX2 yX2_placeAt wsX2_placeAt) := goodIn_app (goodIn_of _ (by decide +kernel)) ggX5_byArea_X2_placeAt
theorem dX5_byArea_0 : decode cX5_byArea 0 = .ok (.iload_n 1, 1) := by decide +kernel
theorem dX5_byArea_1 : decode cX5_byArea 1 = .ok (.ifCond .ge 13, 3) := by decide +kernel
theorem dX5_byArea_4 : decode cX5_byArea 4 = .ok (.new 74, 3) := by decide +kernel
theorem dX5_byArea_7 : decode cX5_byArea 7 = .ok (.dup, 1) := by decide +kernel
theorem dX5_byArea_8 : decode cX5_byArea 8 = .ok (.ldc 215, 2) := by decide +kernel
theorem dX5_byArea_10 : decode cX5_byArea 10 = .ok (.invokespecial 78, 3) := by decide +kernel
theorem dX5_byArea_13 : decode cX5_byArea 13 = .ok (.athrow, 1) := by decide +kernel
theorem dX5_byArea_14 : decode cX5_byArea 14 = .ok (.aload_n 0, 1) := by decide +kernel
theorem dX5_byArea_15 : decode cX5_byArea 15 = .ok (.invokevirtual 103, 3) := by decide +kernel
theorem dX5_byArea_18 : decode cX5_byArea 18 = .ok (.pop, 1) := by decide +kernel
theorem dX5_byArea_19 : decode cX5_byArea 19 = .ok (.aload_n 0, 1) := by decide +kernel
theorem dX5_byArea_20 : decode cX5_byArea 20 = .ok (.getfield 48, 3) := by decide +kernel
theorem dX5_byArea_23 : decode cX5_byArea 23 = .ok (.iload_n 1, 1) := by decide +kernel
theorem dX5_byArea_24 : decode cX5_byArea 24 = .ok (.invokevirtual 217, 3) := by decide +kernel
theorem dX5_byArea_27 : decode cX5_byArea 27 = .ok (.ireturn, 1) := by decide +kernel
set_option maxRecDepth 20000 in
theorem ggX5_byFault_X5_look : GoodIn wsX5_byFault wsX5_look := goodIn_r _ [8, 9, 10, 11, 12, 3, 13, 14, 15, 16, 17, 18, 19, 20, 21, 22, 23, 24, 25, 26, 27, 7, 28, 29, 30, 31, 32, 33, 34, 35, 36, 37, 38, 39, 40, 41, 42, 43, 44, 45, 46, 47, 48, 49, 50, 51, 52, 53, 54, 55, 56, 57, 58, 59, 60, 61, 62, 63, 64, 65, 66, 67, 68, 69, 70, 71, 72, 73, 74, 75, 76, 77, 78, 79, 80, 81, 82, 83, 84, 85, 86, 87, 88, 89, 90, 91, 92, 93, 94, 95, 96, 97, 98, 99, 100, 101, 102, 103, 104, 105, 106, 107, 108, 109, 110, 111, 112, 113, 114, 115, 116, 117, 118, 119, 120, 121, 122, 123, 124, 125, 126, 127, 132, 133, 134, 135, 136, 137, 138, 139, 140, 141, 142, 143, 144, 145, 146, 147, 148, 149, 150, 151, 152, 153, 154, 155, 156, 157, 158, 159, 160, 161, 162, 163, 164, 165, 166] (by decide +kernel) (by decide +kernel)
set_option maxRecDepth 20000 in
theorem gX5_byFault_X5_look : GoodIn wsX5_byFault (wsV RX5 103 RX5 yX5_look wsX5_look) := goodIn_app (goodIn_of _ (by decide +kernel)) ggX5_byFault_X5_look
set_option maxRecDepth 20000 in
theorem ggX5_byFault_X2_placeAt : GoodIn wsX5_byFault wsX2_placeAt := goodIn_r _ [131, 113, 122, 31, 7, 32, 164, 165, 166] (by decide +kernel) (by decide +kernel)
set_option maxRecDepth 20000 in
theorem gX5_byFault_X2_placeAt : GoodIn wsX5_byFault (wsV RX5 217 RX2 yX2_placeAt wsX2_placeAt) := goodIn_app (goodIn_of _ (by decide +kernel)) ggX5_byFault_X2_placeAt
theorem dX5_byFault_0 : decode cX5_byFault 0 = .ok (.iload_n 1, 1) := by decide +kernel
theorem dX5_byFault_1 : decode cX5_byFault 1 = .ok (.ifCond .ge 13, 3) := by decide +kernel
theorem dX5_byFault_4 : decode cX5_byFault 4 = .ok (.new 74, 3) := by decide +kernel
theorem dX5_byFault_7 : decode cX5_byFault 7 = .ok (.dup, 1) := by decide +kernel
theorem dX5_byFault_8 : decode cX5_byFault 8 = .ok (.ldc 215, 2) := by decide +kernel
theorem dX5_byFault_10 : decode cX5_byFault 10 = .ok (.invokespecial 78, 3) := by decide +kernel
theorem dX5_byFault_13 : decode cX5_byFault 13 = .ok (.athrow, 1) := by decide +kernel
theorem dX5_byFault_14 : decode cX5_byFault 14 = .ok (.aload_n 0, 1) := by decide +kernel
theorem dX5_byFault_15 : decode cX5_byFault 15 = .ok (.invokevirtual 103, 3) := by decide +kernel
theorem dX5_byFault_18 : decode cX5_byFault 18 = .ok (.pop, 1) := by decide +kernel
theorem dX5_byFault_19 : decode cX5_byFault 19 = .ok (.aload_n 0, 1) := by decide +kernel
theorem dX5_byFault_20 : decode cX5_byFault 20 = .ok (.getfield 52, 3) := by decide +kernel
theorem dX5_byFault_23 : decode cX5_byFault 23 = .ok (.iload_n 1, 1) := by decide +kernel
theorem dX5_byFault_24 : decode cX5_byFault 24 = .ok (.invokevirtual 217, 3) := by decide +kernel
theorem dX5_byFault_27 : decode cX5_byFault 27 = .ok (.ireturn, 1) := by decide +kernel
set_option maxRecDepth 20000 in
theorem ggX5_count_X5_look : GoodIn wsX5_count wsX5_look := goodIn_r _ [7, 8, 9, 10, 11, 12, 13, 14, 15, 16, 17, 18, 19, 20, 21, 22, 23, 24, 25, 26, 27, 6, 28, 29, 30, 31, 32, 33, 34, 35, 36, 37, 38, 39, 40, 41, 42, 43, 44, 45, 46, 47, 48, 49, 50, 51, 52, 53, 54, 55, 56, 57, 58, 59, 60, 61, 62, 63, 64, 65, 66, 67, 68, 69, 70, 71, 72, 73, 74, 75, 76, 77, 78, 79, 80, 81, 82, 83, 84, 85, 86, 87, 88, 89, 90, 91, 92, 93, 94, 95, 96, 97, 98, 99, 100, 101, 102, 103, 104, 105, 106, 107, 108, 109, 110, 111, 112, 113, 114, 115, 116, 117, 118, 119, 120, 121, 122, 123, 124, 125, 126, 127, 147, 148, 149, 150, 151, 152, 153, 154, 155, 156, 157, 158, 159, 160, 161, 162, 163, 164, 165, 166, 167, 168, 169, 170, 171, 172, 173, 174, 175, 176, 177, 178, 179, 180, 181] (by decide +kernel) (by decide +kernel)
set_option maxRecDepth 20000 in
theorem gX5_count_X5_look : GoodIn wsX5_count (wsV RX5 103 RX5 yX5_look wsX5_look) := goodIn_app (goodIn_of _ (by decide +kernel)) ggX5_count_X5_look
set_option maxRecDepth 20000 in
theorem ggX5_count_X5_lineNumber : GoodIn wsX5_count wsX5_lineNumber := goodIn_r _ [131, 10, 11, 132, 133, 134, 135, 52, 136, 59, 137, 50, 51, 53, 54, 55, 56, 57, 58, 31, 6, 32, 138, 139, 140, 111, 141, 113, 122, 142, 143, 144, 145, 115, 116, 16, 117, 23, 103, 146, 147, 148, 149, 150, 151, 152, 153, 154, 155, 156, 157, 158, 159, 160, 161, 162, 163, 164, 165, 166, 167, 168, 169, 170, 171, 172, 173, 174, 175, 176, 177, 178, 182, 183, 184, 179, 180, 181] (by decide +kernel) (by decide +kernel)
set_option maxRecDepth 20000 in
theorem gX5_count_X5_lineNumber : GoodIn wsX5_count (wsV RX5 220 RX5 yX5_lineNumber wsX5_lineNumber) := goodIn_app (goodIn_of _ (by decide +kernel)) ggX5_count_X5_lineNumber
theorem dX5_count_0 : decode cX5_count 0 = .ok (.iload_n 1, 1) := by decide +kernel
theorem dX5_count_1 : decode cX5_count 1 = .ok (.ifCond .lt 9, 3) := by decide +kernel
theorem dX5_count_4 : decode cX5_count 4 = .ok (.iload_n 1, 1) := by decide +kernel
theorem dX5_count_5 : decode cX5_count 5 = .ok (.bipush 16, 2) := by decide +kernel
theorem dX5_count_7 : decode cX5_count 7 = .ok (.if_icmp .lt 13, 3) := by decide +kernel
theorem dX5_count_10 : decode cX5_count 10 = .ok (.new 74, 3) := by decide +kernel
theorem dX5_count_13 : decode cX5_count 13 = .ok (.dup, 1) := by decide +kernel
theorem dX5_count_14 : decode cX5_count 14 = .ok (.ldc 194, 2) := by decide +kernel
theorem dX5_count_16 : decode cX5_count 16 = .ok (.invokespecial 78, 3) := by decide +kernel
theorem dX5_count_19 : decode cX5_count 19 = .ok (.athrow, 1) := by decide +kernel
theorem dX5_count_20 : decode cX5_count 20 = .ok (.aload_n 0, 1) := by decide +kernel
theorem dX5_count_21 : decode cX5_count 21 = .ok (.aload_n 0, 1) := by decide +kernel
theorem dX5_count_22 : decode cX5_count 22 = .ok (.invokevirtual 103, 3) := by decide +kernel
theorem dX5_count_25 : decode cX5_count 25 = .ok (.iload_n 1, 1) := by decide +kernel
theorem dX5_count_26 : decode cX5_count 26 = .ok (.invokevirtual 220, 3) := by decide +kernel
theorem dX5_count_29 : decode cX5_count 29 = .ok (.ireturn, 1) := by decide +kernel
set_option maxRecDepth 20000 in
theorem ggX5_greatestArea_X0_lay : GoodIn wsX5_greatestArea wsX0_lay := goodIn_r _ [7, 8, 9, 10, 11, 12, 13, 14, 15, 16, 17, 18, 19, 20, 21, 22, 23, 24, 25, 26, 6, 27, 28, 29, 30, 31, 32, 33, 34, 35, 36, 37, 38, 39, 40, 41, 42, 43, 44, 45, 46, 47, 48, 49, 50, 51, 52, 53, 54, 55, 56, 57, 58, 59, 60, 61, 62, 63, 64, 65, 66, 67, 68, 69, 70, 71, 72, 73, 74, 75, 76, 77, 78, 79, 80, 81, 82, 83, 84, 85, 86, 87, 88, 89, 90, 91, 92, 93, 94, 95, 96, 97, 98, 126, 127, 128, 129, 130, 109, 110, 111, 112, 113, 114, 115, 116, 117, 118, 119, 120, 121, 122, 123, 124, 125] (by decide +kernel) (by decide +kernel)
set_option maxRecDepth 20000 in
theorem gX5_greatestArea_X0_lay : GoodIn wsX5_greatestArea (wsV RX5 226 RX0 yX0_lay wsX0_lay) := goodIn_app (goodIn_of _ (by decide +kernel)) ggX5_greatestArea_X0_lay
theorem dX5_greatestArea_0 : decode cX5_greatestArea 0 = .ok (.sipush 300, 3) := by decide +kernel
theorem dX5_greatestArea_3 : decode cX5_greatestArea 3 = .ok (.istore_n 1, 1) := by decide +kernel
theorem dX5_greatestArea_4 : decode cX5_greatestArea 4 = .ok (.iload_n 1, 1) := by decide +kernel
theorem dX5_greatestArea_5 : decode cX5_greatestArea 5 = .ok (.bipush 10, 2) := by decide +kernel
theorem dX5_greatestArea_7 : decode cX5_greatestArea 7 = .ok (.if_icmp .lt 41, 3) := by decide +kernel
theorem dX5_greatestArea_10 : decode cX5_greatestArea 10 = .ok (.aload_n 0, 1) := by decide +kernel
theorem dX5_greatestArea_11 : decode cX5_greatestArea 11 = .ok (.getfield 40, 3) := by decide +kernel
theorem dX5_greatestArea_14 : decode cX5_greatestArea 14 = .ok (.aload_n 0, 1) := by decide +kernel
theorem dX5_greatestArea_15 : decode cX5_greatestArea 15 = .ok (.getfield 10, 3) := by decide +kernel
theorem dX5_greatestArea_18 : decode cX5_greatestArea 18 = .ok (.iconst 3, 1) := by decide +kernel
theorem dX5_greatestArea_19 : decode cX5_greatestArea 19 = .ok (.iload_n 1, 1) := by decide +kernel
theorem dX5_greatestArea_20 : decode cX5_greatestArea 20 = .ok (.invokevirtual 226, 3) := by decide +kernel
theorem dX5_greatestArea_23 : decode cX5_greatestArea 23 = .ok (.aload_n 0, 1) := by decide +kernel
theorem dX5_greatestArea_24 : decode cX5_greatestArea 24 = .ok (.getfield 40, 3) := by decide +kernel
theorem dX5_greatestArea_27 : decode cX5_greatestArea 27 = .ok (.getfield 107, 3) := by decide +kernel
theorem dX5_greatestArea_30 : decode cX5_greatestArea 30 = .ok (.aload_n 0, 1) := by decide +kernel
theorem dX5_greatestArea_31 : decode cX5_greatestArea 31 = .ok (.getfield 10, 3) := by decide +kernel
theorem dX5_greatestArea_34 : decode cX5_greatestArea 34 = .ok (.getfield 126, 3) := by decide +kernel
theorem dX5_greatestArea_37 : decode cX5_greatestArea 37 = .ok (.if_icmp .gt 5, 3) := by decide +kernel
theorem dX5_greatestArea_40 : decode cX5_greatestArea 40 = .ok (.iload_n 1, 1) := by decide +kernel
theorem dX5_greatestArea_41 : decode cX5_greatestArea 41 = .ok (.ireturn, 1) := by decide +kernel
theorem dX5_greatestArea_42 : decode cX5_greatestArea 42 = .ok (.iinc 1 (-10), 3) := by decide +kernel
theorem dX5_greatestArea_45 : decode cX5_greatestArea 45 = .ok (.goto (-41), 3) := by decide +kernel
theorem dX5_greatestArea_48 : decode cX5_greatestArea 48 = .ok (.iconst (-1), 1) := by decide +kernel
theorem dX5_greatestArea_49 : decode cX5_greatestArea 49 = .ok (.ireturn, 1) := by decide +kernel
set_option maxRecDepth 20000 in
theorem ggX5_even_X5_look : GoodIn wsX5_even wsX5_look := goodIn_r _ [5, 6, 7, 8, 9, 10, 11, 12, 13, 14, 15, 16, 17, 18, 19, 20, 21, 22, 23, 24, 25, 4, 26, 27, 28, 29, 30, 31, 32, 33, 34, 35, 36, 37, 38, 39, 40, 41, 42, 43, 44, 45, 46, 47, 48, 49, 50, 51, 52, 53, 54, 55, 56, 57, 58, 59, 60, 61, 62, 63, 64, 65, 66, 67, 68, 69, 70, 71, 72, 73, 74, 75, 76, 77, 78, 79, 80, 81, 82, 83, 84, 85, 86, 87, 88, 89, 90, 91, 92, 93, 94, 95, 96, 97, 98, 99, 100, 101, 102, 103, 104, 105, 106, 107, 108, 109, 110, 111, 112, 113, 114, 115, 116, 117, 118, 119, 120, 121, 122, 123, 124, 125, 129, 130, 131, 132, 133, 134, 135, 136, 137, 138, 139, 140, 141, 142, 143, 144, 145, 146, 147, 148, 149, 150, 151, 152, 153, 154, 155, 156, 157, 158, 159, 160, 161, 162, 163] (by decide +kernel) (by decide +kernel)
set_option maxRecDepth 20000 in
theorem gX5_even_X5_look : GoodIn wsX5_even (wsV RX5 103 RX5 yX5_look wsX5_look) := goodIn_app (goodIn_of _ (by decide +kernel)) ggX5_even_X5_look
set_option maxRecDepth 20000 in
theorem ggX5_even_X5_evenness : GoodIn wsX5_even wsX5_evenness := goodIn_r _ [128, 144, 145, 146, 147, 148, 149, 150, 151, 152, 153, 154, 155, 156, 157, 158, 159, 160] (by decide +kernel) (by decide +kernel)
set_option maxRecDepth 20000 in
theorem gX5_even_X5_evenness : GoodIn wsX5_even (va_wsS RX5 237 yX5_evenness wsX5_evenness) := goodIn_app (goodIn_of _ (by decide +kernel)) ggX5_even_X5_evenness
theorem dX5_even_0 : decode cX5_even 0 = .ok (.aload_n 0, 1) := by decide +kernel
theorem dX5_even_1 : decode cX5_even 1 = .ok (.invokevirtual 103, 3) := by decide +kernel
theorem dX5_even_4 : decode cX5_even 4 = .ok (.invokestatic 237, 3) := by decide +kernel
theorem dX5_even_7 : decode cX5_even 7 = .ok (.dreturn, 1) := by decide +kernel
set_option maxRecDepth 20000 in
theorem ggX5_saveState_X1_save : GoodIn wsX5_saveState wsX1_save := goodIn_r _ [8, 9, 10, 11, 12, 13, 7, 14, 15, 16, 17, 18, 19, 20, 21, 22, 23, 24, 25, 26, 27, 28, 39, 40, 41, 42, 43, 44, 45, 46] (by decide +kernel) (by decide +kernel)
set_option maxRecDepth 20000 in
theorem gX5_saveState_X1_save : GoodIn wsX5_saveState (wsV RX5 275 RX1 yX1_save wsX1_save) := goodIn_app (goodIn_of _ (by decide +kernel)) ggX5_saveState_X1_save
theorem dX5_saveState_0 : decode cX5_saveState 0 = .ok (.aload_n 0, 1) := by decide +kernel
theorem dX5_saveState_1 : decode cX5_saveState 1 = .ok (.getfield 22, 3) := by decide +kernel
theorem dX5_saveState_4 : decode cX5_saveState 4 = .ok (.aload_n 0, 1) := by decide +kernel
theorem dX5_saveState_5 : decode cX5_saveState 5 = .ok (.getfield 10, 3) := by decide +kernel
theorem dX5_saveState_8 : decode cX5_saveState 8 = .ok (.invokevirtual 275, 3) := by decide +kernel
theorem dX5_saveState_11 : decode cX5_saveState 11 = .ok (.aload_n 0, 1) := by decide +kernel
theorem dX5_saveState_12 : decode cX5_saveState 12 = .ok (.iconst 1, 1) := by decide +kernel
theorem dX5_saveState_13 : decode cX5_saveState 13 = .ok (.putfield 55, 3) := by decide +kernel
theorem dX5_saveState_16 : decode cX5_saveState 16 = .ok (.return_, 1) := by decide +kernel
set_option maxRecDepth 20000 in
theorem ggX5_look_X0_lay : GoodIn wsX5_look wsX0_lay := goodIn_r _ [10, 11, 12, 13, 14, 15, 16, 17, 18, 19, 20, 21, 22, 23, 24, 25, 26, 27, 28, 29, 9, 30, 31, 32, 33, 34, 35, 36, 37, 38, 39, 40, 41, 42, 43, 44, 45, 46, 47, 48, 49, 50, 51, 52, 53, 54, 55, 56, 57, 58, 59, 60, 61, 62, 63, 64, 65, 66, 67, 68, 69, 70, 71, 72, 73, 74, 75, 76, 77, 78, 79, 80, 81, 82, 83, 84, 85, 86, 87, 88, 89, 90, 91, 92, 93, 94, 95, 96, 97, 98, 99, 100, 101, 132, 133, 134, 135, 136, 137, 138, 139, 140, 141, 142, 143, 144, 145, 146, 147, 148, 149, 150, 151, 152, 153] (by decide +kernel) (by decide +kernel)
set_option maxRecDepth 20000 in
theorem gX5_look_X0_lay : GoodIn wsX5_look (wsV RX5 226 RX0 yX0_lay wsX0_lay) := goodIn_app (goodIn_of _ (by decide +kernel)) ggX5_look_X0_lay
set_option maxRecDepth 20000 in
theorem ggX5_look_X2_rank : GoodIn wsX5_look wsX2_rank := goodIn_r _ [106, 107, 108, 109, 110, 9, 111, 16, 97, 25, 21, 26, 112, 113, 114, 105, 115, 116, 117, 118, 119, 120, 121, 23, 24, 154, 155, 156, 137, 138, 139, 140, 141, 142, 143, 144, 145, 146, 147, 148, 149, 150, 151, 152, 153] (by decide +kernel) (by decide +kernel)
set_option maxRecDepth 20000 in
theorem gX5_look_X2_rank : GoodIn wsX5_look (wsV RX5 278 RX2 yX2_rank wsX2_rank) := goodIn_app (goodIn_of _ (by decide +kernel)) ggX5_look_X2_rank
theorem dX5_look_0 : decode cX5_look 0 = .ok (.aload_n 0, 1) := by decide +kernel
theorem dX5_look_1 : decode cX5_look 1 = .ok (.getfield 55, 3) := by decide +kernel
theorem dX5_look_4 : decode cX5_look 4 = .ok (.ifCond .eq 43, 3) := by decide +kernel
theorem dX5_look_7 : decode cX5_look 7 = .ok (.aload_n 0, 1) := by decide +kernel
theorem dX5_look_8 : decode cX5_look 8 = .ok (.getfield 36, 3) := by decide +kernel
theorem dX5_look_11 : decode cX5_look 11 = .ok (.aload_n 0, 1) := by decide +kernel
theorem dX5_look_12 : decode cX5_look 12 = .ok (.getfield 10, 3) := by decide +kernel
theorem dX5_look_15 : decode cX5_look 15 = .ok (.iconst (-1), 1) := by decide +kernel
theorem dX5_look_16 : decode cX5_look 16 = .ok (.iconst 0, 1) := by decide +kernel
theorem dX5_look_17 : decode cX5_look 17 = .ok (.invokevirtual 226, 3) := by decide +kernel
theorem dX5_look_20 : decode cX5_look 20 = .ok (.aload_n 0, 1) := by decide +kernel
theorem dX5_look_21 : decode cX5_look 21 = .ok (.getfield 48, 3) := by decide +kernel
theorem dX5_look_24 : decode cX5_look 24 = .ok (.aload_n 0, 1) := by decide +kernel
theorem dX5_look_25 : decode cX5_look 25 = .ok (.getfield 36, 3) := by decide +kernel
theorem dX5_look_28 : decode cX5_look 28 = .ok (.invokevirtual 278, 3) := by decide +kernel
theorem dX5_look_31 : decode cX5_look 31 = .ok (.aload_n 0, 1) := by decide +kernel
theorem dX5_look_32 : decode cX5_look 32 = .ok (.getfield 52, 3) := by decide +kernel
theorem dX5_look_35 : decode cX5_look 35 = .ok (.aload_n 0, 1) := by decide +kernel
theorem dX5_look_36 : decode cX5_look 36 = .ok (.getfield 36, 3) := by decide +kernel
theorem dX5_look_39 : decode cX5_look 39 = .ok (.invokevirtual 278, 3) := by decide +kernel
theorem dX5_look_42 : decode cX5_look 42 = .ok (.aload_n 0, 1) := by decide +kernel
theorem dX5_look_43 : decode cX5_look 43 = .ok (.iconst 0, 1) := by decide +kernel
theorem dX5_look_44 : decode cX5_look 44 = .ok (.putfield 55, 3) := by decide +kernel
theorem dX5_look_47 : decode cX5_look 47 = .ok (.aload_n 0, 1) := by decide +kernel
theorem dX5_look_48 : decode cX5_look 48 = .ok (.getfield 36, 3) := by decide +kernel
theorem dX5_look_51 : decode cX5_look 51 = .ok (.areturn, 1) := by decide +kernel
set_option maxRecDepth 20000 in
theorem ggX5_itemNumber_X3_letterAt : GoodIn wsX5_itemNumber wsX3_letterAt := goodIn_r _ [6, 7, 8, 9, 10, 5, 11, 12, 13, 14, 15, 83, 84, 85, 86, 87] (by decide +kernel) (by decide +kernel)
set_option maxRecDepth 20000 in
theorem gX5_itemNumber_X3_letterAt : GoodIn wsX5_itemNumber (wsV RX5 112 RX3 yX3_letterAt wsX3_letterAt) := goodIn_app (goodIn_of _ (by decide +kernel)) ggX5_itemNumber_X3_letterAt
set_option maxRecDepth 20000 in
theorem ggX5_itemNumber_X3_kernAt : GoodIn wsX5_itemNumber wsX3_kernAt := goodIn_r _ [19, 20, 13, 14, 15, 83, 84, 85, 86, 87] (by decide +kernel) (by decide +kernel)
set_option maxRecDepth 20000 in
theorem gX5_itemNumber_X3_kernAt : GoodIn wsX5_itemNumber (wsV RX5 118 RX3 yX3_kernAt wsX3_kernAt) := goodIn_app (goodIn_of _ (by decide +kernel)) ggX5_itemNumber_X3_kernAt
set_option maxRecDepth 20000 in
theorem ggX5_itemNumber_X5_valueAt : GoodIn wsX5_itemNumber wsX5_valueAt := goodIn_r _ [15] (by decide +kernel) (by decide +kernel)
set_option maxRecDepth 20000 in
theorem gX5_itemNumber_X5_valueAt : GoodIn wsX5_itemNumber (va_wsS RX5 144 yX5_valueAt wsX5_valueAt) := goodIn_app (goodIn_of _ (by decide +kernel)) ggX5_itemNumber_X5_valueAt
set_option maxRecDepth 20000 in
theorem ggX5_itemNumber_X0_isPair : GoodIn wsX5_itemNumber wsX0_isPair := goodIn_r _ [26, 27, 28, 13, 14, 15, 66, 67, 68, 69, 70, 71, 72, 73, 74, 75, 76, 77, 78, 79, 80, 81, 82] (by decide +kernel) (by decide +kernel)
set_option maxRecDepth 20000 in
theorem gX5_itemNumber_X0_isPair : GoodIn wsX5_itemNumber (wsV RX5 288 RX0 yX0_isPair wsX0_isPair) := goodIn_app (goodIn_of _ (by decide +kernel)) ggX5_itemNumber_X0_isPair
set_option maxRecDepth 20000 in
theorem ggX5_itemNumber_X5_pairNumber : GoodIn wsX5_itemNumber wsX5_pairNumber := goodIn_r _ [32, 1, 21, 13, 14, 15, 33, 34, 35, 25, 36, 28, 37, 38, 39, 3, 4, 5, 6, 7, 8, 9, 10, 11, 12, 40, 41, 42, 43, 44, 45, 46, 47, 48, 49, 50, 51, 52, 53, 54, 55, 23, 24, 26, 27, 66, 67, 68, 69, 70, 71, 72, 73, 74, 75, 76, 77, 78, 79, 80, 81, 82, 56, 57, 58, 59, 60, 61, 62, 63, 64, 65, 83, 84, 85, 86, 87] (by decide +kernel) (by decide +kernel)
set_option maxRecDepth 20000 in
theorem gX5_itemNumber_X5_pairNumber : GoodIn wsX5_itemNumber (wsV RX5 291 RX5 yX5_pairNumber wsX5_pairNumber) := goodIn_app (goodIn_of _ (by decide +kernel)) ggX5_itemNumber_X5_pairNumber
theorem dX5_itemNumber_0 : decode cX5_itemNumber 0 = .ok (.aload_n 0, 1) := by decide +kernel
theorem dX5_itemNumber_1 : decode cX5_itemNumber 1 = .ok (.getfield 10, 3) := by decide +kernel
theorem dX5_itemNumber_4 : decode cX5_itemNumber 4 = .ok (.iload_n 2, 1) := by decide +kernel
theorem dX5_itemNumber_5 : decode cX5_itemNumber 5 = .ok (.invokevirtual 112, 3) := by decide +kernel
theorem dX5_itemNumber_8 : decode cX5_itemNumber 8 = .ok (.iconst (-1), 1) := by decide +kernel
theorem dX5_itemNumber_9 : decode cX5_itemNumber 9 = .ok (.if_icmp .ne 7, 3) := by decide +kernel
theorem dX5_itemNumber_12 : decode cX5_itemNumber 12 = .ok (.iconst 1, 1) := by decide +kernel
theorem dX5_itemNumber_13 : decode cX5_itemNumber 13 = .ok (.goto 4, 3) := by decide +kernel
theorem dX5_itemNumber_16 : decode cX5_itemNumber 16 = .ok (.iconst 0, 1) := by decide +kernel
theorem dX5_itemNumber_17 : decode cX5_itemNumber 17 = .ok (.istore 4, 2) := by decide +kernel
theorem dX5_itemNumber_19 : decode cX5_itemNumber 19 = .ok (.iload_n 3, 1) := by decide +kernel
theorem dX5_itemNumber_20 : decode cX5_itemNumber 20 = .ok (.tableswitch 80 0 3 #[32, 41, 62, 71], 32) := by decide +kernel
theorem dX5_itemNumber_52 : decode cX5_itemNumber 52 = .ok (.aload_n 0, 1) := by decide +kernel
theorem dX5_itemNumber_53 : decode cX5_itemNumber 53 = .ok (.getfield 10, 3) := by decide +kernel
theorem dX5_itemNumber_56 : decode cX5_itemNumber 56 = .ok (.iload_n 2, 1) := by decide +kernel
theorem dX5_itemNumber_57 : decode cX5_itemNumber 57 = .ok (.invokevirtual 112, 3) := by decide +kernel
theorem dX5_itemNumber_60 : decode cX5_itemNumber 60 = .ok (.ireturn, 1) := by decide +kernel
theorem dX5_itemNumber_61 : decode cX5_itemNumber 61 = .ok (.iload 4, 2) := by decide +kernel
theorem dX5_itemNumber_63 : decode cX5_itemNumber 63 = .ok (.ifCond .eq 7, 3) := by decide +kernel
theorem dX5_itemNumber_66 : decode cX5_itemNumber 66 = .ok (.iconst (-1), 1) := by decide +kernel
theorem dX5_itemNumber_67 : decode cX5_itemNumber 67 = .ok (.goto 14, 3) := by decide +kernel
theorem dX5_itemNumber_70 : decode cX5_itemNumber 70 = .ok (.aload_n 0, 1) := by decide +kernel
theorem dX5_itemNumber_71 : decode cX5_itemNumber 71 = .ok (.getfield 10, 3) := by decide +kernel
theorem dX5_itemNumber_74 : decode cX5_itemNumber 74 = .ok (.iload_n 2, 1) := by decide +kernel
theorem dX5_itemNumber_75 : decode cX5_itemNumber 75 = .ok (.invokevirtual 118, 3) := by decide +kernel
theorem dX5_itemNumber_78 : decode cX5_itemNumber 78 = .ok (.bipush 10, 2) := by decide +kernel
theorem dX5_itemNumber_80 : decode cX5_itemNumber 80 = .ok (.iadd, 1) := by decide +kernel
theorem dX5_itemNumber_81 : decode cX5_itemNumber 81 = .ok (.ireturn, 1) := by decide +kernel
theorem dX5_itemNumber_82 : decode cX5_itemNumber 82 = .ok (.aload_n 1, 1) := by decide +kernel
theorem dX5_itemNumber_83 : decode cX5_itemNumber 83 = .ok (.getfield 282, 3) := by decide +kernel
theorem dX5_itemNumber_86 : decode cX5_itemNumber 86 = .ok (.iload_n 2, 1) := by decide +kernel
theorem dX5_itemNumber_87 : decode cX5_itemNumber 87 = .ok (.invokestatic 144, 3) := by decide +kernel
theorem dX5_itemNumber_90 : decode cX5_itemNumber 90 = .ok (.ireturn, 1) := by decide +kernel
theorem dX5_itemNumber_91 : decode cX5_itemNumber 91 = .ok (.aload_n 1, 1) := by decide +kernel
theorem dX5_itemNumber_92 : decode cX5_itemNumber 92 = .ok (.getfield 285, 3) := by decide +kernel
theorem dX5_itemNumber_95 : decode cX5_itemNumber 95 = .ok (.iload_n 2, 1) := by decide +kernel
theorem dX5_itemNumber_96 : decode cX5_itemNumber 96 = .ok (.invokestatic 144, 3) := by decide +kernel
theorem dX5_itemNumber_99 : decode cX5_itemNumber 99 = .ok (.ireturn, 1) := by decide +kernel
theorem dX5_itemNumber_100 : decode cX5_itemNumber 100 = .ok (.aload_n 1, 1) := by decide +kernel
theorem dX5_itemNumber_101 : decode cX5_itemNumber 101 = .ok (.iload_n 2, 1) := by decide +kernel
theorem dX5_itemNumber_102 : decode cX5_itemNumber 102 = .ok (.invokevirtual 288, 3) := by decide +kernel
theorem dX5_itemNumber_105 : decode cX5_itemNumber 105 = .ok (.ifCond .eq 13, 3) := by decide +kernel
theorem dX5_itemNumber_108 : decode cX5_itemNumber 108 = .ok (.aload_n 0, 1) := by decide +kernel
theorem dX5_itemNumber_109 : decode cX5_itemNumber 109 = .ok (.aload_n 1, 1) := by decide +kernel
theorem dX5_itemNumber_110 : decode cX5_itemNumber 110 = .ok (.iload_n 2, 1) := by decide +kernel
theorem dX5_itemNumber_111 : decode cX5_itemNumber 111 = .ok (.iload_n 3, 1) := by decide +kernel
theorem dX5_itemNumber_112 : decode cX5_itemNumber 112 = .ok (.invokevirtual 291, 3) := by decide +kernel
theorem dX5_itemNumber_115 : decode cX5_itemNumber 115 = .ok (.goto 4, 3) := by decide +kernel
theorem dX5_itemNumber_118 : decode cX5_itemNumber 118 = .ok (.iconst (-1), 1) := by decide +kernel
theorem dX5_itemNumber_119 : decode cX5_itemNumber 119 = .ok (.ireturn, 1) := by decide +kernel
set_option maxRecDepth 20000 in
theorem ggX5_pairNumber_X5_valueAt : GoodIn wsX5_pairNumber wsX5_valueAt := goodIn_r _ [5] (by decide +kernel) (by decide +kernel)
set_option maxRecDepth 20000 in
theorem gX5_pairNumber_X5_valueAt : GoodIn wsX5_pairNumber (va_wsS RX5 144 yX5_valueAt wsX5_valueAt) := goodIn_app (goodIn_of _ (by decide +kernel)) ggX5_pairNumber_X5_valueAt
set_option maxRecDepth 20000 in
theorem ggX5_pairNumber_X0_countedCells : GoodIn wsX5_pairNumber wsX0_countedCells := goodIn_r _ [10, 11, 12, 13, 14, 15, 16, 17, 18, 19, 20, 21, 22, 23, 24, 3, 4, 5, 25, 26, 27, 9, 28, 29, 30, 31, 32, 33, 45, 46, 47, 48, 49, 50, 51, 52, 53, 54, 55, 56, 57, 58, 59, 60, 61, 72, 73, 74, 75, 76] (by decide +kernel) (by decide +kernel)
set_option maxRecDepth 20000 in
theorem gX5_pairNumber_X0_countedCells : GoodIn wsX5_pairNumber (wsV RX5 300 RX0 yX0_countedCells wsX0_countedCells) := goodIn_app (goodIn_of _ (by decide +kernel)) ggX5_pairNumber_X0_countedCells
set_option maxRecDepth 20000 in
theorem ggX5_pairNumber_X0_isFault : GoodIn wsX5_pairNumber wsX0_isFault := goodIn_r _ [37, 38, 39, 40, 41, 42, 9, 43, 44, 11, 3, 4, 5, 45, 46, 47, 48, 49, 50, 51, 52, 53, 54, 55, 56, 57, 58, 59, 60, 61] (by decide +kernel) (by decide +kernel)
set_option maxRecDepth 20000 in
theorem gX5_pairNumber_X0_isFault : GoodIn wsX5_pairNumber (wsV RX5 306 RX0 yX0_isFault wsX0_isFault) := goodIn_app (goodIn_of _ (by decide +kernel)) ggX5_pairNumber_X0_isFault
theorem dX5_pairNumber_0 : decode cX5_pairNumber 0 = .ok (.iload_n 3, 1) := by decide +kernel
theorem dX5_pairNumber_1 : decode cX5_pairNumber 1 = .ok (.tableswitch 68 4 7 #[31, 40, 49, 59], 31) := by decide +kernel
theorem dX5_pairNumber_32 : decode cX5_pairNumber 32 = .ok (.aload_n 1, 1) := by decide +kernel
theorem dX5_pairNumber_33 : decode cX5_pairNumber 33 = .ok (.getfield 294, 3) := by decide +kernel
theorem dX5_pairNumber_36 : decode cX5_pairNumber 36 = .ok (.iload_n 2, 1) := by decide +kernel
theorem dX5_pairNumber_37 : decode cX5_pairNumber 37 = .ok (.invokestatic 144, 3) := by decide +kernel
theorem dX5_pairNumber_40 : decode cX5_pairNumber 40 = .ok (.ireturn, 1) := by decide +kernel
theorem dX5_pairNumber_41 : decode cX5_pairNumber 41 = .ok (.aload_n 1, 1) := by decide +kernel
theorem dX5_pairNumber_42 : decode cX5_pairNumber 42 = .ok (.getfield 297, 3) := by decide +kernel
theorem dX5_pairNumber_45 : decode cX5_pairNumber 45 = .ok (.iload_n 2, 1) := by decide +kernel
theorem dX5_pairNumber_46 : decode cX5_pairNumber 46 = .ok (.invokestatic 144, 3) := by decide +kernel
theorem dX5_pairNumber_49 : decode cX5_pairNumber 49 = .ok (.ireturn, 1) := by decide +kernel
theorem dX5_pairNumber_50 : decode cX5_pairNumber 50 = .ok (.aload_n 1, 1) := by decide +kernel
theorem dX5_pairNumber_51 : decode cX5_pairNumber 51 = .ok (.aload_n 0, 1) := by decide +kernel
theorem dX5_pairNumber_52 : decode cX5_pairNumber 52 = .ok (.getfield 10, 3) := by decide +kernel
theorem dX5_pairNumber_55 : decode cX5_pairNumber 55 = .ok (.iload_n 2, 1) := by decide +kernel
theorem dX5_pairNumber_56 : decode cX5_pairNumber 56 = .ok (.invokevirtual 300, 3) := by decide +kernel
theorem dX5_pairNumber_59 : decode cX5_pairNumber 59 = .ok (.ireturn, 1) := by decide +kernel
theorem dX5_pairNumber_60 : decode cX5_pairNumber 60 = .ok (.aload_n 1, 1) := by decide +kernel
theorem dX5_pairNumber_61 : decode cX5_pairNumber 61 = .ok (.getfield 303, 3) := by decide +kernel
theorem dX5_pairNumber_64 : decode cX5_pairNumber 64 = .ok (.iload_n 2, 1) := by decide +kernel
theorem dX5_pairNumber_65 : decode cX5_pairNumber 65 = .ok (.invokestatic 144, 3) := by decide +kernel
theorem dX5_pairNumber_68 : decode cX5_pairNumber 68 = .ok (.ireturn, 1) := by decide +kernel
theorem dX5_pairNumber_69 : decode cX5_pairNumber 69 = .ok (.aload_n 1, 1) := by decide +kernel
theorem dX5_pairNumber_70 : decode cX5_pairNumber 70 = .ok (.iload_n 2, 1) := by decide +kernel
theorem dX5_pairNumber_71 : decode cX5_pairNumber 71 = .ok (.invokevirtual 306, 3) := by decide +kernel
theorem dX5_pairNumber_74 : decode cX5_pairNumber 74 = .ok (.ifCond .eq 7, 3) := by decide +kernel
theorem dX5_pairNumber_77 : decode cX5_pairNumber 77 = .ok (.iconst 1, 1) := by decide +kernel
theorem dX5_pairNumber_78 : decode cX5_pairNumber 78 = .ok (.goto 4, 3) := by decide +kernel
theorem dX5_pairNumber_81 : decode cX5_pairNumber 81 = .ok (.iconst 0, 1) := by decide +kernel
theorem dX5_pairNumber_82 : decode cX5_pairNumber 82 = .ok (.ireturn, 1) := by decide +kernel
set_option maxRecDepth 20000 in
theorem ggX5_lineNumber_X3_countLetters : GoodIn wsX5_lineNumber wsX3_countLetters := goodIn_r _ [8, 9, 10, 11, 12, 7, 13, 14, 15, 16, 17, 18, 19, 20, 21, 50, 51, 52, 53, 54] (by decide +kernel) (by decide +kernel)
set_option maxRecDepth 20000 in
theorem gX5_lineNumber_X3_countLetters : GoodIn wsX5_lineNumber (wsV RX5 309 RX3 yX3_countLetters wsX3_countLetters) := goodIn_app (goodIn_of _ (by decide +kernel)) ggX5_lineNumber_X3_countLetters
set_option maxRecDepth 20000 in
theorem ggX5_lineNumber_X2_placeAt : GoodIn wsX5_lineNumber wsX2_placeAt := goodIn_r _ [26, 27, 28, 19, 20, 21, 75, 76, 77] (by decide +kernel) (by decide +kernel)
set_option maxRecDepth 20000 in
theorem gX5_lineNumber_X2_placeAt : GoodIn wsX5_lineNumber (wsV RX5 217 RX2 yX2_placeAt wsX2_placeAt) := goodIn_app (goodIn_of _ (by decide +kernel)) ggX5_lineNumber_X2_placeAt
set_option maxRecDepth 20000 in
theorem ggX5_lineNumber_X5_areaOf : GoodIn wsX5_lineNumber wsX5_areaOf := goodIn_r _ [31, 32, 33, 34, 35, 36, 37, 38, 19, 20, 21, 39, 55, 56, 57, 58, 59, 60, 61, 62, 63, 64, 65, 66, 67, 68, 69, 70, 71] (by decide +kernel) (by decide +kernel)
set_option maxRecDepth 20000 in
theorem gX5_lineNumber_X5_areaOf : GoodIn wsX5_lineNumber (va_wsS RX5 312 yX5_areaOf wsX5_areaOf) := goodIn_app (goodIn_of _ (by decide +kernel)) ggX5_lineNumber_X5_areaOf
set_option maxRecDepth 20000 in
theorem ggX5_lineNumber_X5_valueAt : GoodIn wsX5_lineNumber wsX5_valueAt := goodIn_r _ [21] (by decide +kernel) (by decide +kernel)
set_option maxRecDepth 20000 in
theorem gX5_lineNumber_X5_valueAt : GoodIn wsX5_lineNumber (va_wsS RX5 144 yX5_valueAt wsX5_valueAt) := goodIn_app (goodIn_of _ (by decide +kernel)) ggX5_lineNumber_X5_valueAt
theorem dX5_lineNumber_0 : decode cX5_lineNumber 0 = .ok (.iload_n 2, 1) := by decide +kernel
theorem dX5_lineNumber_1 : decode cX5_lineNumber 1 = .ok (.tableswitch 190 0 15 #[79, 87, 95, 100, 105, 110, 143, 151, 164, 190, 190, 190, 190, 190, 190, 182], 79) := by decide +kernel
theorem dX5_lineNumber_80 : decode cX5_lineNumber 80 = .ok (.aload_n 0, 1) := by decide +kernel
theorem dX5_lineNumber_81 : decode cX5_lineNumber 81 = .ok (.getfield 10, 3) := by decide +kernel
theorem dX5_lineNumber_84 : decode cX5_lineNumber 84 = .ok (.getfield 59, 3) := by decide +kernel
theorem dX5_lineNumber_87 : decode cX5_lineNumber 87 = .ok (.ireturn, 1) := by decide +kernel
theorem dX5_lineNumber_88 : decode cX5_lineNumber 88 = .ok (.aload_n 0, 1) := by decide +kernel
theorem dX5_lineNumber_89 : decode cX5_lineNumber 89 = .ok (.getfield 10, 3) := by decide +kernel
theorem dX5_lineNumber_92 : decode cX5_lineNumber 92 = .ok (.invokevirtual 309, 3) := by decide +kernel
theorem dX5_lineNumber_95 : decode cX5_lineNumber 95 = .ok (.ireturn, 1) := by decide +kernel
theorem dX5_lineNumber_96 : decode cX5_lineNumber 96 = .ok (.aload_n 1, 1) := by decide +kernel
theorem dX5_lineNumber_97 : decode cX5_lineNumber 97 = .ok (.getfield 251, 3) := by decide +kernel
theorem dX5_lineNumber_100 : decode cX5_lineNumber 100 = .ok (.ireturn, 1) := by decide +kernel
theorem dX5_lineNumber_101 : decode cX5_lineNumber 101 = .ok (.aload_n 1, 1) := by decide +kernel
theorem dX5_lineNumber_102 : decode cX5_lineNumber 102 = .ok (.getfield 230, 3) := by decide +kernel
theorem dX5_lineNumber_105 : decode cX5_lineNumber 105 = .ok (.ireturn, 1) := by decide +kernel
theorem dX5_lineNumber_106 : decode cX5_lineNumber 106 = .ok (.aload_n 1, 1) := by decide +kernel
theorem dX5_lineNumber_107 : decode cX5_lineNumber 107 = .ok (.getfield 107, 3) := by decide +kernel
theorem dX5_lineNumber_110 : decode cX5_lineNumber 110 = .ok (.ireturn, 1) := by decide +kernel
theorem dX5_lineNumber_111 : decode cX5_lineNumber 111 = .ok (.aload_n 1, 1) := by decide +kernel
theorem dX5_lineNumber_112 : decode cX5_lineNumber 112 = .ok (.getfield 107, 3) := by decide +kernel
theorem dX5_lineNumber_115 : decode cX5_lineNumber 115 = .ok (.aload_n 0, 1) := by decide +kernel
theorem dX5_lineNumber_116 : decode cX5_lineNumber 116 = .ok (.getfield 10, 3) := by decide +kernel
theorem dX5_lineNumber_119 : decode cX5_lineNumber 119 = .ok (.getfield 126, 3) := by decide +kernel
theorem dX5_lineNumber_122 : decode cX5_lineNumber 122 = .ok (.if_icmp .gt 20, 3) := by decide +kernel
theorem dX5_lineNumber_125 : decode cX5_lineNumber 125 = .ok (.aload_n 0, 1) := by decide +kernel
theorem dX5_lineNumber_126 : decode cX5_lineNumber 126 = .ok (.getfield 10, 3) := by decide +kernel
theorem dX5_lineNumber_129 : decode cX5_lineNumber 129 = .ok (.getfield 126, 3) := by decide +kernel
theorem dX5_lineNumber_132 : decode cX5_lineNumber 132 = .ok (.aload_n 1, 1) := by decide +kernel
theorem dX5_lineNumber_133 : decode cX5_lineNumber 133 = .ok (.getfield 107, 3) := by decide +kernel
theorem dX5_lineNumber_136 : decode cX5_lineNumber 136 = .ok (.isub, 1) := by decide +kernel
theorem dX5_lineNumber_137 : decode cX5_lineNumber 137 = .ok (.iconst 2, 1) := by decide +kernel
theorem dX5_lineNumber_138 : decode cX5_lineNumber 138 = .ok (.idiv, 1) := by decide +kernel
theorem dX5_lineNumber_139 : decode cX5_lineNumber 139 = .ok (.goto 4, 3) := by decide +kernel
theorem dX5_lineNumber_142 : decode cX5_lineNumber 142 = .ok (.iconst (-1), 1) := by decide +kernel
theorem dX5_lineNumber_143 : decode cX5_lineNumber 143 = .ok (.ireturn, 1) := by decide +kernel
theorem dX5_lineNumber_144 : decode cX5_lineNumber 144 = .ok (.aload_n 0, 1) := by decide +kernel
theorem dX5_lineNumber_145 : decode cX5_lineNumber 145 = .ok (.getfield 10, 3) := by decide +kernel
theorem dX5_lineNumber_148 : decode cX5_lineNumber 148 = .ok (.getfield 126, 3) := by decide +kernel
theorem dX5_lineNumber_151 : decode cX5_lineNumber 151 = .ok (.ireturn, 1) := by decide +kernel
theorem dX5_lineNumber_152 : decode cX5_lineNumber 152 = .ok (.aload_n 1, 1) := by decide +kernel
theorem dX5_lineNumber_153 : decode cX5_lineNumber 153 = .ok (.aload_n 0, 1) := by decide +kernel
theorem dX5_lineNumber_154 : decode cX5_lineNumber 154 = .ok (.getfield 48, 3) := by decide +kernel
theorem dX5_lineNumber_157 : decode cX5_lineNumber 157 = .ok (.iconst 0, 1) := by decide +kernel
theorem dX5_lineNumber_158 : decode cX5_lineNumber 158 = .ok (.invokevirtual 217, 3) := by decide +kernel
theorem dX5_lineNumber_161 : decode cX5_lineNumber 161 = .ok (.invokestatic 312, 3) := by decide +kernel
theorem dX5_lineNumber_164 : decode cX5_lineNumber 164 = .ok (.ireturn, 1) := by decide +kernel
theorem dX5_lineNumber_165 : decode cX5_lineNumber 165 = .ok (.aload_n 1, 1) := by decide +kernel
theorem dX5_lineNumber_166 : decode cX5_lineNumber 166 = .ok (.aload_n 0, 1) := by decide +kernel
theorem dX5_lineNumber_167 : decode cX5_lineNumber 167 = .ok (.getfield 48, 3) := by decide +kernel
theorem dX5_lineNumber_170 : decode cX5_lineNumber 170 = .ok (.aload_n 1, 1) := by decide +kernel
theorem dX5_lineNumber_171 : decode cX5_lineNumber 171 = .ok (.getfield 251, 3) := by decide +kernel
theorem dX5_lineNumber_174 : decode cX5_lineNumber 174 = .ok (.iconst 1, 1) := by decide +kernel
theorem dX5_lineNumber_175 : decode cX5_lineNumber 175 = .ok (.isub, 1) := by decide +kernel
theorem dX5_lineNumber_176 : decode cX5_lineNumber 176 = .ok (.invokevirtual 217, 3) := by decide +kernel
theorem dX5_lineNumber_179 : decode cX5_lineNumber 179 = .ok (.invokestatic 312, 3) := by decide +kernel
theorem dX5_lineNumber_182 : decode cX5_lineNumber 182 = .ok (.ireturn, 1) := by decide +kernel
theorem dX5_lineNumber_183 : decode cX5_lineNumber 183 = .ok (.aload_n 0, 1) := by decide +kernel
theorem dX5_lineNumber_184 : decode cX5_lineNumber 184 = .ok (.getfield 22, 3) := by decide +kernel
theorem dX5_lineNumber_187 : decode cX5_lineNumber 187 = .ok (.getfield 176, 3) := by decide +kernel
theorem dX5_lineNumber_190 : decode cX5_lineNumber 190 = .ok (.ireturn, 1) := by decide +kernel
theorem dX5_lineNumber_191 : decode cX5_lineNumber 191 = .ok (.aload_n 0, 1) := by decide +kernel
theorem dX5_lineNumber_192 : decode cX5_lineNumber 192 = .ok (.getfield 10, 3) := by decide +kernel
theorem dX5_lineNumber_195 : decode cX5_lineNumber 195 = .ok (.getfield 140, 3) := by decide +kernel
theorem dX5_lineNumber_198 : decode cX5_lineNumber 198 = .ok (.iload_n 2, 1) := by decide +kernel
theorem dX5_lineNumber_199 : decode cX5_lineNumber 199 = .ok (.bipush 9, 2) := by decide +kernel
theorem dX5_lineNumber_201 : decode cX5_lineNumber 201 = .ok (.isub, 1) := by decide +kernel
theorem dX5_lineNumber_202 : decode cX5_lineNumber 202 = .ok (.invokestatic 144, 3) := by decide +kernel
theorem dX5_lineNumber_205 : decode cX5_lineNumber 205 = .ok (.ireturn, 1) := by decide +kernel
set_option maxRecDepth 20000 in
theorem ggX5_areaOf_X0_isPair : GoodIn wsX5_areaOf wsX0_isPair := goodIn_r _ [5, 6, 7, 8, 9, 10, 12, 13, 14, 15, 16, 17, 18, 19, 20, 21, 22, 23, 24, 25, 26, 27, 28] (by decide +kernel) (by decide +kernel)
set_option maxRecDepth 20000 in
theorem gX5_areaOf_X0_isPair : GoodIn wsX5_areaOf (wsV RX5 288 RX0 yX0_isPair wsX0_isPair) := goodIn_app (goodIn_of _ (by decide +kernel)) ggX5_areaOf_X0_isPair
set_option maxRecDepth 20000 in
theorem ggX5_areaOf_X5_valueAt : GoodIn wsX5_areaOf wsX5_valueAt := goodIn_r _ [10] (by decide +kernel) (by decide +kernel)
set_option maxRecDepth 20000 in
theorem gX5_areaOf_X5_valueAt : GoodIn wsX5_areaOf (va_wsS RX5 144 yX5_valueAt wsX5_valueAt) := goodIn_app (goodIn_of _ (by decide +kernel)) ggX5_areaOf_X5_valueAt
theorem dX5_areaOf_0 : decode cX5_areaOf 0 = .ok (.aload_n 0, 1) := by decide +kernel
theorem dX5_areaOf_1 : decode cX5_areaOf 1 = .ok (.iload_n 1, 1) := by decide +kernel
theorem dX5_areaOf_2 : decode cX5_areaOf 2 = .ok (.invokevirtual 288, 3) := by decide +kernel
theorem dX5_areaOf_5 : decode cX5_areaOf 5 = .ok (.ifCond .eq 14, 3) := by decide +kernel
theorem dX5_areaOf_8 : decode cX5_areaOf 8 = .ok (.aload_n 0, 1) := by decide +kernel
theorem dX5_areaOf_9 : decode cX5_areaOf 9 = .ok (.getfield 297, 3) := by decide +kernel
theorem dX5_areaOf_12 : decode cX5_areaOf 12 = .ok (.iload_n 1, 1) := by decide +kernel
theorem dX5_areaOf_13 : decode cX5_areaOf 13 = .ok (.invokestatic 144, 3) := by decide +kernel
theorem dX5_areaOf_16 : decode cX5_areaOf 16 = .ok (.goto 4, 3) := by decide +kernel
theorem dX5_areaOf_19 : decode cX5_areaOf 19 = .ok (.iconst (-1), 1) := by decide +kernel
theorem dX5_areaOf_20 : decode cX5_areaOf 20 = .ok (.ireturn, 1) := by decide +kernel
theorem dX5_evenness_0 : decode cX5_evenness 0 = .ok (.aload_n 0, 1) := by decide +kernel
theorem dX5_evenness_1 : decode cX5_evenness 1 = .ok (.getfield 251, 3) := by decide +kernel
theorem dX5_evenness_4 : decode cX5_evenness 4 = .ok (.ifCond .gt 5, 3) := by decide +kernel
theorem dX5_evenness_7 : decode cX5_evenness 7 = .ok (.dconst 1, 1) := by decide +kernel
theorem dX5_evenness_8 : decode cX5_evenness 8 = .ok (.dreturn, 1) := by decide +kernel
theorem dX5_evenness_9 : decode cX5_evenness 9 = .ok (.aload_n 0, 1) := by decide +kernel
theorem dX5_evenness_10 : decode cX5_evenness 10 = .ok (.getfield 251, 3) := by decide +kernel
theorem dX5_evenness_13 : decode cX5_evenness 13 = .ok (.aload_n 0, 1) := by decide +kernel
theorem dX5_evenness_14 : decode cX5_evenness 14 = .ok (.getfield 230, 3) := by decide +kernel
theorem dX5_evenness_17 : decode cX5_evenness 17 = .ok (.isub, 1) := by decide +kernel
theorem dX5_evenness_18 : decode cX5_evenness 18 = .ok (.i2d, 1) := by decide +kernel
theorem dX5_evenness_19 : decode cX5_evenness 19 = .ok (.aload_n 0, 1) := by decide +kernel
theorem dX5_evenness_20 : decode cX5_evenness 20 = .ok (.getfield 251, 3) := by decide +kernel
theorem dX5_evenness_23 : decode cX5_evenness 23 = .ok (.i2d, 1) := by decide +kernel
theorem dX5_evenness_24 : decode cX5_evenness 24 = .ok (.ddiv, 1) := by decide +kernel
theorem dX5_evenness_25 : decode cX5_evenness 25 = .ok (.dreturn, 1) := by decide +kernel
theorem dX5_isLetter_0 : decode cX5_isLetter 0 = .ok (.iload_n 0, 1) := by decide +kernel
theorem dX5_isLetter_1 : decode cX5_isLetter 1 = .ok (.ifCond .lt 13, 3) := by decide +kernel
theorem dX5_isLetter_4 : decode cX5_isLetter 4 = .ok (.iload_n 0, 1) := by decide +kernel
theorem dX5_isLetter_5 : decode cX5_isLetter 5 = .ok (.bipush 26, 2) := by decide +kernel
theorem dX5_isLetter_7 : decode cX5_isLetter 7 = .ok (.if_icmp .ge 7, 3) := by decide +kernel
theorem dX5_isLetter_10 : decode cX5_isLetter 10 = .ok (.iconst 1, 1) := by decide +kernel
theorem dX5_isLetter_11 : decode cX5_isLetter 11 = .ok (.goto 4, 3) := by decide +kernel
theorem dX5_isLetter_14 : decode cX5_isLetter 14 = .ok (.iconst 0, 1) := by decide +kernel
theorem dX5_isLetter_15 : decode cX5_isLetter 15 = .ok (.ireturn, 1) := by decide +kernel
theorem dX5_widthOf_0 : decode cX5_widthOf 0 = .ok (.bipush 6, 2) := by decide +kernel
theorem dX5_widthOf_2 : decode cX5_widthOf 2 = .ok (.bipush 7, 2) := by decide +kernel
theorem dX5_widthOf_4 : decode cX5_widthOf 4 = .ok (.iload_n 0, 1) := by decide +kernel
theorem dX5_widthOf_5 : decode cX5_widthOf 5 = .ok (.imul, 1) := by decide +kernel
theorem dX5_widthOf_6 : decode cX5_widthOf 6 = .ok (.bipush 9, 2) := by decide +kernel
theorem dX5_widthOf_8 : decode cX5_widthOf 8 = .ok (.irem, 1) := by decide +kernel
theorem dX5_widthOf_9 : decode cX5_widthOf 9 = .ok (.iadd, 1) := by decide +kernel
theorem dX5_widthOf_10 : decode cX5_widthOf 10 = .ok (.ireturn, 1) := by decide +kernel
theorem dX5_leftShape_0 : decode cX5_leftShape 0 = .ok (.iload_n 0, 1) := by decide +kernel
theorem dX5_leftShape_1 : decode cX5_leftShape 1 = .ok (.iconst 4, 1) := by decide +kernel
theorem dX5_leftShape_2 : decode cX5_leftShape 2 = .ok (.irem, 1) := by decide +kernel
theorem dX5_leftShape_3 : decode cX5_leftShape 3 = .ok (.ireturn, 1) := by decide +kernel
theorem dX5_rightShape_0 : decode cX5_rightShape 0 = .ok (.iconst 3, 1) := by decide +kernel
theorem dX5_rightShape_1 : decode cX5_rightShape 1 = .ok (.iload_n 0, 1) := by decide +kernel
theorem dX5_rightShape_2 : decode cX5_rightShape 2 = .ok (.imul, 1) := by decide +kernel
theorem dX5_rightShape_3 : decode cX5_rightShape 3 = .ok (.iconst 1, 1) := by decide +kernel
theorem dX5_rightShape_4 : decode cX5_rightShape 4 = .ok (.iadd, 1) := by decide +kernel
theorem dX5_rightShape_5 : decode cX5_rightShape 5 = .ok (.iconst 4, 1) := by decide +kernel
theorem dX5_rightShape_6 : decode cX5_rightShape 6 = .ok (.irem, 1) := by decide +kernel
theorem dX5_rightShape_7 : decode cX5_rightShape 7 = .ok (.ireturn, 1) := by decide +kernel
set_option maxRecDepth 20000 in
theorem ggX5_brushedIndent_X5_plainIndent : GoodIn wsX5_brushedIndent wsX5_plainIndent := goodIn_r _ [4] (by decide +kernel) (by decide +kernel)
set_option maxRecDepth 20000 in
theorem gX5_brushedIndent_X5_plainIndent : GoodIn wsX5_brushedIndent (va_wsS RX5 326 yX5_plainIndent wsX5_plainIndent) := goodIn_app (goodIn_of _ (by decide +kernel)) ggX5_brushedIndent_X5_plainIndent
theorem dX5_brushedIndent_0 : decode cX5_brushedIndent 0 = .ok (.iload_n 0, 1) := by decide +kernel
theorem dX5_brushedIndent_1 : decode cX5_brushedIndent 1 = .ok (.iload_n 1, 1) := by decide +kernel
theorem dX5_brushedIndent_2 : decode cX5_brushedIndent 2 = .ok (.invokestatic 326, 3) := by decide +kernel
theorem dX5_brushedIndent_5 : decode cX5_brushedIndent 5 = .ok (.istore_n 3, 1) := by decide +kernel
theorem dX5_brushedIndent_6 : decode cX5_brushedIndent 6 = .ok (.iload_n 1, 1) := by decide +kernel
theorem dX5_brushedIndent_7 : decode cX5_brushedIndent 7 = .ok (.ifCond .eq 11, 3) := by decide +kernel
theorem dX5_brushedIndent_10 : decode cX5_brushedIndent 10 = .ok (.iload_n 1, 1) := by decide +kernel
theorem dX5_brushedIndent_11 : decode cX5_brushedIndent 11 = .ok (.bipush 9, 2) := by decide +kernel
theorem dX5_brushedIndent_13 : decode cX5_brushedIndent 13 = .ok (.if_icmp .eq 5, 3) := by decide +kernel
theorem dX5_brushedIndent_16 : decode cX5_brushedIndent 16 = .ok (.iload_n 3, 1) := by decide +kernel
theorem dX5_brushedIndent_17 : decode cX5_brushedIndent 17 = .ok (.ireturn, 1) := by decide +kernel
theorem dX5_brushedIndent_18 : decode cX5_brushedIndent 18 = .ok (.iload_n 3, 1) := by decide +kernel
theorem dX5_brushedIndent_19 : decode cX5_brushedIndent 19 = .ok (.iload_n 2, 1) := by decide +kernel
theorem dX5_brushedIndent_20 : decode cX5_brushedIndent 20 = .ok (.if_icmp .le 9, 3) := by decide +kernel
theorem dX5_brushedIndent_23 : decode cX5_brushedIndent 23 = .ok (.iload_n 3, 1) := by decide +kernel
theorem dX5_brushedIndent_24 : decode cX5_brushedIndent 24 = .ok (.iload_n 2, 1) := by decide +kernel
theorem dX5_brushedIndent_25 : decode cX5_brushedIndent 25 = .ok (.isub, 1) := by decide +kernel
theorem dX5_brushedIndent_26 : decode cX5_brushedIndent 26 = .ok (.goto 4, 3) := by decide +kernel
theorem dX5_brushedIndent_29 : decode cX5_brushedIndent 29 = .ok (.iconst 0, 1) := by decide +kernel
theorem dX5_brushedIndent_30 : decode cX5_brushedIndent 30 = .ok (.ireturn, 1) := by decide +kernel
theorem dX5_plainIndent_0 : decode cX5_plainIndent 0 = .ok (.iload_n 0, 1) := by decide +kernel
theorem dX5_plainIndent_1 : decode cX5_plainIndent 1 = .ok (.tableswitch 74 1 3 #[27, 53, 57], 27) := by decide +kernel
theorem dX5_plainIndent_28 : decode cX5_plainIndent 28 = .ok (.iconst 2, 1) := by decide +kernel
theorem dX5_plainIndent_29 : decode cX5_plainIndent 29 = .ok (.iload_n 1, 1) := by decide +kernel
theorem dX5_plainIndent_30 : decode cX5_plainIndent 30 = .ok (.imul, 1) := by decide +kernel
theorem dX5_plainIndent_31 : decode cX5_plainIndent 31 = .ok (.bipush 9, 2) := by decide +kernel
theorem dX5_plainIndent_33 : decode cX5_plainIndent 33 = .ok (.if_icmp .le 12, 3) := by decide +kernel
theorem dX5_plainIndent_36 : decode cX5_plainIndent 36 = .ok (.iconst 2, 1) := by decide +kernel
theorem dX5_plainIndent_37 : decode cX5_plainIndent 37 = .ok (.iload_n 1, 1) := by decide +kernel
theorem dX5_plainIndent_38 : decode cX5_plainIndent 38 = .ok (.imul, 1) := by decide +kernel
theorem dX5_plainIndent_39 : decode cX5_plainIndent 39 = .ok (.bipush 9, 2) := by decide +kernel
theorem dX5_plainIndent_41 : decode cX5_plainIndent 41 = .ok (.isub, 1) := by decide +kernel
theorem dX5_plainIndent_42 : decode cX5_plainIndent 42 = .ok (.goto 9, 3) := by decide +kernel
theorem dX5_plainIndent_45 : decode cX5_plainIndent 45 = .ok (.bipush 9, 2) := by decide +kernel
theorem dX5_plainIndent_47 : decode cX5_plainIndent 47 = .ok (.iconst 2, 1) := by decide +kernel
theorem dX5_plainIndent_48 : decode cX5_plainIndent 48 = .ok (.iload_n 1, 1) := by decide +kernel
theorem dX5_plainIndent_49 : decode cX5_plainIndent 49 = .ok (.imul, 1) := by decide +kernel
theorem dX5_plainIndent_50 : decode cX5_plainIndent 50 = .ok (.isub, 1) := by decide +kernel
theorem dX5_plainIndent_51 : decode cX5_plainIndent 51 = .ok (.iconst 2, 1) := by decide +kernel
theorem dX5_plainIndent_52 : decode cX5_plainIndent 52 = .ok (.idiv, 1) := by decide +kernel
theorem dX5_plainIndent_53 : decode cX5_plainIndent 53 = .ok (.ireturn, 1) := by decide +kernel
theorem dX5_plainIndent_54 : decode cX5_plainIndent 54 = .ok (.iload_n 1, 1) := by decide +kernel
theorem dX5_plainIndent_55 : decode cX5_plainIndent 55 = .ok (.iconst 2, 1) := by decide +kernel
theorem dX5_plainIndent_56 : decode cX5_plainIndent 56 = .ok (.idiv, 1) := by decide +kernel
theorem dX5_plainIndent_57 : decode cX5_plainIndent 57 = .ok (.ireturn, 1) := by decide +kernel
theorem dX5_plainIndent_58 : decode cX5_plainIndent 58 = .ok (.iload_n 1, 1) := by decide +kernel
theorem dX5_plainIndent_59 : decode cX5_plainIndent 59 = .ok (.iconst 3, 1) := by decide +kernel
theorem dX5_plainIndent_60 : decode cX5_plainIndent 60 = .ok (.if_icmp .lt 13, 3) := by decide +kernel
theorem dX5_plainIndent_63 : decode cX5_plainIndent 63 = .ok (.iload_n 1, 1) := by decide +kernel
theorem dX5_plainIndent_64 : decode cX5_plainIndent 64 = .ok (.bipush 6, 2) := by decide +kernel
theorem dX5_plainIndent_66 : decode cX5_plainIndent 66 = .ok (.if_icmp .gt 7, 3) := by decide +kernel
theorem dX5_plainIndent_69 : decode cX5_plainIndent 69 = .ok (.iconst 4, 1) := by decide +kernel
theorem dX5_plainIndent_70 : decode cX5_plainIndent 70 = .ok (.goto 4, 3) := by decide +kernel
theorem dX5_plainIndent_73 : decode cX5_plainIndent 73 = .ok (.iconst 0, 1) := by decide +kernel
theorem dX5_plainIndent_74 : decode cX5_plainIndent 74 = .ok (.ireturn, 1) := by decide +kernel
theorem dX5_plainIndent_75 : decode cX5_plainIndent 75 = .ok (.iconst 0, 1) := by decide +kernel
theorem dX5_plainIndent_76 : decode cX5_plainIndent 76 = .ok (.ireturn, 1) := by decide +kernel
theorem dX5_isSetting_0 : decode cX5_isSetting 0 = .ok (.iload_n 0, 1) := by decide +kernel
theorem dX5_isSetting_1 : decode cX5_isSetting 1 = .ok (.ifCond .lt 13, 3) := by decide +kernel
theorem dX5_isSetting_4 : decode cX5_isSetting 4 = .ok (.iload_n 0, 1) := by decide +kernel
theorem dX5_isSetting_5 : decode cX5_isSetting 5 = .ok (.bipush 6, 2) := by decide +kernel
theorem dX5_isSetting_7 : decode cX5_isSetting 7 = .ok (.if_icmp .ge 7, 3) := by decide +kernel
theorem dX5_isSetting_10 : decode cX5_isSetting 10 = .ok (.iconst 1, 1) := by decide +kernel
theorem dX5_isSetting_11 : decode cX5_isSetting 11 = .ok (.goto 4, 3) := by decide +kernel
theorem dX5_isSetting_14 : decode cX5_isSetting 14 = .ok (.iconst 0, 1) := by decide +kernel
theorem dX5_isSetting_15 : decode cX5_isSetting 15 = .ok (.ireturn, 1) := by decide +kernel
set_option maxRecDepth 20000 in
theorem ggX5_isInRange_X5_valueAt : GoodIn wsX5_isInRange wsX5_valueAt := goodIn_r _ [6] (by decide +kernel) (by decide +kernel)
set_option maxRecDepth 20000 in
theorem gX5_isInRange_X5_valueAt : GoodIn wsX5_isInRange (va_wsS RX5 144 yX5_valueAt wsX5_valueAt) := goodIn_app (goodIn_of _ (by decide +kernel)) ggX5_isInRange_X5_valueAt
theorem dX5_isInRange_0 : decode cX5_isInRange 0 = .ok (.iload_n 1, 1) := by decide +kernel
theorem dX5_isInRange_1 : decode cX5_isInRange 1 = .ok (.getstatic 330, 3) := by decide +kernel
theorem dX5_isInRange_4 : decode cX5_isInRange 4 = .ok (.iload_n 0, 1) := by decide +kernel
theorem dX5_isInRange_5 : decode cX5_isInRange 5 = .ok (.invokestatic 144, 3) := by decide +kernel
theorem dX5_isInRange_8 : decode cX5_isInRange 8 = .ok (.if_icmp .lt 18, 3) := by decide +kernel
theorem dX5_isInRange_11 : decode cX5_isInRange 11 = .ok (.iload_n 1, 1) := by decide +kernel
theorem dX5_isInRange_12 : decode cX5_isInRange 12 = .ok (.getstatic 333, 3) := by decide +kernel
theorem dX5_isInRange_15 : decode cX5_isInRange 15 = .ok (.iload_n 0, 1) := by decide +kernel
theorem dX5_isInRange_16 : decode cX5_isInRange 16 = .ok (.invokestatic 144, 3) := by decide +kernel
theorem dX5_isInRange_19 : decode cX5_isInRange 19 = .ok (.if_icmp .gt 7, 3) := by decide +kernel
theorem dX5_isInRange_22 : decode cX5_isInRange 22 = .ok (.iconst 1, 1) := by decide +kernel
theorem dX5_isInRange_23 : decode cX5_isInRange 23 = .ok (.goto 4, 3) := by decide +kernel
theorem dX5_isInRange_26 : decode cX5_isInRange 26 = .ok (.iconst 0, 1) := by decide +kernel
theorem dX5_isInRange_27 : decode cX5_isInRange 27 = .ok (.ireturn, 1) := by decide +kernel
theorem dX5_valueAt_0 : decode cX5_valueAt 0 = .ok (.iload_n 1, 1) := by decide +kernel
theorem dX5_valueAt_1 : decode cX5_valueAt 1 = .ok (.ifCond .lt 15, 3) := by decide +kernel
theorem dX5_valueAt_4 : decode cX5_valueAt 4 = .ok (.iload_n 1, 1) := by decide +kernel
theorem dX5_valueAt_5 : decode cX5_valueAt 5 = .ok (.aload_n 0, 1) := by decide +kernel
theorem dX5_valueAt_6 : decode cX5_valueAt 6 = .ok (.arraylength, 1) := by decide +kernel
theorem dX5_valueAt_7 : decode cX5_valueAt 7 = .ok (.if_icmp .ge 9, 3) := by decide +kernel
theorem dX5_valueAt_10 : decode cX5_valueAt 10 = .ok (.aload_n 0, 1) := by decide +kernel
theorem dX5_valueAt_11 : decode cX5_valueAt 11 = .ok (.iload_n 1, 1) := by decide +kernel
theorem dX5_valueAt_12 : decode cX5_valueAt 12 = .ok (.iaload, 1) := by decide +kernel
theorem dX5_valueAt_13 : decode cX5_valueAt 13 = .ok (.goto 4, 3) := by decide +kernel
theorem dX5_valueAt_16 : decode cX5_valueAt 16 = .ok (.iconst 0, 1) := by decide +kernel
theorem dX5_valueAt_17 : decode cX5_valueAt 17 = .ok (.ireturn, 1) := by decide +kernel
theorem dX5_store_0 : decode cX5_store 0 = .ok (.iload_n 1, 1) := by decide +kernel
theorem dX5_store_1 : decode cX5_store 1 = .ok (.ifCond .lt 13, 3) := by decide +kernel
theorem dX5_store_4 : decode cX5_store 4 = .ok (.iload_n 1, 1) := by decide +kernel
theorem dX5_store_5 : decode cX5_store 5 = .ok (.aload_n 0, 1) := by decide +kernel
theorem dX5_store_6 : decode cX5_store 6 = .ok (.arraylength, 1) := by decide +kernel
theorem dX5_store_7 : decode cX5_store 7 = .ok (.if_icmp .ge 7, 3) := by decide +kernel
theorem dX5_store_10 : decode cX5_store 10 = .ok (.aload_n 0, 1) := by decide +kernel
theorem dX5_store_11 : decode cX5_store 11 = .ok (.iload_n 1, 1) := by decide +kernel
theorem dX5_store_12 : decode cX5_store 12 = .ok (.iload_n 2, 1) := by decide +kernel
theorem dX5_store_13 : decode cX5_store 13 = .ok (.iastore, 1) := by decide +kernel
theorem dX5_store_14 : decode cX5_store 14 = .ok (.return_, 1) := by decide +kernel
theorem dX5_copyRow_0 : decode cX5_copyRow 0 = .ok (.iconst 0, 1) := by decide +kernel
theorem dX5_copyRow_1 : decode cX5_copyRow 1 = .ok (.istore_n 2, 1) := by decide +kernel
theorem dX5_copyRow_2 : decode cX5_copyRow 2 = .ok (.iload_n 2, 1) := by decide +kernel
theorem dX5_copyRow_3 : decode cX5_copyRow 3 = .ok (.aload_n 0, 1) := by decide +kernel
theorem dX5_copyRow_4 : decode cX5_copyRow 4 = .ok (.arraylength, 1) := by decide +kernel
theorem dX5_copyRow_5 : decode cX5_copyRow 5 = .ok (.if_icmp .ge 21, 3) := by decide +kernel
theorem dX5_copyRow_8 : decode cX5_copyRow 8 = .ok (.iload_n 2, 1) := by decide +kernel
theorem dX5_copyRow_9 : decode cX5_copyRow 9 = .ok (.aload_n 1, 1) := by decide +kernel
theorem dX5_copyRow_10 : decode cX5_copyRow 10 = .ok (.arraylength, 1) := by decide +kernel
theorem dX5_copyRow_11 : decode cX5_copyRow 11 = .ok (.if_icmp .ge 15, 3) := by decide +kernel
theorem dX5_copyRow_14 : decode cX5_copyRow 14 = .ok (.aload_n 1, 1) := by decide +kernel
theorem dX5_copyRow_15 : decode cX5_copyRow 15 = .ok (.iload_n 2, 1) := by decide +kernel
theorem dX5_copyRow_16 : decode cX5_copyRow 16 = .ok (.aload_n 0, 1) := by decide +kernel
theorem dX5_copyRow_17 : decode cX5_copyRow 17 = .ok (.iload_n 2, 1) := by decide +kernel
theorem dX5_copyRow_18 : decode cX5_copyRow 18 = .ok (.iaload, 1) := by decide +kernel
theorem dX5_copyRow_19 : decode cX5_copyRow 19 = .ok (.iastore, 1) := by decide +kernel
theorem dX5_copyRow_20 : decode cX5_copyRow 20 = .ok (.iinc 2 1, 3) := by decide +kernel
theorem dX5_copyRow_23 : decode cX5_copyRow 23 = .ok (.goto (-21), 3) := by decide +kernel
theorem dX5_copyRow_26 : decode cX5_copyRow 26 = .ok (.return_, 1) := by decide +kernel
