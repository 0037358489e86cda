theorem dX6_set_46 : decode cX6_set 46 = .ok (.getfield 7, 3) := by decide +kernel
theorem dX6_set_49 : decode cX6_set 49 = .ok (.iload_n 1, 1) := by decide +kernel
theorem dX6_set_50 : decode cX6_set 50 = .ok (.iaload, 1) := by decide +kernel
theorem dX6_set_51 : decode cX6_set 51 = .ok (.istore_n 3, 1) := by decide +kernel
theorem dX6_set_52 : decode cX6_set 52 = .ok (.aload_n 0, 1) := by decide +kernel
theorem dX6_set_53 : decode cX6_set 53 = .ok (.getfield 7, 3) := by decide +kernel
theorem dX6_set_56 : decode cX6_set 56 = .ok (.iload_n 1, 1) := by decide +kernel
theorem dX6_set_57 : decode cX6_set 57 = .ok (.iload_n 2, 1) := by decide +kernel
theorem dX6_set_58 : decode cX6_set 58 = .ok (.iastore, 1) := by decide +kernel
theorem dX6_set_59 : decode cX6_set 59 = .ok (.iload_n 3, 1) := by decide +kernel
theorem dX6_set_60 : decode cX6_set 60 = .ok (.ireturn, 1) := by decide +kernel
set_option maxRecDepth 20000 in
theorem ggX6_append_X6_in : GoodIn wsX6_append wsX6_in := goodIn_r _ [7] (by decide +kernel) (by decide +kernel)
set_option maxRecDepth 20000 in
theorem gX6_append_X6_in : GoodIn wsX6_append (va_wsS RX6 44 yX6_in wsX6_in) := goodIn_app (goodIn_of _ (by decide +kernel)) ggX6_append_X6_in
set_option maxRecDepth 20000 in
theorem ggX6_append_X6_fails : GoodIn wsX6_append wsX6_fails := goodIn_r _ [11, 1, 12, 13, 14, 15, 16, 17, 18, 19, 20, 21, 22, 23, 24, 25, 26, 27, 28] (by decide +kernel) (by decide +kernel)
set_option maxRecDepth 20000 in
theorem gX6_append_X6_fails : GoodIn wsX6_append (wsV RX6 97 RX6 yX6_fails wsX6_fails) := goodIn_app (goodIn_of _ (by decide +kernel)) ggX6_append_X6_fails
theorem dX6_append_0 : decode cX6_append 0 = .ok (.aload_n 0, 1) := by decide +kernel
theorem dX6_append_1 : decode cX6_append 1 = .ok (.iconst 0, 1) := by decide +kernel
theorem dX6_append_2 : decode cX6_append 2 = .ok (.putfield 40, 3) := by decide +kernel
theorem dX6_append_5 : decode cX6_append 5 = .ok (.iload_n 1, 1) := by decide +kernel
theorem dX6_append_6 : decode cX6_append 6 = .ok (.bipush 33, 2) := by decide +kernel
theorem dX6_append_8 : decode cX6_append 8 = .ok (.bipush 126, 2) := by decide +kernel
theorem dX6_append_10 : decode cX6_append 10 = .ok (.invokestatic 44, 3) := by decide +kernel
theorem dX6_append_13 : decode cX6_append 13 = .ok (.ifCond .ne 9, 3) := by decide +kernel
theorem dX6_append_16 : decode cX6_append 16 = .ok (.aload_n 0, 1) := by decide +kernel
theorem dX6_append_17 : decode cX6_append 17 = .ok (.iconst 1, 1) := by decide +kernel
theorem dX6_append_18 : decode cX6_append 18 = .ok (.invokevirtual 97, 3) := by decide +kernel
theorem dX6_append_21 : decode cX6_append 21 = .ok (.ireturn, 1) := by decide +kernel
theorem dX6_append_22 : decode cX6_append 22 = .ok (.aload_n 0, 1) := by decide +kernel
theorem dX6_append_23 : decode cX6_append 23 = .ok (.getfield 117, 3) := by decide +kernel
theorem dX6_append_26 : decode cX6_append 26 = .ok (.bipush 60, 2) := by decide +kernel
theorem dX6_append_28 : decode cX6_append 28 = .ok (.if_icmp .ne 9, 3) := by decide +kernel
theorem dX6_append_31 : decode cX6_append 31 = .ok (.aload_n 0, 1) := by decide +kernel
theorem dX6_append_32 : decode cX6_append 32 = .ok (.iconst 2, 1) := by decide +kernel
theorem dX6_append_33 : decode cX6_append 33 = .ok (.invokevirtual 97, 3) := by decide +kernel
theorem dX6_append_36 : decode cX6_append 36 = .ok (.ireturn, 1) := by decide +kernel
theorem dX6_append_37 : decode cX6_append 37 = .ok (.aload_n 0, 1) := by decide +kernel
theorem dX6_append_38 : decode cX6_append 38 = .ok (.getfield 19, 3) := by decide +kernel
theorem dX6_append_41 : decode cX6_append 41 = .ok (.aload_n 0, 1) := by decide +kernel
theorem dX6_append_42 : decode cX6_append 42 = .ok (.getfield 117, 3) := by decide +kernel
theorem dX6_append_45 : decode cX6_append 45 = .ok (.iload_n 1, 1) := by decide +kernel
theorem dX6_append_46 : decode cX6_append 46 = .ok (.iastore, 1) := by decide +kernel
theorem dX6_append_47 : decode cX6_append 47 = .ok (.aload_n 0, 1) := by decide +kernel
theorem dX6_append_48 : decode cX6_append 48 = .ok (.dup, 1) := by decide +kernel
theorem dX6_append_49 : decode cX6_append 49 = .ok (.getfield 117, 3) := by decide +kernel
theorem dX6_append_52 : decode cX6_append 52 = .ok (.iconst 1, 1) := by decide +kernel
theorem dX6_append_53 : decode cX6_append 53 = .ok (.iadd, 1) := by decide +kernel
theorem dX6_append_54 : decode cX6_append 54 = .ok (.putfield 117, 3) := by decide +kernel
theorem dX6_append_57 : decode cX6_append 57 = .ok (.aload_n 0, 1) := by decide +kernel
theorem dX6_append_58 : decode cX6_append 58 = .ok (.getfield 117, 3) := by decide +kernel
theorem dX6_append_61 : decode cX6_append 61 = .ok (.ireturn, 1) := by decide +kernel
theorem dX6_clearBuffer_0 : decode cX6_clearBuffer 0 = .ok (.aload_n 0, 1) := by decide +kernel
theorem dX6_clearBuffer_1 : decode cX6_clearBuffer 1 = .ok (.iconst 0, 1) := by decide +kernel
theorem dX6_clearBuffer_2 : decode cX6_clearBuffer 2 = .ok (.putfield 40, 3) := by decide +kernel
theorem dX6_clearBuffer_5 : decode cX6_clearBuffer 5 = .ok (.aload_n 0, 1) := by decide +kernel
theorem dX6_clearBuffer_6 : decode cX6_clearBuffer 6 = .ok (.getfield 117, 3) := by decide +kernel
theorem dX6_clearBuffer_9 : decode cX6_clearBuffer 9 = .ok (.istore_n 1, 1) := by decide +kernel
theorem dX6_clearBuffer_10 : decode cX6_clearBuffer 10 = .ok (.aload_n 0, 1) := by decide +kernel
theorem dX6_clearBuffer_11 : decode cX6_clearBuffer 11 = .ok (.iconst 0, 1) := by decide +kernel
theorem dX6_clearBuffer_12 : decode cX6_clearBuffer 12 = .ok (.putfield 117, 3) := by decide +kernel
theorem dX6_clearBuffer_15 : decode cX6_clearBuffer 15 = .ok (.iload_n 1, 1) := by decide +kernel
theorem dX6_clearBuffer_16 : decode cX6_clearBuffer 16 = .ok (.ireturn, 1) := by decide +kernel
theorem dX6_sign_0 : decode cX6_sign 0 = .ok (.aload_n 0, 1) := by decide +kernel
theorem dX6_sign_1 : decode cX6_sign 1 = .ok (.getfield 120, 3) := by decide +kernel
theorem dX6_sign_4 : decode cX6_sign 4 = .ok (.aload_n 0, 1) := by decide +kernel
theorem dX6_sign_5 : decode cX6_sign 5 = .ok (.getfield 117, 3) := by decide +kernel
theorem dX6_sign_8 : decode cX6_sign 8 = .ok (.if_icmp .ge 15, 3) := by decide +kernel
theorem dX6_sign_11 : decode cX6_sign 11 = .ok (.aload_n 0, 1) := by decide +kernel
theorem dX6_sign_12 : decode cX6_sign 12 = .ok (.getfield 19, 3) := by decide +kernel
theorem dX6_sign_15 : decode cX6_sign 15 = .ok (.aload_n 0, 1) := by decide +kernel
theorem dX6_sign_16 : decode cX6_sign 16 = .ok (.getfield 120, 3) := by decide +kernel
theorem dX6_sign_19 : decode cX6_sign 19 = .ok (.iaload, 1) := by decide +kernel
theorem dX6_sign_20 : decode cX6_sign 20 = .ok (.goto 4, 3) := by decide +kernel
theorem dX6_sign_23 : decode cX6_sign 23 = .ok (.iconst 0, 1) := by decide +kernel
theorem dX6_sign_24 : decode cX6_sign 24 = .ok (.ireturn, 1) := by decide +kernel
set_option maxRecDepth 20000 in
theorem ggX6_readsKern_X6_sign : GoodIn wsX6_readsKern wsX6_sign := goodIn_r _ [8, 1, 9, 10, 14, 15, 16, 17, 18, 19, 20, 21, 22, 23, 24, 25, 26, 27, 28, 29, 30] (by decide +kernel) (by decide +kernel)
set_option maxRecDepth 20000 in
theorem gX6_readsKern_X6_sign : GoodIn wsX6_readsKern (wsV RX6 123 RX6 yX6_sign wsX6_sign) := goodIn_app (goodIn_of _ (by decide +kernel)) ggX6_readsKern_X6_sign
set_option maxRecDepth 20000 in
theorem ggX6_readsKern_X6_in : GoodIn wsX6_readsKern wsX6_in := goodIn_r _ [13] (by decide +kernel) (by decide +kernel)
set_option maxRecDepth 20000 in
theorem gX6_readsKern_X6_in : GoodIn wsX6_readsKern (va_wsS RX6 44 yX6_in wsX6_in) := goodIn_app (goodIn_of _ (by decide +kernel)) ggX6_readsKern_X6_in
theorem dX6_readsKern_0 : decode cX6_readsKern 0 = .ok (.aload_n 0, 1) := by decide +kernel
theorem dX6_readsKern_1 : decode cX6_readsKern 1 = .ok (.invokevirtual 123, 3) := by decide +kernel
theorem dX6_readsKern_4 : decode cX6_readsKern 4 = .ok (.bipush 43, 2) := by decide +kernel
theorem dX6_readsKern_6 : decode cX6_readsKern 6 = .ok (.if_icmp .ne 7, 3) := by decide +kernel
theorem dX6_readsKern_9 : decode cX6_readsKern 9 = .ok (.iconst 1, 1) := by decide +kernel
theorem dX6_readsKern_10 : decode cX6_readsKern 10 = .ok (.goto 4, 3) := by decide +kernel
theorem dX6_readsKern_13 : decode cX6_readsKern 13 = .ok (.iconst (-1), 1) := by decide +kernel
theorem dX6_readsKern_14 : decode cX6_readsKern 14 = .ok (.istore_n 1, 1) := by decide +kernel
theorem dX6_readsKern_15 : decode cX6_readsKern 15 = .ok (.aload_n 0, 1) := by decide +kernel
theorem dX6_readsKern_16 : decode cX6_readsKern 16 = .ok (.dup, 1) := by decide +kernel
theorem dX6_readsKern_17 : decode cX6_readsKern 17 = .ok (.getfield 120, 3) := by decide +kernel
theorem dX6_readsKern_20 : decode cX6_readsKern 20 = .ok (.iconst 1, 1) := by decide +kernel
theorem dX6_readsKern_21 : decode cX6_readsKern 21 = .ok (.iadd, 1) := by decide +kernel
theorem dX6_readsKern_22 : decode cX6_readsKern 22 = .ok (.putfield 120, 3) := by decide +kernel
theorem dX6_readsKern_25 : decode cX6_readsKern 25 = .ok (.aload_n 0, 1) := by decide +kernel
theorem dX6_readsKern_26 : decode cX6_readsKern 26 = .ok (.invokevirtual 123, 3) := by decide +kernel
theorem dX6_readsKern_29 : decode cX6_readsKern 29 = .ok (.bipush 49, 2) := by decide +kernel
theorem dX6_readsKern_31 : decode cX6_readsKern 31 = .ok (.bipush 53, 2) := by decide +kernel
theorem dX6_readsKern_33 : decode cX6_readsKern 33 = .ok (.invokestatic 44, 3) := by decide +kernel
theorem dX6_readsKern_36 : decode cX6_readsKern 36 = .ok (.istore_n 2, 1) := by decide +kernel
theorem dX6_readsKern_37 : decode cX6_readsKern 37 = .ok (.aload_n 0, 1) := by decide +kernel
theorem dX6_readsKern_38 : decode cX6_readsKern 38 = .ok (.getfield 37, 3) := by decide +kernel
theorem dX6_readsKern_41 : decode cX6_readsKern 41 = .ok (.aload_n 0, 1) := by decide +kernel
theorem dX6_readsKern_42 : decode cX6_readsKern 42 = .ok (.getfield 126, 3) := by decide +kernel
theorem dX6_readsKern_45 : decode cX6_readsKern 45 = .ok (.iconst 1, 1) := by decide +kernel
theorem dX6_readsKern_46 : decode cX6_readsKern 46 = .ok (.isub, 1) := by decide +kernel
theorem dX6_readsKern_47 : decode cX6_readsKern 47 = .ok (.iload_n 2, 1) := by decide +kernel
theorem dX6_readsKern_48 : decode cX6_readsKern 48 = .ok (.ifCond .eq 15, 3) := by decide +kernel
theorem dX6_readsKern_51 : decode cX6_readsKern 51 = .ok (.iload_n 1, 1) := by decide +kernel
theorem dX6_readsKern_52 : decode cX6_readsKern 52 = .ok (.aload_n 0, 1) := by decide +kernel
theorem dX6_readsKern_53 : decode cX6_readsKern 53 = .ok (.invokevirtual 123, 3) := by decide +kernel
theorem dX6_readsKern_56 : decode cX6_readsKern 56 = .ok (.bipush 48, 2) := by decide +kernel
theorem dX6_readsKern_58 : decode cX6_readsKern 58 = .ok (.isub, 1) := by decide +kernel
theorem dX6_readsKern_59 : decode cX6_readsKern 59 = .ok (.imul, 1) := by decide +kernel
theorem dX6_readsKern_60 : decode cX6_readsKern 60 = .ok (.goto 4, 3) := by decide +kernel
theorem dX6_readsKern_63 : decode cX6_readsKern 63 = .ok (.iconst 0, 1) := by decide +kernel
theorem dX6_readsKern_64 : decode cX6_readsKern 64 = .ok (.iastore, 1) := by decide +kernel
theorem dX6_readsKern_65 : decode cX6_readsKern 65 = .ok (.aload_n 0, 1) := by decide +kernel
theorem dX6_readsKern_66 : decode cX6_readsKern 66 = .ok (.dup, 1) := by decide +kernel
theorem dX6_readsKern_67 : decode cX6_readsKern 67 = .ok (.getfield 120, 3) := by decide +kernel
theorem dX6_readsKern_70 : decode cX6_readsKern 70 = .ok (.iload_n 2, 1) := by decide +kernel
theorem dX6_readsKern_71 : decode cX6_readsKern 71 = .ok (.ifCond .eq 7, 3) := by decide +kernel
theorem dX6_readsKern_74 : decode cX6_readsKern 74 = .ok (.iconst 1, 1) := by decide +kernel
theorem dX6_readsKern_75 : decode cX6_readsKern 75 = .ok (.goto 4, 3) := by decide +kernel
theorem dX6_readsKern_78 : decode cX6_readsKern 78 = .ok (.iconst 0, 1) := by decide +kernel
theorem dX6_readsKern_79 : decode cX6_readsKern 79 = .ok (.iadd, 1) := by decide +kernel
theorem dX6_readsKern_80 : decode cX6_readsKern 80 = .ok (.putfield 120, 3) := by decide +kernel
theorem dX6_readsKern_83 : decode cX6_readsKern 83 = .ok (.iload_n 2, 1) := by decide +kernel
theorem dX6_readsKern_84 : decode cX6_readsKern 84 = .ok (.ireturn, 1) := by decide +kernel
set_option maxRecDepth 20000 in
theorem ggX6_readsItem_X6_sign : GoodIn wsX6_readsItem wsX6_sign := goodIn_r _ [9, 4, 10, 11, 19, 20, 21, 22, 23, 24, 25, 26, 27, 28, 29, 30, 31, 32, 33, 34, 35] (by decide +kernel) (by decide +kernel)
set_option maxRecDepth 20000 in
theorem gX6_readsItem_X6_sign : GoodIn wsX6_readsItem (wsV RX6 123 RX6 yX6_sign wsX6_sign) := goodIn_app (goodIn_of _ (by decide +kernel)) ggX6_readsItem_X6_sign
set_option maxRecDepth 20000 in
theorem ggX6_readsItem_X6_in : GoodIn wsX6_readsItem wsX6_in := goodIn_r _ [14] (by decide +kernel) (by decide +kernel)
set_option maxRecDepth 20000 in
theorem gX6_readsItem_X6_in : GoodIn wsX6_readsItem (va_wsS RX6 44 yX6_in wsX6_in) := goodIn_app (goodIn_of _ (by decide +kernel)) ggX6_readsItem_X6_in
set_option maxRecDepth 20000 in
theorem ggX6_readsItem_X6_readsKern : GoodIn wsX6_readsItem wsX6_readsKern := goodIn_r _ [18, 4, 3, 1, 5, 6, 7, 8, 9, 10, 11, 12, 13, 14, 19, 20, 21, 22, 23, 24, 25, 26, 27, 28, 29, 30, 31, 32, 33, 34, 35] (by decide +kernel) (by decide +kernel)
set_option maxRecDepth 20000 in
theorem gX6_readsItem_X6_readsKern : GoodIn wsX6_readsItem (wsV RX6 129 RX6 yX6_readsKern wsX6_readsKern) := goodIn_app (goodIn_of _ (by decide +kernel)) ggX6_readsItem_X6_readsKern
theorem dX6_readsItem_0 : decode cX6_readsItem 0 = .ok (.aload_n 0, 1) := by decide +kernel
theorem dX6_readsItem_1 : decode cX6_readsItem 1 = .ok (.invokevirtual 123, 3) := by decide +kernel
theorem dX6_readsItem_4 : decode cX6_readsItem 4 = .ok (.istore_n 1, 1) := by decide +kernel
theorem dX6_readsItem_5 : decode cX6_readsItem 5 = .ok (.iload_n 1, 1) := by decide +kernel
theorem dX6_readsItem_6 : decode cX6_readsItem 6 = .ok (.bipush 65, 2) := by decide +kernel
theorem dX6_readsItem_8 : decode cX6_readsItem 8 = .ok (.bipush 90, 2) := by decide +kernel
theorem dX6_readsItem_10 : decode cX6_readsItem 10 = .ok (.invokestatic 44, 3) := by decide +kernel
theorem dX6_readsItem_13 : decode cX6_readsItem 13 = .ok (.istore_n 2, 1) := by decide +kernel
theorem dX6_readsItem_14 : decode cX6_readsItem 14 = .ok (.aload_n 0, 1) := by decide +kernel
theorem dX6_readsItem_15 : decode cX6_readsItem 15 = .ok (.getfield 126, 3) := by decide +kernel
theorem dX6_readsItem_18 : decode cX6_readsItem 18 = .ok (.bipush 20, 2) := by decide +kernel
theorem dX6_readsItem_20 : decode cX6_readsItem 20 = .ok (.if_icmp .eq 13, 3) := by decide +kernel
theorem dX6_readsItem_23 : decode cX6_readsItem 23 = .ok (.iload_n 2, 1) := by decide +kernel
theorem dX6_readsItem_24 : decode cX6_readsItem 24 = .ok (.ifCond .ne 11, 3) := by decide +kernel
theorem dX6_readsItem_27 : decode cX6_readsItem 27 = .ok (.iload_n 1, 1) := by decide +kernel
theorem dX6_readsItem_28 : decode cX6_readsItem 28 = .ok (.bipush 95, 2) := by decide +kernel
theorem dX6_readsItem_30 : decode cX6_readsItem 30 = .ok (.if_icmp .eq 5, 3) := by decide +kernel
theorem dX6_readsItem_33 : decode cX6_readsItem 33 = .ok (.iconst 0, 1) := by decide +kernel
theorem dX6_readsItem_34 : decode cX6_readsItem 34 = .ok (.ireturn, 1) := by decide +kernel
theorem dX6_readsItem_35 : decode cX6_readsItem 35 = .ok (.aload_n 0, 1) := by decide +kernel
theorem dX6_readsItem_36 : decode cX6_readsItem 36 = .ok (.getfield 34, 3) := by decide +kernel
theorem dX6_readsItem_39 : decode cX6_readsItem 39 = .ok (.aload_n 0, 1) := by decide +kernel
theorem dX6_readsItem_40 : decode cX6_readsItem 40 = .ok (.getfield 126, 3) := by decide +kernel
theorem dX6_readsItem_43 : decode cX6_readsItem 43 = .ok (.iload_n 2, 1) := by decide +kernel
theorem dX6_readsItem_44 : decode cX6_readsItem 44 = .ok (.ifCond .eq 10, 3) := by decide +kernel
theorem dX6_readsItem_47 : decode cX6_readsItem 47 = .ok (.iload_n 1, 1) := by decide +kernel
theorem dX6_readsItem_48 : decode cX6_readsItem 48 = .ok (.bipush 65, 2) := by decide +kernel
theorem dX6_readsItem_50 : decode cX6_readsItem 50 = .ok (.isub, 1) := by decide +kernel
theorem dX6_readsItem_51 : decode cX6_readsItem 51 = .ok (.goto 4, 3) := by decide +kernel
theorem dX6_readsItem_54 : decode cX6_readsItem 54 = .ok (.iconst (-1), 1) := by decide +kernel
theorem dX6_readsItem_55 : decode cX6_readsItem 55 = .ok (.iastore, 1) := by decide +kernel
theorem dX6_readsItem_56 : decode cX6_readsItem 56 = .ok (.aload_n 0, 1) := by decide +kernel
theorem dX6_readsItem_57 : decode cX6_readsItem 57 = .ok (.getfield 37, 3) := by decide +kernel
theorem dX6_readsItem_60 : decode cX6_readsItem 60 = .ok (.aload_n 0, 1) := by decide +kernel
theorem dX6_readsItem_61 : decode cX6_readsItem 61 = .ok (.getfield 126, 3) := by decide +kernel
theorem dX6_readsItem_64 : decode cX6_readsItem 64 = .ok (.iconst 0, 1) := by decide +kernel
theorem dX6_readsItem_65 : decode cX6_readsItem 65 = .ok (.iastore, 1) := by decide +kernel
theorem dX6_readsItem_66 : decode cX6_readsItem 66 = .ok (.aload_n 0, 1) := by decide +kernel
theorem dX6_readsItem_67 : decode cX6_readsItem 67 = .ok (.dup, 1) := by decide +kernel
theorem dX6_readsItem_68 : decode cX6_readsItem 68 = .ok (.getfield 126, 3) := by decide +kernel
theorem dX6_readsItem_71 : decode cX6_readsItem 71 = .ok (.iconst 1, 1) := by decide +kernel
theorem dX6_readsItem_72 : decode cX6_readsItem 72 = .ok (.iadd, 1) := by decide +kernel
theorem dX6_readsItem_73 : decode cX6_readsItem 73 = .ok (.putfield 126, 3) := by decide +kernel
theorem dX6_readsItem_76 : decode cX6_readsItem 76 = .ok (.aload_n 0, 1) := by decide +kernel
theorem dX6_readsItem_77 : decode cX6_readsItem 77 = .ok (.dup, 1) := by decide +kernel
theorem dX6_readsItem_78 : decode cX6_readsItem 78 = .ok (.getfield 120, 3) := by decide +kernel
theorem dX6_readsItem_81 : decode cX6_readsItem 81 = .ok (.iconst 1, 1) := by decide +kernel
theorem dX6_readsItem_82 : decode cX6_readsItem 82 = .ok (.iadd, 1) := by decide +kernel
theorem dX6_readsItem_83 : decode cX6_readsItem 83 = .ok (.putfield 120, 3) := by decide +kernel
theorem dX6_readsItem_86 : decode cX6_readsItem 86 = .ok (.iload_n 2, 1) := by decide +kernel
theorem dX6_readsItem_87 : decode cX6_readsItem 87 = .ok (.ifCond .eq 28, 3) := by decide +kernel
theorem dX6_readsItem_90 : decode cX6_readsItem 90 = .ok (.aload_n 0, 1) := by decide +kernel
theorem dX6_readsItem_91 : decode cX6_readsItem 91 = .ok (.invokevirtual 123, 3) := by decide +kernel
theorem dX6_readsItem_94 : decode cX6_readsItem 94 = .ok (.bipush 43, 2) := by decide +kernel
theorem dX6_readsItem_96 : decode cX6_readsItem 96 = .ok (.if_icmp .eq 12, 3) := by decide +kernel
theorem dX6_readsItem_99 : decode cX6_readsItem 99 = .ok (.aload_n 0, 1) := by decide +kernel
theorem dX6_readsItem_100 : decode cX6_readsItem 100 = .ok (.invokevirtual 123, 3) := by decide +kernel
theorem dX6_readsItem_103 : decode cX6_readsItem 103 = .ok (.bipush 45, 2) := by decide +kernel
theorem dX6_readsItem_105 : decode cX6_readsItem 105 = .ok (.if_icmp .ne 10, 3) := by decide +kernel
theorem dX6_readsItem_108 : decode cX6_readsItem 108 = .ok (.aload_n 0, 1) := by decide +kernel
theorem dX6_readsItem_109 : decode cX6_readsItem 109 = .ok (.invokevirtual 129, 3) := by decide +kernel
theorem dX6_readsItem_112 : decode cX6_readsItem 112 = .ok (.ifCond .eq 7, 3) := by decide +kernel
theorem dX6_readsItem_115 : decode cX6_readsItem 115 = .ok (.iconst 1, 1) := by decide +kernel
theorem dX6_readsItem_116 : decode cX6_readsItem 116 = .ok (.goto 4, 3) := by decide +kernel
theorem dX6_readsItem_119 : decode cX6_readsItem 119 = .ok (.iconst 0, 1) := by decide +kernel
theorem dX6_readsItem_120 : decode cX6_readsItem 120 = .ok (.ireturn, 1) := by decide +kernel
set_option maxRecDepth 20000 in
theorem ggX6_reads_X6_readsItem : GoodIn wsX6_reads wsX6_readsItem := goodIn_r _ [8, 2, 9, 10, 1, 11, 12, 13, 7, 14, 3, 15, 16, 17, 18, 19, 20, 21, 22, 23, 24, 25, 26, 27, 28, 29, 30, 31, 32, 33, 34, 35, 36, 37, 38, 39] (by decide +kernel) (by decide +kernel)
set_option maxRecDepth 20000 in
theorem gX6_reads_X6_readsItem : GoodIn wsX6_reads (wsV RX6 133 RX6 yX6_readsItem wsX6_readsItem) := goodIn_app (goodIn_of _ (by decide +kernel)) ggX6_reads_X6_readsItem
theorem dX6_reads_0 : decode cX6_reads 0 = .ok (.aload_n 0, 1) := by decide +kernel
theorem dX6_reads_1 : decode cX6_reads 1 = .ok (.iconst 0, 1) := by decide +kernel
theorem dX6_reads_2 : decode cX6_reads 2 = .ok (.putfield 120, 3) := by decide +kernel
theorem dX6_reads_5 : decode cX6_reads 5 = .ok (.aload_n 0, 1) := by decide +kernel
theorem dX6_reads_6 : decode cX6_reads 6 = .ok (.iconst 0, 1) := by decide +kernel
theorem dX6_reads_7 : decode cX6_reads 7 = .ok (.putfield 126, 3) := by decide +kernel
theorem dX6_reads_10 : decode cX6_reads 10 = .ok (.aload_n 0, 1) := by decide +kernel
theorem dX6_reads_11 : decode cX6_reads 11 = .ok (.invokevirtual 133, 3) := by decide +kernel
theorem dX6_reads_14 : decode cX6_reads 14 = .ok (.istore_n 1, 1) := by decide +kernel
theorem dX6_reads_15 : decode cX6_reads 15 = .ok (.iload_n 1, 1) := by decide +kernel
theorem dX6_reads_16 : decode cX6_reads 16 = .ok (.ifCond .eq 22, 3) := by decide +kernel
theorem dX6_reads_19 : decode cX6_reads 19 = .ok (.aload_n 0, 1) := by decide +kernel
theorem dX6_reads_20 : decode cX6_reads 20 = .ok (.getfield 120, 3) := by decide +kernel
theorem dX6_reads_23 : decode cX6_reads 23 = .ok (.aload_n 0, 1) := by decide +kernel
theorem dX6_reads_24 : decode cX6_reads 24 = .ok (.getfield 117, 3) := by decide +kernel
theorem dX6_reads_27 : decode cX6_reads 27 = .ok (.if_icmp .ge 11, 3) := by decide +kernel
theorem dX6_reads_30 : decode cX6_reads 30 = .ok (.aload_n 0, 1) := by decide +kernel
theorem dX6_reads_31 : decode cX6_reads 31 = .ok (.invokevirtual 133, 3) := by decide +kernel
theorem dX6_reads_34 : decode cX6_reads 34 = .ok (.istore_n 1, 1) := by decide +kernel
theorem dX6_reads_35 : decode cX6_reads 35 = .ok (.goto (-20), 3) := by decide +kernel
theorem dX6_reads_38 : decode cX6_reads 38 = .ok (.iload_n 1, 1) := by decide +kernel
theorem dX6_reads_39 : decode cX6_reads 39 = .ok (.ireturn, 1) := by decide +kernel
set_option maxRecDepth 20000 in
theorem ggX6_firstError_X6_reads : GoodIn wsX6_firstError wsX6_reads := goodIn_r _ [8, 3, 9, 2, 10, 11, 12, 7, 13, 14, 15, 16, 17, 18, 19, 20, 21, 22, 23, 24, 25, 26, 27, 28, 29, 30, 31, 32, 33, 34, 35, 36, 37, 38, 39, 40, 41, 42, 43, 44] (by decide +kernel) (by decide +kernel)
set_option maxRecDepth 20000 in
theorem gX6_firstError_X6_reads : GoodIn wsX6_firstError (wsV RX6 136 RX6 yX6_reads wsX6_reads) := goodIn_app (goodIn_of _ (by decide +kernel)) ggX6_firstError_X6_reads
theorem dX6_firstError_0 : decode cX6_firstError 0 = .ok (.aload_n 0, 1) := by decide +kernel
theorem dX6_firstError_1 : decode cX6_firstError 1 = .ok (.iconst 0, 1) := by decide +kernel
theorem dX6_firstError_2 : decode cX6_firstError 2 = .ok (.putfield 40, 3) := by decide +kernel
theorem dX6_firstError_5 : decode cX6_firstError 5 = .ok (.aload_n 0, 1) := by decide +kernel
theorem dX6_firstError_6 : decode cX6_firstError 6 = .ok (.invokevirtual 136, 3) := by decide +kernel
theorem dX6_firstError_9 : decode cX6_firstError 9 = .ok (.ifCond .eq 10, 3) := by decide +kernel
theorem dX6_firstError_12 : decode cX6_firstError 12 = .ok (.aload_n 0, 1) := by decide +kernel
theorem dX6_firstError_13 : decode cX6_firstError 13 = .ok (.getfield 117, 3) := by decide +kernel
theorem dX6_firstError_16 : decode cX6_firstError 16 = .ok (.goto 7, 3) := by decide +kernel
theorem dX6_firstError_19 : decode cX6_firstError 19 = .ok (.aload_n 0, 1) := by decide +kernel
theorem dX6_firstError_20 : decode cX6_firstError 20 = .ok (.getfield 120, 3) := by decide +kernel
theorem dX6_firstError_23 : decode cX6_firstError 23 = .ok (.ireturn, 1) := by decide +kernel
set_option maxRecDepth 20000 in
theorem ggX6_line_X6_reads : GoodIn wsX6_line wsX6_reads := goodIn_r _ [11, 12, 3, 6, 13, 14, 15, 10, 16, 4, 5, 17, 18, 19, 20, 21, 22, 23, 24, 25, 26, 27, 28, 39, 40, 41, 42, 43, 44, 45, 46, 47, 48, 49, 50, 51, 52, 53, 54, 55] (by decide +kernel) (by decide +kernel)
set_option maxRecDepth 20000 in
theorem gX6_line_X6_reads : GoodIn wsX6_line (wsV RX6 136 RX6 yX6_reads wsX6_reads) := goodIn_app (goodIn_of _ (by decide +kernel)) ggX6_line_X6_reads
set_option maxRecDepth 20000 in
theorem ggX6_line_X6_fails : GoodIn wsX6_line wsX6_fails := goodIn_r _ [32, 1, 39, 40, 41, 42, 43, 44, 45, 46, 47, 48, 49, 50, 51, 52, 53, 54, 55] (by decide +kernel) (by decide +kernel)
set_option maxRecDepth 20000 in
theorem gX6_line_X6_fails : GoodIn wsX6_line (wsV RX6 97 RX6 yX6_fails wsX6_fails) := goodIn_app (goodIn_of _ (by decide +kernel)) ggX6_line_X6_fails
set_option maxRecDepth 20000 in
theorem ggX6_line_X6_saves : GoodIn wsX6_line wsX6_saves := goodIn_r _ [36, 37, 38, 2, 39, 40, 41, 42, 43, 44, 45, 46, 47, 48, 49, 50, 51, 52, 53, 54, 55] (by decide +kernel) (by decide +kernel)
set_option maxRecDepth 20000 in
theorem gX6_line_X6_saves : GoodIn wsX6_line (wsV RX6 100 RX6 yX6_saves wsX6_saves) := goodIn_app (goodIn_of _ (by decide +kernel)) ggX6_line_X6_saves
theorem dX6_line_0 : decode cX6_line 0 = .ok (.aload_n 0, 1) := by decide +kernel
theorem dX6_line_1 : decode cX6_line 1 = .ok (.iconst 0, 1) := by decide +kernel
theorem dX6_line_2 : decode cX6_line 2 = .ok (.putfield 40, 3) := by decide +kernel
theorem dX6_line_5 : decode cX6_line 5 = .ok (.aload_n 0, 1) := by decide +kernel
theorem dX6_line_6 : decode cX6_line 6 = .ok (.invokevirtual 136, 3) := by decide +kernel
theorem dX6_line_9 : decode cX6_line 9 = .ok (.ifCond .ne 9, 3) := by decide +kernel
theorem dX6_line_12 : decode cX6_line 12 = .ok (.aload_n 0, 1) := by decide +kernel
theorem dX6_line_13 : decode cX6_line 13 = .ok (.iconst 1, 1) := by decide +kernel
theorem dX6_line_14 : decode cX6_line 14 = .ok (.invokevirtual 97, 3) := by decide +kernel
theorem dX6_line_17 : decode cX6_line 17 = .ok (.ireturn, 1) := by decide +kernel
theorem dX6_line_18 : decode cX6_line 18 = .ok (.aload_n 0, 1) := by decide +kernel
theorem dX6_line_19 : decode cX6_line 19 = .ok (.invokevirtual 100, 3) := by decide +kernel
theorem dX6_line_22 : decode cX6_line 22 = .ok (.iconst 0, 1) := by decide +kernel
theorem dX6_line_23 : decode cX6_line 23 = .ok (.istore_n 1, 1) := by decide +kernel
theorem dX6_line_24 : decode cX6_line 24 = .ok (.iload_n 1, 1) := by decide +kernel
theorem dX6_line_25 : decode cX6_line 25 = .ok (.bipush 20, 2) := by decide +kernel
theorem dX6_line_27 : decode cX6_line 27 = .ok (.if_icmp .ge 63, 3) := by decide +kernel
theorem dX6_line_30 : decode cX6_line 30 = .ok (.aload_n 0, 1) := by decide +kernel
theorem dX6_line_31 : decode cX6_line 31 = .ok (.getfield 7, 3) := by decide +kernel
theorem dX6_line_34 : decode cX6_line 34 = .ok (.bipush 8, 2) := by decide +kernel
theorem dX6_line_36 : decode cX6_line 36 = .ok (.iload_n 1, 1) := by decide +kernel
theorem dX6_line_37 : decode cX6_line 37 = .ok (.iadd, 1) := by decide +kernel
theorem dX6_line_38 : decode cX6_line 38 = .ok (.iload_n 1, 1) := by decide +kernel
theorem dX6_line_39 : decode cX6_line 39 = .ok (.aload_n 0, 1) := by decide +kernel
theorem dX6_line_40 : decode cX6_line 40 = .ok (.getfield 126, 3) := by decide +kernel
theorem dX6_line_43 : decode cX6_line 43 = .ok (.if_icmp .ge 12, 3) := by decide +kernel
theorem dX6_line_46 : decode cX6_line 46 = .ok (.aload_n 0, 1) := by decide +kernel
theorem dX6_line_47 : decode cX6_line 47 = .ok (.getfield 34, 3) := by decide +kernel
theorem dX6_line_50 : decode cX6_line 50 = .ok (.iload_n 1, 1) := by decide +kernel
theorem dX6_line_51 : decode cX6_line 51 = .ok (.iaload, 1) := by decide +kernel
theorem dX6_line_52 : decode cX6_line 52 = .ok (.goto 4, 3) := by decide +kernel
theorem dX6_line_55 : decode cX6_line 55 = .ok (.iconst 0, 1) := by decide +kernel
theorem dX6_line_56 : decode cX6_line 56 = .ok (.iastore, 1) := by decide +kernel
theorem dX6_line_57 : decode cX6_line 57 = .ok (.aload_n 0, 1) := by decide +kernel
theorem dX6_line_58 : decode cX6_line 58 = .ok (.getfield 7, 3) := by decide +kernel
theorem dX6_line_61 : decode cX6_line 61 = .ok (.bipush 28, 2) := by decide +kernel
theorem dX6_line_63 : decode cX6_line 63 = .ok (.iload_n 1, 1) := by decide +kernel
theorem dX6_line_64 : decode cX6_line 64 = .ok (.iadd, 1) := by decide +kernel
theorem dX6_line_65 : decode cX6_line 65 = .ok (.iload_n 1, 1) := by decide +kernel
theorem dX6_line_66 : decode cX6_line 66 = .ok (.aload_n 0, 1) := by decide +kernel
theorem dX6_line_67 : decode cX6_line 67 = .ok (.getfield 126, 3) := by decide +kernel
theorem dX6_line_70 : decode cX6_line 70 = .ok (.if_icmp .ge 12, 3) := by decide +kernel
theorem dX6_line_73 : decode cX6_line 73 = .ok (.aload_n 0, 1) := by decide +kernel
theorem dX6_line_74 : decode cX6_line 74 = .ok (.getfield 37, 3) := by decide +kernel
theorem dX6_line_77 : decode cX6_line 77 = .ok (.iload_n 1, 1) := by decide +kernel
theorem dX6_line_78 : decode cX6_line 78 = .ok (.iaload, 1) := by decide +kernel
theorem dX6_line_79 : decode cX6_line 79 = .ok (.goto 4, 3) := by decide +kernel
theorem dX6_line_82 : decode cX6_line 82 = .ok (.iconst 0, 1) := by decide +kernel
theorem dX6_line_83 : decode cX6_line 83 = .ok (.iastore, 1) := by decide +kernel
theorem dX6_line_84 : decode cX6_line 84 = .ok (.iinc 1 1, 3) := by decide +kernel
theorem dX6_line_87 : decode cX6_line 87 = .ok (.goto (-63), 3) := by decide +kernel
theorem dX6_line_90 : decode cX6_line 90 = .ok (.aload_n 0, 1) := by decide +kernel
theorem dX6_line_91 : decode cX6_line 91 = .ok (.getfield 7, 3) := by decide +kernel
theorem dX6_line_94 : decode cX6_line 94 = .ok (.bipush 7, 2) := by decide +kernel
theorem dX6_line_96 : decode cX6_line 96 = .ok (.aload_n 0, 1) := by decide +kernel
theorem dX6_line_97 : decode cX6_line 97 = .ok (.getfield 126, 3) := by decide +kernel
theorem dX6_line_100 : decode cX6_line 100 = .ok (.iastore, 1) := by decide +kernel
theorem dX6_line_101 : decode cX6_line 101 = .ok (.aload_n 0, 1) := by decide +kernel
theorem dX6_line_102 : decode cX6_line 102 = .ok (.iconst 0, 1) := by decide +kernel
theorem dX6_line_103 : decode cX6_line 103 = .ok (.putfield 117, 3) := by decide +kernel
theorem dX6_line_106 : decode cX6_line 106 = .ok (.aload_n 0, 1) := by decide +kernel
theorem dX6_line_107 : decode cX6_line 107 = .ok (.getfield 126, 3) := by decide +kernel
theorem dX6_line_110 : decode cX6_line 110 = .ok (.ireturn, 1) := by decide +kernel
set_option maxRecDepth 20000 in
theorem ggX6_undo_X6_fails : GoodIn wsX6_undo wsX6_fails := goodIn_r _ [9, 1, 10, 11, 12, 13, 14, 15, 16, 17, 18, 19, 20, 21, 22, 23, 24, 25, 26] (by decide +kernel) (by decide +kernel)
set_option maxRecDepth 20000 in
theorem gX6_undo_X6_fails : GoodIn wsX6_undo (wsV RX6 97 RX6 yX6_fails wsX6_fails) := goodIn_app (goodIn_of _ (by decide +kernel)) ggX6_undo_X6_fails
theorem dX6_undo_0 : decode cX6_undo 0 = .ok (.aload_n 0, 1) := by decide +kernel
theorem dX6_undo_1 : decode cX6_undo 1 = .ok (.iconst 0, 1) := by decide +kernel
theorem dX6_undo_2 : decode cX6_undo 2 = .ok (.putfield 40, 3) := by decide +kernel
theorem dX6_undo_5 : decode cX6_undo 5 = .ok (.aload_n 0, 1) := by decide +kernel
theorem dX6_undo_6 : decode cX6_undo 6 = .ok (.getfield 52, 3) := by decide +kernel
theorem dX6_undo_9 : decode cX6_undo 9 = .ok (.ifCond .ne 9, 3) := by decide +kernel
theorem dX6_undo_12 : decode cX6_undo 12 = .ok (.aload_n 0, 1) := by decide +kernel
theorem dX6_undo_13 : decode cX6_undo 13 = .ok (.iconst 1, 1) := by decide +kernel
theorem dX6_undo_14 : decode cX6_undo 14 = .ok (.invokevirtual 97, 3) := by decide +kernel
theorem dX6_undo_17 : decode cX6_undo 17 = .ok (.ireturn, 1) := by decide +kernel
theorem dX6_undo_18 : decode cX6_undo 18 = .ok (.aload_n 0, 1) := by decide +kernel
theorem dX6_undo_19 : decode cX6_undo 19 = .ok (.dup, 1) := by decide +kernel
theorem dX6_undo_20 : decode cX6_undo 20 = .ok (.getfield 52, 3) := by decide +kernel
theorem dX6_undo_23 : decode cX6_undo 23 = .ok (.iconst 1, 1) := by decide +kernel
theorem dX6_undo_24 : decode cX6_undo 24 = .ok (.isub, 1) := by decide +kernel
theorem dX6_undo_25 : decode cX6_undo 25 = .ok (.putfield 52, 3) := by decide +kernel
theorem dX6_undo_28 : decode cX6_undo 28 = .ok (.iconst 0, 1) := by decide +kernel
theorem dX6_undo_29 : decode cX6_undo 29 = .ok (.istore_n 1, 1) := by decide +kernel
theorem dX6_undo_30 : decode cX6_undo 30 = .ok (.iload_n 1, 1) := by decide +kernel
theorem dX6_undo_31 : decode cX6_undo 31 = .ok (.bipush 48, 2) := by decide +kernel
theorem dX6_undo_33 : decode cX6_undo 33 = .ok (.if_icmp .ge 29, 3) := by decide +kernel
theorem dX6_undo_36 : decode cX6_undo 36 = .ok (.aload_n 0, 1) := by decide +kernel
theorem dX6_undo_37 : decode cX6_undo 37 = .ok (.getfield 7, 3) := by decide +kernel
theorem dX6_undo_40 : decode cX6_undo 40 = .ok (.iload_n 1, 1) := by decide +kernel
theorem dX6_undo_41 : decode cX6_undo 41 = .ok (.aload_n 0, 1) := by decide +kernel
theorem dX6_undo_42 : decode cX6_undo 42 = .ok (.getfield 13, 3) := by decide +kernel
theorem dX6_undo_45 : decode cX6_undo 45 = .ok (.bipush 48, 2) := by decide +kernel
theorem dX6_undo_47 : decode cX6_undo 47 = .ok (.aload_n 0, 1) := by decide +kernel
theorem dX6_undo_48 : decode cX6_undo 48 = .ok (.getfield 52, 3) := by decide +kernel
theorem dX6_undo_51 : decode cX6_undo 51 = .ok (.imul, 1) := by decide +kernel
theorem dX6_undo_52 : decode cX6_undo 52 = .ok (.iload_n 1, 1) := by decide +kernel
theorem dX6_undo_53 : decode cX6_undo 53 = .ok (.iadd, 1) := by decide +kernel
theorem dX6_undo_54 : decode cX6_undo 54 = .ok (.iaload, 1) := by decide +kernel
theorem dX6_undo_55 : decode cX6_undo 55 = .ok (.iastore, 1) := by decide +kernel
theorem dX6_undo_56 : decode cX6_undo 56 = .ok (.iinc 1 1, 3) := by decide +kernel
theorem dX6_undo_59 : decode cX6_undo 59 = .ok (.goto (-29), 3) := by decide +kernel
theorem dX6_undo_62 : decode cX6_undo 62 = .ok (.aload_n 0, 1) := by decide +kernel
theorem dX6_undo_63 : decode cX6_undo 63 = .ok (.getfield 52, 3) := by decide +kernel
theorem dX6_undo_66 : decode cX6_undo 66 = .ok (.ireturn, 1) := by decide +kernel
theorem dX6_keep_0 : decode cX6_keep 0 = .ok (.aload_n 0, 1) := by decide +kernel
theorem dX6_keep_1 : decode cX6_keep 1 = .ok (.iconst 0, 1) := by decide +kernel
theorem dX6_keep_2 : decode cX6_keep 2 = .ok (.putfield 40, 3) := by decide +kernel
theorem dX6_keep_5 : decode cX6_keep 5 = .ok (.iconst 0, 1) := by decide +kernel
theorem dX6_keep_6 : decode cX6_keep 6 = .ok (.istore_n 1, 1) := by decide +kernel
theorem dX6_keep_7 : decode cX6_keep 7 = .ok (.iload_n 1, 1) := by decide +kernel
theorem dX6_keep_8 : decode cX6_keep 8 = .ok (.bipush 48, 2) := by decide +kernel
theorem dX6_keep_10 : decode cX6_keep 10 = .ok (.if_icmp .ge 21, 3) := by decide +kernel
theorem dX6_keep_13 : decode cX6_keep 13 = .ok (.aload_n 0, 1) := by decide +kernel
theorem dX6_keep_14 : decode cX6_keep 14 = .ok (.getfield 16, 3) := by decide +kernel
theorem dX6_keep_17 : decode cX6_keep 17 = .ok (.iload_n 1, 1) := by decide +kernel
theorem dX6_keep_18 : decode cX6_keep 18 = .ok (.aload_n 0, 1) := by decide +kernel
theorem dX6_keep_19 : decode cX6_keep 19 = .ok (.getfield 7, 3) := by decide +kernel
theorem dX6_keep_22 : decode cX6_keep 22 = .ok (.iload_n 1, 1) := by decide +kernel
theorem dX6_keep_23 : decode cX6_keep 23 = .ok (.iaload, 1) := by decide +kernel
theorem dX6_keep_24 : decode cX6_keep 24 = .ok (.iastore, 1) := by decide +kernel
theorem dX6_keep_25 : decode cX6_keep 25 = .ok (.iinc 1 1, 3) := by decide +kernel
theorem dX6_keep_28 : decode cX6_keep 28 = .ok (.goto (-21), 3) := by decide +kernel
theorem dX6_keep_31 : decode cX6_keep 31 = .ok (.aload_n 0, 1) := by decide +kernel
theorem dX6_keep_32 : decode cX6_keep 32 = .ok (.iconst 1, 1) := by decide +kernel
theorem dX6_keep_33 : decode cX6_keep 33 = .ok (.putfield 139, 3) := by decide +kernel
theorem dX6_keep_36 : decode cX6_keep 36 = .ok (.aload_n 0, 1) := by decide +kernel
theorem dX6_keep_37 : decode cX6_keep 37 = .ok (.getfield 7, 3) := by decide +kernel
theorem dX6_keep_40 : decode cX6_keep 40 = .ok (.bipush 7, 2) := by decide +kernel
theorem dX6_keep_42 : decode cX6_keep 42 = .ok (.iaload, 1) := by decide +kernel
theorem dX6_keep_43 : decode cX6_keep 43 = .ok (.ireturn, 1) := by decide +kernel
set_option maxRecDepth 20000 in
theorem ggX6_restore_X6_fails : GoodIn wsX6_restore wsX6_fails := goodIn_r _ [9, 1, 16, 17, 18, 19, 20, 21, 22, 23, 24, 25, 26, 27, 28, 29, 30, 31, 32] (by decide +kernel) (by decide +kernel)
set_option maxRecDepth 20000 in
theorem gX6_restore_X6_fails : GoodIn wsX6_restore (wsV RX6 97 RX6 yX6_fails wsX6_fails) := goodIn_app (goodIn_of _ (by decide +kernel)) ggX6_restore_X6_fails
set_option maxRecDepth 20000 in
theorem ggX6_restore_X6_saves : GoodIn wsX6_restore wsX6_saves := goodIn_r _ [13, 14, 15, 3, 16, 17, 18, 19, 20, 21, 22, 23, 24, 25, 26, 27, 28, 29, 30, 31, 32] (by decide +kernel) (by decide +kernel)
set_option maxRecDepth 20000 in
theorem gX6_restore_X6_saves : GoodIn wsX6_restore (wsV RX6 100 RX6 yX6_saves wsX6_saves) := goodIn_app (goodIn_of _ (by decide +kernel)) ggX6_restore_X6_saves
theorem dX6_restore_0 : decode cX6_restore 0 = .ok (.aload_n 0, 1) := by decide +kernel
theorem dX6_restore_1 : decode cX6_restore 1 = .ok (.iconst 0, 1) := by decide +kernel
theorem dX6_restore_2 : decode cX6_restore 2 = .ok (.putfield 40, 3) := by decide +kernel
theorem dX6_restore_5 : decode cX6_restore 5 = .ok (.aload_n 0, 1) := by decide +kernel
theorem dX6_restore_6 : decode cX6_restore 6 = .ok (.getfield 139, 3) := by decide +kernel
theorem dX6_restore_9 : decode cX6_restore 9 = .ok (.ifCond .ne 9, 3) := by decide +kernel
theorem dX6_restore_12 : decode cX6_restore 12 = .ok (.aload_n 0, 1) := by decide +kernel
theorem dX6_restore_13 : decode cX6_restore 13 = .ok (.iconst 1, 1) := by decide +kernel
theorem dX6_restore_14 : decode cX6_restore 14 = .ok (.invokevirtual 97, 3) := by decide +kernel
theorem dX6_restore_17 : decode cX6_restore 17 = .ok (.ireturn, 1) := by decide +kernel
theorem dX6_restore_18 : decode cX6_restore 18 = .ok (.aload_n 0, 1) := by decide +kernel
theorem dX6_restore_19 : decode cX6_restore 19 = .ok (.invokevirtual 100, 3) := by decide +kernel
theorem dX6_restore_22 : decode cX6_restore 22 = .ok (.iconst 0, 1) := by decide +kernel
theorem dX6_restore_23 : decode cX6_restore 23 = .ok (.istore_n 1, 1) := by decide +kernel
theorem dX6_restore_24 : decode cX6_restore 24 = .ok (.iload_n 1, 1) := by decide +kernel
theorem dX6_restore_25 : decode cX6_restore 25 = .ok (.bipush 48, 2) := by decide +kernel
theorem dX6_restore_27 : decode cX6_restore 27 = .ok (.if_icmp .ge 21, 3) := by decide +kernel
theorem dX6_restore_30 : decode cX6_restore 30 = .ok (.aload_n 0, 1) := by decide +kernel
theorem dX6_restore_31 : decode cX6_restore 31 = .ok (.getfield 7, 3) := by decide +kernel
theorem dX6_restore_34 : decode cX6_restore 34 = .ok (.iload_n 1, 1) := by decide +kernel
theorem dX6_restore_35 : decode cX6_restore 35 = .ok (.aload_n 0, 1) := by decide +kernel
theorem dX6_restore_36 : decode cX6_restore 36 = .ok (.getfield 16, 3) := by decide +kernel
theorem dX6_restore_39 : decode cX6_restore 39 = .ok (.iload_n 1, 1) := by decide +kernel
theorem dX6_restore_40 : decode cX6_restore 40 = .ok (.iaload, 1) := by decide +kernel
theorem dX6_restore_41 : decode cX6_restore 41 = .ok (.iastore, 1) := by decide +kernel
theorem dX6_restore_42 : decode cX6_restore 42 = .ok (.iinc 1 1, 3) := by decide +kernel
theorem dX6_restore_45 : decode cX6_restore 45 = .ok (.goto (-21), 3) := by decide +kernel
theorem dX6_restore_48 : decode cX6_restore 48 = .ok (.aload_n 0, 1) := by decide +kernel
theorem dX6_restore_49 : decode cX6_restore 49 = .ok (.getfield 7, 3) := by decide +kernel
theorem dX6_restore_52 : decode cX6_restore 52 = .ok (.bipush 7, 2) := by decide +kernel
theorem dX6_restore_54 : decode cX6_restore 54 = .ok (.iaload, 1) := by decide +kernel
theorem dX6_restore_55 : decode cX6_restore 55 = .ok (.ireturn, 1) := by decide +kernel
set_option maxRecDepth 20000 in
theorem ggX6_letter_X6_in : GoodIn wsX6_letter wsX6_in := goodIn_r _ [5] (by decide +kernel) (by decide +kernel)
set_option maxRecDepth 20000 in
theorem gX6_letter_X6_in : GoodIn wsX6_letter (va_wsS RX6 44 yX6_in wsX6_in) := goodIn_app (goodIn_of _ (by decide +kernel)) ggX6_letter_X6_in
set_option maxRecDepth 20000 in
theorem ggX6_letter_X6_fails : GoodIn wsX6_letter wsX6_fails := goodIn_r _ [9, 1, 19, 20, 21, 22, 23, 24, 25, 26, 27, 28, 29, 30, 31, 32, 33, 34, 35] (by decide +kernel) (by decide +kernel)
set_option maxRecDepth 20000 in
theorem gX6_letter_X6_fails : GoodIn wsX6_letter (wsV RX6 97 RX6 yX6_fails wsX6_fails) := goodIn_app (goodIn_of _ (by decide +kernel)) ggX6_letter_X6_fails
set_option maxRecDepth 20000 in
theorem ggX6_letter_X6_widthOf : GoodIn wsX6_letter wsX6_widthOf := goodIn_r _ [12] (by decide +kernel) (by decide +kernel)
set_option maxRecDepth 20000 in
theorem gX6_letter_X6_widthOf : GoodIn wsX6_letter (va_wsS RX6 88 yX6_widthOf wsX6_widthOf) := goodIn_app (goodIn_of _ (by decide +kernel)) ggX6_letter_X6_widthOf
set_option maxRecDepth 20000 in
theorem ggX6_letter_X6_leftShape : GoodIn wsX6_letter wsX6_leftShape := goodIn_r _ [15] (by decide +kernel) (by decide +kernel)
set_option maxRecDepth 20000 in
theorem gX6_letter_X6_leftShape : GoodIn wsX6_letter (va_wsS RX6 66 yX6_leftShape wsX6_leftShape) := goodIn_app (goodIn_of _ (by decide +kernel)) ggX6_letter_X6_leftShape
set_option maxRecDepth 20000 in
theorem ggX6_letter_X6_rightShape : GoodIn wsX6_letter wsX6_rightShape := goodIn_r _ [18] (by decide +kernel) (by decide +kernel)
set_option maxRecDepth 20000 in
theorem gX6_letter_X6_rightShape : GoodIn wsX6_letter (va_wsS RX6 59 yX6_rightShape wsX6_rightShape) := goodIn_app (goodIn_of _ (by decide +kernel)) ggX6_letter_X6_rightShape
theorem dX6_letter_0 : decode cX6_letter 0 = .ok (.aload_n 0, 1) := by decide +kernel
theorem dX6_letter_1 : decode cX6_letter 1 = .ok (.iconst 0, 1) := by decide +kernel
theorem dX6_letter_2 : decode cX6_letter 2 = .ok (.putfield 40, 3) := by decide +kernel
theorem dX6_letter_5 : decode cX6_letter 5 = .ok (.iload_n 1, 1) := by decide +kernel
theorem dX6_letter_6 : decode cX6_letter 6 = .ok (.iconst 0, 1) := by decide +kernel
theorem dX6_letter_7 : decode cX6_letter 7 = .ok (.bipush 25, 2) := by decide +kernel
theorem dX6_letter_9 : decode cX6_letter 9 = .ok (.invokestatic 44, 3) := by decide +kernel
theorem dX6_letter_12 : decode cX6_letter 12 = .ok (.ifCond .ne 9, 3) := by decide +kernel
theorem dX6_letter_15 : decode cX6_letter 15 = .ok (.aload_n 0, 1) := by decide +kernel
theorem dX6_letter_16 : decode cX6_letter 16 = .ok (.iconst 1, 1) := by decide +kernel
theorem dX6_letter_17 : decode cX6_letter 17 = .ok (.invokevirtual 97, 3) := by decide +kernel
theorem dX6_letter_20 : decode cX6_letter 20 = .ok (.ireturn, 1) := by decide +kernel
theorem dX6_letter_21 : decode cX6_letter 21 = .ok (.iload_n 2, 1) := by decide +kernel
theorem dX6_letter_22 : decode cX6_letter 22 = .ok (.tableswitch 41 0 2 #[26, 31, 36], 26) := by decide +kernel
theorem dX6_letter_48 : decode cX6_letter 48 = .ok (.iload_n 1, 1) := by decide +kernel
theorem dX6_letter_49 : decode cX6_letter 49 = .ok (.invokestatic 88, 3) := by decide +kernel
theorem dX6_letter_52 : decode cX6_letter 52 = .ok (.ireturn, 1) := by decide +kernel
theorem dX6_letter_53 : decode cX6_letter 53 = .ok (.iload_n 1, 1) := by decide +kernel
theorem dX6_letter_54 : decode cX6_letter 54 = .ok (.invokestatic 66, 3) := by decide +kernel
theorem dX6_letter_57 : decode cX6_letter 57 = .ok (.ireturn, 1) := by decide +kernel
theorem dX6_letter_58 : decode cX6_letter 58 = .ok (.iload_n 1, 1) := by decide +kernel
theorem dX6_letter_59 : decode cX6_letter 59 = .ok (.invokestatic 59, 3) := by decide +kernel
theorem dX6_letter_62 : decode cX6_letter 62 = .ok (.ireturn, 1) := by decide +kernel
theorem dX6_letter_63 : decode cX6_letter 63 = .ok (.aload_n 0, 1) := by decide +kernel
theorem dX6_letter_64 : decode cX6_letter 64 = .ok (.iconst 2, 1) := by decide +kernel
theorem dX6_letter_65 : decode cX6_letter 65 = .ok (.invokevirtual 97, 3) := by decide +kernel
theorem dX6_letter_68 : decode cX6_letter 68 = .ok (.ireturn, 1) := by decide +kernel
set_option maxRecDepth 20000 in
theorem ggX6_indent_X6_in : GoodIn wsX6_indent wsX6_in := goodIn_r _ [5] (by decide +kernel) (by decide +kernel)
set_option maxRecDepth 20000 in
theorem gX6_indent_X6_in : GoodIn wsX6_indent (va_wsS RX6 44 yX6_in wsX6_in) := goodIn_app (goodIn_of _ (by decide +kernel)) ggX6_indent_X6_in
set_option maxRecDepth 20000 in
theorem ggX6_indent_X6_back : GoodIn wsX6_indent wsX6_back := goodIn_r _ [9, 10, 11, 12, 4, 13, 2, 3, 5, 18, 19, 20, 21, 22, 23, 24, 25, 26, 27, 28, 29, 30, 31, 32, 33, 34] (by decide +kernel) (by decide +kernel)
set_option maxRecDepth 20000 in
theorem gX6_indent_X6_back : GoodIn wsX6_indent (wsV RX6 62 RX6 yX6_back wsX6_back) := goodIn_app (goodIn_of _ (by decide +kernel)) ggX6_indent_X6_back
set_option maxRecDepth 20000 in
theorem ggX6_indent_X6_fails : GoodIn wsX6_indent wsX6_fails := goodIn_r _ [17, 1, 18, 19, 20, 21, 22, 23, 24, 25, 26, 27, 28, 29, 30, 31, 32, 33, 34] (by decide +kernel) (by decide +kernel)
set_option maxRecDepth 20000 in
theorem gX6_indent_X6_fails : GoodIn wsX6_indent (wsV RX6 97 RX6 yX6_fails wsX6_fails) := goodIn_app (goodIn_of _ (by decide +kernel)) ggX6_indent_X6_fails
theorem dX6_indent_0 : decode cX6_indent 0 = .ok (.aload_n 0, 1) := by decide +kernel
theorem dX6_indent_1 : decode cX6_indent 1 = .ok (.iconst 0, 1) := by decide +kernel
theorem dX6_indent_2 : decode cX6_indent 2 = .ok (.putfield 40, 3) := by decide +kernel
theorem dX6_indent_5 : decode cX6_indent 5 = .ok (.iload_n 1, 1) := by decide +kernel
theorem dX6_indent_6 : decode cX6_indent 6 = .ok (.iconst 0, 1) := by decide +kernel
theorem dX6_indent_7 : decode cX6_indent 7 = .ok (.iconst 3, 1) := by decide +kernel
theorem dX6_indent_8 : decode cX6_indent 8 = .ok (.invokestatic 44, 3) := by decide +kernel
theorem dX6_indent_11 : decode cX6_indent 11 = .ok (.ifCond .eq 22, 3) := by decide +kernel
theorem dX6_indent_14 : decode cX6_indent 14 = .ok (.iload_n 2, 1) := by decide +kernel
theorem dX6_indent_15 : decode cX6_indent 15 = .ok (.iconst 0, 1) := by decide +kernel
theorem dX6_indent_16 : decode cX6_indent 16 = .ok (.bipush 9, 2) := by decide +kernel
theorem dX6_indent_18 : decode cX6_indent 18 = .ok (.invokestatic 44, 3) := by decide +kernel
theorem dX6_indent_21 : decode cX6_indent 21 = .ok (.ifCond .eq 12, 3) := by decide +kernel
theorem dX6_indent_24 : decode cX6_indent 24 = .ok (.aload_n 0, 1) := by decide +kernel
theorem dX6_indent_25 : decode cX6_indent 25 = .ok (.iload_n 1, 1) := by decide +kernel
theorem dX6_indent_26 : decode cX6_indent 26 = .ok (.iload_n 2, 1) := by decide +kernel
theorem dX6_indent_27 : decode cX6_indent 27 = .ok (.invokevirtual 62, 3) := by decide +kernel
theorem dX6_indent_30 : decode cX6_indent 30 = .ok (.goto 8, 3) := by decide +kernel
theorem dX6_indent_33 : decode cX6_indent 33 = .ok (.aload_n 0, 1) := by decide +kernel
theorem dX6_indent_34 : decode cX6_indent 34 = .ok (.iconst 1, 1) := by decide +kernel
theorem dX6_indent_35 : decode cX6_indent 35 = .ok (.invokevirtual 97, 3) := by decide +kernel
theorem dX6_indent_38 : decode cX6_indent 38 = .ok (.ireturn, 1) := by decide +kernel
set_option maxRecDepth 20000 in
theorem ggX6_tellsItem_X6_isLetter : GoodIn wsX6_tellsItem wsX6_isLetter := goodIn_r _ [10, 2, 11, 12, 13, 9, 14, 15, 16, 17, 43, 44, 45, 46, 47, 48, 49, 50, 51, 52, 53, 54, 55, 56, 57, 58, 59] (by decide +kernel) (by decide +kernel)
set_option maxRecDepth 20000 in
theorem gX6_tellsItem_X6_isLetter : GoodIn wsX6_tellsItem (wsV RX6 76 RX6 yX6_isLetter wsX6_isLetter) := goodIn_app (goodIn_of _ (by decide +kernel)) ggX6_tellsItem_X6_isLetter
set_option maxRecDepth 20000 in
theorem ggX6_tellsItem_X6_countedArea : GoodIn wsX6_tellsItem wsX6_countedArea := goodIn_r _ [21, 2, 22, 23, 9, 24, 25, 26, 27, 28, 29, 30, 31, 15, 16, 17, 32, 33, 34, 43, 44, 45, 46, 47, 48, 49, 50, 51, 52, 53, 54, 55, 56, 57, 58, 59] (by decide +kernel) (by decide +kernel)
set_option maxRecDepth 20000 in
theorem gX6_tellsItem_X6_countedArea : GoodIn wsX6_tellsItem (wsV RX6 143 RX6 yX6_countedArea wsX6_countedArea) := goodIn_app (goodIn_of _ (by decide +kernel)) ggX6_tellsItem_X6_countedArea
set_option maxRecDepth 20000 in
theorem ggX6_tellsItem_X6_share : GoodIn wsX6_tellsItem wsX6_share := goodIn_r _ [38, 2, 29, 30, 9, 31, 43, 44, 45, 46, 47, 48, 49, 50, 51, 52, 53, 54, 55, 56, 57, 58, 59] (by decide +kernel) (by decide +kernel)
set_option maxRecDepth 20000 in
theorem gX6_tellsItem_X6_share : GoodIn wsX6_tellsItem (wsV RX6 69 RX6 yX6_share wsX6_share) := goodIn_app (goodIn_of _ (by decide +kernel)) ggX6_tellsItem_X6_share
set_option maxRecDepth 20000 in
theorem ggX6_tellsItem_X6_isFault : GoodIn wsX6_tellsItem wsX6_isFault := goodIn_r _ [42, 1, 2, 35, 36, 37, 9, 38, 29, 30, 31, 43, 44, 45, 46, 47, 48, 49, 50, 51, 52, 53, 54, 55, 56, 57, 58, 59] (by decide +kernel) (by decide +kernel)
set_option maxRecDepth 20000 in
theorem gX6_tellsItem_X6_isFault : GoodIn wsX6_tellsItem (wsV RX6 94 RX6 yX6_isFault wsX6_isFault) := goodIn_app (goodIn_of _ (by decide +kernel)) ggX6_tellsItem_X6_isFault
theorem dX6_tellsItem_0 : decode cX6_tellsItem 0 = .ok (.aload_n 0, 1) := by decide +kernel
theorem dX6_tellsItem_1 : decode cX6_tellsItem 1 = .ok (.iload_n 1, 1) := by decide +kernel
theorem dX6_tellsItem_2 : decode cX6_tellsItem 2 = .ok (.invokevirtual 76, 3) := by decide +kernel
theorem dX6_tellsItem_5 : decode cX6_tellsItem 5 = .ok (.istore_n 3, 1) := by decide +kernel
theorem dX6_tellsItem_6 : decode cX6_tellsItem 6 = .ok (.aload_n 0, 1) := by decide +kernel
theorem dX6_tellsItem_7 : decode cX6_tellsItem 7 = .ok (.getfield 31, 3) := by decide +kernel
theorem dX6_tellsItem_10 : decode cX6_tellsItem 10 = .ok (.iload_n 1, 1) := by decide +kernel
theorem dX6_tellsItem_11 : decode cX6_tellsItem 11 = .ok (.iaload, 1) := by decide +kernel
theorem dX6_tellsItem_12 : decode cX6_tellsItem 12 = .ok (.iconst (-1), 1) := by decide +kernel
theorem dX6_tellsItem_13 : decode cX6_tellsItem 13 = .ok (.if_icmp .eq 7, 3) := by decide +kernel
theorem dX6_tellsItem_16 : decode cX6_tellsItem 16 = .ok (.iconst 1, 1) := by decide +kernel
theorem dX6_tellsItem_17 : decode cX6_tellsItem 17 = .ok (.goto 4, 3) := by decide +kernel
theorem dX6_tellsItem_20 : decode cX6_tellsItem 20 = .ok (.iconst 0, 1) := by decide +kernel
theorem dX6_tellsItem_21 : decode cX6_tellsItem 21 = .ok (.istore 4, 2) := by decide +kernel
theorem dX6_tellsItem_23 : decode cX6_tellsItem 23 = .ok (.iload_n 2, 1) := by decide +kernel
theorem dX6_tellsItem_24 : decode cX6_tellsItem 24 = .ok (.tableswitch 167 0 7 #[48, 58, 79, 86, 93, 100, 107, 147], 48) := by decide +kernel
theorem dX6_tellsItem_72 : decode cX6_tellsItem 72 = .ok (.aload_n 0, 1) := by decide +kernel
theorem dX6_tellsItem_73 : decode cX6_tellsItem 73 = .ok (.getfield 7, 3) := by decide +kernel
theorem dX6_tellsItem_76 : decode cX6_tellsItem 76 = .ok (.bipush 8, 2) := by decide +kernel
theorem dX6_tellsItem_78 : decode cX6_tellsItem 78 = .ok (.iload_n 1, 1) := by decide +kernel
theorem dX6_tellsItem_79 : decode cX6_tellsItem 79 = .ok (.iadd, 1) := by decide +kernel
theorem dX6_tellsItem_80 : decode cX6_tellsItem 80 = .ok (.iaload, 1) := by decide +kernel
theorem dX6_tellsItem_81 : decode cX6_tellsItem 81 = .ok (.ireturn, 1) := by decide +kernel
theorem dX6_tellsItem_82 : decode cX6_tellsItem 82 = .ok (.iload_n 3, 1) := by decide +kernel
theorem dX6_tellsItem_83 : decode cX6_tellsItem 83 = .ok (.ifCond .eq 18, 3) := by decide +kernel
theorem dX6_tellsItem_86 : decode cX6_tellsItem 86 = .ok (.aload_n 0, 1) := by decide +kernel
theorem dX6_tellsItem_87 : decode cX6_tellsItem 87 = .ok (.getfield 7, 3) := by decide +kernel
theorem dX6_tellsItem_90 : decode cX6_tellsItem 90 = .ok (.bipush 28, 2) := by decide +kernel
theorem dX6_tellsItem_92 : decode cX6_tellsItem 92 = .ok (.iload_n 1, 1) := by decide +kernel
theorem dX6_tellsItem_93 : decode cX6_tellsItem 93 = .ok (.iadd, 1) := by decide +kernel
theorem dX6_tellsItem_94 : decode cX6_tellsItem 94 = .ok (.iaload, 1) := by decide +kernel
theorem dX6_tellsItem_95 : decode cX6_tellsItem 95 = .ok (.bipush 10, 2) := by decide +kernel
theorem dX6_tellsItem_97 : decode cX6_tellsItem 97 = .ok (.iadd, 1) := by decide +kernel
theorem dX6_tellsItem_98 : decode cX6_tellsItem 98 = .ok (.goto 4, 3) := by decide +kernel
