set_option maxRecDepth 20000 in
theorem ggX6_ifSet_X6_mostOf : GoodIn wsX6_ifSet wsX6_mostOf := goodIn_r _ [15] (by decide +kernel) (by decide +kernel)
set_option maxRecDepth 20000 in
theorem gX6_ifSet_X6_mostOf : GoodIn wsX6_ifSet (va_wsS RX6 114 yX6_mostOf wsX6_mostOf) := goodIn_app (goodIn_of _ (by decide +kernel)) ggX6_ifSet_X6_mostOf
set_option maxRecDepth 20000 in
theorem ggX6_ifSet_X6_would : GoodIn wsX6_ifSet wsX6_would := goodIn_r _ [19, 20, 21, 22, 23, 4, 24, 25, 26, 27, 28, 29, 30, 31, 32, 33, 34, 35, 36, 37, 38, 39, 40, 2, 3, 5, 41, 42, 43, 44, 45, 46, 47, 48, 49, 50, 51, 52, 53, 54, 55, 56, 57, 58, 59, 60, 61, 62, 63, 64, 65, 66, 67, 68, 69, 70, 71, 72, 73, 74, 75, 76, 77, 78, 79, 80, 81, 82, 83, 84, 85, 86, 87, 88, 89, 90, 91, 92, 93, 94, 95, 96, 97, 98, 99, 100, 101] (by decide +kernel) (by decide +kernel)
set_option maxRecDepth 20000 in
theorem gX6_ifSet_X6_would : GoodIn wsX6_ifSet (wsV RX6 173 RX6 yX6_would wsX6_would) := goodIn_app (goodIn_of _ (by decide +kernel)) ggX6_ifSet_X6_would
theorem dX6_ifSet_0 : decode cX6_ifSet 0 = .ok (.aload_n 0, 1) := by decide +kernel
theorem dX6_ifSet_1 : decode cX6_ifSet 1 = .ok (.iconst 0, 1) := by decide +kernel
theorem dX6_ifSet_2 : decode cX6_ifSet 2 = .ok (.putfield 40, 3) := by decide +kernel
theorem dX6_ifSet_5 : decode cX6_ifSet 5 = .ok (.iload_n 1, 1) := by decide +kernel
theorem dX6_ifSet_6 : decode cX6_ifSet 6 = .ok (.iconst 0, 1) := by decide +kernel
theorem dX6_ifSet_7 : decode cX6_ifSet 7 = .ok (.iconst 5, 1) := by decide +kernel
theorem dX6_ifSet_8 : decode cX6_ifSet 8 = .ok (.invokestatic 44, 3) := by decide +kernel
theorem dX6_ifSet_11 : decode cX6_ifSet 11 = .ok (.ifCond .ne 9, 3) := by decide +kernel
theorem dX6_ifSet_14 : decode cX6_ifSet 14 = .ok (.aload_n 0, 1) := by decide +kernel
theorem dX6_ifSet_15 : decode cX6_ifSet 15 = .ok (.iconst 1, 1) := by decide +kernel
theorem dX6_ifSet_16 : decode cX6_ifSet 16 = .ok (.invokevirtual 97, 3) := by decide +kernel
theorem dX6_ifSet_19 : decode cX6_ifSet 19 = .ok (.ireturn, 1) := by decide +kernel
theorem dX6_ifSet_20 : decode cX6_ifSet 20 = .ok (.iload_n 2, 1) := by decide +kernel
theorem dX6_ifSet_21 : decode cX6_ifSet 21 = .ok (.iload_n 1, 1) := by decide +kernel
theorem dX6_ifSet_22 : decode cX6_ifSet 22 = .ok (.invokestatic 111, 3) := by decide +kernel
theorem dX6_ifSet_25 : decode cX6_ifSet 25 = .ok (.iload_n 1, 1) := by decide +kernel
theorem dX6_ifSet_26 : decode cX6_ifSet 26 = .ok (.invokestatic 114, 3) := by decide +kernel
theorem dX6_ifSet_29 : decode cX6_ifSet 29 = .ok (.invokestatic 44, 3) := by decide +kernel
theorem dX6_ifSet_32 : decode cX6_ifSet 32 = .ok (.ifCond .eq 16, 3) := by decide +kernel
theorem dX6_ifSet_35 : decode cX6_ifSet 35 = .ok (.iload_n 3, 1) := by decide +kernel
theorem dX6_ifSet_36 : decode cX6_ifSet 36 = .ok (.iconst 0, 1) := by decide +kernel
theorem dX6_ifSet_37 : decode cX6_ifSet 37 = .ok (.iconst 1, 1) := by decide +kernel
theorem dX6_ifSet_38 : decode cX6_ifSet 38 = .ok (.invokestatic 44, 3) := by decide +kernel
theorem dX6_ifSet_41 : decode cX6_ifSet 41 = .ok (.ifCond .eq 7, 3) := by decide +kernel
theorem dX6_ifSet_44 : decode cX6_ifSet 44 = .ok (.iconst 1, 1) := by decide +kernel
theorem dX6_ifSet_45 : decode cX6_ifSet 45 = .ok (.goto 4, 3) := by decide +kernel
theorem dX6_ifSet_48 : decode cX6_ifSet 48 = .ok (.iconst 0, 1) := by decide +kernel
theorem dX6_ifSet_49 : decode cX6_ifSet 49 = .ok (.istore 4, 2) := by decide +kernel
theorem dX6_ifSet_51 : decode cX6_ifSet 51 = .ok (.iload 4, 2) := by decide +kernel
theorem dX6_ifSet_53 : decode cX6_ifSet 53 = .ok (.ifCond .eq 22, 3) := by decide +kernel
theorem dX6_ifSet_56 : decode cX6_ifSet 56 = .ok (.aload_n 0, 1) := by decide +kernel
theorem dX6_ifSet_57 : decode cX6_ifSet 57 = .ok (.iload_n 1, 1) := by decide +kernel
theorem dX6_ifSet_58 : decode cX6_ifSet 58 = .ok (.iload_n 2, 1) := by decide +kernel
theorem dX6_ifSet_59 : decode cX6_ifSet 59 = .ok (.iload_n 3, 1) := by decide +kernel
theorem dX6_ifSet_60 : decode cX6_ifSet 60 = .ok (.iconst 1, 1) := by decide +kernel
theorem dX6_ifSet_61 : decode cX6_ifSet 61 = .ok (.if_icmp .ne 7, 3) := by decide +kernel
theorem dX6_ifSet_64 : decode cX6_ifSet 64 = .ok (.iconst 1, 1) := by decide +kernel
theorem dX6_ifSet_65 : decode cX6_ifSet 65 = .ok (.goto 4, 3) := by decide +kernel
theorem dX6_ifSet_68 : decode cX6_ifSet 68 = .ok (.iconst 0, 1) := by decide +kernel
theorem dX6_ifSet_69 : decode cX6_ifSet 69 = .ok (.invokevirtual 173, 3) := by decide +kernel
theorem dX6_ifSet_72 : decode cX6_ifSet 72 = .ok (.goto 8, 3) := by decide +kernel
theorem dX6_ifSet_75 : decode cX6_ifSet 75 = .ok (.aload_n 0, 1) := by decide +kernel
theorem dX6_ifSet_76 : decode cX6_ifSet 76 = .ok (.iconst 2, 1) := by decide +kernel
theorem dX6_ifSet_77 : decode cX6_ifSet 77 = .ok (.invokevirtual 97, 3) := by decide +kernel
theorem dX6_ifSet_80 : decode cX6_ifSet 80 = .ok (.ireturn, 1) := by decide +kernel
set_option maxRecDepth 20000 in
theorem ggX6_largest_X6_would : GoodIn wsX6_largest wsX6_would := goodIn_r _ [6, 1, 7, 8, 9, 5, 10, 11, 12, 13, 14, 15, 16, 17, 18, 19, 20, 21, 22, 23, 24, 25, 26, 27, 28, 29, 30, 31, 32, 33, 34, 35, 36, 37, 38, 39, 40, 41, 42, 43, 44, 45, 46, 47, 48, 49, 50, 51, 52, 53, 54, 55, 56, 57, 58, 59, 60, 61, 62, 63, 64, 65, 66, 67, 68, 69, 70, 71, 72, 73, 74, 75, 76, 77, 78, 79, 80, 81, 82, 83, 84, 85, 86, 87, 88, 89, 90] (by decide +kernel) (by decide +kernel)
set_option maxRecDepth 20000 in
theorem gX6_largest_X6_would : GoodIn wsX6_largest (wsV RX6 173 RX6 yX6_would wsX6_would) := goodIn_app (goodIn_of _ (by decide +kernel)) ggX6_largest_X6_would
theorem dX6_largest_0 : decode cX6_largest 0 = .ok (.iconst (-1), 1) := by decide +kernel
theorem dX6_largest_1 : decode cX6_largest 1 = .ok (.istore_n 1, 1) := by decide +kernel
theorem dX6_largest_2 : decode cX6_largest 2 = .ok (.bipush 10, 2) := by decide +kernel
theorem dX6_largest_4 : decode cX6_largest 4 = .ok (.istore_n 2, 1) := by decide +kernel
theorem dX6_largest_5 : decode cX6_largest 5 = .ok (.iload_n 2, 1) := by decide +kernel
theorem dX6_largest_6 : decode cX6_largest 6 = .ok (.sipush 300, 3) := by decide +kernel
theorem dX6_largest_9 : decode cX6_largest 9 = .ok (.if_icmp .gt 32, 3) := by decide +kernel
theorem dX6_largest_12 : decode cX6_largest 12 = .ok (.aload_n 0, 1) := by decide +kernel
theorem dX6_largest_13 : decode cX6_largest 13 = .ok (.iconst 3, 1) := by decide +kernel
theorem dX6_largest_14 : decode cX6_largest 14 = .ok (.iload_n 2, 1) := by decide +kernel
theorem dX6_largest_15 : decode cX6_largest 15 = .ok (.iconst 1, 1) := by decide +kernel
theorem dX6_largest_16 : decode cX6_largest 16 = .ok (.invokevirtual 173, 3) := by decide +kernel
theorem dX6_largest_19 : decode cX6_largest 19 = .ok (.aload_n 0, 1) := by decide +kernel
theorem dX6_largest_20 : decode cX6_largest 20 = .ok (.getfield 7, 3) := by decide +kernel
theorem dX6_largest_23 : decode cX6_largest 23 = .ok (.bipush 6, 2) := by decide +kernel
theorem dX6_largest_25 : decode cX6_largest 25 = .ok (.iaload, 1) := by decide +kernel
theorem dX6_largest_26 : decode cX6_largest 26 = .ok (.if_icmp .gt 7, 3) := by decide +kernel
theorem dX6_largest_29 : decode cX6_largest 29 = .ok (.iload_n 2, 1) := by decide +kernel
theorem dX6_largest_30 : decode cX6_largest 30 = .ok (.goto 4, 3) := by decide +kernel
theorem dX6_largest_33 : decode cX6_largest 33 = .ok (.iload_n 1, 1) := by decide +kernel
theorem dX6_largest_34 : decode cX6_largest 34 = .ok (.istore_n 1, 1) := by decide +kernel
theorem dX6_largest_35 : decode cX6_largest 35 = .ok (.iinc 2 10, 3) := by decide +kernel
theorem dX6_largest_38 : decode cX6_largest 38 = .ok (.goto (-33), 3) := by decide +kernel
theorem dX6_largest_41 : decode cX6_largest 41 = .ok (.iload_n 1, 1) := by decide +kernel
theorem dX6_largest_42 : decode cX6_largest 42 = .ok (.ireturn, 1) := by decide +kernel
set_option maxRecDepth 20000 in
theorem ggX6_greatestArea_X6_largest : GoodIn wsX6_greatestArea wsX6_largest := goodIn_r _ [6, 7, 8, 9, 10, 5, 11, 12, 13, 14, 15, 16, 17, 18, 19, 20, 21, 22, 23, 24, 25, 26, 27, 28, 29, 30, 31, 32, 33, 34, 35, 36, 37, 38, 39, 40, 41, 42, 43, 44, 45, 46, 47, 48, 49, 50, 51, 52, 53, 54, 55, 56, 57, 58, 59, 60, 61, 62, 63, 64, 65, 66, 67, 68, 69, 70, 71, 72, 73, 74, 75, 76, 77, 78, 79, 80, 81, 82, 83, 84, 85, 86, 87, 88, 89, 90, 91, 92, 93, 94, 95] (by decide +kernel) (by decide +kernel)
set_option maxRecDepth 20000 in
theorem gX6_greatestArea_X6_largest : GoodIn wsX6_greatestArea (wsV RX6 177 RX6 yX6_largest wsX6_largest) := goodIn_app (goodIn_of _ (by decide +kernel)) ggX6_greatestArea_X6_largest
theorem dX6_greatestArea_0 : decode cX6_greatestArea 0 = .ok (.aload_n 0, 1) := by decide +kernel
theorem dX6_greatestArea_1 : decode cX6_greatestArea 1 = .ok (.iconst 0, 1) := by decide +kernel
theorem dX6_greatestArea_2 : decode cX6_greatestArea 2 = .ok (.putfield 40, 3) := by decide +kernel
theorem dX6_greatestArea_5 : decode cX6_greatestArea 5 = .ok (.aload_n 0, 1) := by decide +kernel
theorem dX6_greatestArea_6 : decode cX6_greatestArea 6 = .ok (.invokevirtual 177, 3) := by decide +kernel
theorem dX6_greatestArea_9 : decode cX6_greatestArea 9 = .ok (.ireturn, 1) := by decide +kernel
set_option maxRecDepth 20000 in
theorem ggX6_snapOfFewest_X6_would : GoodIn wsX6_snapOfFewest wsX6_would := goodIn_r _ [5, 6, 7, 8, 9, 4, 10, 11, 12, 13, 14, 15, 16, 17, 18, 19, 20, 21, 22, 23, 24, 25, 26, 27, 28, 29, 30, 31, 32, 33, 34, 35, 36, 37, 38, 39, 40, 41, 42, 43, 44, 45, 46, 47, 48, 49, 50, 51, 52, 53, 54, 55, 56, 57, 58, 59, 60, 61, 62, 63, 64, 65, 66, 67, 68, 69, 70, 71, 72, 73, 74, 75, 76, 77, 78, 79, 80, 81, 82, 83, 84, 85, 86, 87, 88, 89, 90] (by decide +kernel) (by decide +kernel)
set_option maxRecDepth 20000 in
theorem gX6_snapOfFewest_X6_would : GoodIn wsX6_snapOfFewest (wsV RX6 173 RX6 yX6_would wsX6_would) := goodIn_app (goodIn_of _ (by decide +kernel)) ggX6_snapOfFewest_X6_would
theorem dX6_snapOfFewest_0 : decode cX6_snapOfFewest 0 = .ok (.iconst (-1), 1) := by decide +kernel
theorem dX6_snapOfFewest_1 : decode cX6_snapOfFewest 1 = .ok (.istore_n 1, 1) := by decide +kernel
theorem dX6_snapOfFewest_2 : decode cX6_snapOfFewest 2 = .ok (.iconst 0, 1) := by decide +kernel
theorem dX6_snapOfFewest_3 : decode cX6_snapOfFewest 3 = .ok (.istore_n 2, 1) := by decide +kernel
theorem dX6_snapOfFewest_4 : decode cX6_snapOfFewest 4 = .ok (.iconst 1, 1) := by decide +kernel
theorem dX6_snapOfFewest_5 : decode cX6_snapOfFewest 5 = .ok (.istore_n 3, 1) := by decide +kernel
theorem dX6_snapOfFewest_6 : decode cX6_snapOfFewest 6 = .ok (.iload_n 3, 1) := by decide +kernel
theorem dX6_snapOfFewest_7 : decode cX6_snapOfFewest 7 = .ok (.bipush 12, 2) := by decide +kernel
theorem dX6_snapOfFewest_9 : decode cX6_snapOfFewest 9 = .ok (.if_icmp .gt 59, 3) := by decide +kernel
theorem dX6_snapOfFewest_12 : decode cX6_snapOfFewest 12 = .ok (.aload_n 0, 1) := by decide +kernel
theorem dX6_snapOfFewest_13 : decode cX6_snapOfFewest 13 = .ok (.iconst 4, 1) := by decide +kernel
theorem dX6_snapOfFewest_14 : decode cX6_snapOfFewest 14 = .ok (.iload_n 3, 1) := by decide +kernel
theorem dX6_snapOfFewest_15 : decode cX6_snapOfFewest 15 = .ok (.iconst 0, 1) := by decide +kernel
theorem dX6_snapOfFewest_16 : decode cX6_snapOfFewest 16 = .ok (.invokevirtual 173, 3) := by decide +kernel
theorem dX6_snapOfFewest_19 : decode cX6_snapOfFewest 19 = .ok (.istore 4, 2) := by decide +kernel
theorem dX6_snapOfFewest_21 : decode cX6_snapOfFewest 21 = .ok (.iload_n 1, 1) := by decide +kernel
theorem dX6_snapOfFewest_22 : decode cX6_snapOfFewest 22 = .ok (.iconst (-1), 1) := by decide +kernel
theorem dX6_snapOfFewest_23 : decode cX6_snapOfFewest 23 = .ok (.if_icmp .eq 9, 3) := by decide +kernel
theorem dX6_snapOfFewest_26 : decode cX6_snapOfFewest 26 = .ok (.iload 4, 2) := by decide +kernel
theorem dX6_snapOfFewest_28 : decode cX6_snapOfFewest 28 = .ok (.iload_n 2, 1) := by decide +kernel
theorem dX6_snapOfFewest_29 : decode cX6_snapOfFewest 29 = .ok (.if_icmp .gt 7, 3) := by decide +kernel
theorem dX6_snapOfFewest_32 : decode cX6_snapOfFewest 32 = .ok (.iconst 1, 1) := by decide +kernel
theorem dX6_snapOfFewest_33 : decode cX6_snapOfFewest 33 = .ok (.goto 4, 3) := by decide +kernel
theorem dX6_snapOfFewest_36 : decode cX6_snapOfFewest 36 = .ok (.iconst 0, 1) := by decide +kernel
theorem dX6_snapOfFewest_37 : decode cX6_snapOfFewest 37 = .ok (.istore 5, 2) := by decide +kernel
theorem dX6_snapOfFewest_39 : decode cX6_snapOfFewest 39 = .ok (.iload 5, 2) := by decide +kernel
theorem dX6_snapOfFewest_41 : decode cX6_snapOfFewest 41 = .ok (.ifCond .eq 7, 3) := by decide +kernel
theorem dX6_snapOfFewest_44 : decode cX6_snapOfFewest 44 = .ok (.iload_n 3, 1) := by decide +kernel
theorem dX6_snapOfFewest_45 : decode cX6_snapOfFewest 45 = .ok (.goto 4, 3) := by decide +kernel
theorem dX6_snapOfFewest_48 : decode cX6_snapOfFewest 48 = .ok (.iload_n 1, 1) := by decide +kernel
theorem dX6_snapOfFewest_49 : decode cX6_snapOfFewest 49 = .ok (.istore_n 1, 1) := by decide +kernel
theorem dX6_snapOfFewest_50 : decode cX6_snapOfFewest 50 = .ok (.iload 5, 2) := by decide +kernel
theorem dX6_snapOfFewest_52 : decode cX6_snapOfFewest 52 = .ok (.ifCond .eq 8, 3) := by decide +kernel
theorem dX6_snapOfFewest_55 : decode cX6_snapOfFewest 55 = .ok (.iload 4, 2) := by decide +kernel
theorem dX6_snapOfFewest_57 : decode cX6_snapOfFewest 57 = .ok (.goto 4, 3) := by decide +kernel
theorem dX6_snapOfFewest_60 : decode cX6_snapOfFewest 60 = .ok (.iload_n 2, 1) := by decide +kernel
theorem dX6_snapOfFewest_61 : decode cX6_snapOfFewest 61 = .ok (.istore_n 2, 1) := by decide +kernel
theorem dX6_snapOfFewest_62 : decode cX6_snapOfFewest 62 = .ok (.iinc 3 1, 3) := by decide +kernel
theorem dX6_snapOfFewest_65 : decode cX6_snapOfFewest 65 = .ok (.goto (-59), 3) := by decide +kernel
theorem dX6_snapOfFewest_68 : decode cX6_snapOfFewest 68 = .ok (.iload_n 1, 1) := by decide +kernel
theorem dX6_snapOfFewest_69 : decode cX6_snapOfFewest 69 = .ok (.ireturn, 1) := by decide +kernel
set_option maxRecDepth 20000 in
theorem ggX6_bestSnap_X6_snapOfFewest : GoodIn wsX6_bestSnap wsX6_snapOfFewest := goodIn_r _ [6, 7, 8, 9, 5, 10, 11, 12, 13, 14, 15, 16, 17, 18, 19, 20, 21, 22, 23, 24, 25, 26, 27, 28, 29, 30, 31, 32, 33, 34, 35, 36, 37, 38, 39, 40, 41, 42, 43, 44, 45, 46, 47, 48, 49, 50, 51, 52, 53, 54, 55, 56, 57, 58, 59, 60, 61, 62, 63, 64, 65, 66, 67, 68, 69, 70, 71, 72, 73, 74, 75, 76, 77, 78, 79, 80, 81, 82, 83, 84, 85, 86, 87, 88, 89, 90, 91, 92, 93, 94, 95] (by decide +kernel) (by decide +kernel)
set_option maxRecDepth 20000 in
theorem gX6_bestSnap_X6_snapOfFewest : GoodIn wsX6_bestSnap (wsV RX6 180 RX6 yX6_snapOfFewest wsX6_snapOfFewest) := goodIn_app (goodIn_of _ (by decide +kernel)) ggX6_bestSnap_X6_snapOfFewest
theorem dX6_bestSnap_0 : decode cX6_bestSnap 0 = .ok (.aload_n 0, 1) := by decide +kernel
theorem dX6_bestSnap_1 : decode cX6_bestSnap 1 = .ok (.iconst 0, 1) := by decide +kernel
theorem dX6_bestSnap_2 : decode cX6_bestSnap 2 = .ok (.putfield 40, 3) := by decide +kernel
theorem dX6_bestSnap_5 : decode cX6_bestSnap 5 = .ok (.aload_n 0, 1) := by decide +kernel
theorem dX6_bestSnap_6 : decode cX6_bestSnap 6 = .ok (.invokevirtual 180, 3) := by decide +kernel
theorem dX6_bestSnap_9 : decode cX6_bestSnap 9 = .ok (.ireturn, 1) := by decide +kernel
set_option maxRecDepth 20000 in
theorem ggX6_kernFor_X6_lays : GoodIn wsX6_kernFor wsX6_lays := goodIn_r _ [8, 3, 9, 10, 1, 2, 11, 12, 13, 7, 14, 15, 16, 17, 18, 19, 20, 21, 22, 23, 24, 25, 26, 27, 28, 29, 30, 31, 32, 33, 34, 35, 36, 37, 38, 39, 40, 41, 42, 43, 44, 45, 46, 47, 48, 49, 50, 51, 52, 53, 58, 59, 60, 61, 62, 63, 64, 65, 66, 67, 68, 69, 70, 71, 72, 73, 74] (by decide +kernel) (by decide +kernel)
set_option maxRecDepth 20000 in
theorem gX6_kernFor_X6_lays : GoodIn wsX6_kernFor (wsV RX6 91 RX6 yX6_lays wsX6_lays) := goodIn_app (goodIn_of _ (by decide +kernel)) ggX6_kernFor_X6_lays
set_option maxRecDepth 20000 in
theorem ggX6_kernFor_X6_beginning : GoodIn wsX6_kernFor wsX6_beginning := goodIn_r _ [25, 3, 11, 12, 13, 7, 14, 15, 16, 17, 18, 19, 20, 21, 26, 27, 28, 29, 30, 31, 32, 33, 34, 35, 36, 37, 38, 39, 40, 41, 42, 43, 44, 45, 46, 47, 48, 49, 50, 58, 59, 60, 61, 62, 63, 64, 65, 66, 67, 68, 69, 70, 71, 72, 73, 74] (by decide +kernel) (by decide +kernel)
set_option maxRecDepth 20000 in
theorem gX6_kernFor_X6_beginning : GoodIn wsX6_kernFor (wsV RX6 85 RX6 yX6_beginning wsX6_beginning) := goodIn_app (goodIn_of _ (by decide +kernel)) ggX6_kernFor_X6_beginning
set_option maxRecDepth 20000 in
theorem ggX6_kernFor_X6_area : GoodIn wsX6_kernFor wsX6_area := goodIn_r _ [33, 3, 34, 35, 7, 36, 37, 38, 39, 40, 41, 42, 43, 19, 20, 21, 44, 45, 46, 58, 59, 60, 61, 62, 63, 64, 65, 66, 67, 68, 69, 70, 71, 72, 73, 74] (by decide +kernel) (by decide +kernel)
set_option maxRecDepth 20000 in
theorem gX6_kernFor_X6_area : GoodIn wsX6_kernFor (wsV RX6 72 RX6 yX6_area wsX6_area) := goodIn_app (goodIn_of _ (by decide +kernel)) ggX6_kernFor_X6_area
set_option maxRecDepth 20000 in
theorem ggX6_kernFor_X6_share : GoodIn wsX6_kernFor wsX6_share := goodIn_r _ [57, 3, 41, 42, 7, 43, 58, 59, 60, 61, 62, 63, 64, 65, 66, 67, 68, 69, 70, 71, 72, 73, 74] (by decide +kernel) (by decide +kernel)
set_option maxRecDepth 20000 in
theorem gX6_kernFor_X6_share : GoodIn wsX6_kernFor (wsV RX6 69 RX6 yX6_share wsX6_share) := goodIn_app (goodIn_of _ (by decide +kernel)) ggX6_kernFor_X6_share
theorem dX6_kernFor_0 : decode cX6_kernFor 0 = .ok (.aload_n 0, 1) := by decide +kernel
theorem dX6_kernFor_1 : decode cX6_kernFor 1 = .ok (.invokevirtual 91, 3) := by decide +kernel
theorem dX6_kernFor_4 : decode cX6_kernFor 4 = .ok (.aload_n 0, 1) := by decide +kernel
theorem dX6_kernFor_5 : decode cX6_kernFor 5 = .ok (.getfield 31, 3) := by decide +kernel
theorem dX6_kernFor_8 : decode cX6_kernFor 8 = .ok (.iload_n 1, 1) := by decide +kernel
theorem dX6_kernFor_9 : decode cX6_kernFor 9 = .ok (.iaload, 1) := by decide +kernel
theorem dX6_kernFor_10 : decode cX6_kernFor 10 = .ok (.iconst (-1), 1) := by decide +kernel
theorem dX6_kernFor_11 : decode cX6_kernFor 11 = .ok (.if_icmp .ne 5, 3) := by decide +kernel
theorem dX6_kernFor_14 : decode cX6_kernFor 14 = .ok (.iconst (-1), 1) := by decide +kernel
theorem dX6_kernFor_15 : decode cX6_kernFor 15 = .ok (.ireturn, 1) := by decide +kernel
theorem dX6_kernFor_16 : decode cX6_kernFor 16 = .ok (.iconst (-1), 1) := by decide +kernel
theorem dX6_kernFor_17 : decode cX6_kernFor 17 = .ok (.istore_n 2, 1) := by decide +kernel
theorem dX6_kernFor_18 : decode cX6_kernFor 18 = .ok (.iconst 0, 1) := by decide +kernel
theorem dX6_kernFor_19 : decode cX6_kernFor 19 = .ok (.istore_n 3, 1) := by decide +kernel
theorem dX6_kernFor_20 : decode cX6_kernFor 20 = .ok (.iconst 0, 1) := by decide +kernel
theorem dX6_kernFor_21 : decode cX6_kernFor 21 = .ok (.istore 4, 2) := by decide +kernel
theorem dX6_kernFor_23 : decode cX6_kernFor 23 = .ok (.iload 4, 2) := by decide +kernel
theorem dX6_kernFor_25 : decode cX6_kernFor 25 = .ok (.bipush 11, 2) := by decide +kernel
theorem dX6_kernFor_27 : decode cX6_kernFor 27 = .ok (.if_icmp .ge 136, 3) := by decide +kernel
theorem dX6_kernFor_30 : decode cX6_kernFor 30 = .ok (.iload 4, 2) := by decide +kernel
theorem dX6_kernFor_32 : decode cX6_kernFor 32 = .ok (.iconst 2, 1) := by decide +kernel
theorem dX6_kernFor_33 : decode cX6_kernFor 33 = .ok (.irem, 1) := by decide +kernel
theorem dX6_kernFor_34 : decode cX6_kernFor 34 = .ok (.iconst 1, 1) := by decide +kernel
theorem dX6_kernFor_35 : decode cX6_kernFor 35 = .ok (.if_icmp .ne 12, 3) := by decide +kernel
theorem dX6_kernFor_38 : decode cX6_kernFor 38 = .ok (.iload 4, 2) := by decide +kernel
theorem dX6_kernFor_40 : decode cX6_kernFor 40 = .ok (.iconst 1, 1) := by decide +kernel
theorem dX6_kernFor_41 : decode cX6_kernFor 41 = .ok (.iadd, 1) := by decide +kernel
theorem dX6_kernFor_42 : decode cX6_kernFor 42 = .ok (.iconst 2, 1) := by decide +kernel
theorem dX6_kernFor_43 : decode cX6_kernFor 43 = .ok (.idiv, 1) := by decide +kernel
theorem dX6_kernFor_44 : decode cX6_kernFor 44 = .ok (.goto 8, 3) := by decide +kernel
theorem dX6_kernFor_47 : decode cX6_kernFor 47 = .ok (.iload 4, 2) := by decide +kernel
theorem dX6_kernFor_49 : decode cX6_kernFor 49 = .ok (.iconst 2, 1) := by decide +kernel
theorem dX6_kernFor_50 : decode cX6_kernFor 50 = .ok (.idiv, 1) := by decide +kernel
theorem dX6_kernFor_51 : decode cX6_kernFor 51 = .ok (.ineg, 1) := by decide +kernel
theorem dX6_kernFor_52 : decode cX6_kernFor 52 = .ok (.istore 5, 2) := by decide +kernel
theorem dX6_kernFor_54 : decode cX6_kernFor 54 = .ok (.aload_n 0, 1) := by decide +kernel
theorem dX6_kernFor_55 : decode cX6_kernFor 55 = .ok (.iload_n 1, 1) := by decide +kernel
theorem dX6_kernFor_56 : decode cX6_kernFor 56 = .ok (.iload 5, 2) := by decide +kernel
theorem dX6_kernFor_58 : decode cX6_kernFor 58 = .ok (.aload_n 0, 1) := by decide +kernel
theorem dX6_kernFor_59 : decode cX6_kernFor 59 = .ok (.getfield 25, 3) := by decide +kernel
theorem dX6_kernFor_62 : decode cX6_kernFor 62 = .ok (.iload_n 1, 1) := by decide +kernel
theorem dX6_kernFor_63 : decode cX6_kernFor 63 = .ok (.iconst 1, 1) := by decide +kernel
theorem dX6_kernFor_64 : decode cX6_kernFor 64 = .ok (.isub, 1) := by decide +kernel
theorem dX6_kernFor_65 : decode cX6_kernFor 65 = .ok (.iaload, 1) := by decide +kernel
theorem dX6_kernFor_66 : decode cX6_kernFor 66 = .ok (.invokevirtual 85, 3) := by decide +kernel
theorem dX6_kernFor_69 : decode cX6_kernFor 69 = .ok (.aload_n 0, 1) := by decide +kernel
theorem dX6_kernFor_70 : decode cX6_kernFor 70 = .ok (.getfield 25, 3) := by decide +kernel
theorem dX6_kernFor_73 : decode cX6_kernFor 73 = .ok (.iload_n 1, 1) := by decide +kernel
theorem dX6_kernFor_74 : decode cX6_kernFor 74 = .ok (.iconst 1, 1) := by decide +kernel
theorem dX6_kernFor_75 : decode cX6_kernFor 75 = .ok (.isub, 1) := by decide +kernel
theorem dX6_kernFor_76 : decode cX6_kernFor 76 = .ok (.iaload, 1) := by decide +kernel
theorem dX6_kernFor_77 : decode cX6_kernFor 77 = .ok (.isub, 1) := by decide +kernel
theorem dX6_kernFor_78 : decode cX6_kernFor 78 = .ok (.istore 6, 2) := by decide +kernel
theorem dX6_kernFor_80 : decode cX6_kernFor 80 = .ok (.aload_n 0, 1) := by decide +kernel
theorem dX6_kernFor_81 : decode cX6_kernFor 81 = .ok (.aload_n 0, 1) := by decide +kernel
theorem dX6_kernFor_82 : decode cX6_kernFor 82 = .ok (.aload_n 0, 1) := by decide +kernel
theorem dX6_kernFor_83 : decode cX6_kernFor 83 = .ok (.getfield 7, 3) := by decide +kernel
theorem dX6_kernFor_86 : decode cX6_kernFor 86 = .ok (.bipush 8, 2) := by decide +kernel
theorem dX6_kernFor_88 : decode cX6_kernFor 88 = .ok (.iload_n 1, 1) := by decide +kernel
theorem dX6_kernFor_89 : decode cX6_kernFor 89 = .ok (.iadd, 1) := by decide +kernel
theorem dX6_kernFor_90 : decode cX6_kernFor 90 = .ok (.iconst 1, 1) := by decide +kernel
theorem dX6_kernFor_91 : decode cX6_kernFor 91 = .ok (.isub, 1) := by decide +kernel
theorem dX6_kernFor_92 : decode cX6_kernFor 92 = .ok (.iaload, 1) := by decide +kernel
theorem dX6_kernFor_93 : decode cX6_kernFor 93 = .ok (.aload_n 0, 1) := by decide +kernel
theorem dX6_kernFor_94 : decode cX6_kernFor 94 = .ok (.getfield 7, 3) := by decide +kernel
theorem dX6_kernFor_97 : decode cX6_kernFor 97 = .ok (.bipush 8, 2) := by decide +kernel
theorem dX6_kernFor_99 : decode cX6_kernFor 99 = .ok (.iload_n 1, 1) := by decide +kernel
theorem dX6_kernFor_100 : decode cX6_kernFor 100 = .ok (.iadd, 1) := by decide +kernel
theorem dX6_kernFor_101 : decode cX6_kernFor 101 = .ok (.iaload, 1) := by decide +kernel
theorem dX6_kernFor_102 : decode cX6_kernFor 102 = .ok (.iload 6, 2) := by decide +kernel
theorem dX6_kernFor_104 : decode cX6_kernFor 104 = .ok (.invokevirtual 72, 3) := by decide +kernel
theorem dX6_kernFor_107 : decode cX6_kernFor 107 = .ok (.invokevirtual 69, 3) := by decide +kernel
theorem dX6_kernFor_110 : decode cX6_kernFor 110 = .ok (.istore 7, 2) := by decide +kernel
theorem dX6_kernFor_112 : decode cX6_kernFor 112 = .ok (.iload_n 2, 1) := by decide +kernel
theorem dX6_kernFor_113 : decode cX6_kernFor 113 = .ok (.iconst (-1), 1) := by decide +kernel
theorem dX6_kernFor_114 : decode cX6_kernFor 114 = .ok (.if_icmp .eq 9, 3) := by decide +kernel
theorem dX6_kernFor_117 : decode cX6_kernFor 117 = .ok (.iload 7, 2) := by decide +kernel
theorem dX6_kernFor_119 : decode cX6_kernFor 119 = .ok (.iload_n 3, 1) := by decide +kernel
theorem dX6_kernFor_120 : decode cX6_kernFor 120 = .ok (.if_icmp .ge 7, 3) := by decide +kernel
theorem dX6_kernFor_123 : decode cX6_kernFor 123 = .ok (.iconst 1, 1) := by decide +kernel
theorem dX6_kernFor_124 : decode cX6_kernFor 124 = .ok (.goto 4, 3) := by decide +kernel
theorem dX6_kernFor_127 : decode cX6_kernFor 127 = .ok (.iconst 0, 1) := by decide +kernel
theorem dX6_kernFor_128 : decode cX6_kernFor 128 = .ok (.istore 8, 2) := by decide +kernel
theorem dX6_kernFor_130 : decode cX6_kernFor 130 = .ok (.iload 8, 2) := by decide +kernel
theorem dX6_kernFor_132 : decode cX6_kernFor 132 = .ok (.ifCond .eq 11, 3) := by decide +kernel
theorem dX6_kernFor_135 : decode cX6_kernFor 135 = .ok (.iload 5, 2) := by decide +kernel
theorem dX6_kernFor_137 : decode cX6_kernFor 137 = .ok (.bipush 10, 2) := by decide +kernel
theorem dX6_kernFor_139 : decode cX6_kernFor 139 = .ok (.iadd, 1) := by decide +kernel
theorem dX6_kernFor_140 : decode cX6_kernFor 140 = .ok (.goto 4, 3) := by decide +kernel
theorem dX6_kernFor_143 : decode cX6_kernFor 143 = .ok (.iload_n 2, 1) := by decide +kernel
theorem dX6_kernFor_144 : decode cX6_kernFor 144 = .ok (.istore_n 2, 1) := by decide +kernel
theorem dX6_kernFor_145 : decode cX6_kernFor 145 = .ok (.iload 8, 2) := by decide +kernel
theorem dX6_kernFor_147 : decode cX6_kernFor 147 = .ok (.ifCond .eq 8, 3) := by decide +kernel
theorem dX6_kernFor_150 : decode cX6_kernFor 150 = .ok (.iload 7, 2) := by decide +kernel
theorem dX6_kernFor_152 : decode cX6_kernFor 152 = .ok (.goto 4, 3) := by decide +kernel
theorem dX6_kernFor_155 : decode cX6_kernFor 155 = .ok (.iload_n 3, 1) := by decide +kernel
theorem dX6_kernFor_156 : decode cX6_kernFor 156 = .ok (.istore_n 3, 1) := by decide +kernel
theorem dX6_kernFor_157 : decode cX6_kernFor 157 = .ok (.iinc 4 1, 3) := by decide +kernel
theorem dX6_kernFor_160 : decode cX6_kernFor 160 = .ok (.goto (-137), 3) := by decide +kernel
theorem dX6_kernFor_163 : decode cX6_kernFor 163 = .ok (.iload_n 2, 1) := by decide +kernel
theorem dX6_kernFor_164 : decode cX6_kernFor 164 = .ok (.ireturn, 1) := by decide +kernel
set_option maxRecDepth 20000 in
theorem ggX6_bestKern_X6_isItem : GoodIn wsX6_bestKern wsX6_isItem := goodIn_r _ [6, 7, 8, 9, 5, 10, 67, 68, 69, 70, 71, 72, 73, 74, 75, 76, 77, 78, 79, 80, 81, 82, 83] (by decide +kernel) (by decide +kernel)
set_option maxRecDepth 20000 in
theorem gX6_bestKern_X6_isItem : GoodIn wsX6_bestKern (wsV RX6 48 RX6 yX6_isItem wsX6_isItem) := goodIn_app (goodIn_of _ (by decide +kernel)) ggX6_bestKern_X6_isItem
set_option maxRecDepth 20000 in
theorem ggX6_bestKern_X6_kernFor : GoodIn wsX6_bestKern wsX6_kernFor := goodIn_r _ [14, 15, 16, 7, 17, 18, 19, 5, 20, 21, 22, 23, 24, 25, 26, 2, 3, 4, 6, 8, 9, 10, 27, 28, 29, 30, 31, 32, 33, 34, 35, 36, 37, 38, 39, 40, 41, 42, 43, 44, 45, 46, 47, 48, 49, 50, 51, 52, 53, 54, 55, 56, 57, 58, 59, 60, 61, 62, 67, 68, 69, 70, 71, 72, 73, 74, 75, 76, 77, 78, 79, 80, 81, 82, 83] (by decide +kernel) (by decide +kernel)
set_option maxRecDepth 20000 in
theorem gX6_bestKern_X6_kernFor : GoodIn wsX6_bestKern (wsV RX6 183 RX6 yX6_kernFor wsX6_kernFor) := goodIn_app (goodIn_of _ (by decide +kernel)) ggX6_bestKern_X6_kernFor
set_option maxRecDepth 20000 in
theorem ggX6_bestKern_X6_fails : GoodIn wsX6_bestKern wsX6_fails := goodIn_r _ [66, 1, 67, 68, 69, 70, 71, 72, 73, 74, 75, 76, 77, 78, 79, 80, 81, 82, 83] (by decide +kernel) (by decide +kernel)
set_option maxRecDepth 20000 in
theorem gX6_bestKern_X6_fails : GoodIn wsX6_bestKern (wsV RX6 97 RX6 yX6_fails wsX6_fails) := goodIn_app (goodIn_of _ (by decide +kernel)) ggX6_bestKern_X6_fails
theorem dX6_bestKern_0 : decode cX6_bestKern 0 = .ok (.aload_n 0, 1) := by decide +kernel
theorem dX6_bestKern_1 : decode cX6_bestKern 1 = .ok (.iconst 0, 1) := by decide +kernel
theorem dX6_bestKern_2 : decode cX6_bestKern 2 = .ok (.putfield 40, 3) := by decide +kernel
theorem dX6_bestKern_5 : decode cX6_bestKern 5 = .ok (.aload_n 0, 1) := by decide +kernel
theorem dX6_bestKern_6 : decode cX6_bestKern 6 = .ok (.iload_n 1, 1) := by decide +kernel
theorem dX6_bestKern_7 : decode cX6_bestKern 7 = .ok (.invokevirtual 48, 3) := by decide +kernel
theorem dX6_bestKern_10 : decode cX6_bestKern 10 = .ok (.ifCond .eq 11, 3) := by decide +kernel
theorem dX6_bestKern_13 : decode cX6_bestKern 13 = .ok (.aload_n 0, 1) := by decide +kernel
theorem dX6_bestKern_14 : decode cX6_bestKern 14 = .ok (.iload_n 1, 1) := by decide +kernel
theorem dX6_bestKern_15 : decode cX6_bestKern 15 = .ok (.invokevirtual 183, 3) := by decide +kernel
theorem dX6_bestKern_18 : decode cX6_bestKern 18 = .ok (.goto 8, 3) := by decide +kernel
theorem dX6_bestKern_21 : decode cX6_bestKern 21 = .ok (.aload_n 0, 1) := by decide +kernel
theorem dX6_bestKern_22 : decode cX6_bestKern 22 = .ok (.iconst 1, 1) := by decide +kernel
theorem dX6_bestKern_23 : decode cX6_bestKern 23 = .ok (.invokevirtual 97, 3) := by decide +kernel
theorem dX6_bestKern_26 : decode cX6_bestKern 26 = .ok (.ireturn, 1) := by decide +kernel
set_option maxRecDepth 20000 in
theorem ggX6_evenness_X6_pairs : GoodIn wsX6_evenness wsX6_pairs := goodIn_r _ [5, 6, 7, 8, 9, 10, 4, 11, 12, 13, 14, 15, 16, 17, 18, 19, 20, 21, 22, 23, 24, 25, 26, 27, 28, 29, 30, 31, 32, 33, 34, 35, 36, 37, 38, 39, 40, 41, 42, 43, 44, 45, 46, 47, 48, 49, 50, 51, 52, 53, 54, 55, 56, 57, 70, 71, 72, 73, 74, 75, 76, 77, 78, 79, 80, 81, 82, 83, 84, 85, 86] (by decide +kernel) (by decide +kernel)
set_option maxRecDepth 20000 in
theorem gX6_evenness_X6_pairs : GoodIn wsX6_evenness (wsV RX6 160 RX6 yX6_pairs wsX6_pairs) := goodIn_app (goodIn_of _ (by decide +kernel)) ggX6_evenness_X6_pairs
set_option maxRecDepth 20000 in
theorem ggX6_evenness_X6_faults : GoodIn wsX6_evenness wsX6_faults := goodIn_r _ [61, 6, 8, 9, 10, 4, 11, 12, 13, 7, 14, 15, 16, 17, 18, 19, 20, 21, 22, 23, 24, 25, 26, 27, 28, 29, 30, 31, 32, 33, 34, 35, 36, 37, 38, 39, 40, 41, 42, 43, 44, 45, 46, 47, 48, 49, 50, 51, 52, 53, 54, 55, 56, 57, 62, 63, 64, 65, 66, 67, 68, 69, 70, 71, 72, 73, 74, 75, 76, 77, 78, 79, 80, 81, 82, 83, 84, 85, 86] (by decide +kernel) (by decide +kernel)
set_option maxRecDepth 20000 in
theorem gX6_evenness_X6_faults : GoodIn wsX6_evenness (wsV RX6 163 RX6 yX6_faults wsX6_faults) := goodIn_app (goodIn_of _ (by decide +kernel)) ggX6_evenness_X6_faults
theorem dX6_evenness_0 : decode cX6_evenness 0 = .ok (.aload_n 0, 1) := by decide +kernel
theorem dX6_evenness_1 : decode cX6_evenness 1 = .ok (.invokevirtual 160, 3) := by decide +kernel
theorem dX6_evenness_4 : decode cX6_evenness 4 = .ok (.istore_n 1, 1) := by decide +kernel
theorem dX6_evenness_5 : decode cX6_evenness 5 = .ok (.iload_n 1, 1) := by decide +kernel
theorem dX6_evenness_6 : decode cX6_evenness 6 = .ok (.ifCond .ne 7, 3) := by decide +kernel
theorem dX6_evenness_9 : decode cX6_evenness 9 = .ok (.dconst 1, 1) := by decide +kernel
theorem dX6_evenness_10 : decode cX6_evenness 10 = .ok (.goto 13, 3) := by decide +kernel
theorem dX6_evenness_13 : decode cX6_evenness 13 = .ok (.iload_n 1, 1) := by decide +kernel
theorem dX6_evenness_14 : decode cX6_evenness 14 = .ok (.aload_n 0, 1) := by decide +kernel
theorem dX6_evenness_15 : decode cX6_evenness 15 = .ok (.invokevirtual 163, 3) := by decide +kernel
theorem dX6_evenness_18 : decode cX6_evenness 18 = .ok (.isub, 1) := by decide +kernel
theorem dX6_evenness_19 : decode cX6_evenness 19 = .ok (.i2d, 1) := by decide +kernel
theorem dX6_evenness_20 : decode cX6_evenness 20 = .ok (.iload_n 1, 1) := by decide +kernel
theorem dX6_evenness_21 : decode cX6_evenness 21 = .ok (.i2d, 1) := by decide +kernel
theorem dX6_evenness_22 : decode cX6_evenness 22 = .ok (.ddiv, 1) := by decide +kernel
theorem dX6_evenness_23 : decode cX6_evenness 23 = .ok (.dreturn, 1) := by decide +kernel
set_option maxRecDepth 20000 in
theorem ggX6_even_X6_evenness : GoodIn wsX6_even wsX6_evenness := goodIn_r _ [6, 7, 8, 9, 5, 10, 11, 12, 13, 14, 15, 16, 17, 18, 19, 20, 21, 22, 23, 24, 25, 26, 27, 28, 29, 30, 31, 32, 33, 34, 35, 36, 37, 38, 39, 40, 41, 42, 43, 44, 45, 46, 47, 48, 49, 50, 51, 52, 53, 54, 55, 56, 57, 58, 59, 60, 61, 62, 63, 64, 65, 66, 67, 68, 69, 70, 71, 72, 73, 74, 75, 76, 77, 78, 79, 80, 81, 82, 83, 84, 85, 86, 87, 88, 89, 90, 91] (by decide +kernel) (by decide +kernel)
set_option maxRecDepth 20000 in
theorem gX6_even_X6_evenness : GoodIn wsX6_even (wsV RX6 186 RX6 yX6_evenness wsX6_evenness) := goodIn_app (goodIn_of _ (by decide +kernel)) ggX6_even_X6_evenness
theorem dX6_even_0 : decode cX6_even 0 = .ok (.aload_n 0, 1) := by decide +kernel
theorem dX6_even_1 : decode cX6_even 1 = .ok (.iconst 0, 1) := by decide +kernel
theorem dX6_even_2 : decode cX6_even 2 = .ok (.putfield 40, 3) := by decide +kernel
theorem dX6_even_5 : decode cX6_even 5 = .ok (.aload_n 0, 1) := by decide +kernel
theorem dX6_even_6 : decode cX6_even 6 = .ok (.invokevirtual 186, 3) := by decide +kernel
theorem dX6_even_9 : decode cX6_even 9 = .ok (.dreturn, 1) := by decide +kernel
theorem dX6_hashes_0 : decode cX6_hashes 0 = .ok (.aload_n 0, 1) := by decide +kernel
theorem dX6_hashes_1 : decode cX6_hashes 1 = .ok (.ldc2_w 190, 3) := by decide +kernel
theorem dX6_hashes_4 : decode cX6_hashes 4 = .ok (.aload_n 0, 1) := by decide +kernel
theorem dX6_hashes_5 : decode cX6_hashes 5 = .ok (.getfield 192, 3) := by decide +kernel
theorem dX6_hashes_8 : decode cX6_hashes 8 = .ok (.lmul, 1) := by decide +kernel
theorem dX6_hashes_9 : decode cX6_hashes 9 = .ok (.lload_n 1, 1) := by decide +kernel
theorem dX6_hashes_10 : decode cX6_hashes 10 = .ok (.ladd, 1) := by decide +kernel
theorem dX6_hashes_11 : decode cX6_hashes 11 = .ok (.putfield 192, 3) := by decide +kernel
theorem dX6_hashes_14 : decode cX6_hashes 14 = .ok (.return_, 1) := by decide +kernel
set_option maxRecDepth 20000 in
theorem ggX6_digest_X6_tellsCount : GoodIn wsX6_digest wsX6_tellsCount := goodIn_r _ [11, 4, 12, 13, 14, 15, 10, 16, 17, 18, 19, 20, 21, 22, 23, 24, 25, 26, 27, 28, 29, 30, 31, 32, 33, 34, 35, 36, 37, 38, 39, 40, 41, 42, 43, 44, 45, 46, 47, 48, 49, 50, 51, 52, 53, 54, 55, 56, 57, 58, 59, 60, 61, 62, 63, 64, 65, 66, 67, 68, 69, 70, 71, 72, 73, 74, 75, 76, 77, 78, 79, 80, 81, 82, 83, 84, 85, 86, 87, 88, 89, 90, 91, 145, 146, 147, 148, 149, 150, 151, 152, 153, 154, 155, 156, 157, 158, 159, 160, 161] (by decide +kernel) (by decide +kernel)
set_option maxRecDepth 20000 in
theorem gX6_digest_X6_tellsCount : GoodIn wsX6_digest (wsV RX6 170 RX6 yX6_tellsCount wsX6_tellsCount) := goodIn_app (goodIn_of _ (by decide +kernel)) ggX6_digest_X6_tellsCount
set_option maxRecDepth 20000 in
theorem ggX6_digest_X6_hashes : GoodIn wsX6_digest wsX6_hashes := goodIn_r _ [95, 96, 3, 145, 146, 147, 148, 149, 150, 151, 152, 153, 154, 155, 156, 157, 158, 159, 160, 161] (by decide +kernel) (by decide +kernel)
set_option maxRecDepth 20000 in
theorem gX6_digest_X6_hashes : GoodIn wsX6_digest (wsV RX6 198 RX6 yX6_hashes wsX6_hashes) := goodIn_app (goodIn_of _ (by decide +kernel)) ggX6_digest_X6_hashes
set_option maxRecDepth 20000 in
theorem ggX6_digest_X6_lays : GoodIn wsX6_digest wsX6_lays := goodIn_r _ [21, 4, 22, 23, 24, 17, 25, 26, 27, 10, 28, 29, 30, 31, 32, 33, 34, 35, 36, 37, 38, 39, 40, 41, 42, 43, 44, 45, 46, 47, 48, 49, 50, 51, 52, 53, 54, 55, 56, 57, 58, 59, 60, 61, 62, 63, 64, 65, 66, 67, 145, 146, 147, 148, 149, 150, 151, 152, 153, 154, 155, 156, 157, 158, 159, 160, 161] (by decide +kernel) (by decide +kernel)
set_option maxRecDepth 20000 in
theorem gX6_digest_X6_lays : GoodIn wsX6_digest (wsV RX6 91 RX6 yX6_lays wsX6_lays) := goodIn_app (goodIn_of _ (by decide +kernel)) ggX6_digest_X6_lays
set_option maxRecDepth 20000 in
theorem ggX6_digest_X6_tellsItem : GoodIn wsX6_digest wsX6_tellsItem := goodIn_r _ [100, 24, 4, 22, 17, 23, 25, 26, 27, 10, 28, 29, 30, 31, 32, 33, 34, 35, 101, 102, 103, 104, 48, 49, 50, 51, 52, 53, 54, 55, 56, 57, 58, 59, 60, 84, 85, 86, 87, 80, 81, 82, 83, 145, 146, 147, 148, 149, 150, 151, 152, 153, 154, 155, 156, 157, 158, 159, 160, 161] (by decide +kernel) (by decide +kernel)
set_option maxRecDepth 20000 in
theorem gX6_digest_X6_tellsItem : GoodIn wsX6_digest (wsV RX6 146 RX6 yX6_tellsItem wsX6_tellsItem) := goodIn_app (goodIn_of _ (by decide +kernel)) ggX6_digest_X6_tellsItem
set_option maxRecDepth 20000 in
theorem ggX6_digest_X6_kernFor : GoodIn wsX6_digest wsX6_kernFor := goodIn_r _ [108, 24, 17, 4, 18, 19, 20, 10, 21, 22, 23, 25, 26, 27, 28, 29, 30, 31, 32, 33, 34, 35, 36, 37, 38, 39, 40, 41, 42, 43, 44, 45, 46, 47, 48, 49, 50, 51, 52, 53, 54, 55, 56, 57, 58, 59, 60, 61, 62, 63, 64, 65, 66, 67, 84, 85, 86, 87, 145, 146, 147, 148, 149, 150, 151, 152, 153, 154, 155, 156, 157, 158, 159, 160, 161] (by decide +kernel) (by decide +kernel)
set_option maxRecDepth 20000 in
theorem gX6_digest_X6_kernFor : GoodIn wsX6_digest (wsV RX6 183 RX6 yX6_kernFor wsX6_kernFor) := goodIn_app (goodIn_of _ (by decide +kernel)) ggX6_digest_X6_kernFor
set_option maxRecDepth 20000 in
theorem ggX6_digest_X6_pairs : GoodIn wsX6_digest wsX6_pairs := goodIn_r _ [75, 4, 24, 18, 19, 20, 10, 21, 22, 23, 17, 25, 26, 27, 28, 29, 30, 31, 32, 33, 34, 35, 36, 37, 38, 39, 40, 41, 42, 43, 44, 45, 46, 47, 48, 49, 50, 51, 52, 53, 54, 55, 56, 57, 58, 59, 60, 61, 62, 63, 64, 65, 66, 67, 145, 146, 147, 148, 149, 150, 151, 152, 153, 154, 155, 156, 157, 158, 159, 160, 161] (by decide +kernel) (by decide +kernel)
set_option maxRecDepth 20000 in
theorem gX6_digest_X6_pairs : GoodIn wsX6_digest (wsV RX6 160 RX6 yX6_pairs wsX6_pairs) := goodIn_app (goodIn_of _ (by decide +kernel)) ggX6_digest_X6_pairs
set_option maxRecDepth 20000 in
theorem ggX6_digest_X6_pairAt : GoodIn wsX6_digest wsX6_pairAt := goodIn_r _ [112, 4, 24, 113, 114, 115, 10, 116, 84, 85, 86, 87, 55, 56, 57, 145, 146, 147, 148, 149, 150, 151, 152, 153, 154, 155, 156, 157, 158, 159, 160, 161] (by decide +kernel) (by decide +kernel)
set_option maxRecDepth 20000 in
theorem gX6_digest_X6_pairAt : GoodIn wsX6_digest (wsV RX6 153 RX6 yX6_pairAt wsX6_pairAt) := goodIn_app (goodIn_of _ (by decide +kernel)) ggX6_digest_X6_pairAt
set_option maxRecDepth 20000 in
theorem ggX6_digest_X6_back : GoodIn wsX6_digest wsX6_back := goodIn_r _ [54, 4, 55, 56, 10, 57, 33, 34, 35, 145, 146, 147, 148, 149, 150, 151, 152, 153, 154, 155, 156, 157, 158, 159, 160, 161] (by decide +kernel) (by decide +kernel)
set_option maxRecDepth 20000 in
theorem gX6_digest_X6_back : GoodIn wsX6_digest (wsV RX6 62 RX6 yX6_back wsX6_back) := goodIn_app (goodIn_of _ (by decide +kernel)) ggX6_digest_X6_back
set_option maxRecDepth 20000 in
theorem ggX6_digest_X6_would : GoodIn wsX6_digest wsX6_would := goodIn_r _ [120, 4, 13, 14, 15, 10, 16, 17, 18, 19, 20, 21, 22, 23, 24, 25, 26, 27, 28, 29, 30, 31, 32, 33, 34, 35, 36, 37, 38, 39, 40, 41, 42, 43, 44, 45, 46, 47, 48, 49, 50, 51, 52, 53, 54, 55, 56, 57, 58, 59, 60, 61, 62, 63, 64, 65, 66, 67, 76, 77, 78, 79, 80, 81, 82, 83, 84, 85, 86, 87, 145, 146, 147, 148, 149, 150, 151, 152, 153, 154, 155, 156, 157, 158, 159, 160, 161] (by decide +kernel) (by decide +kernel)
set_option maxRecDepth 20000 in
theorem gX6_digest_X6_would : GoodIn wsX6_digest (wsV RX6 173 RX6 yX6_would wsX6_would) := goodIn_app (goodIn_of _ (by decide +kernel)) ggX6_digest_X6_would
set_option maxRecDepth 20000 in
theorem ggX6_digest_X6_largest : GoodIn wsX6_digest wsX6_largest := goodIn_r _ [124, 4, 117, 118, 119, 10, 120, 13, 14, 15, 16, 17, 18, 19, 20, 21, 22, 23, 24, 25, 26, 27, 28, 29, 30, 31, 32, 33, 34, 35, 36, 37, 38, 39, 40, 41, 42, 43, 44, 45, 46, 47, 48, 49, 50, 51, 52, 53, 54, 55, 56, 57, 58, 59, 60, 61, 62, 63, 64, 65, 66, 67, 76, 77, 78, 79, 80, 81, 82, 83, 84, 85, 86, 87, 145, 146, 147, 148, 149, 150, 151, 152, 153, 154, 155, 156, 157, 158, 159, 160, 161] (by decide +kernel) (by decide +kernel)
set_option maxRecDepth 20000 in
theorem gX6_digest_X6_largest : GoodIn wsX6_digest (wsV RX6 177 RX6 yX6_largest wsX6_largest) := goodIn_app (goodIn_of _ (by decide +kernel)) ggX6_digest_X6_largest
set_option maxRecDepth 20000 in
theorem ggX6_digest_X6_snapOfFewest : GoodIn wsX6_digest wsX6_snapOfFewest := goodIn_r _ [128, 117, 118, 119, 10, 120, 4, 13, 14, 15, 16, 17, 18, 19, 20, 21, 22, 23, 24, 25, 26, 27, 28, 29, 30, 31, 32, 33, 34, 35, 36, 37, 38, 39, 40, 41, 42, 43, 44, 45, 46, 47, 48, 49, 50, 51, 52, 53, 54, 55, 56, 57, 58, 59, 60, 61, 62, 63, 64, 65, 66, 67, 76, 77, 78, 79, 80, 81, 82, 83, 84, 85, 86, 87, 145, 146, 147, 148, 149, 150, 151, 152, 153, 154, 155, 156, 157, 158, 159, 160, 161] (by decide +kernel) (by decide +kernel)
set_option maxRecDepth 20000 in
theorem gX6_digest_X6_snapOfFewest : GoodIn wsX6_digest (wsV RX6 180 RX6 yX6_snapOfFewest wsX6_snapOfFewest) := goodIn_app (goodIn_of _ (by decide +kernel)) ggX6_digest_X6_snapOfFewest
set_option maxRecDepth 20000 in
theorem ggX6_digest_X6_evenness : GoodIn wsX6_digest wsX6_evenness := goodIn_r _ [132, 72, 73, 74, 10, 75, 4, 24, 18, 19, 20, 21, 22, 23, 17, 25, 26, 27, 28, 29, 30, 31, 32, 33, 34, 35, 36, 37, 38, 39, 40, 41, 42, 43, 44, 45, 46, 47, 48, 49, 50, 51, 52, 53, 54, 55, 56, 57, 58, 59, 60, 61, 62, 63, 64, 65, 66, 67, 76, 77, 78, 79, 80, 81, 82, 83, 84, 85, 86, 87, 145, 146, 147, 148, 149, 150, 151, 152, 153, 154, 155, 156, 157, 158, 159, 160, 161] (by decide +kernel) (by decide +kernel)
set_option maxRecDepth 20000 in
theorem gX6_digest_X6_evenness : GoodIn wsX6_digest (wsV RX6 186 RX6 yX6_evenness wsX6_evenness) := goodIn_app (goodIn_of _ (by decide +kernel)) ggX6_digest_X6_evenness
set_option maxRecDepth 20000 in
theorem ggX6_digest_Jxe99ae_doubleToLongBits_ccdee : GoodIn wsX6_digest wsJxe99ae_doubleToLongBits_ccdee := goodIn_r _ [136, 137, 138, 139, 140, 141, 142, 143, 135, 144] (by decide +kernel) (by decide +kernel)
set_option maxRecDepth 20000 in
theorem gX6_digest_Jxe99ae_doubleToLongBits_ccdee : GoodIn wsX6_digest (va_wsS RX6 202 yJxe99ae_doubleToLongBits_ccdee wsJxe99ae_doubleToLongBits_ccdee) := goodIn_app (goodIn_of _ (by decide +kernel)) ggX6_digest_Jxe99ae_doubleToLongBits_ccdee
theorem dX6_digest_0 : decode cX6_digest 0 = .ok (.aload_n 0, 1) := by decide +kernel
theorem dX6_digest_1 : decode cX6_digest 1 = .ok (.iconst 0, 1) := by decide +kernel
theorem dX6_digest_2 : decode cX6_digest 2 = .ok (.putfield 40, 3) := by decide +kernel
theorem dX6_digest_5 : decode cX6_digest 5 = .ok (.aload_n 0, 1) := by decide +kernel
theorem dX6_digest_6 : decode cX6_digest 6 = .ok (.ldc2_w 196, 3) := by decide +kernel
theorem dX6_digest_9 : decode cX6_digest 9 = .ok (.putfield 192, 3) := by decide +kernel
theorem dX6_digest_12 : decode cX6_digest 12 = .ok (.iconst 0, 1) := by decide +kernel
theorem dX6_digest_13 : decode cX6_digest 13 = .ok (.istore_n 1, 1) := by decide +kernel
theorem dX6_digest_14 : decode cX6_digest 14 = .ok (.iload_n 1, 1) := by decide +kernel
theorem dX6_digest_15 : decode cX6_digest 15 = .ok (.bipush 16, 2) := by decide +kernel
theorem dX6_digest_17 : decode cX6_digest 17 = .ok (.if_icmp .ge 19, 3) := by decide +kernel
theorem dX6_digest_20 : decode cX6_digest 20 = .ok (.aload_n 0, 1) := by decide +kernel
theorem dX6_digest_21 : decode cX6_digest 21 = .ok (.aload_n 0, 1) := by decide +kernel
theorem dX6_digest_22 : decode cX6_digest 22 = .ok (.iload_n 1, 1) := by decide +kernel
theorem dX6_digest_23 : decode cX6_digest 23 = .ok (.invokevirtual 170, 3) := by decide +kernel
theorem dX6_digest_26 : decode cX6_digest 26 = .ok (.i2l, 1) := by decide +kernel
theorem dX6_digest_27 : decode cX6_digest 27 = .ok (.invokevirtual 198, 3) := by decide +kernel
theorem dX6_digest_30 : decode cX6_digest 30 = .ok (.iinc 1 1, 3) := by decide +kernel
theorem dX6_digest_33 : decode cX6_digest 33 = .ok (.goto (-19), 3) := by decide +kernel
theorem dX6_digest_36 : decode cX6_digest 36 = .ok (.iconst 0, 1) := by decide +kernel
theorem dX6_digest_37 : decode cX6_digest 37 = .ok (.istore_n 1, 1) := by decide +kernel
theorem dX6_digest_38 : decode cX6_digest 38 = .ok (.iload_n 1, 1) := by decide +kernel
theorem dX6_digest_39 : decode cX6_digest 39 = .ok (.aload_n 0, 1) := by decide +kernel
theorem dX6_digest_40 : decode cX6_digest 40 = .ok (.getfield 7, 3) := by decide +kernel
theorem dX6_digest_43 : decode cX6_digest 43 = .ok (.bipush 7, 2) := by decide +kernel
theorem dX6_digest_45 : decode cX6_digest 45 = .ok (.iaload, 1) := by decide +kernel
theorem dX6_digest_46 : decode cX6_digest 46 = .ok (.if_icmp .ge 48, 3) := by decide +kernel
theorem dX6_digest_49 : decode cX6_digest 49 = .ok (.aload_n 0, 1) := by decide +kernel
theorem dX6_digest_50 : decode cX6_digest 50 = .ok (.invokevirtual 91, 3) := by decide +kernel
theorem dX6_digest_53 : decode cX6_digest 53 = .ok (.iconst 0, 1) := by decide +kernel
theorem dX6_digest_54 : decode cX6_digest 54 = .ok (.istore_n 2, 1) := by decide +kernel
theorem dX6_digest_55 : decode cX6_digest 55 = .ok (.iload_n 2, 1) := by decide +kernel
theorem dX6_digest_56 : decode cX6_digest 56 = .ok (.bipush 9, 2) := by decide +kernel
theorem dX6_digest_58 : decode cX6_digest 58 = .ok (.if_icmp .ge 20, 3) := by decide +kernel
theorem dX6_digest_61 : decode cX6_digest 61 = .ok (.aload_n 0, 1) := by decide +kernel
theorem dX6_digest_62 : decode cX6_digest 62 = .ok (.aload_n 0, 1) := by decide +kernel
theorem dX6_digest_63 : decode cX6_digest 63 = .ok (.iload_n 1, 1) := by decide +kernel
theorem dX6_digest_64 : decode cX6_digest 64 = .ok (.iload_n 2, 1) := by decide +kernel
theorem dX6_digest_65 : decode cX6_digest 65 = .ok (.invokevirtual 146, 3) := by decide +kernel
theorem dX6_digest_68 : decode cX6_digest 68 = .ok (.i2l, 1) := by decide +kernel
theorem dX6_digest_69 : decode cX6_digest 69 = .ok (.invokevirtual 198, 3) := by decide +kernel
theorem dX6_digest_72 : decode cX6_digest 72 = .ok (.iinc 2 1, 3) := by decide +kernel
theorem dX6_digest_75 : decode cX6_digest 75 = .ok (.goto (-20), 3) := by decide +kernel
theorem dX6_digest_78 : decode cX6_digest 78 = .ok (.aload_n 0, 1) := by decide +kernel
theorem dX6_digest_79 : decode cX6_digest 79 = .ok (.aload_n 0, 1) := by decide +kernel
theorem dX6_digest_80 : decode cX6_digest 80 = .ok (.iload_n 1, 1) := by decide +kernel
theorem dX6_digest_81 : decode cX6_digest 81 = .ok (.invokevirtual 183, 3) := by decide +kernel
theorem dX6_digest_84 : decode cX6_digest 84 = .ok (.i2l, 1) := by decide +kernel
theorem dX6_digest_85 : decode cX6_digest 85 = .ok (.invokevirtual 198, 3) := by decide +kernel
theorem dX6_digest_88 : decode cX6_digest 88 = .ok (.iinc 1 1, 3) := by decide +kernel
theorem dX6_digest_91 : decode cX6_digest 91 = .ok (.goto (-53), 3) := by decide +kernel
theorem dX6_digest_94 : decode cX6_digest 94 = .ok (.aload_n 0, 1) := by decide +kernel
theorem dX6_digest_95 : decode cX6_digest 95 = .ok (.invokevirtual 160, 3) := by decide +kernel
theorem dX6_digest_98 : decode cX6_digest 98 = .ok (.istore_n 1, 1) := by decide +kernel
theorem dX6_digest_99 : decode cX6_digest 99 = .ok (.iconst 0, 1) := by decide +kernel
theorem dX6_digest_100 : decode cX6_digest 100 = .ok (.istore_n 2, 1) := by decide +kernel
theorem dX6_digest_101 : decode cX6_digest 101 = .ok (.iload_n 2, 1) := by decide +kernel
theorem dX6_digest_102 : decode cX6_digest 102 = .ok (.iload_n 1, 1) := by decide +kernel
theorem dX6_digest_103 : decode cX6_digest 103 = .ok (.if_icmp .ge 31, 3) := by decide +kernel
theorem dX6_digest_106 : decode cX6_digest 106 = .ok (.aload_n 0, 1) := by decide +kernel
theorem dX6_digest_107 : decode cX6_digest 107 = .ok (.aload_n 0, 1) := by decide +kernel
theorem dX6_digest_108 : decode cX6_digest 108 = .ok (.iload_n 2, 1) := by decide +kernel
theorem dX6_digest_109 : decode cX6_digest 109 = .ok (.iconst 0, 1) := by decide +kernel
theorem dX6_digest_110 : decode cX6_digest 110 = .ok (.invokevirtual 153, 3) := by decide +kernel
theorem dX6_digest_113 : decode cX6_digest 113 = .ok (.i2l, 1) := by decide +kernel
theorem dX6_digest_114 : decode cX6_digest 114 = .ok (.invokevirtual 198, 3) := by decide +kernel
theorem dX6_digest_117 : decode cX6_digest 117 = .ok (.aload_n 0, 1) := by decide +kernel
theorem dX6_digest_118 : decode cX6_digest 118 = .ok (.aload_n 0, 1) := by decide +kernel
theorem dX6_digest_119 : decode cX6_digest 119 = .ok (.iload_n 2, 1) := by decide +kernel
theorem dX6_digest_120 : decode cX6_digest 120 = .ok (.iconst 1, 1) := by decide +kernel
theorem dX6_digest_121 : decode cX6_digest 121 = .ok (.invokevirtual 153, 3) := by decide +kernel
theorem dX6_digest_124 : decode cX6_digest 124 = .ok (.i2l, 1) := by decide +kernel
theorem dX6_digest_125 : decode cX6_digest 125 = .ok (.invokevirtual 198, 3) := by decide +kernel
theorem dX6_digest_128 : decode cX6_digest 128 = .ok (.iinc 2 1, 3) := by decide +kernel
theorem dX6_digest_131 : decode cX6_digest 131 = .ok (.goto (-30), 3) := by decide +kernel
theorem dX6_digest_134 : decode cX6_digest 134 = .ok (.iconst 0, 1) := by decide +kernel
theorem dX6_digest_135 : decode cX6_digest 135 = .ok (.istore_n 2, 1) := by decide +kernel
theorem dX6_digest_136 : decode cX6_digest 136 = .ok (.iload_n 2, 1) := by decide +kernel
theorem dX6_digest_137 : decode cX6_digest 137 = .ok (.iconst 4, 1) := by decide +kernel
theorem dX6_digest_138 : decode cX6_digest 138 = .ok (.if_icmp .ge 32, 3) := by decide +kernel
theorem dX6_digest_141 : decode cX6_digest 141 = .ok (.aload_n 0, 1) := by decide +kernel
theorem dX6_digest_142 : decode cX6_digest 142 = .ok (.aload_n 0, 1) := by decide +kernel
theorem dX6_digest_143 : decode cX6_digest 143 = .ok (.iload_n 2, 1) := by decide +kernel
theorem dX6_digest_144 : decode cX6_digest 144 = .ok (.iconst 0, 1) := by decide +kernel
theorem dX6_digest_145 : decode cX6_digest 145 = .ok (.invokevirtual 62, 3) := by decide +kernel
theorem dX6_digest_148 : decode cX6_digest 148 = .ok (.i2l, 1) := by decide +kernel
theorem dX6_digest_149 : decode cX6_digest 149 = .ok (.invokevirtual 198, 3) := by decide +kernel
theorem dX6_digest_152 : decode cX6_digest 152 = .ok (.aload_n 0, 1) := by decide +kernel
theorem dX6_digest_153 : decode cX6_digest 153 = .ok (.aload_n 0, 1) := by decide +kernel
theorem dX6_digest_154 : decode cX6_digest 154 = .ok (.iload_n 2, 1) := by decide +kernel
theorem dX6_digest_155 : decode cX6_digest 155 = .ok (.bipush 9, 2) := by decide +kernel
theorem dX6_digest_157 : decode cX6_digest 157 = .ok (.invokevirtual 62, 3) := by decide +kernel
theorem dX6_digest_160 : decode cX6_digest 160 = .ok (.i2l, 1) := by decide +kernel
theorem dX6_digest_161 : decode cX6_digest 161 = .ok (.invokevirtual 198, 3) := by decide +kernel
theorem dX6_digest_164 : decode cX6_digest 164 = .ok (.iinc 2 1, 3) := by decide +kernel
theorem dX6_digest_167 : decode cX6_digest 167 = .ok (.goto (-31), 3) := by decide +kernel
theorem dX6_digest_170 : decode cX6_digest 170 = .ok (.aload_n 0, 1) := by decide +kernel
theorem dX6_digest_171 : decode cX6_digest 171 = .ok (.aload_n 0, 1) := by decide +kernel
theorem dX6_digest_172 : decode cX6_digest 172 = .ok (.iconst 4, 1) := by decide +kernel
theorem dX6_digest_173 : decode cX6_digest 173 = .ok (.iconst 5, 1) := by decide +kernel
theorem dX6_digest_174 : decode cX6_digest 174 = .ok (.iconst 0, 1) := by decide +kernel
theorem dX6_digest_175 : decode cX6_digest 175 = .ok (.invokevirtual 173, 3) := by decide +kernel
theorem dX6_digest_178 : decode cX6_digest 178 = .ok (.i2l, 1) := by decide +kernel
theorem dX6_digest_179 : decode cX6_digest 179 = .ok (.invokevirtual 198, 3) := by decide +kernel
theorem dX6_digest_182 : decode cX6_digest 182 = .ok (.aload_n 0, 1) := by decide +kernel
theorem dX6_digest_183 : decode cX6_digest 183 = .ok (.aload_n 0, 1) := by decide +kernel
theorem dX6_digest_184 : decode cX6_digest 184 = .ok (.iconst 4, 1) := by decide +kernel
theorem dX6_digest_185 : decode cX6_digest 185 = .ok (.iconst 5, 1) := by decide +kernel
theorem dX6_digest_186 : decode cX6_digest 186 = .ok (.iconst 1, 1) := by decide +kernel
theorem dX6_digest_187 : decode cX6_digest 187 = .ok (.invokevirtual 173, 3) := by decide +kernel
theorem dX6_digest_190 : decode cX6_digest 190 = .ok (.i2l, 1) := by decide +kernel
theorem dX6_digest_191 : decode cX6_digest 191 = .ok (.invokevirtual 198, 3) := by decide +kernel
theorem dX6_digest_194 : decode cX6_digest 194 = .ok (.aload_n 0, 1) := by decide +kernel
theorem dX6_digest_195 : decode cX6_digest 195 = .ok (.aload_n 0, 1) := by decide +kernel
theorem dX6_digest_196 : decode cX6_digest 196 = .ok (.invokevirtual 177, 3) := by decide +kernel
theorem dX6_digest_199 : decode cX6_digest 199 = .ok (.i2l, 1) := by decide +kernel
theorem dX6_digest_200 : decode cX6_digest 200 = .ok (.invokevirtual 198, 3) := by decide +kernel
theorem dX6_digest_203 : decode cX6_digest 203 = .ok (.aload_n 0, 1) := by decide +kernel
theorem dX6_digest_204 : decode cX6_digest 204 = .ok (.aload_n 0, 1) := by decide +kernel
theorem dX6_digest_205 : decode cX6_digest 205 = .ok (.invokevirtual 180, 3) := by decide +kernel
theorem dX6_digest_208 : decode cX6_digest 208 = .ok (.i2l, 1) := by decide +kernel
theorem dX6_digest_209 : decode cX6_digest 209 = .ok (.invokevirtual 198, 3) := by decide +kernel
theorem dX6_digest_212 : decode cX6_digest 212 = .ok (.aload_n 0, 1) := by decide +kernel
theorem dX6_digest_213 : decode cX6_digest 213 = .ok (.aload_n 0, 1) := by decide +kernel
theorem dX6_digest_214 : decode cX6_digest 214 = .ok (.invokevirtual 186, 3) := by decide +kernel
theorem dX6_digest_217 : decode cX6_digest 217 = .ok (.invokestatic 202, 3) := by decide +kernel
theorem dX6_digest_220 : decode cX6_digest 220 = .ok (.invokevirtual 198, 3) := by decide +kernel
theorem dX6_digest_223 : decode cX6_digest 223 = .ok (.aload_n 0, 1) := by decide +kernel
theorem dX6_digest_224 : decode cX6_digest 224 = .ok (.aload_n 0, 1) := by decide +kernel
theorem dX6_digest_225 : decode cX6_digest 225 = .ok (.getfield 117, 3) := by decide +kernel
theorem dX6_digest_228 : decode cX6_digest 228 = .ok (.i2l, 1) := by decide +kernel
theorem dX6_digest_229 : decode cX6_digest 229 = .ok (.invokevirtual 198, 3) := by decide +kernel
theorem dX6_digest_232 : decode cX6_digest 232 = .ok (.iconst 0, 1) := by decide +kernel
theorem dX6_digest_233 : decode cX6_digest 233 = .ok (.istore_n 2, 1) := by decide +kernel
theorem dX6_digest_234 : decode cX6_digest 234 = .ok (.iload_n 2, 1) := by decide +kernel
theorem dX6_digest_235 : decode cX6_digest 235 = .ok (.aload_n 0, 1) := by decide +kernel
theorem dX6_digest_236 : decode cX6_digest 236 = .ok (.getfield 117, 3) := by decide +kernel
theorem dX6_digest_239 : decode cX6_digest 239 = .ok (.if_icmp .ge 20, 3) := by decide +kernel
theorem dX6_digest_242 : decode cX6_digest 242 = .ok (.aload_n 0, 1) := by decide +kernel
theorem dX6_digest_243 : decode cX6_digest 243 = .ok (.aload_n 0, 1) := by decide +kernel
theorem dX6_digest_244 : decode cX6_digest 244 = .ok (.getfield 19, 3) := by decide +kernel
theorem dX6_digest_247 : decode cX6_digest 247 = .ok (.iload_n 2, 1) := by decide +kernel
theorem dX6_digest_248 : decode cX6_digest 248 = .ok (.iaload, 1) := by decide +kernel
theorem dX6_digest_249 : decode cX6_digest 249 = .ok (.i2l, 1) := by decide +kernel
theorem dX6_digest_250 : decode cX6_digest 250 = .ok (.invokevirtual 198, 3) := by decide +kernel
theorem dX6_digest_253 : decode cX6_digest 253 = .ok (.iinc 2 1, 3) := by decide +kernel
theorem dX6_digest_256 : decode cX6_digest 256 = .ok (.goto (-22), 3) := by decide +kernel
theorem dX6_digest_259 : decode cX6_digest 259 = .ok (.aload_n 0, 1) := by decide +kernel
theorem dX6_digest_260 : decode cX6_digest 260 = .ok (.getfield 192, 3) := by decide +kernel
theorem dX6_digest_263 : decode cX6_digest 263 = .ok (.lreturn, 1) := by decide +kernel
theorem dJxe99ae_isNaN_b9ae7_0 : decode cJxe99ae_isNaN_b9ae7 0 = .ok (.dload_n 0, 1) := by decide +kernel
theorem dJxe99ae_isNaN_b9ae7_1 : decode cJxe99ae_isNaN_b9ae7 1 = .ok (.dload_n 0, 1) := by decide +kernel
theorem dJxe99ae_isNaN_b9ae7_2 : decode cJxe99ae_isNaN_b9ae7 2 = .ok (.dcmp .l, 1) := by decide +kernel
theorem dJxe99ae_isNaN_b9ae7_3 : decode cJxe99ae_isNaN_b9ae7 3 = .ok (.ifCond .eq 7, 3) := by decide +kernel
theorem dJxe99ae_isNaN_b9ae7_6 : decode cJxe99ae_isNaN_b9ae7 6 = .ok (.iconst 1, 1) := by decide +kernel
theorem dJxe99ae_isNaN_b9ae7_7 : decode cJxe99ae_isNaN_b9ae7 7 = .ok (.goto 4, 3) := by decide +kernel
theorem dJxe99ae_isNaN_b9ae7_10 : decode cJxe99ae_isNaN_b9ae7 10 = .ok (.iconst 0, 1) := by decide +kernel
theorem dJxe99ae_isNaN_b9ae7_11 : decode cJxe99ae_isNaN_b9ae7 11 = .ok (.ireturn, 1) := by decide +kernel
set_option maxRecDepth 20000 in
theorem ggJxe99ae_doubleToLongBits_ccdee_Jxe99ae_isNaN_b9ae7 : GoodIn wsJxe99ae_doubleToLongBits_ccdee wsJxe99ae_isNaN_b9ae7 := goodIn_r _ [9] (by decide +kernel) (by decide +kernel)
set_option maxRecDepth 20000 in
theorem gJxe99ae_doubleToLongBits_ccdee_Jxe99ae_isNaN_b9ae7 : GoodIn wsJxe99ae_doubleToLongBits_ccdee (va_wsS RJxe99ae 122 yJxe99ae_isNaN_b9ae7 wsJxe99ae_isNaN_b9ae7) := goodIn_app (goodIn_of _ (by decide +kernel)) ggJxe99ae_doubleToLongBits_ccdee_Jxe99ae_isNaN_b9ae7
theorem dJxe99ae_doubleToLongBits_ccdee_0 : decode cJxe99ae_doubleToLongBits_ccdee 0 = .ok (.dload_n 0, 1) := by decide +kernel
theorem dJxe99ae_doubleToLongBits_ccdee_1 : decode cJxe99ae_doubleToLongBits_ccdee 1 = .ok (.invokestatic 122, 3) := by decide +kernel
theorem dJxe99ae_doubleToLongBits_ccdee_4 : decode cJxe99ae_doubleToLongBits_ccdee 4 = .ok (.ifCond .ne 8, 3) := by decide +kernel
theorem dJxe99ae_doubleToLongBits_ccdee_7 : decode cJxe99ae_doubleToLongBits_ccdee 7 = .ok (.dload_n 0, 1) := by decide +kernel
theorem dJxe99ae_doubleToLongBits_ccdee_8 : decode cJxe99ae_doubleToLongBits_ccdee 8 = .ok (.invokestatic 134, 3) := by decide +kernel
theorem dJxe99ae_doubleToLongBits_ccdee_11 : decode cJxe99ae_doubleToLongBits_ccdee 11 = .ok (.lreturn, 1) := by decide +kernel
theorem dJxe99ae_doubleToLongBits_ccdee_12 : decode cJxe99ae_doubleToLongBits_ccdee 12 = .ok (.ldc2_w 137, 3) := by decide +kernel
theorem dJxe99ae_doubleToLongBits_ccdee_15 : decode cJxe99ae_doubleToLongBits_ccdee 15 = .ok (.lreturn, 1) := by decide +kernel
set_option maxRecDepth 20000 in
theorem ggL_put_X5_put : GoodIn wsL_put wsX5_put := goodIn_ca (goodIn_ca (goodIn_ca (goodIn_r _ [8, 9, 10, 11, 12, 13, 14, 15, 16, 17, 7, 18, 19, 20, 21, 22, 23, 24, 25, 26, 27, 28, 29, 30, 31, 32, 33, 34, 35, 36, 37, 38, 39, 40, 41, 42, 43, 44, 45, 46, 47, 48, 49, 50, 51, 52, 53, 54, 55, 56, 57, 58, 59, 60, 61, 62, 63, 64, 65, 66, 67, 68, 69, 70, 71, 72, 73, 74, 75, 76, 77, 78] (by decide +kernel) (by decide +kernel)) (goodIn_sub (fun _ h => List.mem_cons_of_mem _ (List.mem_append_left _ (List.mem_append_left _ (List.mem_append_right _ h)))) (by decide +kernel))) (goodIn_sub (fun _ h => List.mem_cons_of_mem _ (List.mem_append_left _ (List.mem_append_right _ h))) (by decide +kernel))) (goodIn_sub (fun _ h => List.mem_cons_of_mem _ (List.mem_append_right _ h)) (by decide +kernel))
set_option maxRecDepth 20000 in
theorem gL_put_X5_put : GoodIn wsL_put (wsV RL 7 RX5 yX5_put wsX5_put) := goodIn_app (goodIn_of _ (by decide +kernel)) ggL_put_X5_put

