theorem dL_cell_0 : decode cL_cell 0 = .ok (.iload_n 1, 1) := by decide +kernel
theorem dL_cell_1 : decode cL_cell 1 = .ok (.aload_n 0, 1) := by decide +kernel
theorem dL_cell_2 : decode cL_cell 2 = .ok (.arraylength, 1) := by decide +kernel
theorem dL_cell_3 : decode cL_cell 3 = .ok (.if_icmp .ge 9, 3) := by decide +kernel
theorem dL_cell_6 : decode cL_cell 6 = .ok (.aload_n 0, 1) := by decide +kernel
theorem dL_cell_7 : decode cL_cell 7 = .ok (.iload_n 1, 1) := by decide +kernel
theorem dL_cell_8 : decode cL_cell 8 = .ok (.iaload, 1) := by decide +kernel
theorem dL_cell_9 : decode cL_cell 9 = .ok (.goto 15, 3) := by decide +kernel
theorem dL_cell_12 : decode cL_cell 12 = .ok (.sipush 7919, 3) := by decide +kernel
theorem dL_cell_15 : decode cL_cell 15 = .ok (.iload_n 1, 1) := by decide +kernel
theorem dL_cell_16 : decode cL_cell 16 = .ok (.iconst 3, 1) := by decide +kernel
theorem dL_cell_17 : decode cL_cell 17 = .ok (.iadd, 1) := by decide +kernel
theorem dL_cell_18 : decode cL_cell 18 = .ok (.imul, 1) := by decide +kernel
theorem dL_cell_19 : decode cL_cell 19 = .ok (.iload_n 1, 1) := by decide +kernel
theorem dL_cell_20 : decode cL_cell 20 = .ok (.bipush 11, 2) := by decide +kernel
theorem dL_cell_22 : decode cL_cell 22 = .ok (.iadd, 1) := by decide +kernel
theorem dL_cell_23 : decode cL_cell 23 = .ok (.imul, 1) := by decide +kernel
theorem dL_cell_24 : decode cL_cell 24 = .ok (.ireturn, 1) := by decide +kernel
theorem dL_low_0 : decode cL_low 0 = .ok (.iload_n 0, 1) := by decide +kernel
theorem dL_low_1 : decode cL_low 1 = .ok (.ldc 7, 2) := by decide +kernel
theorem dL_low_3 : decode cL_low 3 = .ok (.iand, 1) := by decide +kernel
theorem dL_low_4 : decode cL_low 4 = .ok (.iload_n 1, 1) := by decide +kernel
theorem dL_low_5 : decode cL_low 5 = .ok (.irem, 1) := by decide +kernel
theorem dL_low_6 : decode cL_low 6 = .ok (.ireturn, 1) := by decide +kernel
set_option maxRecDepth 20000 in
theorem ggL_told_X5_count : GoodIn wsL_told wsX5_count := goodIn_ca (goodIn_r _ [7, 8, 9, 10, 11, 12, 6, 13, 14, 15, 16, 17, 18, 19, 20, 21, 22, 23, 24, 25, 26, 27, 28, 29, 30, 31, 32, 33, 34, 35, 36, 37, 38, 39, 40, 41, 42, 43, 44, 45, 46, 47, 48, 49, 50, 51, 52, 53, 54, 55, 56, 57, 58, 59, 60, 61, 62, 63, 64, 65, 66, 67, 68, 69, 70, 71, 72, 73, 74, 75, 76, 77, 78, 79, 80, 81, 82, 83, 84, 85, 86, 87, 88, 89, 90, 91, 92, 93, 94, 95, 96, 97, 98, 99, 100, 101, 102, 103, 104, 105, 106, 107, 108, 109, 110, 111, 112, 113, 114, 115, 116, 117, 118, 119, 120, 121, 122, 123, 124, 125, 126, 127, 128, 129, 130, 131, 132, 133, 134, 135, 136, 137, 138, 139, 140, 141, 142, 143, 144, 145, 146, 147, 148, 149, 150, 151, 152, 179, 180, 181, 182, 183, 184, 185, 186, 187, 188, 189, 190, 191, 192, 193, 194, 195, 196, 197, 198, 199, 200, 201, 202, 203, 204, 205, 206, 207, 208, 209, 210, 211, 212, 213, 214, 215, 216] (by decide +kernel) (by decide +kernel)) (goodIn_sub (fun _ h => List.mem_cons_of_mem _ (List.mem_append_left _ (List.mem_append_right _ h))) (by decide +kernel))
set_option maxRecDepth 20000 in
theorem gL_told_X5_count : GoodIn wsL_told (wsV RL 12 RX5 yX5_count wsX5_count) := goodIn_app (goodIn_of _ (by decide +kernel)) ggL_told_X5_count
set_option maxRecDepth 20000 in
theorem ggL_told_X5_item : GoodIn wsL_told wsX5_item := goodIn_ca (goodIn_ca (goodIn_r _ [156, 157, 158, 8, 9, 16, 159, 62, 63, 58, 64, 65, 10, 11, 12, 6, 13, 14, 15, 17, 18, 19, 20, 21, 22, 23, 24, 25, 26, 27, 28, 29, 30, 31, 32, 33, 34, 35, 36, 37, 38, 39, 40, 41, 42, 43, 44, 45, 46, 47, 48, 49, 50, 51, 52, 53, 54, 55, 56, 57, 59, 60, 61, 66, 67, 68, 69, 70, 71, 72, 73, 74, 75, 76, 77, 78, 79, 80, 81, 82, 83, 84, 85, 86, 87, 88, 89, 90, 91, 92, 93, 94, 95, 96, 97, 98, 99, 100, 101, 102, 103, 104, 105, 106, 107, 108, 109, 110, 111, 112, 113, 114, 115, 116, 117, 118, 119, 120, 121, 122, 123, 124, 125, 126, 127, 128, 129, 130, 131, 132, 133, 160, 161, 162, 163, 164, 165, 152, 151, 166, 167, 168, 169, 170, 171, 172, 173, 174, 175, 176, 177, 178, 179, 180, 181, 182, 183, 184, 185, 186, 187, 188, 189, 190, 191, 192, 193, 194, 195, 196, 197, 198, 199, 200, 201, 202, 203, 204, 205, 206, 207, 208, 209, 210, 211, 212, 213] (by decide +kernel) (by decide +kernel)) (goodIn_sub (fun _ h => List.mem_cons_of_mem _ (List.mem_append_right _ h)) (by decide +kernel))) (goodIn_sub (fun _ h => List.mem_cons_of_mem _ (List.mem_append_left _ (List.mem_append_right _ h))) (by decide +kernel))
set_option maxRecDepth 20000 in
theorem gL_told_X5_item : GoodIn wsL_told (wsV RL 18 RX5 yX5_item wsX5_item) := goodIn_app (goodIn_of _ (by decide +kernel)) ggL_told_X5_item
theorem dL_told_0 : decode cL_told 0 = .ok (.ldc2_w 8, 3) := by decide +kernel
theorem dL_told_3 : decode cL_told 3 = .ok (.lstore_n 1, 1) := by decide +kernel
theorem dL_told_4 : decode cL_told 4 = .ok (.iconst 0, 1) := by decide +kernel
theorem dL_told_5 : decode cL_told 5 = .ok (.istore_n 3, 1) := by decide +kernel
theorem dL_told_6 : decode cL_told 6 = .ok (.iload_n 3, 1) := by decide +kernel
theorem dL_told_7 : decode cL_told 7 = .ok (.bipush 15, 2) := by decide +kernel
theorem dL_told_9 : decode cL_told 9 = .ok (.if_icmp .ge 22, 3) := by decide +kernel
theorem dL_told_12 : decode cL_told 12 = .ok (.ldc2_w 10, 3) := by decide +kernel
theorem dL_told_15 : decode cL_told 15 = .ok (.lload_n 1, 1) := by decide +kernel
theorem dL_told_16 : decode cL_told 16 = .ok (.lmul, 1) := by decide +kernel
theorem dL_told_17 : decode cL_told 17 = .ok (.aload_n 0, 1) := by decide +kernel
theorem dL_told_18 : decode cL_told 18 = .ok (.iload_n 3, 1) := by decide +kernel
theorem dL_told_19 : decode cL_told 19 = .ok (.invokevirtual 12, 3) := by decide +kernel
theorem dL_told_22 : decode cL_told 22 = .ok (.i2l, 1) := by decide +kernel
theorem dL_told_23 : decode cL_told 23 = .ok (.ladd, 1) := by decide +kernel
theorem dL_told_24 : decode cL_told 24 = .ok (.lstore_n 1, 1) := by decide +kernel
theorem dL_told_25 : decode cL_told 25 = .ok (.iinc 3 1, 3) := by decide +kernel
theorem dL_told_28 : decode cL_told 28 = .ok (.goto (-22), 3) := by decide +kernel
theorem dL_told_31 : decode cL_told 31 = .ok (.iconst 0, 1) := by decide +kernel
theorem dL_told_32 : decode cL_told 32 = .ok (.istore_n 3, 1) := by decide +kernel
theorem dL_told_33 : decode cL_told 33 = .ok (.iload_n 3, 1) := by decide +kernel
theorem dL_told_34 : decode cL_told 34 = .ok (.aload_n 0, 1) := by decide +kernel
theorem dL_told_35 : decode cL_told 35 = .ok (.iconst 0, 1) := by decide +kernel
theorem dL_told_36 : decode cL_told 36 = .ok (.invokevirtual 12, 3) := by decide +kernel
theorem dL_told_39 : decode cL_told 39 = .ok (.if_icmp .ge 40, 3) := by decide +kernel
theorem dL_told_42 : decode cL_told 42 = .ok (.iconst 0, 1) := by decide +kernel
theorem dL_told_43 : decode cL_told 43 = .ok (.istore 4, 2) := by decide +kernel
theorem dL_told_45 : decode cL_told 45 = .ok (.iload 4, 2) := by decide +kernel
theorem dL_told_47 : decode cL_told 47 = .ok (.bipush 9, 2) := by decide +kernel
theorem dL_told_49 : decode cL_told 49 = .ok (.if_icmp .ge 24, 3) := by decide +kernel
theorem dL_told_52 : decode cL_told 52 = .ok (.ldc2_w 10, 3) := by decide +kernel
theorem dL_told_55 : decode cL_told 55 = .ok (.lload_n 1, 1) := by decide +kernel
theorem dL_told_56 : decode cL_told 56 = .ok (.lmul, 1) := by decide +kernel
theorem dL_told_57 : decode cL_told 57 = .ok (.aload_n 0, 1) := by decide +kernel
theorem dL_told_58 : decode cL_told 58 = .ok (.iload_n 3, 1) := by decide +kernel
theorem dL_told_59 : decode cL_told 59 = .ok (.iload 4, 2) := by decide +kernel
theorem dL_told_61 : decode cL_told 61 = .ok (.invokevirtual 18, 3) := by decide +kernel
theorem dL_told_64 : decode cL_told 64 = .ok (.i2l, 1) := by decide +kernel
theorem dL_told_65 : decode cL_told 65 = .ok (.ladd, 1) := by decide +kernel
theorem dL_told_66 : decode cL_told 66 = .ok (.lstore_n 1, 1) := by decide +kernel
theorem dL_told_67 : decode cL_told 67 = .ok (.iinc 4 1, 3) := by decide +kernel
theorem dL_told_70 : decode cL_told 70 = .ok (.goto (-25), 3) := by decide +kernel
theorem dL_told_73 : decode cL_told 73 = .ok (.iinc 3 1, 3) := by decide +kernel
theorem dL_told_76 : decode cL_told 76 = .ok (.goto (-43), 3) := by decide +kernel
theorem dL_told_79 : decode cL_told 79 = .ok (.lload_n 1, 1) := by decide +kernel
theorem dL_told_80 : decode cL_told 80 = .ok (.lreturn, 1) := by decide +kernel
set_option maxRecDepth 20000 in
theorem ggL_value_L_low : GoodIn wsL_value wsL_low := goodIn_r _ [4, 5] (by decide +kernel) (by decide +kernel)
set_option maxRecDepth 20000 in
theorem gL_value_L_low : GoodIn wsL_value (va_wsS RL 22 yL_low wsL_low) := goodIn_app (goodIn_of _ (by decide +kernel)) ggL_value_L_low
theorem dL_value_0 : decode cL_value 0 = .ok (.iload_n 0, 1) := by decide +kernel
theorem dL_value_1 : decode cL_value 1 = .ok (.ifCond .ne 11, 3) := by decide +kernel
theorem dL_value_4 : decode cL_value 4 = .ok (.iload_n 1, 1) := by decide +kernel
theorem dL_value_5 : decode cL_value 5 = .ok (.iconst 5, 1) := by decide +kernel
theorem dL_value_6 : decode cL_value 6 = .ok (.invokestatic 22, 3) := by decide +kernel
theorem dL_value_9 : decode cL_value 9 = .ok (.goto 74, 3) := by decide +kernel
theorem dL_value_12 : decode cL_value 12 = .ok (.iload_n 0, 1) := by decide +kernel
theorem dL_value_13 : decode cL_value 13 = .ok (.iconst 1, 1) := by decide +kernel
theorem dL_value_14 : decode cL_value 14 = .ok (.if_icmp .ne 14, 3) := by decide +kernel
theorem dL_value_17 : decode cL_value 17 = .ok (.iconst 5, 1) := by decide +kernel
theorem dL_value_18 : decode cL_value 18 = .ok (.iload_n 1, 1) := by decide +kernel
theorem dL_value_19 : decode cL_value 19 = .ok (.bipush 36, 2) := by decide +kernel
theorem dL_value_21 : decode cL_value 21 = .ok (.invokestatic 22, 3) := by decide +kernel
theorem dL_value_24 : decode cL_value 24 = .ok (.iadd, 1) := by decide +kernel
theorem dL_value_25 : decode cL_value 25 = .ok (.goto 58, 3) := by decide +kernel
theorem dL_value_28 : decode cL_value 28 = .ok (.iload_n 0, 1) := by decide +kernel
theorem dL_value_29 : decode cL_value 29 = .ok (.iconst 2, 1) := by decide +kernel
theorem dL_value_30 : decode cL_value 30 = .ok (.if_icmp .ne 14, 3) := by decide +kernel
theorem dL_value_33 : decode cL_value 33 = .ok (.iconst 1, 1) := by decide +kernel
theorem dL_value_34 : decode cL_value 34 = .ok (.iload_n 1, 1) := by decide +kernel
theorem dL_value_35 : decode cL_value 35 = .ok (.bipush 30, 2) := by decide +kernel
theorem dL_value_37 : decode cL_value 37 = .ok (.invokestatic 22, 3) := by decide +kernel
theorem dL_value_40 : decode cL_value 40 = .ok (.iadd, 1) := by decide +kernel
theorem dL_value_41 : decode cL_value 41 = .ok (.goto 42, 3) := by decide +kernel
theorem dL_value_44 : decode cL_value 44 = .ok (.iload_n 0, 1) := by decide +kernel
theorem dL_value_45 : decode cL_value 45 = .ok (.iconst 3, 1) := by decide +kernel
theorem dL_value_46 : decode cL_value 46 = .ok (.if_icmp .ne 15, 3) := by decide +kernel
theorem dL_value_49 : decode cL_value 49 = .ok (.bipush 10, 2) := by decide +kernel
theorem dL_value_51 : decode cL_value 51 = .ok (.iload_n 1, 1) := by decide +kernel
theorem dL_value_52 : decode cL_value 52 = .ok (.bipush 120, 2) := by decide +kernel
theorem dL_value_54 : decode cL_value 54 = .ok (.invokestatic 22, 3) := by decide +kernel
theorem dL_value_57 : decode cL_value 57 = .ok (.iadd, 1) := by decide +kernel
theorem dL_value_58 : decode cL_value 58 = .ok (.goto 25, 3) := by decide +kernel
theorem dL_value_61 : decode cL_value 61 = .ok (.iload_n 0, 1) := by decide +kernel
theorem dL_value_62 : decode cL_value 62 = .ok (.iconst 4, 1) := by decide +kernel
theorem dL_value_63 : decode cL_value 63 = .ok (.if_icmp .ne 14, 3) := by decide +kernel
theorem dL_value_66 : decode cL_value 66 = .ok (.iconst 1, 1) := by decide +kernel
theorem dL_value_67 : decode cL_value 67 = .ok (.iload_n 1, 1) := by decide +kernel
theorem dL_value_68 : decode cL_value 68 = .ok (.bipush 12, 2) := by decide +kernel
theorem dL_value_70 : decode cL_value 70 = .ok (.invokestatic 22, 3) := by decide +kernel
theorem dL_value_73 : decode cL_value 73 = .ok (.iadd, 1) := by decide +kernel
theorem dL_value_74 : decode cL_value 74 = .ok (.goto 9, 3) := by decide +kernel
theorem dL_value_77 : decode cL_value 77 = .ok (.iload_n 1, 1) := by decide +kernel
theorem dL_value_78 : decode cL_value 78 = .ok (.bipush 60, 2) := by decide +kernel
theorem dL_value_80 : decode cL_value 80 = .ok (.invokestatic 22, 3) := by decide +kernel
theorem dL_value_83 : decode cL_value 83 = .ok (.ireturn, 1) := by decide +kernel
