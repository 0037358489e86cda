theorem dL_holds_0 : decode cL_holds 0 = .ok (.aload_n 0, 1) := by decide +kernel
theorem dL_holds_1 : decode cL_holds 1 = .ok (.iconst 0, 1) := by decide +kernel
theorem dL_holds_2 : decode cL_holds 2 = .ok (.invokevirtual 12, 3) := by decide +kernel
theorem dL_holds_5 : decode cL_holds 5 = .ok (.istore_n 1, 1) := by decide +kernel
theorem dL_holds_6 : decode cL_holds 6 = .ok (.iconst 0, 1) := by decide +kernel
theorem dL_holds_7 : decode cL_holds 7 = .ok (.istore_n 2, 1) := by decide +kernel
theorem dL_holds_8 : decode cL_holds 8 = .ok (.iconst 0, 1) := by decide +kernel
theorem dL_holds_9 : decode cL_holds 9 = .ok (.istore_n 3, 1) := by decide +kernel
theorem dL_holds_10 : decode cL_holds 10 = .ok (.iconst 0, 1) := by decide +kernel
theorem dL_holds_11 : decode cL_holds 11 = .ok (.istore 4, 2) := by decide +kernel
theorem dL_holds_13 : decode cL_holds 13 = .ok (.iconst 0, 1) := by decide +kernel
theorem dL_holds_14 : decode cL_holds 14 = .ok (.istore 5, 2) := by decide +kernel
theorem dL_holds_16 : decode cL_holds 16 = .ok (.iload 5, 2) := by decide +kernel
theorem dL_holds_18 : decode cL_holds 18 = .ok (.iload_n 1, 1) := by decide +kernel
theorem dL_holds_19 : decode cL_holds 19 = .ok (.if_icmp .ge 378, 3) := by decide +kernel
theorem dL_holds_22 : decode cL_holds 22 = .ok (.aload_n 0, 1) := by decide +kernel
theorem dL_holds_23 : decode cL_holds 23 = .ok (.iload 5, 2) := by decide +kernel
theorem dL_holds_25 : decode cL_holds 25 = .ok (.iconst 0, 1) := by decide +kernel
theorem dL_holds_26 : decode cL_holds 26 = .ok (.invokevirtual 18, 3) := by decide +kernel
theorem dL_holds_29 : decode cL_holds 29 = .ok (.ifCond .lt 7, 3) := by decide +kernel
theorem dL_holds_32 : decode cL_holds 32 = .ok (.iconst 1, 1) := by decide +kernel
theorem dL_holds_33 : decode cL_holds 33 = .ok (.goto 4, 3) := by decide +kernel
theorem dL_holds_36 : decode cL_holds 36 = .ok (.iconst 0, 1) := by decide +kernel
theorem dL_holds_37 : decode cL_holds 37 = .ok (.istore 6, 2) := by decide +kernel
theorem dL_holds_39 : decode cL_holds 39 = .ok (.iload 6, 2) := by decide +kernel
theorem dL_holds_41 : decode cL_holds 41 = .ok (.ifCond .eq 24, 3) := by decide +kernel
theorem dL_holds_44 : decode cL_holds 44 = .ok (.iload 5, 2) := by decide +kernel
theorem dL_holds_46 : decode cL_holds 46 = .ok (.ifCond .le 19, 3) := by decide +kernel
theorem dL_holds_49 : decode cL_holds 49 = .ok (.aload_n 0, 1) := by decide +kernel
theorem dL_holds_50 : decode cL_holds 50 = .ok (.iload 5, 2) := by decide +kernel
theorem dL_holds_52 : decode cL_holds 52 = .ok (.iconst 1, 1) := by decide +kernel
theorem dL_holds_53 : decode cL_holds 53 = .ok (.isub, 1) := by decide +kernel
theorem dL_holds_54 : decode cL_holds 54 = .ok (.iconst 0, 1) := by decide +kernel
theorem dL_holds_55 : decode cL_holds 55 = .ok (.invokevirtual 18, 3) := by decide +kernel
theorem dL_holds_58 : decode cL_holds 58 = .ok (.ifCond .lt 7, 3) := by decide +kernel
theorem dL_holds_61 : decode cL_holds 61 = .ok (.iconst 1, 1) := by decide +kernel
theorem dL_holds_62 : decode cL_holds 62 = .ok (.goto 4, 3) := by decide +kernel
theorem dL_holds_65 : decode cL_holds 65 = .ok (.iconst 0, 1) := by decide +kernel
theorem dL_holds_66 : decode cL_holds 66 = .ok (.istore 7, 2) := by decide +kernel
theorem dL_holds_68 : decode cL_holds 68 = .ok (.aload_n 0, 1) := by decide +kernel
theorem dL_holds_69 : decode cL_holds 69 = .ok (.iload 5, 2) := by decide +kernel
theorem dL_holds_71 : decode cL_holds 71 = .ok (.iconst 5, 1) := by decide +kernel
theorem dL_holds_72 : decode cL_holds 72 = .ok (.invokevirtual 18, 3) := by decide +kernel
theorem dL_holds_75 : decode cL_holds 75 = .ok (.istore 8, 2) := by decide +kernel
theorem dL_holds_77 : decode cL_holds 77 = .ok (.iload 6, 2) := by decide +kernel
theorem dL_holds_79 : decode cL_holds 79 = .ok (.ifCond .eq 18, 3) := by decide +kernel
theorem dL_holds_82 : decode cL_holds 82 = .ok (.aload_n 0, 1) := by decide +kernel
theorem dL_holds_83 : decode cL_holds 83 = .ok (.aload_n 0, 1) := by decide +kernel
theorem dL_holds_84 : decode cL_holds 84 = .ok (.iload 5, 2) := by decide +kernel
theorem dL_holds_86 : decode cL_holds 86 = .ok (.iconst 0, 1) := by decide +kernel
theorem dL_holds_87 : decode cL_holds 87 = .ok (.invokevirtual 18, 3) := by decide +kernel
theorem dL_holds_90 : decode cL_holds 90 = .ok (.iconst 0, 1) := by decide +kernel
theorem dL_holds_91 : decode cL_holds 91 = .ok (.invokevirtual 52, 3) := by decide +kernel
theorem dL_holds_94 : decode cL_holds 94 = .ok (.goto 9, 3) := by decide +kernel
theorem dL_holds_97 : decode cL_holds 97 = .ok (.aload_n 0, 1) := by decide +kernel
theorem dL_holds_98 : decode cL_holds 98 = .ok (.bipush 11, 2) := by decide +kernel
theorem dL_holds_100 : decode cL_holds 100 = .ok (.invokevirtual 12, 3) := by decide +kernel
theorem dL_holds_103 : decode cL_holds 103 = .ok (.istore 9, 2) := by decide +kernel
theorem dL_holds_105 : decode cL_holds 105 = .ok (.iload 8, 2) := by decide +kernel
theorem dL_holds_107 : decode cL_holds 107 = .ok (.ifCond .lt 7, 3) := by decide +kernel
theorem dL_holds_110 : decode cL_holds 110 = .ok (.iconst 1, 1) := by decide +kernel
theorem dL_holds_111 : decode cL_holds 111 = .ok (.goto 4, 3) := by decide +kernel
theorem dL_holds_114 : decode cL_holds 114 = .ok (.iconst 0, 1) := by decide +kernel
theorem dL_holds_115 : decode cL_holds 115 = .ok (.iload 7, 2) := by decide +kernel
theorem dL_holds_117 : decode cL_holds 117 = .ok (.if_icmp .ne 112, 3) := by decide +kernel
