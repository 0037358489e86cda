theorem dX6_init_0 : decode cX6_init 0 = .ok (.aload_n 0, 1) := by decide +kernel
theorem dX6_init_1 : decode cX6_init 1 = .ok (.invokespecial 1, 3) := by decide +kernel
theorem dX6_init_4 : decode cX6_init 4 = .ok (.aload_n 0, 1) := by decide +kernel
theorem dX6_init_5 : decode cX6_init 5 = .ok (.bipush 48, 2) := by decide +kernel
theorem dX6_init_7 : decode cX6_init 7 = .ok (.newarray .int, 2) := by decide +kernel
theorem dX6_init_9 : decode cX6_init 9 = .ok (.putfield 7, 3) := by decide +kernel
theorem dX6_init_12 : decode cX6_init 12 = .ok (.aload_n 0, 1) := by decide +kernel
theorem dX6_init_13 : decode cX6_init 13 = .ok (.sipush 288, 3) := by decide +kernel
theorem dX6_init_16 : decode cX6_init 16 = .ok (.newarray .int, 2) := by decide +kernel
theorem dX6_init_18 : decode cX6_init 18 = .ok (.putfield 13, 3) := by decide +kernel
theorem dX6_init_21 : decode cX6_init 21 = .ok (.aload_n 0, 1) := by decide +kernel
theorem dX6_init_22 : decode cX6_init 22 = .ok (.bipush 48, 2) := by decide +kernel
theorem dX6_init_24 : decode cX6_init 24 = .ok (.newarray .int, 2) := by decide +kernel
theorem dX6_init_26 : decode cX6_init 26 = .ok (.putfield 16, 3) := by decide +kernel
theorem dX6_init_29 : decode cX6_init 29 = .ok (.aload_n 0, 1) := by decide +kernel
theorem dX6_init_30 : decode cX6_init 30 = .ok (.bipush 60, 2) := by decide +kernel
theorem dX6_init_32 : decode cX6_init 32 = .ok (.newarray .int, 2) := by decide +kernel
theorem dX6_init_34 : decode cX6_init 34 = .ok (.putfield 19, 3) := by decide +kernel
theorem dX6_init_37 : decode cX6_init 37 = .ok (.aload_n 0, 1) := by decide +kernel
theorem dX6_init_38 : decode cX6_init 38 = .ok (.bipush 20, 2) := by decide +kernel
theorem dX6_init_40 : decode cX6_init 40 = .ok (.newarray .int, 2) := by decide +kernel
theorem dX6_init_42 : decode cX6_init 42 = .ok (.putfield 22, 3) := by decide +kernel
theorem dX6_init_45 : decode cX6_init 45 = .ok (.aload_n 0, 1) := by decide +kernel
theorem dX6_init_46 : decode cX6_init 46 = .ok (.bipush 20, 2) := by decide +kernel
theorem dX6_init_48 : decode cX6_init 48 = .ok (.newarray .int, 2) := by decide +kernel
theorem dX6_init_50 : decode cX6_init 50 = .ok (.putfield 25, 3) := by decide +kernel
theorem dX6_init_53 : decode cX6_init 53 = .ok (.aload_n 0, 1) := by decide +kernel
theorem dX6_init_54 : decode cX6_init 54 = .ok (.bipush 20, 2) := by decide +kernel
theorem dX6_init_56 : decode cX6_init 56 = .ok (.newarray .int, 2) := by decide +kernel
theorem dX6_init_58 : decode cX6_init 58 = .ok (.putfield 28, 3) := by decide +kernel
theorem dX6_init_61 : decode cX6_init 61 = .ok (.aload_n 0, 1) := by decide +kernel
theorem dX6_init_62 : decode cX6_init 62 = .ok (.bipush 20, 2) := by decide +kernel
theorem dX6_init_64 : decode cX6_init 64 = .ok (.newarray .int, 2) := by decide +kernel
theorem dX6_init_66 : decode cX6_init 66 = .ok (.putfield 31, 3) := by decide +kernel
theorem dX6_init_69 : decode cX6_init 69 = .ok (.aload_n 0, 1) := by decide +kernel
theorem dX6_init_70 : decode cX6_init 70 = .ok (.bipush 21, 2) := by decide +kernel
theorem dX6_init_72 : decode cX6_init 72 = .ok (.newarray .int, 2) := by decide +kernel
theorem dX6_init_74 : decode cX6_init 74 = .ok (.putfield 34, 3) := by decide +kernel
theorem dX6_init_77 : decode cX6_init 77 = .ok (.aload_n 0, 1) := by decide +kernel
theorem dX6_init_78 : decode cX6_init 78 = .ok (.bipush 21, 2) := by decide +kernel
theorem dX6_init_80 : decode cX6_init 80 = .ok (.newarray .int, 2) := by decide +kernel
theorem dX6_init_82 : decode cX6_init 82 = .ok (.putfield 37, 3) := by decide +kernel
theorem dX6_init_85 : decode cX6_init 85 = .ok (.aload_n 0, 1) := by decide +kernel
theorem dX6_init_86 : decode cX6_init 86 = .ok (.iconst 0, 1) := by decide +kernel
theorem dX6_init_87 : decode cX6_init 87 = .ok (.putfield 40, 3) := by decide +kernel
theorem dX6_init_90 : decode cX6_init 90 = .ok (.aload_n 0, 1) := by decide +kernel
theorem dX6_init_91 : decode cX6_init 91 = .ok (.getfield 7, 3) := by decide +kernel
theorem dX6_init_94 : decode cX6_init 94 = .ok (.iconst 0, 1) := by decide +kernel
theorem dX6_init_95 : decode cX6_init 95 = .ok (.iconst 1, 1) := by decide +kernel
theorem dX6_init_96 : decode cX6_init 96 = .ok (.iastore, 1) := by decide +kernel
theorem dX6_init_97 : decode cX6_init 97 = .ok (.aload_n 0, 1) := by decide +kernel
theorem dX6_init_98 : decode cX6_init 98 = .ok (.getfield 7, 3) := by decide +kernel
theorem dX6_init_101 : decode cX6_init 101 = .ok (.iconst 1, 1) := by decide +kernel
theorem dX6_init_102 : decode cX6_init 102 = .ok (.bipush 20, 2) := by decide +kernel
theorem dX6_init_104 : decode cX6_init 104 = .ok (.iastore, 1) := by decide +kernel
theorem dX6_init_105 : decode cX6_init 105 = .ok (.aload_n 0, 1) := by decide +kernel
theorem dX6_init_106 : decode cX6_init 106 = .ok (.getfield 7, 3) := by decide +kernel
theorem dX6_init_109 : decode cX6_init 109 = .ok (.iconst 2, 1) := by decide +kernel
theorem dX6_init_110 : decode cX6_init 110 = .ok (.bipush 8, 2) := by decide +kernel
theorem dX6_init_112 : decode cX6_init 112 = .ok (.iastore, 1) := by decide +kernel
theorem dX6_init_113 : decode cX6_init 113 = .ok (.aload_n 0, 1) := by decide +kernel
theorem dX6_init_114 : decode cX6_init 114 = .ok (.getfield 7, 3) := by decide +kernel
theorem dX6_init_117 : decode cX6_init 117 = .ok (.iconst 3, 1) := by decide +kernel
theorem dX6_init_118 : decode cX6_init 118 = .ok (.bipush 60, 2) := by decide +kernel
theorem dX6_init_120 : decode cX6_init 120 = .ok (.iastore, 1) := by decide +kernel
theorem dX6_init_121 : decode cX6_init 121 = .ok (.aload_n 0, 1) := by decide +kernel
theorem dX6_init_122 : decode cX6_init 122 = .ok (.getfield 7, 3) := by decide +kernel
theorem dX6_init_125 : decode cX6_init 125 = .ok (.iconst 4, 1) := by decide +kernel
theorem dX6_init_126 : decode cX6_init 126 = .ok (.iconst 1, 1) := by decide +kernel
theorem dX6_init_127 : decode cX6_init 127 = .ok (.iastore, 1) := by decide +kernel
theorem dX6_init_128 : decode cX6_init 128 = .ok (.aload_n 0, 1) := by decide +kernel
theorem dX6_init_129 : decode cX6_init 129 = .ok (.getfield 7, 3) := by decide +kernel
theorem dX6_init_132 : decode cX6_init 132 = .ok (.iconst 5, 1) := by decide +kernel
theorem dX6_init_133 : decode cX6_init 133 = .ok (.bipush 15, 2) := by decide +kernel
theorem dX6_init_135 : decode cX6_init 135 = .ok (.iastore, 1) := by decide +kernel
theorem dX6_init_136 : decode cX6_init 136 = .ok (.aload_n 0, 1) := by decide +kernel
theorem dX6_init_137 : decode cX6_init 137 = .ok (.getfield 7, 3) := by decide +kernel
theorem dX6_init_140 : decode cX6_init 140 = .ok (.bipush 6, 2) := by decide +kernel
theorem dX6_init_142 : decode cX6_init 142 = .ok (.sipush 300, 3) := by decide +kernel
theorem dX6_init_145 : decode cX6_init 145 = .ok (.iastore, 1) := by decide +kernel
theorem dX6_init_146 : decode cX6_init 146 = .ok (.return_, 1) := by decide +kernel
theorem dX6_thrown_0 : decode cX6_thrown 0 = .ok (.aload_n 0, 1) := by decide +kernel
theorem dX6_thrown_1 : decode cX6_thrown 1 = .ok (.getfield 40, 3) := by decide +kernel
theorem dX6_thrown_4 : decode cX6_thrown 4 = .ok (.ireturn, 1) := by decide +kernel
theorem dX6_in_0 : decode cX6_in 0 = .ok (.iload_n 0, 1) := by decide +kernel
theorem dX6_in_1 : decode cX6_in 1 = .ok (.iload_n 1, 1) := by decide +kernel
theorem dX6_in_2 : decode cX6_in 2 = .ok (.if_icmp .lt 12, 3) := by decide +kernel
theorem dX6_in_5 : decode cX6_in 5 = .ok (.iload_n 0, 1) := by decide +kernel
theorem dX6_in_6 : decode cX6_in 6 = .ok (.iload_n 2, 1) := by decide +kernel
theorem dX6_in_7 : decode cX6_in 7 = .ok (.if_icmp .gt 7, 3) := by decide +kernel
theorem dX6_in_10 : decode cX6_in 10 = .ok (.iconst 1, 1) := by decide +kernel
theorem dX6_in_11 : decode cX6_in 11 = .ok (.goto 4, 3) := by decide +kernel
theorem dX6_in_14 : decode cX6_in 14 = .ok (.iconst 0, 1) := by decide +kernel
theorem dX6_in_15 : decode cX6_in 15 = .ok (.ireturn, 1) := by decide +kernel
theorem dX6_fails_0 : decode cX6_fails 0 = .ok (.aload_n 0, 1) := by decide +kernel
theorem dX6_fails_1 : decode cX6_fails 1 = .ok (.iload_n 1, 1) := by decide +kernel
theorem dX6_fails_2 : decode cX6_fails 2 = .ok (.putfield 40, 3) := by decide +kernel
theorem dX6_fails_5 : decode cX6_fails 5 = .ok (.iconst 0, 1) := by decide +kernel
theorem dX6_fails_6 : decode cX6_fails 6 = .ok (.ireturn, 1) := by decide +kernel
theorem dX6_size_0 : decode cX6_size 0 = .ok (.iload_n 0, 1) := by decide +kernel
theorem dX6_size_1 : decode cX6_size 1 = .ok (.ifCond .ge 8, 3) := by decide +kernel
theorem dX6_size_4 : decode cX6_size 4 = .ok (.iload_n 0, 1) := by decide +kernel
theorem dX6_size_5 : decode cX6_size 5 = .ok (.ineg, 1) := by decide +kernel
theorem dX6_size_6 : decode cX6_size 6 = .ok (.goto 4, 3) := by decide +kernel
theorem dX6_size_9 : decode cX6_size 9 = .ok (.iload_n 0, 1) := by decide +kernel
theorem dX6_size_10 : decode cX6_size 10 = .ok (.ireturn, 1) := by decide +kernel
set_option maxRecDepth 20000 in
theorem ggX6_isItem_X6_in : GoodIn wsX6_isItem wsX6_in := goodIn_r _ [5] (by decide +kernel) (by decide +kernel)
set_option maxRecDepth 20000 in
theorem gX6_isItem_X6_in : GoodIn wsX6_isItem (va_wsS RX6 44 yX6_in wsX6_in) := goodIn_app (goodIn_of _ (by decide +kernel)) ggX6_isItem_X6_in
theorem dX6_isItem_0 : decode cX6_isItem 0 = .ok (.iload_n 1, 1) := by decide +kernel
theorem dX6_isItem_1 : decode cX6_isItem 1 = .ok (.iconst 0, 1) := by decide +kernel
theorem dX6_isItem_2 : decode cX6_isItem 2 = .ok (.aload_n 0, 1) := by decide +kernel
theorem dX6_isItem_3 : decode cX6_isItem 3 = .ok (.getfield 7, 3) := by decide +kernel
theorem dX6_isItem_6 : decode cX6_isItem 6 = .ok (.bipush 7, 2) := by decide +kernel
theorem dX6_isItem_8 : decode cX6_isItem 8 = .ok (.iaload, 1) := by decide +kernel
theorem dX6_isItem_9 : decode cX6_isItem 9 = .ok (.iconst 1, 1) := by decide +kernel
theorem dX6_isItem_10 : decode cX6_isItem 10 = .ok (.isub, 1) := by decide +kernel
theorem dX6_isItem_11 : decode cX6_isItem 11 = .ok (.invokestatic 44, 3) := by decide +kernel
theorem dX6_isItem_14 : decode cX6_isItem 14 = .ok (.ireturn, 1) := by decide +kernel
set_option maxRecDepth 20000 in
theorem ggX6_isLetter_X6_isItem : GoodIn wsX6_isLetter wsX6_isItem := goodIn_r _ [6, 1, 7, 8, 5, 9, 10, 11, 12, 13, 14, 15, 16, 17, 18, 19, 20, 21, 22, 23, 24, 25, 26] (by decide +kernel) (by decide +kernel)
set_option maxRecDepth 20000 in
theorem gX6_isLetter_X6_isItem : GoodIn wsX6_isLetter (wsV RX6 48 RX6 yX6_isItem wsX6_isItem) := goodIn_app (goodIn_of _ (by decide +kernel)) ggX6_isLetter_X6_isItem
theorem dX6_isLetter_0 : decode cX6_isLetter 0 = .ok (.aload_n 0, 1) := by decide +kernel
theorem dX6_isLetter_1 : decode cX6_isLetter 1 = .ok (.iload_n 1, 1) := by decide +kernel
theorem dX6_isLetter_2 : decode cX6_isLetter 2 = .ok (.invokevirtual 48, 3) := by decide +kernel
theorem dX6_isLetter_5 : decode cX6_isLetter 5 = .ok (.ifCond .eq 20, 3) := by decide +kernel
theorem dX6_isLetter_8 : decode cX6_isLetter 8 = .ok (.aload_n 0, 1) := by decide +kernel
theorem dX6_isLetter_9 : decode cX6_isLetter 9 = .ok (.getfield 7, 3) := by decide +kernel
theorem dX6_isLetter_12 : decode cX6_isLetter 12 = .ok (.bipush 8, 2) := by decide +kernel
theorem dX6_isLetter_14 : decode cX6_isLetter 14 = .ok (.iload_n 1, 1) := by decide +kernel
theorem dX6_isLetter_15 : decode cX6_isLetter 15 = .ok (.iadd, 1) := by decide +kernel
theorem dX6_isLetter_16 : decode cX6_isLetter 16 = .ok (.iaload, 1) := by decide +kernel
theorem dX6_isLetter_17 : decode cX6_isLetter 17 = .ok (.iconst (-1), 1) := by decide +kernel
theorem dX6_isLetter_18 : decode cX6_isLetter 18 = .ok (.if_icmp .eq 7, 3) := by decide +kernel
theorem dX6_isLetter_21 : decode cX6_isLetter 21 = .ok (.iconst 1, 1) := by decide +kernel
theorem dX6_isLetter_22 : decode cX6_isLetter 22 = .ok (.goto 4, 3) := by decide +kernel
theorem dX6_isLetter_25 : decode cX6_isLetter 25 = .ok (.iconst 0, 1) := by decide +kernel
theorem dX6_isLetter_26 : decode cX6_isLetter 26 = .ok (.ireturn, 1) := by decide +kernel
theorem dX6_saves_0 : decode cX6_saves 0 = .ok (.aload_n 0, 1) := by decide +kernel
theorem dX6_saves_1 : decode cX6_saves 1 = .ok (.getfield 52, 3) := by decide +kernel
theorem dX6_saves_4 : decode cX6_saves 4 = .ok (.bipush 6, 2) := by decide +kernel
theorem dX6_saves_6 : decode cX6_saves 6 = .ok (.if_icmp .ne 43, 3) := by decide +kernel
theorem dX6_saves_9 : decode cX6_saves 9 = .ok (.iconst 0, 1) := by decide +kernel
theorem dX6_saves_10 : decode cX6_saves 10 = .ok (.istore_n 1, 1) := by decide +kernel
theorem dX6_saves_11 : decode cX6_saves 11 = .ok (.iload_n 1, 1) := by decide +kernel
theorem dX6_saves_12 : decode cX6_saves 12 = .ok (.sipush 240, 3) := by decide +kernel
theorem dX6_saves_15 : decode cX6_saves 15 = .ok (.if_icmp .ge 24, 3) := by decide +kernel
theorem dX6_saves_18 : decode cX6_saves 18 = .ok (.aload_n 0, 1) := by decide +kernel
theorem dX6_saves_19 : decode cX6_saves 19 = .ok (.getfield 13, 3) := by decide +kernel
theorem dX6_saves_22 : decode cX6_saves 22 = .ok (.iload_n 1, 1) := by decide +kernel
theorem dX6_saves_23 : decode cX6_saves 23 = .ok (.aload_n 0, 1) := by decide +kernel
theorem dX6_saves_24 : decode cX6_saves 24 = .ok (.getfield 13, 3) := by decide +kernel
theorem dX6_saves_27 : decode cX6_saves 27 = .ok (.iload_n 1, 1) := by decide +kernel
theorem dX6_saves_28 : decode cX6_saves 28 = .ok (.bipush 48, 2) := by decide +kernel
theorem dX6_saves_30 : decode cX6_saves 30 = .ok (.iadd, 1) := by decide +kernel
theorem dX6_saves_31 : decode cX6_saves 31 = .ok (.iaload, 1) := by decide +kernel
theorem dX6_saves_32 : decode cX6_saves 32 = .ok (.iastore, 1) := by decide +kernel
theorem dX6_saves_33 : decode cX6_saves 33 = .ok (.iinc 1 1, 3) := by decide +kernel
theorem dX6_saves_36 : decode cX6_saves 36 = .ok (.goto (-25), 3) := by decide +kernel
theorem dX6_saves_39 : decode cX6_saves 39 = .ok (.aload_n 0, 1) := by decide +kernel
theorem dX6_saves_40 : decode cX6_saves 40 = .ok (.dup, 1) := by decide +kernel
theorem dX6_saves_41 : decode cX6_saves 41 = .ok (.getfield 52, 3) := by decide +kernel
theorem dX6_saves_44 : decode cX6_saves 44 = .ok (.iconst 1, 1) := by decide +kernel
theorem dX6_saves_45 : decode cX6_saves 45 = .ok (.isub, 1) := by decide +kernel
theorem dX6_saves_46 : decode cX6_saves 46 = .ok (.putfield 52, 3) := by decide +kernel
theorem dX6_saves_49 : decode cX6_saves 49 = .ok (.iconst 0, 1) := by decide +kernel
theorem dX6_saves_50 : decode cX6_saves 50 = .ok (.istore_n 1, 1) := by decide +kernel
theorem dX6_saves_51 : decode cX6_saves 51 = .ok (.iload_n 1, 1) := by decide +kernel
theorem dX6_saves_52 : decode cX6_saves 52 = .ok (.bipush 48, 2) := by decide +kernel
theorem dX6_saves_54 : decode cX6_saves 54 = .ok (.if_icmp .ge 29, 3) := by decide +kernel
theorem dX6_saves_57 : decode cX6_saves 57 = .ok (.aload_n 0, 1) := by decide +kernel
theorem dX6_saves_58 : decode cX6_saves 58 = .ok (.getfield 13, 3) := by decide +kernel
theorem dX6_saves_61 : decode cX6_saves 61 = .ok (.bipush 48, 2) := by decide +kernel
theorem dX6_saves_63 : decode cX6_saves 63 = .ok (.aload_n 0, 1) := by decide +kernel
theorem dX6_saves_64 : decode cX6_saves 64 = .ok (.getfield 52, 3) := by decide +kernel
theorem dX6_saves_67 : decode cX6_saves 67 = .ok (.imul, 1) := by decide +kernel
theorem dX6_saves_68 : decode cX6_saves 68 = .ok (.iload_n 1, 1) := by decide +kernel
theorem dX6_saves_69 : decode cX6_saves 69 = .ok (.iadd, 1) := by decide +kernel
theorem dX6_saves_70 : decode cX6_saves 70 = .ok (.aload_n 0, 1) := by decide +kernel
theorem dX6_saves_71 : decode cX6_saves 71 = .ok (.getfield 7, 3) := by decide +kernel
theorem dX6_saves_74 : decode cX6_saves 74 = .ok (.iload_n 1, 1) := by decide +kernel
theorem dX6_saves_75 : decode cX6_saves 75 = .ok (.iaload, 1) := by decide +kernel
theorem dX6_saves_76 : decode cX6_saves 76 = .ok (.iastore, 1) := by decide +kernel
theorem dX6_saves_77 : decode cX6_saves 77 = .ok (.iinc 1 1, 3) := by decide +kernel
theorem dX6_saves_80 : decode cX6_saves 80 = .ok (.goto (-29), 3) := by decide +kernel
theorem dX6_saves_83 : decode cX6_saves 83 = .ok (.aload_n 0, 1) := by decide +kernel
theorem dX6_saves_84 : decode cX6_saves 84 = .ok (.dup, 1) := by decide +kernel
theorem dX6_saves_85 : decode cX6_saves 85 = .ok (.getfield 52, 3) := by decide +kernel
theorem dX6_saves_88 : decode cX6_saves 88 = .ok (.iconst 1, 1) := by decide +kernel
theorem dX6_saves_89 : decode cX6_saves 89 = .ok (.iadd, 1) := by decide +kernel
theorem dX6_saves_90 : decode cX6_saves 90 = .ok (.putfield 52, 3) := by decide +kernel
theorem dX6_saves_93 : decode cX6_saves 93 = .ok (.return_, 1) := by decide +kernel
theorem dX6_widthOf_0 : decode cX6_widthOf 0 = .ok (.bipush 6, 2) := by decide +kernel
theorem dX6_widthOf_2 : decode cX6_widthOf 2 = .ok (.bipush 7, 2) := by decide +kernel
theorem dX6_widthOf_4 : decode cX6_widthOf 4 = .ok (.iload_n 0, 1) := by decide +kernel
theorem dX6_widthOf_5 : decode cX6_widthOf 5 = .ok (.imul, 1) := by decide +kernel
theorem dX6_widthOf_6 : decode cX6_widthOf 6 = .ok (.bipush 9, 2) := by decide +kernel
theorem dX6_widthOf_8 : decode cX6_widthOf 8 = .ok (.irem, 1) := by decide +kernel
theorem dX6_widthOf_9 : decode cX6_widthOf 9 = .ok (.iadd, 1) := by decide +kernel
theorem dX6_widthOf_10 : decode cX6_widthOf 10 = .ok (.ireturn, 1) := by decide +kernel
theorem dX6_leftShape_0 : decode cX6_leftShape 0 = .ok (.iload_n 0, 1) := by decide +kernel
theorem dX6_leftShape_1 : decode cX6_leftShape 1 = .ok (.iconst 4, 1) := by decide +kernel
theorem dX6_leftShape_2 : decode cX6_leftShape 2 = .ok (.irem, 1) := by decide +kernel
theorem dX6_leftShape_3 : decode cX6_leftShape 3 = .ok (.ireturn, 1) := by decide +kernel
theorem dX6_rightShape_0 : decode cX6_rightShape 0 = .ok (.iconst 3, 1) := by decide +kernel
theorem dX6_rightShape_1 : decode cX6_rightShape 1 = .ok (.iload_n 0, 1) := by decide +kernel
theorem dX6_rightShape_2 : decode cX6_rightShape 2 = .ok (.imul, 1) := by decide +kernel
theorem dX6_rightShape_3 : decode cX6_rightShape 3 = .ok (.iconst 1, 1) := by decide +kernel
theorem dX6_rightShape_4 : decode cX6_rightShape 4 = .ok (.iadd, 1) := by decide +kernel
theorem dX6_rightShape_5 : decode cX6_rightShape 5 = .ok (.iconst 4, 1) := by decide +kernel
theorem dX6_rightShape_6 : decode cX6_rightShape 6 = .ok (.irem, 1) := by decide +kernel
theorem dX6_rightShape_7 : decode cX6_rightShape 7 = .ok (.ireturn, 1) := by decide +kernel
set_option maxRecDepth 20000 in
theorem ggX6_back_X6_size : GoodIn wsX6_back wsX6_size := goodIn_r _ [5] (by decide +kernel) (by decide +kernel)
set_option maxRecDepth 20000 in
theorem gX6_back_X6_size : GoodIn wsX6_back (va_wsS RX6 55 yX6_size wsX6_size) := goodIn_app (goodIn_of _ (by decide +kernel)) ggX6_back_X6_size
set_option maxRecDepth 20000 in
theorem ggX6_back_X6_in : GoodIn wsX6_back wsX6_in := goodIn_r _ [8] (by decide +kernel) (by decide +kernel)
set_option maxRecDepth 20000 in
theorem gX6_back_X6_in : GoodIn wsX6_back (va_wsS RX6 44 yX6_in wsX6_in) := goodIn_app (goodIn_of _ (by decide +kernel)) ggX6_back_X6_in
theorem dX6_back_0 : decode cX6_back 0 = .ok (.iload_n 1, 1) := by decide +kernel
theorem dX6_back_1 : decode cX6_back 1 = .ok (.iconst 1, 1) := by decide +kernel
theorem dX6_back_2 : decode cX6_back 2 = .ok (.if_icmp .ne 17, 3) := by decide +kernel
theorem dX6_back_5 : decode cX6_back 5 = .ok (.iconst 2, 1) := by decide +kernel
theorem dX6_back_6 : decode cX6_back 6 = .ok (.iload_n 2, 1) := by decide +kernel
theorem dX6_back_7 : decode cX6_back 7 = .ok (.imul, 1) := by decide +kernel
theorem dX6_back_8 : decode cX6_back 8 = .ok (.bipush 9, 2) := by decide +kernel
theorem dX6_back_10 : decode cX6_back 10 = .ok (.isub, 1) := by decide +kernel
theorem dX6_back_11 : decode cX6_back 11 = .ok (.invokestatic 55, 3) := by decide +kernel
theorem dX6_back_14 : decode cX6_back 14 = .ok (.iconst 2, 1) := by decide +kernel
theorem dX6_back_15 : decode cX6_back 15 = .ok (.idiv, 1) := by decide +kernel
theorem dX6_back_16 : decode cX6_back 16 = .ok (.goto 34, 3) := by decide +kernel
theorem dX6_back_19 : decode cX6_back 19 = .ok (.iload_n 1, 1) := by decide +kernel
theorem dX6_back_20 : decode cX6_back 20 = .ok (.iconst 2, 1) := by decide +kernel
theorem dX6_back_21 : decode cX6_back 21 = .ok (.if_icmp .ne 9, 3) := by decide +kernel
theorem dX6_back_24 : decode cX6_back 24 = .ok (.iload_n 2, 1) := by decide +kernel
theorem dX6_back_25 : decode cX6_back 25 = .ok (.iconst 2, 1) := by decide +kernel
theorem dX6_back_26 : decode cX6_back 26 = .ok (.idiv, 1) := by decide +kernel
theorem dX6_back_27 : decode cX6_back 27 = .ok (.goto 23, 3) := by decide +kernel
theorem dX6_back_30 : decode cX6_back 30 = .ok (.iload_n 1, 1) := by decide +kernel
theorem dX6_back_31 : decode cX6_back 31 = .ok (.iconst 3, 1) := by decide +kernel
theorem dX6_back_32 : decode cX6_back 32 = .ok (.if_icmp .ne 17, 3) := by decide +kernel
theorem dX6_back_35 : decode cX6_back 35 = .ok (.iload_n 2, 1) := by decide +kernel
theorem dX6_back_36 : decode cX6_back 36 = .ok (.iconst 3, 1) := by decide +kernel
theorem dX6_back_37 : decode cX6_back 37 = .ok (.bipush 6, 2) := by decide +kernel
theorem dX6_back_39 : decode cX6_back 39 = .ok (.invokestatic 44, 3) := by decide +kernel
theorem dX6_back_42 : decode cX6_back 42 = .ok (.ifCond .eq 7, 3) := by decide +kernel
theorem dX6_back_45 : decode cX6_back 45 = .ok (.iconst 4, 1) := by decide +kernel
theorem dX6_back_46 : decode cX6_back 46 = .ok (.goto 4, 3) := by decide +kernel
theorem dX6_back_49 : decode cX6_back 49 = .ok (.iconst 0, 1) := by decide +kernel
theorem dX6_back_50 : decode cX6_back 50 = .ok (.istore_n 3, 1) := by decide +kernel
theorem dX6_back_51 : decode cX6_back 51 = .ok (.iload_n 2, 1) := by decide +kernel
theorem dX6_back_52 : decode cX6_back 52 = .ok (.ifCond .eq 9, 3) := by decide +kernel
theorem dX6_back_55 : decode cX6_back 55 = .ok (.iload_n 2, 1) := by decide +kernel
theorem dX6_back_56 : decode cX6_back 56 = .ok (.bipush 9, 2) := by decide +kernel
theorem dX6_back_58 : decode cX6_back 58 = .ok (.if_icmp .ne 14, 3) := by decide +kernel
theorem dX6_back_61 : decode cX6_back 61 = .ok (.iload_n 3, 1) := by decide +kernel
theorem dX6_back_62 : decode cX6_back 62 = .ok (.aload_n 0, 1) := by decide +kernel
theorem dX6_back_63 : decode cX6_back 63 = .ok (.getfield 7, 3) := by decide +kernel
theorem dX6_back_66 : decode cX6_back 66 = .ok (.iconst 0, 1) := by decide +kernel
theorem dX6_back_67 : decode cX6_back 67 = .ok (.iaload, 1) := by decide +kernel
theorem dX6_back_68 : decode cX6_back 68 = .ok (.isub, 1) := by decide +kernel
theorem dX6_back_69 : decode cX6_back 69 = .ok (.goto 4, 3) := by decide +kernel
theorem dX6_back_72 : decode cX6_back 72 = .ok (.iload_n 3, 1) := by decide +kernel
theorem dX6_back_73 : decode cX6_back 73 = .ok (.istore 4, 2) := by decide +kernel
theorem dX6_back_75 : decode cX6_back 75 = .ok (.iload 4, 2) := by decide +kernel
theorem dX6_back_77 : decode cX6_back 77 = .ok (.ifCond .ge 7, 3) := by decide +kernel
theorem dX6_back_80 : decode cX6_back 80 = .ok (.iconst 0, 1) := by decide +kernel
theorem dX6_back_81 : decode cX6_back 81 = .ok (.goto 5, 3) := by decide +kernel
theorem dX6_back_84 : decode cX6_back 84 = .ok (.iload 4, 2) := by decide +kernel
theorem dX6_back_86 : decode cX6_back 86 = .ok (.ireturn, 1) := by decide +kernel
set_option maxRecDepth 20000 in
theorem ggX6_area_X6_rightShape : GoodIn wsX6_area wsX6_rightShape := goodIn_r _ [5] (by decide +kernel) (by decide +kernel)
set_option maxRecDepth 20000 in
theorem gX6_area_X6_rightShape : GoodIn wsX6_area (va_wsS RX6 59 yX6_rightShape wsX6_rightShape) := goodIn_app (goodIn_of _ (by decide +kernel)) ggX6_area_X6_rightShape
set_option maxRecDepth 20000 in
theorem ggX6_area_X6_back : GoodIn wsX6_area wsX6_back := goodIn_r _ [9, 1, 10, 11, 4, 12, 13, 14, 15, 19, 20, 21, 22, 23, 24, 25, 26, 27, 28, 29, 30, 31, 32, 33, 34, 35] (by decide +kernel) (by decide +kernel)
set_option maxRecDepth 20000 in
theorem gX6_area_X6_back : GoodIn wsX6_area (wsV RX6 62 RX6 yX6_back wsX6_back) := goodIn_app (goodIn_of _ (by decide +kernel)) ggX6_area_X6_back
set_option maxRecDepth 20000 in
theorem ggX6_area_X6_leftShape : GoodIn wsX6_area wsX6_leftShape := goodIn_r _ [18] (by decide +kernel) (by decide +kernel)
set_option maxRecDepth 20000 in
theorem gX6_area_X6_leftShape : GoodIn wsX6_area (va_wsS RX6 66 yX6_leftShape wsX6_leftShape) := goodIn_app (goodIn_of _ (by decide +kernel)) ggX6_area_X6_leftShape
theorem dX6_area_0 : decode cX6_area 0 = .ok (.iconst 0, 1) := by decide +kernel
theorem dX6_area_1 : decode cX6_area 1 = .ok (.istore 4, 2) := by decide +kernel
theorem dX6_area_3 : decode cX6_area 3 = .ok (.iconst 0, 1) := by decide +kernel
theorem dX6_area_4 : decode cX6_area 4 = .ok (.istore 5, 2) := by decide +kernel
theorem dX6_area_6 : decode cX6_area 6 = .ok (.iload 5, 2) := by decide +kernel
theorem dX6_area_8 : decode cX6_area 8 = .ok (.bipush 10, 2) := by decide +kernel
theorem dX6_area_10 : decode cX6_area 10 = .ok (.if_icmp .ge 61, 3) := by decide +kernel
theorem dX6_area_13 : decode cX6_area 13 = .ok (.iload_n 3, 1) := by decide +kernel
theorem dX6_area_14 : decode cX6_area 14 = .ok (.aload_n 0, 1) := by decide +kernel
theorem dX6_area_15 : decode cX6_area 15 = .ok (.iload_n 1, 1) := by decide +kernel
theorem dX6_area_16 : decode cX6_area 16 = .ok (.invokestatic 59, 3) := by decide +kernel
theorem dX6_area_19 : decode cX6_area 19 = .ok (.iload 5, 2) := by decide +kernel
theorem dX6_area_21 : decode cX6_area 21 = .ok (.invokevirtual 62, 3) := by decide +kernel
theorem dX6_area_24 : decode cX6_area 24 = .ok (.iadd, 1) := by decide +kernel
theorem dX6_area_25 : decode cX6_area 25 = .ok (.aload_n 0, 1) := by decide +kernel
theorem dX6_area_26 : decode cX6_area 26 = .ok (.iload_n 2, 1) := by decide +kernel
theorem dX6_area_27 : decode cX6_area 27 = .ok (.invokestatic 66, 3) := by decide +kernel
theorem dX6_area_30 : decode cX6_area 30 = .ok (.iload 5, 2) := by decide +kernel
theorem dX6_area_32 : decode cX6_area 32 = .ok (.invokevirtual 62, 3) := by decide +kernel
theorem dX6_area_35 : decode cX6_area 35 = .ok (.iadd, 1) := by decide +kernel
theorem dX6_area_36 : decode cX6_area 36 = .ok (.istore 6, 2) := by decide +kernel
theorem dX6_area_38 : decode cX6_area 38 = .ok (.iload 4, 2) := by decide +kernel
theorem dX6_area_40 : decode cX6_area 40 = .ok (.iload 6, 2) := by decide +kernel
theorem dX6_area_42 : decode cX6_area 42 = .ok (.aload_n 0, 1) := by decide +kernel
theorem dX6_area_43 : decode cX6_area 43 = .ok (.getfield 7, 3) := by decide +kernel
theorem dX6_area_46 : decode cX6_area 46 = .ok (.iconst 1, 1) := by decide +kernel
theorem dX6_area_47 : decode cX6_area 47 = .ok (.iaload, 1) := by decide +kernel
theorem dX6_area_48 : decode cX6_area 48 = .ok (.if_icmp .ge 8, 3) := by decide +kernel
theorem dX6_area_51 : decode cX6_area 51 = .ok (.iload 6, 2) := by decide +kernel
theorem dX6_area_53 : decode cX6_area 53 = .ok (.goto 9, 3) := by decide +kernel
theorem dX6_area_56 : decode cX6_area 56 = .ok (.aload_n 0, 1) := by decide +kernel
theorem dX6_area_57 : decode cX6_area 57 = .ok (.getfield 7, 3) := by decide +kernel
theorem dX6_area_60 : decode cX6_area 60 = .ok (.iconst 1, 1) := by decide +kernel
theorem dX6_area_61 : decode cX6_area 61 = .ok (.iaload, 1) := by decide +kernel
theorem dX6_area_62 : decode cX6_area 62 = .ok (.iadd, 1) := by decide +kernel
theorem dX6_area_63 : decode cX6_area 63 = .ok (.istore 4, 2) := by decide +kernel
theorem dX6_area_65 : decode cX6_area 65 = .ok (.iinc 5 1, 3) := by decide +kernel
theorem dX6_area_68 : decode cX6_area 68 = .ok (.goto (-62), 3) := by decide +kernel
theorem dX6_area_71 : decode cX6_area 71 = .ok (.iload 4, 2) := by decide +kernel
theorem dX6_area_73 : decode cX6_area 73 = .ok (.ireturn, 1) := by decide +kernel
set_option maxRecDepth 20000 in
theorem ggX6_countedArea_X6_rightShape : GoodIn wsX6_countedArea wsX6_rightShape := goodIn_r _ [5] (by decide +kernel) (by decide +kernel)
set_option maxRecDepth 20000 in
theorem gX6_countedArea_X6_rightShape : GoodIn wsX6_countedArea (va_wsS RX6 59 yX6_rightShape wsX6_rightShape) := goodIn_app (goodIn_of _ (by decide +kernel)) ggX6_countedArea_X6_rightShape
set_option maxRecDepth 20000 in
theorem ggX6_countedArea_X6_back : GoodIn wsX6_countedArea wsX6_back := goodIn_r _ [9, 1, 10, 11, 4, 12, 13, 14, 15, 19, 20, 21, 22, 23, 24, 25, 26, 27, 28, 29, 30, 31, 32, 33, 34, 35] (by decide +kernel) (by decide +kernel)
set_option maxRecDepth 20000 in
theorem gX6_countedArea_X6_back : GoodIn wsX6_countedArea (wsV RX6 62 RX6 yX6_back wsX6_back) := goodIn_app (goodIn_of _ (by decide +kernel)) ggX6_countedArea_X6_back
set_option maxRecDepth 20000 in
theorem ggX6_countedArea_X6_leftShape : GoodIn wsX6_countedArea wsX6_leftShape := goodIn_r _ [18] (by decide +kernel) (by decide +kernel)
set_option maxRecDepth 20000 in
theorem gX6_countedArea_X6_leftShape : GoodIn wsX6_countedArea (va_wsS RX6 66 yX6_leftShape wsX6_leftShape) := goodIn_app (goodIn_of _ (by decide +kernel)) ggX6_countedArea_X6_leftShape
theorem dX6_countedArea_0 : decode cX6_countedArea 0 = .ok (.iconst 0, 1) := by decide +kernel
theorem dX6_countedArea_1 : decode cX6_countedArea 1 = .ok (.istore 4, 2) := by decide +kernel
theorem dX6_countedArea_3 : decode cX6_countedArea 3 = .ok (.iconst 0, 1) := by decide +kernel
theorem dX6_countedArea_4 : decode cX6_countedArea 4 = .ok (.istore 5, 2) := by decide +kernel
theorem dX6_countedArea_6 : decode cX6_countedArea 6 = .ok (.iload 5, 2) := by decide +kernel
theorem dX6_countedArea_8 : decode cX6_countedArea 8 = .ok (.bipush 10, 2) := by decide +kernel
theorem dX6_countedArea_10 : decode cX6_countedArea 10 = .ok (.if_icmp .ge 70, 3) := by decide +kernel
theorem dX6_countedArea_13 : decode cX6_countedArea 13 = .ok (.aload_n 0, 1) := by decide +kernel
theorem dX6_countedArea_14 : decode cX6_countedArea 14 = .ok (.iload_n 1, 1) := by decide +kernel
theorem dX6_countedArea_15 : decode cX6_countedArea 15 = .ok (.invokestatic 59, 3) := by decide +kernel
theorem dX6_countedArea_18 : decode cX6_countedArea 18 = .ok (.iload 5, 2) := by decide +kernel
theorem dX6_countedArea_20 : decode cX6_countedArea 20 = .ok (.invokevirtual 62, 3) := by decide +kernel
theorem dX6_countedArea_23 : decode cX6_countedArea 23 = .ok (.ineg, 1) := by decide +kernel
theorem dX6_countedArea_24 : decode cX6_countedArea 24 = .ok (.istore 6, 2) := by decide +kernel
theorem dX6_countedArea_26 : decode cX6_countedArea 26 = .ok (.iload_n 3, 1) := by decide +kernel
theorem dX6_countedArea_27 : decode cX6_countedArea 27 = .ok (.aload_n 0, 1) := by decide +kernel
theorem dX6_countedArea_28 : decode cX6_countedArea 28 = .ok (.iload_n 2, 1) := by decide +kernel
theorem dX6_countedArea_29 : decode cX6_countedArea 29 = .ok (.invokestatic 66, 3) := by decide +kernel
theorem dX6_countedArea_32 : decode cX6_countedArea 32 = .ok (.iload 5, 2) := by decide +kernel
theorem dX6_countedArea_34 : decode cX6_countedArea 34 = .ok (.invokevirtual 62, 3) := by decide +kernel
theorem dX6_countedArea_37 : decode cX6_countedArea 37 = .ok (.iadd, 1) := by decide +kernel
theorem dX6_countedArea_38 : decode cX6_countedArea 38 = .ok (.istore 7, 2) := by decide +kernel
theorem dX6_countedArea_40 : decode cX6_countedArea 40 = .ok (.iload 6, 2) := by decide +kernel
theorem dX6_countedArea_42 : decode cX6_countedArea 42 = .ok (.istore 8, 2) := by decide +kernel
theorem dX6_countedArea_44 : decode cX6_countedArea 44 = .ok (.iload 8, 2) := by decide +kernel
theorem dX6_countedArea_46 : decode cX6_countedArea 46 = .ok (.iload 7, 2) := by decide +kernel
theorem dX6_countedArea_48 : decode cX6_countedArea 48 = .ok (.if_icmp .ge 26, 3) := by decide +kernel
theorem dX6_countedArea_51 : decode cX6_countedArea 51 = .ok (.iload 8, 2) := by decide +kernel
theorem dX6_countedArea_53 : decode cX6_countedArea 53 = .ok (.iload 6, 2) := by decide +kernel
theorem dX6_countedArea_55 : decode cX6_countedArea 55 = .ok (.isub, 1) := by decide +kernel
theorem dX6_countedArea_56 : decode cX6_countedArea 56 = .ok (.aload_n 0, 1) := by decide +kernel
theorem dX6_countedArea_57 : decode cX6_countedArea 57 = .ok (.getfield 7, 3) := by decide +kernel
theorem dX6_countedArea_60 : decode cX6_countedArea 60 = .ok (.iconst 1, 1) := by decide +kernel
theorem dX6_countedArea_61 : decode cX6_countedArea 61 = .ok (.iaload, 1) := by decide +kernel
theorem dX6_countedArea_62 : decode cX6_countedArea 62 = .ok (.if_icmp .ge 12, 3) := by decide +kernel
theorem dX6_countedArea_65 : decode cX6_countedArea 65 = .ok (.iinc 4 1, 3) := by decide +kernel
theorem dX6_countedArea_68 : decode cX6_countedArea 68 = .ok (.iinc 8 1, 3) := by decide +kernel
theorem dX6_countedArea_71 : decode cX6_countedArea 71 = .ok (.goto (-27), 3) := by decide +kernel
theorem dX6_countedArea_74 : decode cX6_countedArea 74 = .ok (.iinc 5 1, 3) := by decide +kernel
theorem dX6_countedArea_77 : decode cX6_countedArea 77 = .ok (.goto (-71), 3) := by decide +kernel
theorem dX6_countedArea_80 : decode cX6_countedArea 80 = .ok (.iload 4, 2) := by decide +kernel
theorem dX6_countedArea_82 : decode cX6_countedArea 82 = .ok (.ireturn, 1) := by decide +kernel
set_option maxRecDepth 20000 in
theorem ggX6_share_X6_size : GoodIn wsX6_share wsX6_size := goodIn_r _ [5] (by decide +kernel) (by decide +kernel)
set_option maxRecDepth 20000 in
theorem gX6_share_X6_size : GoodIn wsX6_share (va_wsS RX6 55 yX6_size wsX6_size) := goodIn_app (goodIn_of _ (by decide +kernel)) ggX6_share_X6_size
theorem dX6_share_0 : decode cX6_share 0 = .ok (.iload_n 1, 1) := by decide +kernel
theorem dX6_share_1 : decode cX6_share 1 = .ok (.aload_n 0, 1) := by decide +kernel
theorem dX6_share_2 : decode cX6_share 2 = .ok (.getfield 7, 3) := by decide +kernel
theorem dX6_share_5 : decode cX6_share 5 = .ok (.iconst 3, 1) := by decide +kernel
theorem dX6_share_6 : decode cX6_share 6 = .ok (.iaload, 1) := by decide +kernel
theorem dX6_share_7 : decode cX6_share 7 = .ok (.isub, 1) := by decide +kernel
theorem dX6_share_8 : decode cX6_share 8 = .ok (.invokestatic 55, 3) := by decide +kernel
theorem dX6_share_11 : decode cX6_share 11 = .ok (.bipush 100, 2) := by decide +kernel
theorem dX6_share_13 : decode cX6_share 13 = .ok (.imul, 1) := by decide +kernel
theorem dX6_share_14 : decode cX6_share 14 = .ok (.aload_n 0, 1) := by decide +kernel
theorem dX6_share_15 : decode cX6_share 15 = .ok (.getfield 7, 3) := by decide +kernel
theorem dX6_share_18 : decode cX6_share 18 = .ok (.iconst 3, 1) := by decide +kernel
theorem dX6_share_19 : decode cX6_share 19 = .ok (.iaload, 1) := by decide +kernel
theorem dX6_share_20 : decode cX6_share 20 = .ok (.idiv, 1) := by decide +kernel
theorem dX6_share_21 : decode cX6_share 21 = .ok (.ireturn, 1) := by decide +kernel
set_option maxRecDepth 20000 in
theorem ggX6_isFault_X6_share : GoodIn wsX6_isFault wsX6_share := goodIn_r _ [7, 2, 8, 9, 6, 10, 11, 12, 13, 14, 15, 16, 17, 18, 19, 20, 21, 22, 23, 24, 25, 26, 27] (by decide +kernel) (by decide +kernel)
set_option maxRecDepth 20000 in
theorem gX6_isFault_X6_share : GoodIn wsX6_isFault (wsV RX6 69 RX6 yX6_share wsX6_share) := goodIn_app (goodIn_of _ (by decide +kernel)) ggX6_isFault_X6_share
theorem dX6_isFault_0 : decode cX6_isFault 0 = .ok (.aload_n 0, 1) := by decide +kernel
theorem dX6_isFault_1 : decode cX6_isFault 1 = .ok (.getfield 31, 3) := by decide +kernel
theorem dX6_isFault_4 : decode cX6_isFault 4 = .ok (.iload_n 1, 1) := by decide +kernel
theorem dX6_isFault_5 : decode cX6_isFault 5 = .ok (.iaload, 1) := by decide +kernel
theorem dX6_isFault_6 : decode cX6_isFault 6 = .ok (.iconst (-1), 1) := by decide +kernel
theorem dX6_isFault_7 : decode cX6_isFault 7 = .ok (.if_icmp .eq 26, 3) := by decide +kernel
theorem dX6_isFault_10 : decode cX6_isFault 10 = .ok (.aload_n 0, 1) := by decide +kernel
theorem dX6_isFault_11 : decode cX6_isFault 11 = .ok (.aload_n 0, 1) := by decide +kernel
theorem dX6_isFault_12 : decode cX6_isFault 12 = .ok (.getfield 31, 3) := by decide +kernel
theorem dX6_isFault_15 : decode cX6_isFault 15 = .ok (.iload_n 1, 1) := by decide +kernel
theorem dX6_isFault_16 : decode cX6_isFault 16 = .ok (.iaload, 1) := by decide +kernel
theorem dX6_isFault_17 : decode cX6_isFault 17 = .ok (.invokevirtual 69, 3) := by decide +kernel
theorem dX6_isFault_20 : decode cX6_isFault 20 = .ok (.aload_n 0, 1) := by decide +kernel
theorem dX6_isFault_21 : decode cX6_isFault 21 = .ok (.getfield 7, 3) := by decide +kernel
theorem dX6_isFault_24 : decode cX6_isFault 24 = .ok (.iconst 5, 1) := by decide +kernel
theorem dX6_isFault_25 : decode cX6_isFault 25 = .ok (.iaload, 1) := by decide +kernel
theorem dX6_isFault_26 : decode cX6_isFault 26 = .ok (.if_icmp .le 7, 3) := by decide +kernel
theorem dX6_isFault_29 : decode cX6_isFault 29 = .ok (.iconst 1, 1) := by decide +kernel
theorem dX6_isFault_30 : decode cX6_isFault 30 = .ok (.goto 4, 3) := by decide +kernel
theorem dX6_isFault_33 : decode cX6_isFault 33 = .ok (.iconst 0, 1) := by decide +kernel
theorem dX6_isFault_34 : decode cX6_isFault 34 = .ok (.ireturn, 1) := by decide +kernel
set_option maxRecDepth 20000 in
theorem ggX6_wantedGap_X6_area : GoodIn wsX6_wantedGap wsX6_area := goodIn_r _ [6, 1, 7, 8, 5, 9, 10, 11, 12, 13, 14, 15, 16, 17, 18, 19, 20, 21, 22, 23, 24, 25, 26, 27, 28, 29, 30, 31, 32, 33, 34, 35, 36, 37, 38, 39] (by decide +kernel) (by decide +kernel)
set_option maxRecDepth 20000 in
theorem gX6_wantedGap_X6_area : GoodIn wsX6_wantedGap (wsV RX6 72 RX6 yX6_area wsX6_area) := goodIn_app (goodIn_of _ (by decide +kernel)) ggX6_wantedGap_X6_area
theorem dX6_wantedGap_0 : decode cX6_wantedGap 0 = .ok (.iconst 0, 1) := by decide +kernel
theorem dX6_wantedGap_1 : decode cX6_wantedGap 1 = .ok (.istore 4, 2) := by decide +kernel
theorem dX6_wantedGap_3 : decode cX6_wantedGap 3 = .ok (.iload 4, 2) := by decide +kernel
theorem dX6_wantedGap_5 : decode cX6_wantedGap 5 = .ok (.bipush 40, 2) := by decide +kernel
theorem dX6_wantedGap_7 : decode cX6_wantedGap 7 = .ok (.if_icmp .ge 26, 3) := by decide +kernel
theorem dX6_wantedGap_10 : decode cX6_wantedGap 10 = .ok (.aload_n 0, 1) := by decide +kernel
theorem dX6_wantedGap_11 : decode cX6_wantedGap 11 = .ok (.iload_n 1, 1) := by decide +kernel
theorem dX6_wantedGap_12 : decode cX6_wantedGap 12 = .ok (.iload_n 2, 1) := by decide +kernel
theorem dX6_wantedGap_13 : decode cX6_wantedGap 13 = .ok (.iload 4, 2) := by decide +kernel
theorem dX6_wantedGap_15 : decode cX6_wantedGap 15 = .ok (.invokevirtual 72, 3) := by decide +kernel
theorem dX6_wantedGap_18 : decode cX6_wantedGap 18 = .ok (.aload_n 0, 1) := by decide +kernel
theorem dX6_wantedGap_19 : decode cX6_wantedGap 19 = .ok (.getfield 7, 3) := by decide +kernel
theorem dX6_wantedGap_22 : decode cX6_wantedGap 22 = .ok (.iconst 3, 1) := by decide +kernel
theorem dX6_wantedGap_23 : decode cX6_wantedGap 23 = .ok (.iaload, 1) := by decide +kernel
theorem dX6_wantedGap_24 : decode cX6_wantedGap 24 = .ok (.if_icmp .ge 9, 3) := by decide +kernel
theorem dX6_wantedGap_27 : decode cX6_wantedGap 27 = .ok (.iinc 4 1, 3) := by decide +kernel
theorem dX6_wantedGap_30 : decode cX6_wantedGap 30 = .ok (.goto (-27), 3) := by decide +kernel
theorem dX6_wantedGap_33 : decode cX6_wantedGap 33 = .ok (.iload 4, 2) := by decide +kernel
theorem dX6_wantedGap_35 : decode cX6_wantedGap 35 = .ok (.iload_n 3, 1) := by decide +kernel
theorem dX6_wantedGap_36 : decode cX6_wantedGap 36 = .ok (.iadd, 1) := by decide +kernel
theorem dX6_wantedGap_37 : decode cX6_wantedGap 37 = .ok (.ifCond .ge 7, 3) := by decide +kernel
theorem dX6_wantedGap_40 : decode cX6_wantedGap 40 = .ok (.iconst 0, 1) := by decide +kernel
theorem dX6_wantedGap_41 : decode cX6_wantedGap 41 = .ok (.goto 7, 3) := by decide +kernel
theorem dX6_wantedGap_44 : decode cX6_wantedGap 44 = .ok (.iload 4, 2) := by decide +kernel
theorem dX6_wantedGap_46 : decode cX6_wantedGap 46 = .ok (.iload_n 3, 1) := by decide +kernel
theorem dX6_wantedGap_47 : decode cX6_wantedGap 47 = .ok (.iadd, 1) := by decide +kernel
theorem dX6_wantedGap_48 : decode cX6_wantedGap 48 = .ok (.ireturn, 1) := by decide +kernel
theorem dX6_snapped_0 : decode cX6_snapped 0 = .ok (.aload_n 0, 1) := by decide +kernel
theorem dX6_snapped_1 : decode cX6_snapped 1 = .ok (.getfield 7, 3) := by decide +kernel
theorem dX6_snapped_4 : decode cX6_snapped 4 = .ok (.iconst 4, 1) := by decide +kernel
theorem dX6_snapped_5 : decode cX6_snapped 5 = .ok (.iaload, 1) := by decide +kernel
theorem dX6_snapped_6 : decode cX6_snapped 6 = .ok (.iconst 1, 1) := by decide +kernel
theorem dX6_snapped_7 : decode cX6_snapped 7 = .ok (.if_icmp .le 30, 3) := by decide +kernel
theorem dX6_snapped_10 : decode cX6_snapped 10 = .ok (.iload_n 1, 1) := by decide +kernel
theorem dX6_snapped_11 : decode cX6_snapped 11 = .ok (.aload_n 0, 1) := by decide +kernel
theorem dX6_snapped_12 : decode cX6_snapped 12 = .ok (.getfield 7, 3) := by decide +kernel
theorem dX6_snapped_15 : decode cX6_snapped 15 = .ok (.iconst 4, 1) := by decide +kernel
theorem dX6_snapped_16 : decode cX6_snapped 16 = .ok (.iaload, 1) := by decide +kernel
theorem dX6_snapped_17 : decode cX6_snapped 17 = .ok (.iadd, 1) := by decide +kernel
theorem dX6_snapped_18 : decode cX6_snapped 18 = .ok (.iconst 1, 1) := by decide +kernel
theorem dX6_snapped_19 : decode cX6_snapped 19 = .ok (.isub, 1) := by decide +kernel
theorem dX6_snapped_20 : decode cX6_snapped 20 = .ok (.aload_n 0, 1) := by decide +kernel
theorem dX6_snapped_21 : decode cX6_snapped 21 = .ok (.getfield 7, 3) := by decide +kernel
theorem dX6_snapped_24 : decode cX6_snapped 24 = .ok (.iconst 4, 1) := by decide +kernel
theorem dX6_snapped_25 : decode cX6_snapped 25 = .ok (.iaload, 1) := by decide +kernel
theorem dX6_snapped_26 : decode cX6_snapped 26 = .ok (.idiv, 1) := by decide +kernel
theorem dX6_snapped_27 : decode cX6_snapped 27 = .ok (.aload_n 0, 1) := by decide +kernel
theorem dX6_snapped_28 : decode cX6_snapped 28 = .ok (.getfield 7, 3) := by decide +kernel
theorem dX6_snapped_31 : decode cX6_snapped 31 = .ok (.iconst 4, 1) := by decide +kernel
theorem dX6_snapped_32 : decode cX6_snapped 32 = .ok (.iaload, 1) := by decide +kernel
theorem dX6_snapped_33 : decode cX6_snapped 33 = .ok (.imul, 1) := by decide +kernel
theorem dX6_snapped_34 : decode cX6_snapped 34 = .ok (.goto 4, 3) := by decide +kernel
theorem dX6_snapped_37 : decode cX6_snapped 37 = .ok (.iload_n 1, 1) := by decide +kernel
theorem dX6_snapped_38 : decode cX6_snapped 38 = .ok (.ireturn, 1) := by decide +kernel
set_option maxRecDepth 20000 in
theorem ggX6_beginning_X6_isLetter : GoodIn wsX6_beginning wsX6_isLetter := goodIn_r _ [6, 1, 7, 8, 9, 5, 10, 11, 12, 13, 39, 40, 41, 42, 43, 44, 45, 46, 47, 48, 49, 50, 51, 52, 53, 54, 55] (by decide +kernel) (by decide +kernel)
set_option maxRecDepth 20000 in
theorem gX6_beginning_X6_isLetter : GoodIn wsX6_beginning (wsV RX6 76 RX6 yX6_isLetter wsX6_isLetter) := goodIn_app (goodIn_of _ (by decide +kernel)) ggX6_beginning_X6_isLetter
set_option maxRecDepth 20000 in
theorem ggX6_beginning_X6_wantedGap : GoodIn wsX6_beginning wsX6_wantedGap := goodIn_r _ [17, 1, 18, 19, 20, 5, 21, 22, 23, 24, 25, 26, 27, 28, 29, 30, 31, 11, 12, 13, 32, 33, 34, 39, 40, 41, 42, 43, 44, 45, 46, 47, 48, 49, 50, 51, 52, 53, 54, 55] (by decide +kernel) (by decide +kernel)
set_option maxRecDepth 20000 in
theorem gX6_beginning_X6_wantedGap : GoodIn wsX6_beginning (wsV RX6 79 RX6 yX6_wantedGap wsX6_wantedGap) := goodIn_app (goodIn_of _ (by decide +kernel)) ggX6_beginning_X6_wantedGap
set_option maxRecDepth 20000 in
theorem ggX6_beginning_X6_snapped : GoodIn wsX6_beginning wsX6_snapped := goodIn_r _ [38, 1, 39, 40, 41, 42, 43, 44, 45, 46, 47, 48, 49, 50, 51, 52, 53, 54, 55] (by decide +kernel) (by decide +kernel)
set_option maxRecDepth 20000 in
theorem gX6_beginning_X6_snapped : GoodIn wsX6_beginning (wsV RX6 82 RX6 yX6_snapped wsX6_snapped) := goodIn_app (goodIn_of _ (by decide +kernel)) ggX6_beginning_X6_snapped
theorem dX6_beginning_0 : decode cX6_beginning 0 = .ok (.iload_n 1, 1) := by decide +kernel
theorem dX6_beginning_1 : decode cX6_beginning 1 = .ok (.ifCond .ne 5, 3) := by decide +kernel
theorem dX6_beginning_4 : decode cX6_beginning 4 = .ok (.iconst 0, 1) := by decide +kernel
theorem dX6_beginning_5 : decode cX6_beginning 5 = .ok (.ireturn, 1) := by decide +kernel
theorem dX6_beginning_6 : decode cX6_beginning 6 = .ok (.aload_n 0, 1) := by decide +kernel
theorem dX6_beginning_7 : decode cX6_beginning 7 = .ok (.iload_n 1, 1) := by decide +kernel
theorem dX6_beginning_8 : decode cX6_beginning 8 = .ok (.iconst 1, 1) := by decide +kernel
theorem dX6_beginning_9 : decode cX6_beginning 9 = .ok (.isub, 1) := by decide +kernel
theorem dX6_beginning_10 : decode cX6_beginning 10 = .ok (.invokevirtual 76, 3) := by decide +kernel
theorem dX6_beginning_13 : decode cX6_beginning 13 = .ok (.istore 4, 2) := by decide +kernel
theorem dX6_beginning_15 : decode cX6_beginning 15 = .ok (.iload 4, 2) := by decide +kernel
theorem dX6_beginning_17 : decode cX6_beginning 17 = .ok (.ifCond .eq 31, 3) := by decide +kernel
theorem dX6_beginning_20 : decode cX6_beginning 20 = .ok (.aload_n 0, 1) := by decide +kernel
theorem dX6_beginning_21 : decode cX6_beginning 21 = .ok (.aload_n 0, 1) := by decide +kernel
theorem dX6_beginning_22 : decode cX6_beginning 22 = .ok (.getfield 7, 3) := by decide +kernel
theorem dX6_beginning_25 : decode cX6_beginning 25 = .ok (.bipush 8, 2) := by decide +kernel
theorem dX6_beginning_27 : decode cX6_beginning 27 = .ok (.iload_n 1, 1) := by decide +kernel
theorem dX6_beginning_28 : decode cX6_beginning 28 = .ok (.iadd, 1) := by decide +kernel
theorem dX6_beginning_29 : decode cX6_beginning 29 = .ok (.iconst 1, 1) := by decide +kernel
theorem dX6_beginning_30 : decode cX6_beginning 30 = .ok (.isub, 1) := by decide +kernel
theorem dX6_beginning_31 : decode cX6_beginning 31 = .ok (.iaload, 1) := by decide +kernel
theorem dX6_beginning_32 : decode cX6_beginning 32 = .ok (.aload_n 0, 1) := by decide +kernel
theorem dX6_beginning_33 : decode cX6_beginning 33 = .ok (.getfield 7, 3) := by decide +kernel
theorem dX6_beginning_36 : decode cX6_beginning 36 = .ok (.bipush 8, 2) := by decide +kernel
theorem dX6_beginning_38 : decode cX6_beginning 38 = .ok (.iload_n 1, 1) := by decide +kernel
theorem dX6_beginning_39 : decode cX6_beginning 39 = .ok (.iadd, 1) := by decide +kernel
theorem dX6_beginning_40 : decode cX6_beginning 40 = .ok (.iaload, 1) := by decide +kernel
theorem dX6_beginning_41 : decode cX6_beginning 41 = .ok (.iload_n 2, 1) := by decide +kernel
theorem dX6_beginning_42 : decode cX6_beginning 42 = .ok (.invokevirtual 79, 3) := by decide +kernel
theorem dX6_beginning_45 : decode cX6_beginning 45 = .ok (.goto 4, 3) := by decide +kernel
theorem dX6_beginning_48 : decode cX6_beginning 48 = .ok (.iconst 0, 1) := by decide +kernel
theorem dX6_beginning_49 : decode cX6_beginning 49 = .ok (.istore 5, 2) := by decide +kernel
theorem dX6_beginning_51 : decode cX6_beginning 51 = .ok (.aload_n 0, 1) := by decide +kernel
theorem dX6_beginning_52 : decode cX6_beginning 52 = .ok (.iload_n 3, 1) := by decide +kernel
theorem dX6_beginning_53 : decode cX6_beginning 53 = .ok (.iload 5, 2) := by decide +kernel
theorem dX6_beginning_55 : decode cX6_beginning 55 = .ok (.iadd, 1) := by decide +kernel
theorem dX6_beginning_56 : decode cX6_beginning 56 = .ok (.invokevirtual 82, 3) := by decide +kernel
theorem dX6_beginning_59 : decode cX6_beginning 59 = .ok (.ireturn, 1) := by decide +kernel
set_option maxRecDepth 20000 in
theorem ggX6_lays_X6_isLetter : GoodIn wsX6_lays wsX6_isLetter := goodIn_r _ [10, 1, 11, 12, 13, 9, 14, 15, 16, 17, 50, 51, 52, 53, 54, 55, 56, 57, 58, 59, 60, 61, 62, 63, 64, 65, 66] (by decide +kernel) (by decide +kernel)
set_option maxRecDepth 20000 in
theorem gX6_lays_X6_isLetter : GoodIn wsX6_lays (wsV RX6 76 RX6 yX6_isLetter wsX6_isLetter) := goodIn_app (goodIn_of _ (by decide +kernel)) ggX6_lays_X6_isLetter
set_option maxRecDepth 20000 in
theorem ggX6_lays_X6_beginning : GoodIn wsX6_lays wsX6_beginning := goodIn_r _ [21, 1, 6, 7, 8, 9, 10, 11, 12, 13, 14, 15, 16, 17, 22, 23, 24, 25, 26, 27, 28, 29, 30, 31, 32, 33, 34, 35, 36, 37, 38, 39, 40, 41, 42, 43, 44, 45, 46, 50, 51, 52, 53, 54, 55, 56, 57, 58, 59, 60, 61, 62, 63, 64, 65, 66] (by decide +kernel) (by decide +kernel)
set_option maxRecDepth 20000 in
theorem gX6_lays_X6_beginning : GoodIn wsX6_lays (wsV RX6 85 RX6 yX6_beginning wsX6_beginning) := goodIn_app (goodIn_of _ (by decide +kernel)) ggX6_lays_X6_beginning
set_option maxRecDepth 20000 in
theorem ggX6_lays_X6_area : GoodIn wsX6_lays wsX6_area := goodIn_r _ [29, 1, 30, 31, 9, 32, 33, 34, 35, 36, 37, 38, 39, 15, 16, 17, 40, 41, 42, 50, 51, 52, 53, 54, 55, 56, 57, 58, 59, 60, 61, 62, 63, 64, 65, 66] (by decide +kernel) (by decide +kernel)
set_option maxRecDepth 20000 in
theorem gX6_lays_X6_area : GoodIn wsX6_lays (wsV RX6 72 RX6 yX6_area wsX6_area) := goodIn_app (goodIn_of _ (by decide +kernel)) ggX6_lays_X6_area
set_option maxRecDepth 20000 in
theorem ggX6_lays_X6_widthOf : GoodIn wsX6_lays wsX6_widthOf := goodIn_r _ [49] (by decide +kernel) (by decide +kernel)
set_option maxRecDepth 20000 in
theorem gX6_lays_X6_widthOf : GoodIn wsX6_lays (va_wsS RX6 88 yX6_widthOf wsX6_widthOf) := goodIn_app (goodIn_of _ (by decide +kernel)) ggX6_lays_X6_widthOf
theorem dX6_lays_0 : decode cX6_lays 0 = .ok (.iconst 0, 1) := by decide +kernel
theorem dX6_lays_1 : decode cX6_lays 1 = .ok (.istore_n 1, 1) := by decide +kernel
theorem dX6_lays_2 : decode cX6_lays 2 = .ok (.iconst 0, 1) := by decide +kernel
theorem dX6_lays_3 : decode cX6_lays 3 = .ok (.istore_n 2, 1) := by decide +kernel
theorem dX6_lays_4 : decode cX6_lays 4 = .ok (.iload_n 2, 1) := by decide +kernel
theorem dX6_lays_5 : decode cX6_lays 5 = .ok (.aload_n 0, 1) := by decide +kernel
theorem dX6_lays_6 : decode cX6_lays 6 = .ok (.getfield 7, 3) := by decide +kernel
theorem dX6_lays_9 : decode cX6_lays 9 = .ok (.bipush 7, 2) := by decide +kernel
theorem dX6_lays_11 : decode cX6_lays 11 = .ok (.iaload, 1) := by decide +kernel
theorem dX6_lays_12 : decode cX6_lays 12 = .ok (.if_icmp .ge 177, 3) := by decide +kernel
theorem dX6_lays_15 : decode cX6_lays 15 = .ok (.aload_n 0, 1) := by decide +kernel
theorem dX6_lays_16 : decode cX6_lays 16 = .ok (.iload_n 2, 1) := by decide +kernel
theorem dX6_lays_17 : decode cX6_lays 17 = .ok (.invokevirtual 76, 3) := by decide +kernel
theorem dX6_lays_20 : decode cX6_lays 20 = .ok (.istore_n 3, 1) := by decide +kernel
theorem dX6_lays_21 : decode cX6_lays 21 = .ok (.aload_n 0, 1) := by decide +kernel
theorem dX6_lays_22 : decode cX6_lays 22 = .ok (.getfield 22, 3) := by decide +kernel
theorem dX6_lays_25 : decode cX6_lays 25 = .ok (.iload_n 2, 1) := by decide +kernel
theorem dX6_lays_26 : decode cX6_lays 26 = .ok (.iload_n 3, 1) := by decide +kernel
theorem dX6_lays_27 : decode cX6_lays 27 = .ok (.ifCond .eq 21, 3) := by decide +kernel
theorem dX6_lays_30 : decode cX6_lays 30 = .ok (.aload_n 0, 1) := by decide +kernel
theorem dX6_lays_31 : decode cX6_lays 31 = .ok (.iload_n 2, 1) := by decide +kernel
theorem dX6_lays_32 : decode cX6_lays 32 = .ok (.aload_n 0, 1) := by decide +kernel
theorem dX6_lays_33 : decode cX6_lays 33 = .ok (.getfield 7, 3) := by decide +kernel
theorem dX6_lays_36 : decode cX6_lays 36 = .ok (.bipush 28, 2) := by decide +kernel
theorem dX6_lays_38 : decode cX6_lays 38 = .ok (.iload_n 2, 1) := by decide +kernel
theorem dX6_lays_39 : decode cX6_lays 39 = .ok (.iadd, 1) := by decide +kernel
theorem dX6_lays_40 : decode cX6_lays 40 = .ok (.iaload, 1) := by decide +kernel
theorem dX6_lays_41 : decode cX6_lays 41 = .ok (.iload_n 1, 1) := by decide +kernel
theorem dX6_lays_42 : decode cX6_lays 42 = .ok (.invokevirtual 85, 3) := by decide +kernel
theorem dX6_lays_45 : decode cX6_lays 45 = .ok (.goto 4, 3) := by decide +kernel
theorem dX6_lays_48 : decode cX6_lays 48 = .ok (.iload_n 1, 1) := by decide +kernel
theorem dX6_lays_49 : decode cX6_lays 49 = .ok (.iastore, 1) := by decide +kernel
theorem dX6_lays_50 : decode cX6_lays 50 = .ok (.iload_n 3, 1) := by decide +kernel
theorem dX6_lays_51 : decode cX6_lays 51 = .ok (.ifCond .eq 21, 3) := by decide +kernel
theorem dX6_lays_54 : decode cX6_lays 54 = .ok (.iload_n 2, 1) := by decide +kernel
theorem dX6_lays_55 : decode cX6_lays 55 = .ok (.ifCond .le 17, 3) := by decide +kernel
theorem dX6_lays_58 : decode cX6_lays 58 = .ok (.aload_n 0, 1) := by decide +kernel
theorem dX6_lays_59 : decode cX6_lays 59 = .ok (.iload_n 2, 1) := by decide +kernel
theorem dX6_lays_60 : decode cX6_lays 60 = .ok (.iconst 1, 1) := by decide +kernel
theorem dX6_lays_61 : decode cX6_lays 61 = .ok (.isub, 1) := by decide +kernel
theorem dX6_lays_62 : decode cX6_lays 62 = .ok (.invokevirtual 76, 3) := by decide +kernel
theorem dX6_lays_65 : decode cX6_lays 65 = .ok (.ifCond .eq 7, 3) := by decide +kernel
theorem dX6_lays_68 : decode cX6_lays 68 = .ok (.iconst 1, 1) := by decide +kernel
theorem dX6_lays_69 : decode cX6_lays 69 = .ok (.goto 4, 3) := by decide +kernel
theorem dX6_lays_72 : decode cX6_lays 72 = .ok (.iconst 0, 1) := by decide +kernel
theorem dX6_lays_73 : decode cX6_lays 73 = .ok (.istore 4, 2) := by decide +kernel
theorem dX6_lays_75 : decode cX6_lays 75 = .ok (.aload_n 0, 1) := by decide +kernel
theorem dX6_lays_76 : decode cX6_lays 76 = .ok (.getfield 28, 3) := by decide +kernel
theorem dX6_lays_79 : decode cX6_lays 79 = .ok (.iload_n 2, 1) := by decide +kernel
theorem dX6_lays_80 : decode cX6_lays 80 = .ok (.iload 4, 2) := by decide +kernel
theorem dX6_lays_82 : decode cX6_lays 82 = .ok (.ifCond .eq 14, 3) := by decide +kernel
theorem dX6_lays_85 : decode cX6_lays 85 = .ok (.aload_n 0, 1) := by decide +kernel
theorem dX6_lays_86 : decode cX6_lays 86 = .ok (.getfield 22, 3) := by decide +kernel
theorem dX6_lays_89 : decode cX6_lays 89 = .ok (.iload_n 2, 1) := by decide +kernel
theorem dX6_lays_90 : decode cX6_lays 90 = .ok (.iaload, 1) := by decide +kernel
theorem dX6_lays_91 : decode cX6_lays 91 = .ok (.iload_n 1, 1) := by decide +kernel
theorem dX6_lays_92 : decode cX6_lays 92 = .ok (.isub, 1) := by decide +kernel
theorem dX6_lays_93 : decode cX6_lays 93 = .ok (.goto 4, 3) := by decide +kernel
theorem dX6_lays_96 : decode cX6_lays 96 = .ok (.iconst (-1), 1) := by decide +kernel
theorem dX6_lays_97 : decode cX6_lays 97 = .ok (.iastore, 1) := by decide +kernel
theorem dX6_lays_98 : decode cX6_lays 98 = .ok (.aload_n 0, 1) := by decide +kernel
theorem dX6_lays_99 : decode cX6_lays 99 = .ok (.getfield 31, 3) := by decide +kernel
theorem dX6_lays_102 : decode cX6_lays 102 = .ok (.iload_n 2, 1) := by decide +kernel
theorem dX6_lays_103 : decode cX6_lays 103 = .ok (.iload 4, 2) := by decide +kernel
theorem dX6_lays_105 : decode cX6_lays 105 = .ok (.ifCond .eq 36, 3) := by decide +kernel
theorem dX6_lays_108 : decode cX6_lays 108 = .ok (.aload_n 0, 1) := by decide +kernel
theorem dX6_lays_109 : decode cX6_lays 109 = .ok (.aload_n 0, 1) := by decide +kernel
theorem dX6_lays_110 : decode cX6_lays 110 = .ok (.getfield 7, 3) := by decide +kernel
theorem dX6_lays_113 : decode cX6_lays 113 = .ok (.bipush 8, 2) := by decide +kernel
theorem dX6_lays_115 : decode cX6_lays 115 = .ok (.iload_n 2, 1) := by decide +kernel
theorem dX6_lays_116 : decode cX6_lays 116 = .ok (.iadd, 1) := by decide +kernel
theorem dX6_lays_117 : decode cX6_lays 117 = .ok (.iconst 1, 1) := by decide +kernel
theorem dX6_lays_118 : decode cX6_lays 118 = .ok (.isub, 1) := by decide +kernel
theorem dX6_lays_119 : decode cX6_lays 119 = .ok (.iaload, 1) := by decide +kernel
theorem dX6_lays_120 : decode cX6_lays 120 = .ok (.aload_n 0, 1) := by decide +kernel
theorem dX6_lays_121 : decode cX6_lays 121 = .ok (.getfield 7, 3) := by decide +kernel
theorem dX6_lays_124 : decode cX6_lays 124 = .ok (.bipush 8, 2) := by decide +kernel
theorem dX6_lays_126 : decode cX6_lays 126 = .ok (.iload_n 2, 1) := by decide +kernel
theorem dX6_lays_127 : decode cX6_lays 127 = .ok (.iadd, 1) := by decide +kernel
theorem dX6_lays_128 : decode cX6_lays 128 = .ok (.iaload, 1) := by decide +kernel
theorem dX6_lays_129 : decode cX6_lays 129 = .ok (.aload_n 0, 1) := by decide +kernel
theorem dX6_lays_130 : decode cX6_lays 130 = .ok (.getfield 28, 3) := by decide +kernel
theorem dX6_lays_133 : decode cX6_lays 133 = .ok (.iload_n 2, 1) := by decide +kernel
theorem dX6_lays_134 : decode cX6_lays 134 = .ok (.iaload, 1) := by decide +kernel
theorem dX6_lays_135 : decode cX6_lays 135 = .ok (.invokevirtual 72, 3) := by decide +kernel
theorem dX6_lays_138 : decode cX6_lays 138 = .ok (.goto 4, 3) := by decide +kernel
theorem dX6_lays_141 : decode cX6_lays 141 = .ok (.iconst (-1), 1) := by decide +kernel
theorem dX6_lays_142 : decode cX6_lays 142 = .ok (.iastore, 1) := by decide +kernel
theorem dX6_lays_143 : decode cX6_lays 143 = .ok (.aload_n 0, 1) := by decide +kernel
theorem dX6_lays_144 : decode cX6_lays 144 = .ok (.getfield 22, 3) := by decide +kernel
theorem dX6_lays_147 : decode cX6_lays 147 = .ok (.iload_n 2, 1) := by decide +kernel
theorem dX6_lays_148 : decode cX6_lays 148 = .ok (.iaload, 1) := by decide +kernel
theorem dX6_lays_149 : decode cX6_lays 149 = .ok (.iload_n 3, 1) := by decide +kernel
theorem dX6_lays_150 : decode cX6_lays 150 = .ok (.ifCond .eq 18, 3) := by decide +kernel
theorem dX6_lays_153 : decode cX6_lays 153 = .ok (.aload_n 0, 1) := by decide +kernel
theorem dX6_lays_154 : decode cX6_lays 154 = .ok (.getfield 7, 3) := by decide +kernel
theorem dX6_lays_157 : decode cX6_lays 157 = .ok (.bipush 8, 2) := by decide +kernel
theorem dX6_lays_159 : decode cX6_lays 159 = .ok (.iload_n 2, 1) := by decide +kernel
theorem dX6_lays_160 : decode cX6_lays 160 = .ok (.iadd, 1) := by decide +kernel
theorem dX6_lays_161 : decode cX6_lays 161 = .ok (.iaload, 1) := by decide +kernel
theorem dX6_lays_162 : decode cX6_lays 162 = .ok (.invokestatic 88, 3) := by decide +kernel
theorem dX6_lays_165 : decode cX6_lays 165 = .ok (.goto 9, 3) := by decide +kernel
theorem dX6_lays_168 : decode cX6_lays 168 = .ok (.aload_n 0, 1) := by decide +kernel
theorem dX6_lays_169 : decode cX6_lays 169 = .ok (.getfield 7, 3) := by decide +kernel
theorem dX6_lays_172 : decode cX6_lays 172 = .ok (.iconst 2, 1) := by decide +kernel
theorem dX6_lays_173 : decode cX6_lays 173 = .ok (.iaload, 1) := by decide +kernel
theorem dX6_lays_174 : decode cX6_lays 174 = .ok (.iadd, 1) := by decide +kernel
theorem dX6_lays_175 : decode cX6_lays 175 = .ok (.istore_n 1, 1) := by decide +kernel
theorem dX6_lays_176 : decode cX6_lays 176 = .ok (.aload_n 0, 1) := by decide +kernel
theorem dX6_lays_177 : decode cX6_lays 177 = .ok (.getfield 25, 3) := by decide +kernel
theorem dX6_lays_180 : decode cX6_lays 180 = .ok (.iload_n 2, 1) := by decide +kernel
theorem dX6_lays_181 : decode cX6_lays 181 = .ok (.iload_n 1, 1) := by decide +kernel
theorem dX6_lays_182 : decode cX6_lays 182 = .ok (.iastore, 1) := by decide +kernel
theorem dX6_lays_183 : decode cX6_lays 183 = .ok (.iinc 2 1, 3) := by decide +kernel
theorem dX6_lays_186 : decode cX6_lays 186 = .ok (.goto (-182), 3) := by decide +kernel
theorem dX6_lays_189 : decode cX6_lays 189 = .ok (.return_, 1) := by decide +kernel
set_option maxRecDepth 20000 in
theorem ggX6_width_X6_lays : GoodIn wsX6_width wsX6_lays := goodIn_r _ [7, 1, 8, 9, 10, 2, 11, 12, 13, 6, 14, 15, 16, 17, 18, 19, 20, 21, 22, 23, 24, 25, 26, 27, 28, 29, 30, 31, 32, 33, 34, 35, 36, 37, 38, 39, 40, 41, 42, 43, 44, 45, 46, 47, 48, 49, 50, 51, 52, 53, 54, 55, 56, 57, 58, 59, 60, 61, 62, 63, 64, 65, 66, 67, 68, 69, 70] (by decide +kernel) (by decide +kernel)
set_option maxRecDepth 20000 in
theorem gX6_width_X6_lays : GoodIn wsX6_width (wsV RX6 91 RX6 yX6_lays wsX6_lays) := goodIn_app (goodIn_of _ (by decide +kernel)) ggX6_width_X6_lays
theorem dX6_width_0 : decode cX6_width 0 = .ok (.aload_n 0, 1) := by decide +kernel
theorem dX6_width_1 : decode cX6_width 1 = .ok (.invokevirtual 91, 3) := by decide +kernel
theorem dX6_width_4 : decode cX6_width 4 = .ok (.aload_n 0, 1) := by decide +kernel
theorem dX6_width_5 : decode cX6_width 5 = .ok (.getfield 7, 3) := by decide +kernel
theorem dX6_width_8 : decode cX6_width 8 = .ok (.bipush 7, 2) := by decide +kernel
theorem dX6_width_10 : decode cX6_width 10 = .ok (.iaload, 1) := by decide +kernel
theorem dX6_width_11 : decode cX6_width 11 = .ok (.ifCond .ne 7, 3) := by decide +kernel
theorem dX6_width_14 : decode cX6_width 14 = .ok (.iconst 0, 1) := by decide +kernel
theorem dX6_width_15 : decode cX6_width 15 = .ok (.goto 17, 3) := by decide +kernel
theorem dX6_width_18 : decode cX6_width 18 = .ok (.aload_n 0, 1) := by decide +kernel
theorem dX6_width_19 : decode cX6_width 19 = .ok (.getfield 25, 3) := by decide +kernel
theorem dX6_width_22 : decode cX6_width 22 = .ok (.aload_n 0, 1) := by decide +kernel
theorem dX6_width_23 : decode cX6_width 23 = .ok (.getfield 7, 3) := by decide +kernel
theorem dX6_width_26 : decode cX6_width 26 = .ok (.bipush 7, 2) := by decide +kernel
theorem dX6_width_28 : decode cX6_width 28 = .ok (.iaload, 1) := by decide +kernel
theorem dX6_width_29 : decode cX6_width 29 = .ok (.iconst 1, 1) := by decide +kernel
theorem dX6_width_30 : decode cX6_width 30 = .ok (.isub, 1) := by decide +kernel
theorem dX6_width_31 : decode cX6_width 31 = .ok (.iaload, 1) := by decide +kernel
theorem dX6_width_32 : decode cX6_width 32 = .ok (.ireturn, 1) := by decide +kernel
set_option maxRecDepth 20000 in
theorem ggX6_faults_X6_lays : GoodIn wsX6_faults wsX6_lays := goodIn_r _ [6, 1, 7, 8, 9, 10, 11, 12, 13, 5, 14, 15, 16, 17, 18, 19, 20, 21, 22, 23, 24, 25, 26, 27, 28, 29, 30, 31, 32, 33, 34, 35, 36, 37, 38, 39, 40, 41, 42, 43, 44, 45, 46, 47, 48, 49, 50, 51, 52, 53, 62, 63, 64, 65, 66, 67, 68, 69, 70, 71, 72, 73, 74, 75, 76, 77, 78] (by decide +kernel) (by decide +kernel)
set_option maxRecDepth 20000 in
theorem gX6_faults_X6_lays : GoodIn wsX6_faults (wsV RX6 91 RX6 yX6_lays wsX6_lays) := goodIn_app (goodIn_of _ (by decide +kernel)) ggX6_faults_X6_lays
set_option maxRecDepth 20000 in
theorem ggX6_faults_X6_isFault : GoodIn wsX6_faults wsX6_isFault := goodIn_r _ [57, 9, 1, 58, 59, 60, 5, 61, 41, 42, 43, 62, 63, 64, 65, 66, 67, 68, 69, 70, 71, 72, 73, 74, 75, 76, 77, 78] (by decide +kernel) (by decide +kernel)
set_option maxRecDepth 20000 in
theorem gX6_faults_X6_isFault : GoodIn wsX6_faults (wsV RX6 94 RX6 yX6_isFault wsX6_isFault) := goodIn_app (goodIn_of _ (by decide +kernel)) ggX6_faults_X6_isFault
theorem dX6_faults_0 : decode cX6_faults 0 = .ok (.aload_n 0, 1) := by decide +kernel
theorem dX6_faults_1 : decode cX6_faults 1 = .ok (.invokevirtual 91, 3) := by decide +kernel
theorem dX6_faults_4 : decode cX6_faults 4 = .ok (.iconst 0, 1) := by decide +kernel
theorem dX6_faults_5 : decode cX6_faults 5 = .ok (.istore_n 1, 1) := by decide +kernel
theorem dX6_faults_6 : decode cX6_faults 6 = .ok (.iconst 0, 1) := by decide +kernel
theorem dX6_faults_7 : decode cX6_faults 7 = .ok (.istore_n 2, 1) := by decide +kernel
theorem dX6_faults_8 : decode cX6_faults 8 = .ok (.iload_n 2, 1) := by decide +kernel
theorem dX6_faults_9 : decode cX6_faults 9 = .ok (.aload_n 0, 1) := by decide +kernel
theorem dX6_faults_10 : decode cX6_faults 10 = .ok (.getfield 7, 3) := by decide +kernel
theorem dX6_faults_13 : decode cX6_faults 13 = .ok (.bipush 7, 2) := by decide +kernel
theorem dX6_faults_15 : decode cX6_faults 15 = .ok (.iaload, 1) := by decide +kernel
theorem dX6_faults_16 : decode cX6_faults 16 = .ok (.if_icmp .ge 25, 3) := by decide +kernel
theorem dX6_faults_19 : decode cX6_faults 19 = .ok (.iload_n 1, 1) := by decide +kernel
theorem dX6_faults_20 : decode cX6_faults 20 = .ok (.aload_n 0, 1) := by decide +kernel
theorem dX6_faults_21 : decode cX6_faults 21 = .ok (.iload_n 2, 1) := by decide +kernel
theorem dX6_faults_22 : decode cX6_faults 22 = .ok (.invokevirtual 94, 3) := by decide +kernel
theorem dX6_faults_25 : decode cX6_faults 25 = .ok (.ifCond .eq 7, 3) := by decide +kernel
theorem dX6_faults_28 : decode cX6_faults 28 = .ok (.iconst 1, 1) := by decide +kernel
theorem dX6_faults_29 : decode cX6_faults 29 = .ok (.goto 4, 3) := by decide +kernel
theorem dX6_faults_32 : decode cX6_faults 32 = .ok (.iconst 0, 1) := by decide +kernel
theorem dX6_faults_33 : decode cX6_faults 33 = .ok (.iadd, 1) := by decide +kernel
theorem dX6_faults_34 : decode cX6_faults 34 = .ok (.istore_n 1, 1) := by decide +kernel
theorem dX6_faults_35 : decode cX6_faults 35 = .ok (.iinc 2 1, 3) := by decide +kernel
theorem dX6_faults_38 : decode cX6_faults 38 = .ok (.goto (-30), 3) := by decide +kernel
theorem dX6_faults_41 : decode cX6_faults 41 = .ok (.iload_n 1, 1) := by decide +kernel
theorem dX6_faults_42 : decode cX6_faults 42 = .ok (.ireturn, 1) := by decide +kernel
set_option maxRecDepth 20000 in
theorem ggX6_put_X6_in : GoodIn wsX6_put wsX6_in := goodIn_r _ [6] (by decide +kernel) (by decide +kernel)
set_option maxRecDepth 20000 in
theorem gX6_put_X6_in : GoodIn wsX6_put (va_wsS RX6 44 yX6_in wsX6_in) := goodIn_app (goodIn_of _ (by decide +kernel)) ggX6_put_X6_in
set_option maxRecDepth 20000 in
theorem ggX6_put_X6_fails : GoodIn wsX6_put wsX6_fails := goodIn_r _ [10, 1, 17, 18, 19, 20, 21, 22, 23, 24, 25, 26, 27, 28, 29, 30, 31, 32, 33] (by decide +kernel) (by decide +kernel)
set_option maxRecDepth 20000 in
theorem gX6_put_X6_fails : GoodIn wsX6_put (wsV RX6 97 RX6 yX6_fails wsX6_fails) := goodIn_app (goodIn_of _ (by decide +kernel)) ggX6_put_X6_fails
set_option maxRecDepth 20000 in
theorem ggX6_put_X6_saves : GoodIn wsX6_put wsX6_saves := goodIn_r _ [14, 15, 16, 2, 17, 18, 19, 20, 21, 22, 23, 24, 25, 26, 27, 28, 29, 30, 31, 32, 33] (by decide +kernel) (by decide +kernel)
set_option maxRecDepth 20000 in
theorem gX6_put_X6_saves : GoodIn wsX6_put (wsV RX6 100 RX6 yX6_saves wsX6_saves) := goodIn_app (goodIn_of _ (by decide +kernel)) ggX6_put_X6_saves
theorem dX6_put_0 : decode cX6_put 0 = .ok (.aload_n 0, 1) := by decide +kernel
theorem dX6_put_1 : decode cX6_put 1 = .ok (.iconst 0, 1) := by decide +kernel
theorem dX6_put_2 : decode cX6_put 2 = .ok (.putfield 40, 3) := by decide +kernel
theorem dX6_put_5 : decode cX6_put 5 = .ok (.iload_n 1, 1) := by decide +kernel
theorem dX6_put_6 : decode cX6_put 6 = .ok (.iconst 0, 1) := by decide +kernel
theorem dX6_put_7 : decode cX6_put 7 = .ok (.aload_n 0, 1) := by decide +kernel
theorem dX6_put_8 : decode cX6_put 8 = .ok (.getfield 7, 3) := by decide +kernel
theorem dX6_put_11 : decode cX6_put 11 = .ok (.bipush 7, 2) := by decide +kernel
theorem dX6_put_13 : decode cX6_put 13 = .ok (.iaload, 1) := by decide +kernel
theorem dX6_put_14 : decode cX6_put 14 = .ok (.invokestatic 44, 3) := by decide +kernel
theorem dX6_put_17 : decode cX6_put 17 = .ok (.ifCond .ne 9, 3) := by decide +kernel
theorem dX6_put_20 : decode cX6_put 20 = .ok (.aload_n 0, 1) := by decide +kernel
theorem dX6_put_21 : decode cX6_put 21 = .ok (.iconst 1, 1) := by decide +kernel
theorem dX6_put_22 : decode cX6_put 22 = .ok (.invokevirtual 97, 3) := by decide +kernel
theorem dX6_put_25 : decode cX6_put 25 = .ok (.ireturn, 1) := by decide +kernel
theorem dX6_put_26 : decode cX6_put 26 = .ok (.iload_n 2, 1) := by decide +kernel
theorem dX6_put_27 : decode cX6_put 27 = .ok (.iconst (-1), 1) := by decide +kernel
theorem dX6_put_28 : decode cX6_put 28 = .ok (.bipush 25, 2) := by decide +kernel
theorem dX6_put_30 : decode cX6_put 30 = .ok (.invokestatic 44, 3) := by decide +kernel
theorem dX6_put_33 : decode cX6_put 33 = .ok (.ifCond .ne 9, 3) := by decide +kernel
theorem dX6_put_36 : decode cX6_put 36 = .ok (.aload_n 0, 1) := by decide +kernel
theorem dX6_put_37 : decode cX6_put 37 = .ok (.iconst 2, 1) := by decide +kernel
theorem dX6_put_38 : decode cX6_put 38 = .ok (.invokevirtual 97, 3) := by decide +kernel
theorem dX6_put_41 : decode cX6_put 41 = .ok (.ireturn, 1) := by decide +kernel
theorem dX6_put_42 : decode cX6_put 42 = .ok (.aload_n 0, 1) := by decide +kernel
theorem dX6_put_43 : decode cX6_put 43 = .ok (.getfield 7, 3) := by decide +kernel
theorem dX6_put_46 : decode cX6_put 46 = .ok (.bipush 7, 2) := by decide +kernel
theorem dX6_put_48 : decode cX6_put 48 = .ok (.iaload, 1) := by decide +kernel
theorem dX6_put_49 : decode cX6_put 49 = .ok (.bipush 20, 2) := by decide +kernel
theorem dX6_put_51 : decode cX6_put 51 = .ok (.if_icmp .ne 9, 3) := by decide +kernel
theorem dX6_put_54 : decode cX6_put 54 = .ok (.aload_n 0, 1) := by decide +kernel
theorem dX6_put_55 : decode cX6_put 55 = .ok (.iconst 3, 1) := by decide +kernel
theorem dX6_put_56 : decode cX6_put 56 = .ok (.invokevirtual 97, 3) := by decide +kernel
theorem dX6_put_59 : decode cX6_put 59 = .ok (.ireturn, 1) := by decide +kernel
theorem dX6_put_60 : decode cX6_put 60 = .ok (.aload_n 0, 1) := by decide +kernel
theorem dX6_put_61 : decode cX6_put 61 = .ok (.invokevirtual 100, 3) := by decide +kernel
theorem dX6_put_64 : decode cX6_put 64 = .ok (.aload_n 0, 1) := by decide +kernel
theorem dX6_put_65 : decode cX6_put 65 = .ok (.getfield 7, 3) := by decide +kernel
theorem dX6_put_68 : decode cX6_put 68 = .ok (.bipush 7, 2) := by decide +kernel
theorem dX6_put_70 : decode cX6_put 70 = .ok (.iaload, 1) := by decide +kernel
theorem dX6_put_71 : decode cX6_put 71 = .ok (.istore_n 3, 1) := by decide +kernel
theorem dX6_put_72 : decode cX6_put 72 = .ok (.iload_n 3, 1) := by decide +kernel
theorem dX6_put_73 : decode cX6_put 73 = .ok (.iload_n 1, 1) := by decide +kernel
theorem dX6_put_74 : decode cX6_put 74 = .ok (.if_icmp .le 49, 3) := by decide +kernel
theorem dX6_put_77 : decode cX6_put 77 = .ok (.aload_n 0, 1) := by decide +kernel
theorem dX6_put_78 : decode cX6_put 78 = .ok (.getfield 7, 3) := by decide +kernel
theorem dX6_put_81 : decode cX6_put 81 = .ok (.bipush 8, 2) := by decide +kernel
theorem dX6_put_83 : decode cX6_put 83 = .ok (.iload_n 3, 1) := by decide +kernel
theorem dX6_put_84 : decode cX6_put 84 = .ok (.iadd, 1) := by decide +kernel
theorem dX6_put_85 : decode cX6_put 85 = .ok (.aload_n 0, 1) := by decide +kernel
theorem dX6_put_86 : decode cX6_put 86 = .ok (.getfield 7, 3) := by decide +kernel
theorem dX6_put_89 : decode cX6_put 89 = .ok (.bipush 8, 2) := by decide +kernel
theorem dX6_put_91 : decode cX6_put 91 = .ok (.iload_n 3, 1) := by decide +kernel
theorem dX6_put_92 : decode cX6_put 92 = .ok (.iadd, 1) := by decide +kernel
theorem dX6_put_93 : decode cX6_put 93 = .ok (.iconst 1, 1) := by decide +kernel
theorem dX6_put_94 : decode cX6_put 94 = .ok (.isub, 1) := by decide +kernel
theorem dX6_put_95 : decode cX6_put 95 = .ok (.iaload, 1) := by decide +kernel
theorem dX6_put_96 : decode cX6_put 96 = .ok (.iastore, 1) := by decide +kernel
theorem dX6_put_97 : decode cX6_put 97 = .ok (.aload_n 0, 1) := by decide +kernel
theorem dX6_put_98 : decode cX6_put 98 = .ok (.getfield 7, 3) := by decide +kernel
theorem dX6_put_101 : decode cX6_put 101 = .ok (.bipush 28, 2) := by decide +kernel
theorem dX6_put_103 : decode cX6_put 103 = .ok (.iload_n 3, 1) := by decide +kernel
theorem dX6_put_104 : decode cX6_put 104 = .ok (.iadd, 1) := by decide +kernel
theorem dX6_put_105 : decode cX6_put 105 = .ok (.aload_n 0, 1) := by decide +kernel
theorem dX6_put_106 : decode cX6_put 106 = .ok (.getfield 7, 3) := by decide +kernel
theorem dX6_put_109 : decode cX6_put 109 = .ok (.bipush 28, 2) := by decide +kernel
theorem dX6_put_111 : decode cX6_put 111 = .ok (.iload_n 3, 1) := by decide +kernel
theorem dX6_put_112 : decode cX6_put 112 = .ok (.iadd, 1) := by decide +kernel
theorem dX6_put_113 : decode cX6_put 113 = .ok (.iconst 1, 1) := by decide +kernel
theorem dX6_put_114 : decode cX6_put 114 = .ok (.isub, 1) := by decide +kernel
theorem dX6_put_115 : decode cX6_put 115 = .ok (.iaload, 1) := by decide +kernel
theorem dX6_put_116 : decode cX6_put 116 = .ok (.iastore, 1) := by decide +kernel
theorem dX6_put_117 : decode cX6_put 117 = .ok (.iinc 3 (-1), 3) := by decide +kernel
theorem dX6_put_120 : decode cX6_put 120 = .ok (.goto (-48), 3) := by decide +kernel
theorem dX6_put_123 : decode cX6_put 123 = .ok (.aload_n 0, 1) := by decide +kernel
theorem dX6_put_124 : decode cX6_put 124 = .ok (.getfield 7, 3) := by decide +kernel
theorem dX6_put_127 : decode cX6_put 127 = .ok (.bipush 8, 2) := by decide +kernel
theorem dX6_put_129 : decode cX6_put 129 = .ok (.iload_n 1, 1) := by decide +kernel
theorem dX6_put_130 : decode cX6_put 130 = .ok (.iadd, 1) := by decide +kernel
theorem dX6_put_131 : decode cX6_put 131 = .ok (.iload_n 2, 1) := by decide +kernel
theorem dX6_put_132 : decode cX6_put 132 = .ok (.iastore, 1) := by decide +kernel
theorem dX6_put_133 : decode cX6_put 133 = .ok (.aload_n 0, 1) := by decide +kernel
theorem dX6_put_134 : decode cX6_put 134 = .ok (.getfield 7, 3) := by decide +kernel
theorem dX6_put_137 : decode cX6_put 137 = .ok (.bipush 28, 2) := by decide +kernel
theorem dX6_put_139 : decode cX6_put 139 = .ok (.iload_n 1, 1) := by decide +kernel
theorem dX6_put_140 : decode cX6_put 140 = .ok (.iadd, 1) := by decide +kernel
theorem dX6_put_141 : decode cX6_put 141 = .ok (.iconst 0, 1) := by decide +kernel
theorem dX6_put_142 : decode cX6_put 142 = .ok (.iastore, 1) := by decide +kernel
theorem dX6_put_143 : decode cX6_put 143 = .ok (.aload_n 0, 1) := by decide +kernel
theorem dX6_put_144 : decode cX6_put 144 = .ok (.getfield 7, 3) := by decide +kernel
theorem dX6_put_147 : decode cX6_put 147 = .ok (.bipush 7, 2) := by decide +kernel
theorem dX6_put_149 : decode cX6_put 149 = .ok (.dup2, 1) := by decide +kernel
theorem dX6_put_150 : decode cX6_put 150 = .ok (.iaload, 1) := by decide +kernel
theorem dX6_put_151 : decode cX6_put 151 = .ok (.iconst 1, 1) := by decide +kernel
theorem dX6_put_152 : decode cX6_put 152 = .ok (.iadd, 1) := by decide +kernel
theorem dX6_put_153 : decode cX6_put 153 = .ok (.iastore, 1) := by decide +kernel
theorem dX6_put_154 : decode cX6_put 154 = .ok (.aload_n 0, 1) := by decide +kernel
theorem dX6_put_155 : decode cX6_put 155 = .ok (.getfield 7, 3) := by decide +kernel
theorem dX6_put_158 : decode cX6_put 158 = .ok (.bipush 7, 2) := by decide +kernel
theorem dX6_put_160 : decode cX6_put 160 = .ok (.iaload, 1) := by decide +kernel
theorem dX6_put_161 : decode cX6_put 161 = .ok (.ireturn, 1) := by decide +kernel
set_option maxRecDepth 20000 in
theorem ggX6_drop_X6_isItem : GoodIn wsX6_drop wsX6_isItem := goodIn_r _ [7, 2, 8, 9, 6, 10, 21, 22, 23, 24, 25, 26, 27, 28, 29, 30, 31, 32, 33, 34, 35, 36, 37] (by decide +kernel) (by decide +kernel)
set_option maxRecDepth 20000 in
theorem gX6_drop_X6_isItem : GoodIn wsX6_drop (wsV RX6 48 RX6 yX6_isItem wsX6_isItem) := goodIn_app (goodIn_of _ (by decide +kernel)) ggX6_drop_X6_isItem
set_option maxRecDepth 20000 in
theorem ggX6_drop_X6_fails : GoodIn wsX6_drop wsX6_fails := goodIn_r _ [14, 1, 21, 22, 23, 24, 25, 26, 27, 28, 29, 30, 31, 32, 33, 34, 35, 36, 37] (by decide +kernel) (by decide +kernel)
set_option maxRecDepth 20000 in
theorem gX6_drop_X6_fails : GoodIn wsX6_drop (wsV RX6 97 RX6 yX6_fails wsX6_fails) := goodIn_app (goodIn_of _ (by decide +kernel)) ggX6_drop_X6_fails
set_option maxRecDepth 20000 in
theorem ggX6_drop_X6_saves : GoodIn wsX6_drop wsX6_saves := goodIn_r _ [18, 19, 20, 2, 21, 22, 23, 24, 25, 26, 27, 28, 29, 30, 31, 32, 33, 34, 35, 36, 37] (by decide +kernel) (by decide +kernel)
set_option maxRecDepth 20000 in
theorem gX6_drop_X6_saves : GoodIn wsX6_drop (wsV RX6 100 RX6 yX6_saves wsX6_saves) := goodIn_app (goodIn_of _ (by decide +kernel)) ggX6_drop_X6_saves
theorem dX6_drop_0 : decode cX6_drop 0 = .ok (.aload_n 0, 1) := by decide +kernel
theorem dX6_drop_1 : decode cX6_drop 1 = .ok (.iconst 0, 1) := by decide +kernel
theorem dX6_drop_2 : decode cX6_drop 2 = .ok (.putfield 40, 3) := by decide +kernel
theorem dX6_drop_5 : decode cX6_drop 5 = .ok (.aload_n 0, 1) := by decide +kernel
theorem dX6_drop_6 : decode cX6_drop 6 = .ok (.iload_n 1, 1) := by decide +kernel
theorem dX6_drop_7 : decode cX6_drop 7 = .ok (.invokevirtual 48, 3) := by decide +kernel
theorem dX6_drop_10 : decode cX6_drop 10 = .ok (.ifCond .ne 9, 3) := by decide +kernel
theorem dX6_drop_13 : decode cX6_drop 13 = .ok (.aload_n 0, 1) := by decide +kernel
theorem dX6_drop_14 : decode cX6_drop 14 = .ok (.iconst 1, 1) := by decide +kernel
theorem dX6_drop_15 : decode cX6_drop 15 = .ok (.invokevirtual 97, 3) := by decide +kernel
theorem dX6_drop_18 : decode cX6_drop 18 = .ok (.ireturn, 1) := by decide +kernel
theorem dX6_drop_19 : decode cX6_drop 19 = .ok (.aload_n 0, 1) := by decide +kernel
theorem dX6_drop_20 : decode cX6_drop 20 = .ok (.invokevirtual 100, 3) := by decide +kernel
theorem dX6_drop_23 : decode cX6_drop 23 = .ok (.aload_n 0, 1) := by decide +kernel
theorem dX6_drop_24 : decode cX6_drop 24 = .ok (.getfield 7, 3) := by decide +kernel
theorem dX6_drop_27 : decode cX6_drop 27 = .ok (.bipush 7, 2) := by decide +kernel
theorem dX6_drop_29 : decode cX6_drop 29 = .ok (.dup2, 1) := by decide +kernel
theorem dX6_drop_30 : decode cX6_drop 30 = .ok (.iaload, 1) := by decide +kernel
theorem dX6_drop_31 : decode cX6_drop 31 = .ok (.iconst 1, 1) := by decide +kernel
theorem dX6_drop_32 : decode cX6_drop 32 = .ok (.isub, 1) := by decide +kernel
theorem dX6_drop_33 : decode cX6_drop 33 = .ok (.iastore, 1) := by decide +kernel
theorem dX6_drop_34 : decode cX6_drop 34 = .ok (.iload_n 1, 1) := by decide +kernel
theorem dX6_drop_35 : decode cX6_drop 35 = .ok (.istore_n 2, 1) := by decide +kernel
theorem dX6_drop_36 : decode cX6_drop 36 = .ok (.iload_n 2, 1) := by decide +kernel
theorem dX6_drop_37 : decode cX6_drop 37 = .ok (.aload_n 0, 1) := by decide +kernel
theorem dX6_drop_38 : decode cX6_drop 38 = .ok (.getfield 7, 3) := by decide +kernel
theorem dX6_drop_41 : decode cX6_drop 41 = .ok (.bipush 7, 2) := by decide +kernel
theorem dX6_drop_43 : decode cX6_drop 43 = .ok (.iaload, 1) := by decide +kernel
theorem dX6_drop_44 : decode cX6_drop 44 = .ok (.if_icmp .ge 49, 3) := by decide +kernel
theorem dX6_drop_47 : decode cX6_drop 47 = .ok (.aload_n 0, 1) := by decide +kernel
theorem dX6_drop_48 : decode cX6_drop 48 = .ok (.getfield 7, 3) := by decide +kernel
theorem dX6_drop_51 : decode cX6_drop 51 = .ok (.bipush 8, 2) := by decide +kernel
theorem dX6_drop_53 : decode cX6_drop 53 = .ok (.iload_n 2, 1) := by decide +kernel
theorem dX6_drop_54 : decode cX6_drop 54 = .ok (.iadd, 1) := by decide +kernel
theorem dX6_drop_55 : decode cX6_drop 55 = .ok (.aload_n 0, 1) := by decide +kernel
theorem dX6_drop_56 : decode cX6_drop 56 = .ok (.getfield 7, 3) := by decide +kernel
theorem dX6_drop_59 : decode cX6_drop 59 = .ok (.bipush 8, 2) := by decide +kernel
theorem dX6_drop_61 : decode cX6_drop 61 = .ok (.iload_n 2, 1) := by decide +kernel
theorem dX6_drop_62 : decode cX6_drop 62 = .ok (.iadd, 1) := by decide +kernel
theorem dX6_drop_63 : decode cX6_drop 63 = .ok (.iconst 1, 1) := by decide +kernel
theorem dX6_drop_64 : decode cX6_drop 64 = .ok (.iadd, 1) := by decide +kernel
theorem dX6_drop_65 : decode cX6_drop 65 = .ok (.iaload, 1) := by decide +kernel
theorem dX6_drop_66 : decode cX6_drop 66 = .ok (.iastore, 1) := by decide +kernel
theorem dX6_drop_67 : decode cX6_drop 67 = .ok (.aload_n 0, 1) := by decide +kernel
theorem dX6_drop_68 : decode cX6_drop 68 = .ok (.getfield 7, 3) := by decide +kernel
theorem dX6_drop_71 : decode cX6_drop 71 = .ok (.bipush 28, 2) := by decide +kernel
theorem dX6_drop_73 : decode cX6_drop 73 = .ok (.iload_n 2, 1) := by decide +kernel
theorem dX6_drop_74 : decode cX6_drop 74 = .ok (.iadd, 1) := by decide +kernel
theorem dX6_drop_75 : decode cX6_drop 75 = .ok (.aload_n 0, 1) := by decide +kernel
theorem dX6_drop_76 : decode cX6_drop 76 = .ok (.getfield 7, 3) := by decide +kernel
theorem dX6_drop_79 : decode cX6_drop 79 = .ok (.bipush 28, 2) := by decide +kernel
theorem dX6_drop_81 : decode cX6_drop 81 = .ok (.iload_n 2, 1) := by decide +kernel
theorem dX6_drop_82 : decode cX6_drop 82 = .ok (.iadd, 1) := by decide +kernel
theorem dX6_drop_83 : decode cX6_drop 83 = .ok (.iconst 1, 1) := by decide +kernel
theorem dX6_drop_84 : decode cX6_drop 84 = .ok (.iadd, 1) := by decide +kernel
theorem dX6_drop_85 : decode cX6_drop 85 = .ok (.iaload, 1) := by decide +kernel
theorem dX6_drop_86 : decode cX6_drop 86 = .ok (.iastore, 1) := by decide +kernel
theorem dX6_drop_87 : decode cX6_drop 87 = .ok (.iinc 2 1, 3) := by decide +kernel
theorem dX6_drop_90 : decode cX6_drop 90 = .ok (.goto (-54), 3) := by decide +kernel
theorem dX6_drop_93 : decode cX6_drop 93 = .ok (.aload_n 0, 1) := by decide +kernel
theorem dX6_drop_94 : decode cX6_drop 94 = .ok (.getfield 7, 3) := by decide +kernel
theorem dX6_drop_97 : decode cX6_drop 97 = .ok (.bipush 8, 2) := by decide +kernel
theorem dX6_drop_99 : decode cX6_drop 99 = .ok (.aload_n 0, 1) := by decide +kernel
theorem dX6_drop_100 : decode cX6_drop 100 = .ok (.getfield 7, 3) := by decide +kernel
theorem dX6_drop_103 : decode cX6_drop 103 = .ok (.bipush 7, 2) := by decide +kernel
theorem dX6_drop_105 : decode cX6_drop 105 = .ok (.iaload, 1) := by decide +kernel
theorem dX6_drop_106 : decode cX6_drop 106 = .ok (.iadd, 1) := by decide +kernel
theorem dX6_drop_107 : decode cX6_drop 107 = .ok (.iconst 0, 1) := by decide +kernel
theorem dX6_drop_108 : decode cX6_drop 108 = .ok (.iastore, 1) := by decide +kernel
theorem dX6_drop_109 : decode cX6_drop 109 = .ok (.aload_n 0, 1) := by decide +kernel
theorem dX6_drop_110 : decode cX6_drop 110 = .ok (.getfield 7, 3) := by decide +kernel
theorem dX6_drop_113 : decode cX6_drop 113 = .ok (.bipush 28, 2) := by decide +kernel
theorem dX6_drop_115 : decode cX6_drop 115 = .ok (.aload_n 0, 1) := by decide +kernel
theorem dX6_drop_116 : decode cX6_drop 116 = .ok (.getfield 7, 3) := by decide +kernel
theorem dX6_drop_119 : decode cX6_drop 119 = .ok (.bipush 7, 2) := by decide +kernel
theorem dX6_drop_121 : decode cX6_drop 121 = .ok (.iaload, 1) := by decide +kernel
theorem dX6_drop_122 : decode cX6_drop 122 = .ok (.iadd, 1) := by decide +kernel
theorem dX6_drop_123 : decode cX6_drop 123 = .ok (.iconst 0, 1) := by decide +kernel
theorem dX6_drop_124 : decode cX6_drop 124 = .ok (.iastore, 1) := by decide +kernel
theorem dX6_drop_125 : decode cX6_drop 125 = .ok (.aload_n 0, 1) := by decide +kernel
theorem dX6_drop_126 : decode cX6_drop 126 = .ok (.getfield 7, 3) := by decide +kernel
theorem dX6_drop_129 : decode cX6_drop 129 = .ok (.bipush 7, 2) := by decide +kernel
theorem dX6_drop_131 : decode cX6_drop 131 = .ok (.iaload, 1) := by decide +kernel
theorem dX6_drop_132 : decode cX6_drop 132 = .ok (.ireturn, 1) := by decide +kernel
theorem dX6_exchanges_0 : decode cX6_exchanges 0 = .ok (.aload_n 0, 1) := by decide +kernel
theorem dX6_exchanges_1 : decode cX6_exchanges 1 = .ok (.getfield 7, 3) := by decide +kernel
theorem dX6_exchanges_4 : decode cX6_exchanges 4 = .ok (.iload_n 1, 1) := by decide +kernel
theorem dX6_exchanges_5 : decode cX6_exchanges 5 = .ok (.iaload, 1) := by decide +kernel
theorem dX6_exchanges_6 : decode cX6_exchanges 6 = .ok (.istore_n 3, 1) := by decide +kernel
theorem dX6_exchanges_7 : decode cX6_exchanges 7 = .ok (.aload_n 0, 1) := by decide +kernel
theorem dX6_exchanges_8 : decode cX6_exchanges 8 = .ok (.getfield 7, 3) := by decide +kernel
theorem dX6_exchanges_11 : decode cX6_exchanges 11 = .ok (.iload_n 1, 1) := by decide +kernel
theorem dX6_exchanges_12 : decode cX6_exchanges 12 = .ok (.aload_n 0, 1) := by decide +kernel
theorem dX6_exchanges_13 : decode cX6_exchanges 13 = .ok (.getfield 7, 3) := by decide +kernel
theorem dX6_exchanges_16 : decode cX6_exchanges 16 = .ok (.iload_n 2, 1) := by decide +kernel
theorem dX6_exchanges_17 : decode cX6_exchanges 17 = .ok (.iaload, 1) := by decide +kernel
theorem dX6_exchanges_18 : decode cX6_exchanges 18 = .ok (.iastore, 1) := by decide +kernel
theorem dX6_exchanges_19 : decode cX6_exchanges 19 = .ok (.aload_n 0, 1) := by decide +kernel
theorem dX6_exchanges_20 : decode cX6_exchanges 20 = .ok (.getfield 7, 3) := by decide +kernel
theorem dX6_exchanges_23 : decode cX6_exchanges 23 = .ok (.iload_n 2, 1) := by decide +kernel
theorem dX6_exchanges_24 : decode cX6_exchanges 24 = .ok (.iload_n 3, 1) := by decide +kernel
theorem dX6_exchanges_25 : decode cX6_exchanges 25 = .ok (.iastore, 1) := by decide +kernel
theorem dX6_exchanges_26 : decode cX6_exchanges 26 = .ok (.return_, 1) := by decide +kernel
set_option maxRecDepth 20000 in
theorem ggX6_swap_X6_isItem : GoodIn wsX6_swap wsX6_isItem := goodIn_r _ [6, 7, 8, 9, 5, 10, 73, 74, 75, 76, 77, 78, 79, 80, 81, 82, 83, 84, 85, 86, 87, 88, 89] (by decide +kernel) (by decide +kernel)
set_option maxRecDepth 20000 in
theorem gX6_swap_X6_isItem : GoodIn wsX6_swap (wsV RX6 48 RX6 yX6_isItem wsX6_isItem) := goodIn_app (goodIn_of _ (by decide +kernel)) ggX6_swap_X6_isItem
set_option maxRecDepth 20000 in
theorem ggX6_swap_X6_fails : GoodIn wsX6_swap wsX6_fails := goodIn_r _ [14, 1, 73, 74, 75, 76, 77, 78, 79, 80, 81, 82, 83, 84, 85, 86, 87, 88, 89] (by decide +kernel) (by decide +kernel)
set_option maxRecDepth 20000 in
theorem gX6_swap_X6_fails : GoodIn wsX6_swap (wsV RX6 97 RX6 yX6_fails wsX6_fails) := goodIn_app (goodIn_of _ (by decide +kernel)) ggX6_swap_X6_fails
set_option maxRecDepth 20000 in
theorem ggX6_swap_X6_saves : GoodIn wsX6_swap wsX6_saves := goodIn_r _ [18, 19, 20, 7, 73, 74, 75, 76, 77, 78, 79, 80, 81, 82, 83, 84, 85, 86, 87, 88, 89] (by decide +kernel) (by decide +kernel)
set_option maxRecDepth 20000 in
theorem gX6_swap_X6_saves : GoodIn wsX6_swap (wsV RX6 100 RX6 yX6_saves wsX6_saves) := goodIn_app (goodIn_of _ (by decide +kernel)) ggX6_swap_X6_saves
set_option maxRecDepth 20000 in
theorem ggX6_swap_X6_exchanges : GoodIn wsX6_swap wsX6_exchanges := goodIn_r _ [24, 7, 73, 74, 75, 76, 77, 78, 79, 80, 81, 82, 83, 84, 85, 86, 87, 88, 89] (by decide +kernel) (by decide +kernel)
set_option maxRecDepth 20000 in
theorem gX6_swap_X6_exchanges : GoodIn wsX6_swap (wsV RX6 103 RX6 yX6_exchanges wsX6_exchanges) := goodIn_app (goodIn_of _ (by decide +kernel)) ggX6_swap_X6_exchanges
set_option maxRecDepth 20000 in
theorem ggX6_swap_X6_width : GoodIn wsX6_swap wsX6_width := goodIn_r _ [28, 7, 29, 30, 31, 32, 5, 33, 34, 35, 36, 37, 38, 39, 40, 2, 3, 4, 6, 8, 9, 10, 41, 42, 43, 44, 45, 46, 47, 48, 49, 50, 51, 52, 53, 54, 55, 56, 57, 58, 59, 60, 61, 62, 63, 64, 65, 66, 67, 68, 69, 70, 71, 72, 73, 74, 75, 76, 77, 78, 79, 80, 81, 82, 83, 84, 85, 86, 87, 88, 89] (by decide +kernel) (by decide +kernel)
set_option maxRecDepth 20000 in
theorem gX6_swap_X6_width : GoodIn wsX6_swap (wsV RX6 107 RX6 yX6_width wsX6_width) := goodIn_app (goodIn_of _ (by decide +kernel)) ggX6_swap_X6_width
theorem dX6_swap_0 : decode cX6_swap 0 = .ok (.aload_n 0, 1) := by decide +kernel
theorem dX6_swap_1 : decode cX6_swap 1 = .ok (.iconst 0, 1) := by decide +kernel
theorem dX6_swap_2 : decode cX6_swap 2 = .ok (.putfield 40, 3) := by decide +kernel
theorem dX6_swap_5 : decode cX6_swap 5 = .ok (.aload_n 0, 1) := by decide +kernel
theorem dX6_swap_6 : decode cX6_swap 6 = .ok (.iload_n 1, 1) := by decide +kernel
theorem dX6_swap_7 : decode cX6_swap 7 = .ok (.invokevirtual 48, 3) := by decide +kernel
theorem dX6_swap_10 : decode cX6_swap 10 = .ok (.ifCond .eq 11, 3) := by decide +kernel
theorem dX6_swap_13 : decode cX6_swap 13 = .ok (.aload_n 0, 1) := by decide +kernel
theorem dX6_swap_14 : decode cX6_swap 14 = .ok (.iload_n 2, 1) := by decide +kernel
theorem dX6_swap_15 : decode cX6_swap 15 = .ok (.invokevirtual 48, 3) := by decide +kernel
theorem dX6_swap_18 : decode cX6_swap 18 = .ok (.ifCond .ne 9, 3) := by decide +kernel
theorem dX6_swap_21 : decode cX6_swap 21 = .ok (.aload_n 0, 1) := by decide +kernel
theorem dX6_swap_22 : decode cX6_swap 22 = .ok (.iconst 1, 1) := by decide +kernel
theorem dX6_swap_23 : decode cX6_swap 23 = .ok (.invokevirtual 97, 3) := by decide +kernel
theorem dX6_swap_26 : decode cX6_swap 26 = .ok (.ireturn, 1) := by decide +kernel
theorem dX6_swap_27 : decode cX6_swap 27 = .ok (.aload_n 0, 1) := by decide +kernel
theorem dX6_swap_28 : decode cX6_swap 28 = .ok (.invokevirtual 100, 3) := by decide +kernel
theorem dX6_swap_31 : decode cX6_swap 31 = .ok (.aload_n 0, 1) := by decide +kernel
theorem dX6_swap_32 : decode cX6_swap 32 = .ok (.bipush 8, 2) := by decide +kernel
theorem dX6_swap_34 : decode cX6_swap 34 = .ok (.iload_n 1, 1) := by decide +kernel
theorem dX6_swap_35 : decode cX6_swap 35 = .ok (.iadd, 1) := by decide +kernel
theorem dX6_swap_36 : decode cX6_swap 36 = .ok (.bipush 8, 2) := by decide +kernel
theorem dX6_swap_38 : decode cX6_swap 38 = .ok (.iload_n 2, 1) := by decide +kernel
theorem dX6_swap_39 : decode cX6_swap 39 = .ok (.iadd, 1) := by decide +kernel
theorem dX6_swap_40 : decode cX6_swap 40 = .ok (.invokevirtual 103, 3) := by decide +kernel
theorem dX6_swap_43 : decode cX6_swap 43 = .ok (.aload_n 0, 1) := by decide +kernel
theorem dX6_swap_44 : decode cX6_swap 44 = .ok (.bipush 28, 2) := by decide +kernel
theorem dX6_swap_46 : decode cX6_swap 46 = .ok (.iload_n 1, 1) := by decide +kernel
theorem dX6_swap_47 : decode cX6_swap 47 = .ok (.iadd, 1) := by decide +kernel
theorem dX6_swap_48 : decode cX6_swap 48 = .ok (.bipush 28, 2) := by decide +kernel
theorem dX6_swap_50 : decode cX6_swap 50 = .ok (.iload_n 2, 1) := by decide +kernel
theorem dX6_swap_51 : decode cX6_swap 51 = .ok (.iadd, 1) := by decide +kernel
theorem dX6_swap_52 : decode cX6_swap 52 = .ok (.invokevirtual 103, 3) := by decide +kernel
theorem dX6_swap_55 : decode cX6_swap 55 = .ok (.aload_n 0, 1) := by decide +kernel
theorem dX6_swap_56 : decode cX6_swap 56 = .ok (.invokevirtual 107, 3) := by decide +kernel
theorem dX6_swap_59 : decode cX6_swap 59 = .ok (.ireturn, 1) := by decide +kernel
set_option maxRecDepth 20000 in
theorem ggX6_kern_X6_isItem : GoodIn wsX6_kern wsX6_isItem := goodIn_r _ [7, 2, 8, 9, 6, 10, 25, 26, 27, 28, 29, 30, 31, 32, 33, 34, 35, 36, 37, 38, 39, 40, 41] (by decide +kernel) (by decide +kernel)
set_option maxRecDepth 20000 in
theorem gX6_kern_X6_isItem : GoodIn wsX6_kern (wsV RX6 48 RX6 yX6_isItem wsX6_isItem) := goodIn_app (goodIn_of _ (by decide +kernel)) ggX6_kern_X6_isItem
set_option maxRecDepth 20000 in
theorem ggX6_kern_X6_fails : GoodIn wsX6_kern wsX6_fails := goodIn_r _ [14, 1, 25, 26, 27, 28, 29, 30, 31, 32, 33, 34, 35, 36, 37, 38, 39, 40, 41] (by decide +kernel) (by decide +kernel)
set_option maxRecDepth 20000 in
theorem gX6_kern_X6_fails : GoodIn wsX6_kern (wsV RX6 97 RX6 yX6_fails wsX6_fails) := goodIn_app (goodIn_of _ (by decide +kernel)) ggX6_kern_X6_fails
set_option maxRecDepth 20000 in
theorem ggX6_kern_X6_in : GoodIn wsX6_kern wsX6_in := goodIn_r _ [10] (by decide +kernel) (by decide +kernel)
set_option maxRecDepth 20000 in
theorem gX6_kern_X6_in : GoodIn wsX6_kern (va_wsS RX6 44 yX6_in wsX6_in) := goodIn_app (goodIn_of _ (by decide +kernel)) ggX6_kern_X6_in
set_option maxRecDepth 20000 in
theorem ggX6_kern_X6_isLetter : GoodIn wsX6_kern wsX6_isLetter := goodIn_r _ [18, 2, 3, 4, 5, 6, 7, 8, 9, 10, 25, 26, 27, 28, 29, 30, 31, 32, 33, 34, 35, 36, 37, 38, 39, 40, 41] (by decide +kernel) (by decide +kernel)
set_option maxRecDepth 20000 in
theorem gX6_kern_X6_isLetter : GoodIn wsX6_kern (wsV RX6 76 RX6 yX6_isLetter wsX6_isLetter) := goodIn_app (goodIn_of _ (by decide +kernel)) ggX6_kern_X6_isLetter
set_option maxRecDepth 20000 in
theorem ggX6_kern_X6_saves : GoodIn wsX6_kern wsX6_saves := goodIn_r _ [22, 23, 24, 2, 25, 26, 27, 28, 29, 30, 31, 32, 33, 34, 35, 36, 37, 38, 39, 40, 41] (by decide +kernel) (by decide +kernel)
set_option maxRecDepth 20000 in
theorem gX6_kern_X6_saves : GoodIn wsX6_kern (wsV RX6 100 RX6 yX6_saves wsX6_saves) := goodIn_app (goodIn_of _ (by decide +kernel)) ggX6_kern_X6_saves
theorem dX6_kern_0 : decode cX6_kern 0 = .ok (.aload_n 0, 1) := by decide +kernel
theorem dX6_kern_1 : decode cX6_kern 1 = .ok (.iconst 0, 1) := by decide +kernel
theorem dX6_kern_2 : decode cX6_kern 2 = .ok (.putfield 40, 3) := by decide +kernel
theorem dX6_kern_5 : decode cX6_kern 5 = .ok (.aload_n 0, 1) := by decide +kernel
theorem dX6_kern_6 : decode cX6_kern 6 = .ok (.iload_n 1, 1) := by decide +kernel
theorem dX6_kern_7 : decode cX6_kern 7 = .ok (.invokevirtual 48, 3) := by decide +kernel
theorem dX6_kern_10 : decode cX6_kern 10 = .ok (.ifCond .ne 9, 3) := by decide +kernel
theorem dX6_kern_13 : decode cX6_kern 13 = .ok (.aload_n 0, 1) := by decide +kernel
theorem dX6_kern_14 : decode cX6_kern 14 = .ok (.iconst 1, 1) := by decide +kernel
theorem dX6_kern_15 : decode cX6_kern 15 = .ok (.invokevirtual 97, 3) := by decide +kernel
theorem dX6_kern_18 : decode cX6_kern 18 = .ok (.ireturn, 1) := by decide +kernel
theorem dX6_kern_19 : decode cX6_kern 19 = .ok (.iload_n 2, 1) := by decide +kernel
theorem dX6_kern_20 : decode cX6_kern 20 = .ok (.bipush (-5), 2) := by decide +kernel
theorem dX6_kern_22 : decode cX6_kern 22 = .ok (.iconst 5, 1) := by decide +kernel
theorem dX6_kern_23 : decode cX6_kern 23 = .ok (.invokestatic 44, 3) := by decide +kernel
theorem dX6_kern_26 : decode cX6_kern 26 = .ok (.ifCond .ne 9, 3) := by decide +kernel
theorem dX6_kern_29 : decode cX6_kern 29 = .ok (.aload_n 0, 1) := by decide +kernel
theorem dX6_kern_30 : decode cX6_kern 30 = .ok (.iconst 2, 1) := by decide +kernel
theorem dX6_kern_31 : decode cX6_kern 31 = .ok (.invokevirtual 97, 3) := by decide +kernel
theorem dX6_kern_34 : decode cX6_kern 34 = .ok (.ireturn, 1) := by decide +kernel
theorem dX6_kern_35 : decode cX6_kern 35 = .ok (.aload_n 0, 1) := by decide +kernel
theorem dX6_kern_36 : decode cX6_kern 36 = .ok (.iload_n 1, 1) := by decide +kernel
theorem dX6_kern_37 : decode cX6_kern 37 = .ok (.invokevirtual 76, 3) := by decide +kernel
theorem dX6_kern_40 : decode cX6_kern 40 = .ok (.ifCond .ne 9, 3) := by decide +kernel
theorem dX6_kern_43 : decode cX6_kern 43 = .ok (.aload_n 0, 1) := by decide +kernel
theorem dX6_kern_44 : decode cX6_kern 44 = .ok (.iconst 3, 1) := by decide +kernel
theorem dX6_kern_45 : decode cX6_kern 45 = .ok (.invokevirtual 97, 3) := by decide +kernel
theorem dX6_kern_48 : decode cX6_kern 48 = .ok (.ireturn, 1) := by decide +kernel
theorem dX6_kern_49 : decode cX6_kern 49 = .ok (.aload_n 0, 1) := by decide +kernel
theorem dX6_kern_50 : decode cX6_kern 50 = .ok (.invokevirtual 100, 3) := by decide +kernel
theorem dX6_kern_53 : decode cX6_kern 53 = .ok (.aload_n 0, 1) := by decide +kernel
theorem dX6_kern_54 : decode cX6_kern 54 = .ok (.getfield 7, 3) := by decide +kernel
theorem dX6_kern_57 : decode cX6_kern 57 = .ok (.bipush 28, 2) := by decide +kernel
theorem dX6_kern_59 : decode cX6_kern 59 = .ok (.iload_n 1, 1) := by decide +kernel
theorem dX6_kern_60 : decode cX6_kern 60 = .ok (.iadd, 1) := by decide +kernel
theorem dX6_kern_61 : decode cX6_kern 61 = .ok (.iaload, 1) := by decide +kernel
theorem dX6_kern_62 : decode cX6_kern 62 = .ok (.istore_n 3, 1) := by decide +kernel
theorem dX6_kern_63 : decode cX6_kern 63 = .ok (.aload_n 0, 1) := by decide +kernel
theorem dX6_kern_64 : decode cX6_kern 64 = .ok (.getfield 7, 3) := by decide +kernel
theorem dX6_kern_67 : decode cX6_kern 67 = .ok (.bipush 28, 2) := by decide +kernel
theorem dX6_kern_69 : decode cX6_kern 69 = .ok (.iload_n 1, 1) := by decide +kernel
theorem dX6_kern_70 : decode cX6_kern 70 = .ok (.iadd, 1) := by decide +kernel
theorem dX6_kern_71 : decode cX6_kern 71 = .ok (.iload_n 2, 1) := by decide +kernel
theorem dX6_kern_72 : decode cX6_kern 72 = .ok (.iastore, 1) := by decide +kernel
theorem dX6_kern_73 : decode cX6_kern 73 = .ok (.iload_n 3, 1) := by decide +kernel
theorem dX6_kern_74 : decode cX6_kern 74 = .ok (.bipush 10, 2) := by decide +kernel
theorem dX6_kern_76 : decode cX6_kern 76 = .ok (.iadd, 1) := by decide +kernel
theorem dX6_kern_77 : decode cX6_kern 77 = .ok (.ireturn, 1) := by decide +kernel
set_option maxRecDepth 20000 in
theorem ggX6_board_X6_in : GoodIn wsX6_board wsX6_in := goodIn_r _ [6] (by decide +kernel) (by decide +kernel)
set_option maxRecDepth 20000 in
theorem gX6_board_X6_in : GoodIn wsX6_board (va_wsS RX6 44 yX6_in wsX6_in) := goodIn_app (goodIn_of _ (by decide +kernel)) ggX6_board_X6_in
set_option maxRecDepth 20000 in
theorem ggX6_board_X6_fails : GoodIn wsX6_board wsX6_fails := goodIn_r _ [10, 1, 17, 18, 19, 20, 21, 22, 23, 24, 25, 26, 27, 28, 29, 30, 31, 32, 33] (by decide +kernel) (by decide +kernel)
set_option maxRecDepth 20000 in
theorem gX6_board_X6_fails : GoodIn wsX6_board (wsV RX6 97 RX6 yX6_fails wsX6_fails) := goodIn_app (goodIn_of _ (by decide +kernel)) ggX6_board_X6_fails
set_option maxRecDepth 20000 in
theorem ggX6_board_X6_saves : GoodIn wsX6_board wsX6_saves := goodIn_r _ [14, 15, 16, 2, 17, 18, 19, 20, 21, 22, 23, 24, 25, 26, 27, 28, 29, 30, 31, 32, 33] (by decide +kernel) (by decide +kernel)
set_option maxRecDepth 20000 in
theorem gX6_board_X6_saves : GoodIn wsX6_board (wsV RX6 100 RX6 yX6_saves wsX6_saves) := goodIn_app (goodIn_of _ (by decide +kernel)) ggX6_board_X6_saves
theorem dX6_board_0 : decode cX6_board 0 = .ok (.aload_n 0, 1) := by decide +kernel
theorem dX6_board_1 : decode cX6_board 1 = .ok (.iconst 0, 1) := by decide +kernel
theorem dX6_board_2 : decode cX6_board 2 = .ok (.putfield 40, 3) := by decide +kernel
theorem dX6_board_5 : decode cX6_board 5 = .ok (.iload_n 1, 1) := by decide +kernel
theorem dX6_board_6 : decode cX6_board 6 = .ok (.bipush 50, 2) := by decide +kernel
theorem dX6_board_8 : decode cX6_board 8 = .ok (.sipush 600, 3) := by decide +kernel
theorem dX6_board_11 : decode cX6_board 11 = .ok (.invokestatic 44, 3) := by decide +kernel
theorem dX6_board_14 : decode cX6_board 14 = .ok (.ifCond .ne 9, 3) := by decide +kernel
theorem dX6_board_17 : decode cX6_board 17 = .ok (.aload_n 0, 1) := by decide +kernel
theorem dX6_board_18 : decode cX6_board 18 = .ok (.iconst 1, 1) := by decide +kernel
theorem dX6_board_19 : decode cX6_board 19 = .ok (.invokevirtual 97, 3) := by decide +kernel
theorem dX6_board_22 : decode cX6_board 22 = .ok (.ireturn, 1) := by decide +kernel
theorem dX6_board_23 : decode cX6_board 23 = .ok (.aload_n 0, 1) := by decide +kernel
theorem dX6_board_24 : decode cX6_board 24 = .ok (.invokevirtual 100, 3) := by decide +kernel
theorem dX6_board_27 : decode cX6_board 27 = .ok (.aload_n 0, 1) := by decide +kernel
theorem dX6_board_28 : decode cX6_board 28 = .ok (.getfield 7, 3) := by decide +kernel
theorem dX6_board_31 : decode cX6_board 31 = .ok (.bipush 6, 2) := by decide +kernel
theorem dX6_board_33 : decode cX6_board 33 = .ok (.iaload, 1) := by decide +kernel
theorem dX6_board_34 : decode cX6_board 34 = .ok (.istore_n 2, 1) := by decide +kernel
theorem dX6_board_35 : decode cX6_board 35 = .ok (.aload_n 0, 1) := by decide +kernel
theorem dX6_board_36 : decode cX6_board 36 = .ok (.getfield 7, 3) := by decide +kernel
theorem dX6_board_39 : decode cX6_board 39 = .ok (.bipush 6, 2) := by decide +kernel
theorem dX6_board_41 : decode cX6_board 41 = .ok (.iload_n 1, 1) := by decide +kernel
theorem dX6_board_42 : decode cX6_board 42 = .ok (.iastore, 1) := by decide +kernel
theorem dX6_board_43 : decode cX6_board 43 = .ok (.iload_n 2, 1) := by decide +kernel
theorem dX6_board_44 : decode cX6_board 44 = .ok (.ireturn, 1) := by decide +kernel
theorem dX6_leastOf_0 : decode cX6_leastOf 0 = .ok (.iload_n 0, 1) := by decide +kernel
theorem dX6_leastOf_1 : decode cX6_leastOf 1 = .ok (.tableswitch 38 1 4 #[31, 36, 33, 36], 31) := by decide +kernel
theorem dX6_leastOf_32 : decode cX6_leastOf 32 = .ok (.iconst 5, 1) := by decide +kernel
theorem dX6_leastOf_33 : decode cX6_leastOf 33 = .ok (.ireturn, 1) := by decide +kernel
theorem dX6_leastOf_34 : decode cX6_leastOf 34 = .ok (.bipush 10, 2) := by decide +kernel
theorem dX6_leastOf_36 : decode cX6_leastOf 36 = .ok (.ireturn, 1) := by decide +kernel
theorem dX6_leastOf_37 : decode cX6_leastOf 37 = .ok (.iconst 1, 1) := by decide +kernel
theorem dX6_leastOf_38 : decode cX6_leastOf 38 = .ok (.ireturn, 1) := by decide +kernel
theorem dX6_leastOf_39 : decode cX6_leastOf 39 = .ok (.iconst 0, 1) := by decide +kernel
theorem dX6_leastOf_40 : decode cX6_leastOf 40 = .ok (.ireturn, 1) := by decide +kernel
theorem dX6_mostOf_0 : decode cX6_mostOf 0 = .ok (.iload_n 0, 1) := by decide +kernel
theorem dX6_mostOf_1 : decode cX6_mostOf 1 = .ok (.tableswitch 50 0 4 #[35, 37, 40, 43, 47], 35) := by decide +kernel
theorem dX6_mostOf_36 : decode cX6_mostOf 36 = .ok (.iconst 4, 1) := by decide +kernel
theorem dX6_mostOf_37 : decode cX6_mostOf 37 = .ok (.ireturn, 1) := by decide +kernel
theorem dX6_mostOf_38 : decode cX6_mostOf 38 = .ok (.bipush 40, 2) := by decide +kernel
theorem dX6_mostOf_40 : decode cX6_mostOf 40 = .ok (.ireturn, 1) := by decide +kernel
theorem dX6_mostOf_41 : decode cX6_mostOf 41 = .ok (.bipush 30, 2) := by decide +kernel
theorem dX6_mostOf_43 : decode cX6_mostOf 43 = .ok (.ireturn, 1) := by decide +kernel
theorem dX6_mostOf_44 : decode cX6_mostOf 44 = .ok (.sipush 300, 3) := by decide +kernel
theorem dX6_mostOf_47 : decode cX6_mostOf 47 = .ok (.ireturn, 1) := by decide +kernel
theorem dX6_mostOf_48 : decode cX6_mostOf 48 = .ok (.bipush 12, 2) := by decide +kernel
theorem dX6_mostOf_50 : decode cX6_mostOf 50 = .ok (.ireturn, 1) := by decide +kernel
theorem dX6_mostOf_51 : decode cX6_mostOf 51 = .ok (.bipush 100, 2) := by decide +kernel
theorem dX6_mostOf_53 : decode cX6_mostOf 53 = .ok (.ireturn, 1) := by decide +kernel
set_option maxRecDepth 20000 in
theorem ggX6_set_X6_in : GoodIn wsX6_set wsX6_in := goodIn_r _ [6] (by decide +kernel) (by decide +kernel)
set_option maxRecDepth 20000 in
theorem gX6_set_X6_in : GoodIn wsX6_set (va_wsS RX6 44 yX6_in wsX6_in) := goodIn_app (goodIn_of _ (by decide +kernel)) ggX6_set_X6_in
set_option maxRecDepth 20000 in
theorem ggX6_set_X6_fails : GoodIn wsX6_set wsX6_fails := goodIn_r _ [10, 1, 23, 24, 25, 26, 27, 28, 29, 30, 31, 32, 33, 34, 35, 36, 37, 38, 39] (by decide +kernel) (by decide +kernel)
set_option maxRecDepth 20000 in
theorem gX6_set_X6_fails : GoodIn wsX6_set (wsV RX6 97 RX6 yX6_fails wsX6_fails) := goodIn_app (goodIn_of _ (by decide +kernel)) ggX6_set_X6_fails
set_option maxRecDepth 20000 in
theorem ggX6_set_X6_leastOf : GoodIn wsX6_set wsX6_leastOf := goodIn_r _ [13] (by decide +kernel) (by decide +kernel)
set_option maxRecDepth 20000 in
theorem gX6_set_X6_leastOf : GoodIn wsX6_set (va_wsS RX6 111 yX6_leastOf wsX6_leastOf) := goodIn_app (goodIn_of _ (by decide +kernel)) ggX6_set_X6_leastOf
set_option maxRecDepth 20000 in
theorem ggX6_set_X6_mostOf : GoodIn wsX6_set wsX6_mostOf := goodIn_r _ [16] (by decide +kernel) (by decide +kernel)
set_option maxRecDepth 20000 in
theorem gX6_set_X6_mostOf : GoodIn wsX6_set (va_wsS RX6 114 yX6_mostOf wsX6_mostOf) := goodIn_app (goodIn_of _ (by decide +kernel)) ggX6_set_X6_mostOf
set_option maxRecDepth 20000 in
theorem ggX6_set_X6_saves : GoodIn wsX6_set wsX6_saves := goodIn_r _ [20, 21, 22, 2, 23, 24, 25, 26, 27, 28, 29, 30, 31, 32, 33, 34, 35, 36, 37, 38, 39] (by decide +kernel) (by decide +kernel)
set_option maxRecDepth 20000 in
theorem gX6_set_X6_saves : GoodIn wsX6_set (wsV RX6 100 RX6 yX6_saves wsX6_saves) := goodIn_app (goodIn_of _ (by decide +kernel)) ggX6_set_X6_saves
theorem dX6_set_0 : decode cX6_set 0 = .ok (.aload_n 0, 1) := by decide +kernel
theorem dX6_set_1 : decode cX6_set 1 = .ok (.iconst 0, 1) := by decide +kernel
theorem dX6_set_2 : decode cX6_set 2 = .ok (.putfield 40, 3) := by decide +kernel
theorem dX6_set_5 : decode cX6_set 5 = .ok (.iload_n 1, 1) := by decide +kernel
theorem dX6_set_6 : decode cX6_set 6 = .ok (.iconst 0, 1) := by decide +kernel
theorem dX6_set_7 : decode cX6_set 7 = .ok (.iconst 5, 1) := by decide +kernel
theorem dX6_set_8 : decode cX6_set 8 = .ok (.invokestatic 44, 3) := by decide +kernel
theorem dX6_set_11 : decode cX6_set 11 = .ok (.ifCond .ne 9, 3) := by decide +kernel
theorem dX6_set_14 : decode cX6_set 14 = .ok (.aload_n 0, 1) := by decide +kernel
theorem dX6_set_15 : decode cX6_set 15 = .ok (.iconst 1, 1) := by decide +kernel
theorem dX6_set_16 : decode cX6_set 16 = .ok (.invokevirtual 97, 3) := by decide +kernel
theorem dX6_set_19 : decode cX6_set 19 = .ok (.ireturn, 1) := by decide +kernel
theorem dX6_set_20 : decode cX6_set 20 = .ok (.iload_n 2, 1) := by decide +kernel
theorem dX6_set_21 : decode cX6_set 21 = .ok (.iload_n 1, 1) := by decide +kernel
theorem dX6_set_22 : decode cX6_set 22 = .ok (.invokestatic 111, 3) := by decide +kernel
theorem dX6_set_25 : decode cX6_set 25 = .ok (.iload_n 1, 1) := by decide +kernel
theorem dX6_set_26 : decode cX6_set 26 = .ok (.invokestatic 114, 3) := by decide +kernel
theorem dX6_set_29 : decode cX6_set 29 = .ok (.invokestatic 44, 3) := by decide +kernel
theorem dX6_set_32 : decode cX6_set 32 = .ok (.ifCond .ne 9, 3) := by decide +kernel
theorem dX6_set_35 : decode cX6_set 35 = .ok (.aload_n 0, 1) := by decide +kernel
theorem dX6_set_36 : decode cX6_set 36 = .ok (.iconst 2, 1) := by decide +kernel
theorem dX6_set_37 : decode cX6_set 37 = .ok (.invokevirtual 97, 3) := by decide +kernel
theorem dX6_set_40 : decode cX6_set 40 = .ok (.ireturn, 1) := by decide +kernel
theorem dX6_set_41 : decode cX6_set 41 = .ok (.aload_n 0, 1) := by decide +kernel
theorem dX6_set_42 : decode cX6_set 42 = .ok (.invokevirtual 100, 3) := by decide +kernel
theorem dX6_set_45 : decode cX6_set 45 = .ok (.aload_n 0, 1) := by decide +kernel
theorem dX6_set_46 : decode cX6_set 46 = .ok (.getfield 7, 3) := by decide +kernel
theorem dX6_set_49 : decode cX6_set 49 = .ok (.iload_n 1, 1) := by decide +kernel
theorem dX6_set_50 : decode cX6_set 50 = .ok (.iaload, 1) := by decide +kernel
theorem dX6_set_51 : decode cX6_set 51 = .ok (.istore_n 3, 1) := by decide +kernel
theorem dX6_set_52 : decode cX6_set 52 = .ok (.aload_n 0, 1) := by decide +kernel
theorem dX6_set_53 : decode cX6_set 53 = .ok (.getfield 7, 3) := by decide +kernel
theorem dX6_set_56 : decode cX6_set 56 = .ok (.iload_n 1, 1) := by decide +kernel
theorem dX6_set_57 : decode cX6_set 57 = .ok (.iload_n 2, 1) := by decide +kernel
theorem dX6_set_58 : decode cX6_set 58 = .ok (.iastore, 1) := by decide +kernel
theorem dX6_set_59 : decode cX6_set 59 = .ok (.iload_n 3, 1) := by decide +kernel
theorem dX6_set_60 : decode cX6_set 60 = .ok (.ireturn, 1) := by decide +kernel
set_option maxRecDepth 20000 in
theorem ggX6_append_X6_in : GoodIn wsX6_append wsX6_in := goodIn_r _ [7] (by decide +kernel) (by decide +kernel)
set_option maxRecDepth 20000 in
theorem gX6_append_X6_in : GoodIn wsX6_append (va_wsS RX6 44 yX6_in wsX6_in) := goodIn_app (goodIn_of _ (by decide +kernel)) ggX6_append_X6_in
set_option maxRecDepth 20000 in
theorem ggX6_append_X6_fails : GoodIn wsX6_append wsX6_fails := goodIn_r _ [11, 1, 12, 13, 14, 15, 16, 17, 18, 19, 20, 21, 22, 23, 24, 25, 26, 27, 28] (by decide +kernel) (by decide +kernel)
set_option maxRecDepth 20000 in
theorem gX6_append_X6_fails : GoodIn wsX6_append (wsV RX6 97 RX6 yX6_fails wsX6_fails) := goodIn_app (goodIn_of _ (by decide +kernel)) ggX6_append_X6_fails
theorem dX6_append_0 : decode cX6_append 0 = .ok (.aload_n 0, 1) := by decide +kernel
theorem dX6_append_1 : decode cX6_append 1 = .ok (.iconst 0, 1) := by decide +kernel
theorem dX6_append_2 : decode cX6_append 2 = .ok (.putfield 40, 3) := by decide +kernel
theorem dX6_append_5 : decode cX6_append 5 = .ok (.iload_n 1, 1) := by decide +kernel
theorem dX6_append_6 : decode cX6_append 6 = .ok (.bipush 33, 2) := by decide +kernel
theorem dX6_append_8 : decode cX6_append 8 = .ok (.bipush 126, 2) := by decide +kernel
theorem dX6_append_10 : decode cX6_append 10 = .ok (.invokestatic 44, 3) := by decide +kernel
theorem dX6_append_13 : decode cX6_append 13 = .ok (.ifCond .ne 9, 3) := by decide +kernel
theorem dX6_append_16 : decode cX6_append 16 = .ok (.aload_n 0, 1) := by decide +kernel
theorem dX6_append_17 : decode cX6_append 17 = .ok (.iconst 1, 1) := by decide +kernel
theorem dX6_append_18 : decode cX6_append 18 = .ok (.invokevirtual 97, 3) := by decide +kernel
theorem dX6_append_21 : decode cX6_append 21 = .ok (.ireturn, 1) := by decide +kernel
theorem dX6_append_22 : decode cX6_append 22 = .ok (.aload_n 0, 1) := by decide +kernel
theorem dX6_append_23 : decode cX6_append 23 = .ok (.getfield 117, 3) := by decide +kernel
theorem dX6_append_26 : decode cX6_append 26 = .ok (.bipush 60, 2) := by decide +kernel
theorem dX6_append_28 : decode cX6_append 28 = .ok (.if_icmp .ne 9, 3) := by decide +kernel
theorem dX6_append_31 : decode cX6_append 31 = .ok (.aload_n 0, 1) := by decide +kernel
theorem dX6_append_32 : decode cX6_append 32 = .ok (.iconst 2, 1) := by decide +kernel
theorem dX6_append_33 : decode cX6_append 33 = .ok (.invokevirtual 97, 3) := by decide +kernel
theorem dX6_append_36 : decode cX6_append 36 = .ok (.ireturn, 1) := by decide +kernel
theorem dX6_append_37 : decode cX6_append 37 = .ok (.aload_n 0, 1) := by decide +kernel
theorem dX6_append_38 : decode cX6_append 38 = .ok (.getfield 19, 3) := by decide +kernel
theorem dX6_append_41 : decode cX6_append 41 = .ok (.aload_n 0, 1) := by decide +kernel
theorem dX6_append_42 : decode cX6_append 42 = .ok (.getfield 117, 3) := by decide +kernel
theorem dX6_append_45 : decode cX6_append 45 = .ok (.iload_n 1, 1) := by decide +kernel
theorem dX6_append_46 : decode cX6_append 46 = .ok (.iastore, 1) := by decide +kernel
theorem dX6_append_47 : decode cX6_append 47 = .ok (.aload_n 0, 1) := by decide +kernel
theorem dX6_append_48 : decode cX6_append 48 = .ok (.dup, 1) := by decide +kernel
theorem dX6_append_49 : decode cX6_append 49 = .ok (.getfield 117, 3) := by decide +kernel
theorem dX6_append_52 : decode cX6_append 52 = .ok (.iconst 1, 1) := by decide +kernel
theorem dX6_append_53 : decode cX6_append 53 = .ok (.iadd, 1) := by decide +kernel
theorem dX6_append_54 : decode cX6_append 54 = .ok (.putfield 117, 3) := by decide +kernel
theorem dX6_append_57 : decode cX6_append 57 = .ok (.aload_n 0, 1) := by decide +kernel
theorem dX6_append_58 : decode cX6_append 58 = .ok (.getfield 117, 3) := by decide +kernel
theorem dX6_append_61 : decode cX6_append 61 = .ok (.ireturn, 1) := by decide +kernel
theorem dX6_clearBuffer_0 : decode cX6_clearBuffer 0 = .ok (.aload_n 0, 1) := by decide +kernel
theorem dX6_clearBuffer_1 : decode cX6_clearBuffer 1 = .ok (.iconst 0, 1) := by decide +kernel
theorem dX6_clearBuffer_2 : decode cX6_clearBuffer 2 = .ok (.putfield 40, 3) := by decide +kernel
theorem dX6_clearBuffer_5 : decode cX6_clearBuffer 5 = .ok (.aload_n 0, 1) := by decide +kernel
theorem dX6_clearBuffer_6 : decode cX6_clearBuffer 6 = .ok (.getfield 117, 3) := by decide +kernel
theorem dX6_clearBuffer_9 : decode cX6_clearBuffer 9 = .ok (.istore_n 1, 1) := by decide +kernel
theorem dX6_clearBuffer_10 : decode cX6_clearBuffer 10 = .ok (.aload_n 0, 1) := by decide +kernel
theorem dX6_clearBuffer_11 : decode cX6_clearBuffer 11 = .ok (.iconst 0, 1) := by decide +kernel
theorem dX6_clearBuffer_12 : decode cX6_clearBuffer 12 = .ok (.putfield 117, 3) := by decide +kernel
theorem dX6_clearBuffer_15 : decode cX6_clearBuffer 15 = .ok (.iload_n 1, 1) := by decide +kernel
theorem dX6_clearBuffer_16 : decode cX6_clearBuffer 16 = .ok (.ireturn, 1) := by decide +kernel
theorem dX6_sign_0 : decode cX6_sign 0 = .ok (.aload_n 0, 1) := by decide +kernel
theorem dX6_sign_1 : decode cX6_sign 1 = .ok (.getfield 120, 3) := by decide +kernel
theorem dX6_sign_4 : decode cX6_sign 4 = .ok (.aload_n 0, 1) := by decide +kernel
theorem dX6_sign_5 : decode cX6_sign 5 = .ok (.getfield 117, 3) := by decide +kernel
theorem dX6_sign_8 : decode cX6_sign 8 = .ok (.if_icmp .ge 15, 3) := by decide +kernel
theorem dX6_sign_11 : decode cX6_sign 11 = .ok (.aload_n 0, 1) := by decide +kernel
theorem dX6_sign_12 : decode cX6_sign 12 = .ok (.getfield 19, 3) := by decide +kernel
theorem dX6_sign_15 : decode cX6_sign 15 = .ok (.aload_n 0, 1) := by decide +kernel
theorem dX6_sign_16 : decode cX6_sign 16 = .ok (.getfield 120, 3) := by decide +kernel
theorem dX6_sign_19 : decode cX6_sign 19 = .ok (.iaload, 1) := by decide +kernel
theorem dX6_sign_20 : decode cX6_sign 20 = .ok (.goto 4, 3) := by decide +kernel
theorem dX6_sign_23 : decode cX6_sign 23 = .ok (.iconst 0, 1) := by decide +kernel
theorem dX6_sign_24 : decode cX6_sign 24 = .ok (.ireturn, 1) := by decide +kernel
set_option maxRecDepth 20000 in
theorem ggX6_readsKern_X6_sign : GoodIn wsX6_readsKern wsX6_sign := goodIn_r _ [8, 1, 9, 10, 14, 15, 16, 17, 18, 19, 20, 21, 22, 23, 24, 25, 26, 27, 28, 29, 30] (by decide +kernel) (by decide +kernel)
set_option maxRecDepth 20000 in
theorem gX6_readsKern_X6_sign : GoodIn wsX6_readsKern (wsV RX6 123 RX6 yX6_sign wsX6_sign) := goodIn_app (goodIn_of _ (by decide +kernel)) ggX6_readsKern_X6_sign
set_option maxRecDepth 20000 in
theorem ggX6_readsKern_X6_in : GoodIn wsX6_readsKern wsX6_in := goodIn_r _ [13] (by decide +kernel) (by decide +kernel)
set_option maxRecDepth 20000 in
theorem gX6_readsKern_X6_in : GoodIn wsX6_readsKern (va_wsS RX6 44 yX6_in wsX6_in) := goodIn_app (goodIn_of _ (by decide +kernel)) ggX6_readsKern_X6_in
theorem dX6_readsKern_0 : decode cX6_readsKern 0 = .ok (.aload_n 0, 1) := by decide +kernel
theorem dX6_readsKern_1 : decode cX6_readsKern 1 = .ok (.invokevirtual 123, 3) := by decide +kernel
theorem dX6_readsKern_4 : decode cX6_readsKern 4 = .ok (.bipush 43, 2) := by decide +kernel
theorem dX6_readsKern_6 : decode cX6_readsKern 6 = .ok (.if_icmp .ne 7, 3) := by decide +kernel
theorem dX6_readsKern_9 : decode cX6_readsKern 9 = .ok (.iconst 1, 1) := by decide +kernel
theorem dX6_readsKern_10 : decode cX6_readsKern 10 = .ok (.goto 4, 3) := by decide +kernel
theorem dX6_readsKern_13 : decode cX6_readsKern 13 = .ok (.iconst (-1), 1) := by decide +kernel
theorem dX6_readsKern_14 : decode cX6_readsKern 14 = .ok (.istore_n 1, 1) := by decide +kernel
theorem dX6_readsKern_15 : decode cX6_readsKern 15 = .ok (.aload_n 0, 1) := by decide +kernel
theorem dX6_readsKern_16 : decode cX6_readsKern 16 = .ok (.dup, 1) := by decide +kernel
theorem dX6_readsKern_17 : decode cX6_readsKern 17 = .ok (.getfield 120, 3) := by decide +kernel
theorem dX6_readsKern_20 : decode cX6_readsKern 20 = .ok (.iconst 1, 1) := by decide +kernel
theorem dX6_readsKern_21 : decode cX6_readsKern 21 = .ok (.iadd, 1) := by decide +kernel
theorem dX6_readsKern_22 : decode cX6_readsKern 22 = .ok (.putfield 120, 3) := by decide +kernel
theorem dX6_readsKern_25 : decode cX6_readsKern 25 = .ok (.aload_n 0, 1) := by decide +kernel
theorem dX6_readsKern_26 : decode cX6_readsKern 26 = .ok (.invokevirtual 123, 3) := by decide +kernel
theorem dX6_readsKern_29 : decode cX6_readsKern 29 = .ok (.bipush 49, 2) := by decide +kernel
theorem dX6_readsKern_31 : decode cX6_readsKern 31 = .ok (.bipush 53, 2) := by decide +kernel
theorem dX6_readsKern_33 : decode cX6_readsKern 33 = .ok (.invokestatic 44, 3) := by decide +kernel
theorem dX6_readsKern_36 : decode cX6_readsKern 36 = .ok (.istore_n 2, 1) := by decide +kernel
theorem dX6_readsKern_37 : decode cX6_readsKern 37 = .ok (.aload_n 0, 1) := by decide +kernel
theorem dX6_readsKern_38 : decode cX6_readsKern 38 = .ok (.getfield 37, 3) := by decide +kernel
theorem dX6_readsKern_41 : decode cX6_readsKern 41 = .ok (.aload_n 0, 1) := by decide +kernel
theorem dX6_readsKern_42 : decode cX6_readsKern 42 = .ok (.getfield 126, 3) := by decide +kernel
theorem dX6_readsKern_45 : decode cX6_readsKern 45 = .ok (.iconst 1, 1) := by decide +kernel
theorem dX6_readsKern_46 : decode cX6_readsKern 46 = .ok (.isub, 1) := by decide +kernel
theorem dX6_readsKern_47 : decode cX6_readsKern 47 = .ok (.iload_n 2, 1) := by decide +kernel
theorem dX6_readsKern_48 : decode cX6_readsKern 48 = .ok (.ifCond .eq 15, 3) := by decide +kernel
theorem dX6_readsKern_51 : decode cX6_readsKern 51 = .ok (.iload_n 1, 1) := by decide +kernel
theorem dX6_readsKern_52 : decode cX6_readsKern 52 = .ok (.aload_n 0, 1) := by decide +kernel
theorem dX6_readsKern_53 : decode cX6_readsKern 53 = .ok (.invokevirtual 123, 3) := by decide +kernel
theorem dX6_readsKern_56 : decode cX6_readsKern 56 = .ok (.bipush 48, 2) := by decide +kernel
theorem dX6_readsKern_58 : decode cX6_readsKern 58 = .ok (.isub, 1) := by decide +kernel
theorem dX6_readsKern_59 : decode cX6_readsKern 59 = .ok (.imul, 1) := by decide +kernel
theorem dX6_readsKern_60 : decode cX6_readsKern 60 = .ok (.goto 4, 3) := by decide +kernel
theorem dX6_readsKern_63 : decode cX6_readsKern 63 = .ok (.iconst 0, 1) := by decide +kernel
theorem dX6_readsKern_64 : decode cX6_readsKern 64 = .ok (.iastore, 1) := by decide +kernel
theorem dX6_readsKern_65 : decode cX6_readsKern 65 = .ok (.aload_n 0, 1) := by decide +kernel
theorem dX6_readsKern_66 : decode cX6_readsKern 66 = .ok (.dup, 1) := by decide +kernel
theorem dX6_readsKern_67 : decode cX6_readsKern 67 = .ok (.getfield 120, 3) := by decide +kernel
theorem dX6_readsKern_70 : decode cX6_readsKern 70 = .ok (.iload_n 2, 1) := by decide +kernel
theorem dX6_readsKern_71 : decode cX6_readsKern 71 = .ok (.ifCond .eq 7, 3) := by decide +kernel
theorem dX6_readsKern_74 : decode cX6_readsKern 74 = .ok (.iconst 1, 1) := by decide +kernel
theorem dX6_readsKern_75 : decode cX6_readsKern 75 = .ok (.goto 4, 3) := by decide +kernel
theorem dX6_readsKern_78 : decode cX6_readsKern 78 = .ok (.iconst 0, 1) := by decide +kernel
theorem dX6_readsKern_79 : decode cX6_readsKern 79 = .ok (.iadd, 1) := by decide +kernel
theorem dX6_readsKern_80 : decode cX6_readsKern 80 = .ok (.putfield 120, 3) := by decide +kernel
theorem dX6_readsKern_83 : decode cX6_readsKern 83 = .ok (.iload_n 2, 1) := by decide +kernel
theorem dX6_readsKern_84 : decode cX6_readsKern 84 = .ok (.ireturn, 1) := by decide +kernel
set_option maxRecDepth 20000 in
theorem ggX6_readsItem_X6_sign : GoodIn wsX6_readsItem wsX6_sign := goodIn_r _ [9, 4, 10, 11, 19, 20, 21, 22, 23, 24, 25, 26, 27, 28, 29, 30, 31, 32, 33, 34, 35] (by decide +kernel) (by decide +kernel)
set_option maxRecDepth 20000 in
theorem gX6_readsItem_X6_sign : GoodIn wsX6_readsItem (wsV RX6 123 RX6 yX6_sign wsX6_sign) := goodIn_app (goodIn_of _ (by decide +kernel)) ggX6_readsItem_X6_sign
set_option maxRecDepth 20000 in
theorem ggX6_readsItem_X6_in : GoodIn wsX6_readsItem wsX6_in := goodIn_r _ [14] (by decide +kernel) (by decide +kernel)
set_option maxRecDepth 20000 in
theorem gX6_readsItem_X6_in : GoodIn wsX6_readsItem (va_wsS RX6 44 yX6_in wsX6_in) := goodIn_app (goodIn_of _ (by decide +kernel)) ggX6_readsItem_X6_in
set_option maxRecDepth 20000 in
theorem ggX6_readsItem_X6_readsKern : GoodIn wsX6_readsItem wsX6_readsKern := goodIn_r _ [18, 4, 3, 1, 5, 6, 7, 8, 9, 10, 11, 12, 13, 14, 19, 20, 21, 22, 23, 24, 25, 26, 27, 28, 29, 30, 31, 32, 33, 34, 35] (by decide +kernel) (by decide +kernel)
set_option maxRecDepth 20000 in
theorem gX6_readsItem_X6_readsKern : GoodIn wsX6_readsItem (wsV RX6 129 RX6 yX6_readsKern wsX6_readsKern) := goodIn_app (goodIn_of _ (by decide +kernel)) ggX6_readsItem_X6_readsKern
theorem dX6_readsItem_0 : decode cX6_readsItem 0 = .ok (.aload_n 0, 1) := by decide +kernel
theorem dX6_readsItem_1 : decode cX6_readsItem 1 = .ok (.invokevirtual 123, 3) := by decide +kernel
theorem dX6_readsItem_4 : decode cX6_readsItem 4 = .ok (.istore_n 1, 1) := by decide +kernel
theorem dX6_readsItem_5 : decode cX6_readsItem 5 = .ok (.iload_n 1, 1) := by decide +kernel
theorem dX6_readsItem_6 : decode cX6_readsItem 6 = .ok (.bipush 65, 2) := by decide +kernel
theorem dX6_readsItem_8 : decode cX6_readsItem 8 = .ok (.bipush 90, 2) := by decide +kernel
theorem dX6_readsItem_10 : decode cX6_readsItem 10 = .ok (.invokestatic 44, 3) := by decide +kernel
theorem dX6_readsItem_13 : decode cX6_readsItem 13 = .ok (.istore_n 2, 1) := by decide +kernel
theorem dX6_readsItem_14 : decode cX6_readsItem 14 = .ok (.aload_n 0, 1) := by decide +kernel
theorem dX6_readsItem_15 : decode cX6_readsItem 15 = .ok (.getfield 126, 3) := by decide +kernel
theorem dX6_readsItem_18 : decode cX6_readsItem 18 = .ok (.bipush 20, 2) := by decide +kernel
theorem dX6_readsItem_20 : decode cX6_readsItem 20 = .ok (.if_icmp .eq 13, 3) := by decide +kernel
theorem dX6_readsItem_23 : decode cX6_readsItem 23 = .ok (.iload_n 2, 1) := by decide +kernel
theorem dX6_readsItem_24 : decode cX6_readsItem 24 = .ok (.ifCond .ne 11, 3) := by decide +kernel
theorem dX6_readsItem_27 : decode cX6_readsItem 27 = .ok (.iload_n 1, 1) := by decide +kernel
theorem dX6_readsItem_28 : decode cX6_readsItem 28 = .ok (.bipush 95, 2) := by decide +kernel
theorem dX6_readsItem_30 : decode cX6_readsItem 30 = .ok (.if_icmp .eq 5, 3) := by decide +kernel
theorem dX6_readsItem_33 : decode cX6_readsItem 33 = .ok (.iconst 0, 1) := by decide +kernel
theorem dX6_readsItem_34 : decode cX6_readsItem 34 = .ok (.ireturn, 1) := by decide +kernel
theorem dX6_readsItem_35 : decode cX6_readsItem 35 = .ok (.aload_n 0, 1) := by decide +kernel
theorem dX6_readsItem_36 : decode cX6_readsItem 36 = .ok (.getfield 34, 3) := by decide +kernel
theorem dX6_readsItem_39 : decode cX6_readsItem 39 = .ok (.aload_n 0, 1) := by decide +kernel
theorem dX6_readsItem_40 : decode cX6_readsItem 40 = .ok (.getfield 126, 3) := by decide +kernel
theorem dX6_readsItem_43 : decode cX6_readsItem 43 = .ok (.iload_n 2, 1) := by decide +kernel
theorem dX6_readsItem_44 : decode cX6_readsItem 44 = .ok (.ifCond .eq 10, 3) := by decide +kernel
theorem dX6_readsItem_47 : decode cX6_readsItem 47 = .ok (.iload_n 1, 1) := by decide +kernel
theorem dX6_readsItem_48 : decode cX6_readsItem 48 = .ok (.bipush 65, 2) := by decide +kernel
theorem dX6_readsItem_50 : decode cX6_readsItem 50 = .ok (.isub, 1) := by decide +kernel
theorem dX6_readsItem_51 : decode cX6_readsItem 51 = .ok (.goto 4, 3) := by decide +kernel
theorem dX6_readsItem_54 : decode cX6_readsItem 54 = .ok (.iconst (-1), 1) := by decide +kernel
theorem dX6_readsItem_55 : decode cX6_readsItem 55 = .ok (.iastore, 1) := by decide +kernel
theorem dX6_readsItem_56 : decode cX6_readsItem 56 = .ok (.aload_n 0, 1) := by decide +kernel
theorem dX6_readsItem_57 : decode cX6_readsItem 57 = .ok (.getfield 37, 3) := by decide +kernel
theorem dX6_readsItem_60 : decode cX6_readsItem 60 = .ok (.aload_n 0, 1) := by decide +kernel
theorem dX6_readsItem_61 : decode cX6_readsItem 61 = .ok (.getfield 126, 3) := by decide +kernel
theorem dX6_readsItem_64 : decode cX6_readsItem 64 = .ok (.iconst 0, 1) := by decide +kernel
theorem dX6_readsItem_65 : decode cX6_readsItem 65 = .ok (.iastore, 1) := by decide +kernel
theorem dX6_readsItem_66 : decode cX6_readsItem 66 = .ok (.aload_n 0, 1) := by decide +kernel
theorem dX6_readsItem_67 : decode cX6_readsItem 67 = .ok (.dup, 1) := by decide +kernel
theorem dX6_readsItem_68 : decode cX6_readsItem 68 = .ok (.getfield 126, 3) := by decide +kernel
theorem dX6_readsItem_71 : decode cX6_readsItem 71 = .ok (.iconst 1, 1) := by decide +kernel
theorem dX6_readsItem_72 : decode cX6_readsItem 72 = .ok (.iadd, 1) := by decide +kernel
theorem dX6_readsItem_73 : decode cX6_readsItem 73 = .ok (.putfield 126, 3) := by decide +kernel
theorem dX6_readsItem_76 : decode cX6_readsItem 76 = .ok (.aload_n 0, 1) := by decide +kernel
theorem dX6_readsItem_77 : decode cX6_readsItem 77 = .ok (.dup, 1) := by decide +kernel
theorem dX6_readsItem_78 : decode cX6_readsItem 78 = .ok (.getfield 120, 3) := by decide +kernel
theorem dX6_readsItem_81 : decode cX6_readsItem 81 = .ok (.iconst 1, 1) := by decide +kernel
theorem dX6_readsItem_82 : decode cX6_readsItem 82 = .ok (.iadd, 1) := by decide +kernel
theorem dX6_readsItem_83 : decode cX6_readsItem 83 = .ok (.putfield 120, 3) := by decide +kernel
theorem dX6_readsItem_86 : decode cX6_readsItem 86 = .ok (.iload_n 2, 1) := by decide +kernel
theorem dX6_readsItem_87 : decode cX6_readsItem 87 = .ok (.ifCond .eq 28, 3) := by decide +kernel
theorem dX6_readsItem_90 : decode cX6_readsItem 90 = .ok (.aload_n 0, 1) := by decide +kernel
theorem dX6_readsItem_91 : decode cX6_readsItem 91 = .ok (.invokevirtual 123, 3) := by decide +kernel
theorem dX6_readsItem_94 : decode cX6_readsItem 94 = .ok (.bipush 43, 2) := by decide +kernel
theorem dX6_readsItem_96 : decode cX6_readsItem 96 = .ok (.if_icmp .eq 12, 3) := by decide +kernel
theorem dX6_readsItem_99 : decode cX6_readsItem 99 = .ok (.aload_n 0, 1) := by decide +kernel
theorem dX6_readsItem_100 : decode cX6_readsItem 100 = .ok (.invokevirtual 123, 3) := by decide +kernel
theorem dX6_readsItem_103 : decode cX6_readsItem 103 = .ok (.bipush 45, 2) := by decide +kernel
theorem dX6_readsItem_105 : decode cX6_readsItem 105 = .ok (.if_icmp .ne 10, 3) := by decide +kernel
theorem dX6_readsItem_108 : decode cX6_readsItem 108 = .ok (.aload_n 0, 1) := by decide +kernel
theorem dX6_readsItem_109 : decode cX6_readsItem 109 = .ok (.invokevirtual 129, 3) := by decide +kernel
theorem dX6_readsItem_112 : decode cX6_readsItem 112 = .ok (.ifCond .eq 7, 3) := by decide +kernel
theorem dX6_readsItem_115 : decode cX6_readsItem 115 = .ok (.iconst 1, 1) := by decide +kernel
theorem dX6_readsItem_116 : decode cX6_readsItem 116 = .ok (.goto 4, 3) := by decide +kernel
theorem dX6_readsItem_119 : decode cX6_readsItem 119 = .ok (.iconst 0, 1) := by decide +kernel
theorem dX6_readsItem_120 : decode cX6_readsItem 120 = .ok (.ireturn, 1) := by decide +kernel
set_option maxRecDepth 20000 in
theorem ggX6_reads_X6_readsItem : GoodIn wsX6_reads wsX6_readsItem := goodIn_r _ [8, 2, 9, 10, 1, 11, 12, 13, 7, 14, 3, 15, 16, 17, 18, 19, 20, 21, 22, 23, 24, 25, 26, 27, 28, 29, 30, 31, 32, 33, 34, 35, 36, 37, 38, 39] (by decide +kernel) (by decide +kernel)
set_option maxRecDepth 20000 in
theorem gX6_reads_X6_readsItem : GoodIn wsX6_reads (wsV RX6 133 RX6 yX6_readsItem wsX6_readsItem) := goodIn_app (goodIn_of _ (by decide +kernel)) ggX6_reads_X6_readsItem
theorem dX6_reads_0 : decode cX6_reads 0 = .ok (.aload_n 0, 1) := by decide +kernel
theorem dX6_reads_1 : decode cX6_reads 1 = .ok (.iconst 0, 1) := by decide +kernel
theorem dX6_reads_2 : decode cX6_reads 2 = .ok (.putfield 120, 3) := by decide +kernel
theorem dX6_reads_5 : decode cX6_reads 5 = .ok (.aload_n 0, 1) := by decide +kernel
theorem dX6_reads_6 : decode cX6_reads 6 = .ok (.iconst 0, 1) := by decide +kernel
theorem dX6_reads_7 : decode cX6_reads 7 = .ok (.putfield 126, 3) := by decide +kernel
theorem dX6_reads_10 : decode cX6_reads 10 = .ok (.aload_n 0, 1) := by decide +kernel
theorem dX6_reads_11 : decode cX6_reads 11 = .ok (.invokevirtual 133, 3) := by decide +kernel
theorem dX6_reads_14 : decode cX6_reads 14 = .ok (.istore_n 1, 1) := by decide +kernel
theorem dX6_reads_15 : decode cX6_reads 15 = .ok (.iload_n 1, 1) := by decide +kernel
theorem dX6_reads_16 : decode cX6_reads 16 = .ok (.ifCond .eq 22, 3) := by decide +kernel
theorem dX6_reads_19 : decode cX6_reads 19 = .ok (.aload_n 0, 1) := by decide +kernel
theorem dX6_reads_20 : decode cX6_reads 20 = .ok (.getfield 120, 3) := by decide +kernel
theorem dX6_reads_23 : decode cX6_reads 23 = .ok (.aload_n 0, 1) := by decide +kernel
theorem dX6_reads_24 : decode cX6_reads 24 = .ok (.getfield 117, 3) := by decide +kernel
theorem dX6_reads_27 : decode cX6_reads 27 = .ok (.if_icmp .ge 11, 3) := by decide +kernel
theorem dX6_reads_30 : decode cX6_reads 30 = .ok (.aload_n 0, 1) := by decide +kernel
theorem dX6_reads_31 : decode cX6_reads 31 = .ok (.invokevirtual 133, 3) := by decide +kernel
theorem dX6_reads_34 : decode cX6_reads 34 = .ok (.istore_n 1, 1) := by decide +kernel
theorem dX6_reads_35 : decode cX6_reads 35 = .ok (.goto (-20), 3) := by decide +kernel
theorem dX6_reads_38 : decode cX6_reads 38 = .ok (.iload_n 1, 1) := by decide +kernel
theorem dX6_reads_39 : decode cX6_reads 39 = .ok (.ireturn, 1) := by decide +kernel
set_option maxRecDepth 20000 in
theorem ggX6_firstError_X6_reads : GoodIn wsX6_firstError wsX6_reads := goodIn_r _ [8, 3, 9, 2, 10, 11, 12, 7, 13, 14, 15, 16, 17, 18, 19, 20, 21, 22, 23, 24, 25, 26, 27, 28, 29, 30, 31, 32, 33, 34, 35, 36, 37, 38, 39, 40, 41, 42, 43, 44] (by decide +kernel) (by decide +kernel)
set_option maxRecDepth 20000 in
theorem gX6_firstError_X6_reads : GoodIn wsX6_firstError (wsV RX6 136 RX6 yX6_reads wsX6_reads) := goodIn_app (goodIn_of _ (by decide +kernel)) ggX6_firstError_X6_reads
theorem dX6_firstError_0 : decode cX6_firstError 0 = .ok (.aload_n 0, 1) := by decide +kernel
theorem dX6_firstError_1 : decode cX6_firstError 1 = .ok (.iconst 0, 1) := by decide +kernel
theorem dX6_firstError_2 : decode cX6_firstError 2 = .ok (.putfield 40, 3) := by decide +kernel
theorem dX6_firstError_5 : decode cX6_firstError 5 = .ok (.aload_n 0, 1) := by decide +kernel
theorem dX6_firstError_6 : decode cX6_firstError 6 = .ok (.invokevirtual 136, 3) := by decide +kernel
theorem dX6_firstError_9 : decode cX6_firstError 9 = .ok (.ifCond .eq 10, 3) := by decide +kernel
theorem dX6_firstError_12 : decode cX6_firstError 12 = .ok (.aload_n 0, 1) := by decide +kernel
theorem dX6_firstError_13 : decode cX6_firstError 13 = .ok (.getfield 117, 3) := by decide +kernel
theorem dX6_firstError_16 : decode cX6_firstError 16 = .ok (.goto 7, 3) := by decide +kernel
theorem dX6_firstError_19 : decode cX6_firstError 19 = .ok (.aload_n 0, 1) := by decide +kernel
theorem dX6_firstError_20 : decode cX6_firstError 20 = .ok (.getfield 120, 3) := by decide +kernel
theorem dX6_firstError_23 : decode cX6_firstError 23 = .ok (.ireturn, 1) := by decide +kernel
set_option maxRecDepth 20000 in
theorem ggX6_line_X6_reads : GoodIn wsX6_line wsX6_reads := goodIn_r _ [11, 12, 3, 6, 13, 14, 15, 10, 16, 4, 5, 17, 18, 19, 20, 21, 22, 23, 24, 25, 26, 27, 28, 39, 40, 41, 42, 43, 44, 45, 46, 47, 48, 49, 50, 51, 52, 53, 54, 55] (by decide +kernel) (by decide +kernel)
set_option maxRecDepth 20000 in
theorem gX6_line_X6_reads : GoodIn wsX6_line (wsV RX6 136 RX6 yX6_reads wsX6_reads) := goodIn_app (goodIn_of _ (by decide +kernel)) ggX6_line_X6_reads
set_option maxRecDepth 20000 in
theorem ggX6_line_X6_fails : GoodIn wsX6_line wsX6_fails := goodIn_r _ [32, 1, 39, 40, 41, 42, 43, 44, 45, 46, 47, 48, 49, 50, 51, 52, 53, 54, 55] (by decide +kernel) (by decide +kernel)
set_option maxRecDepth 20000 in
theorem gX6_line_X6_fails : GoodIn wsX6_line (wsV RX6 97 RX6 yX6_fails wsX6_fails) := goodIn_app (goodIn_of _ (by decide +kernel)) ggX6_line_X6_fails
set_option maxRecDepth 20000 in
theorem ggX6_line_X6_saves : GoodIn wsX6_line wsX6_saves := goodIn_r _ [36, 37, 38, 2, 39, 40, 41, 42, 43, 44, 45, 46, 47, 48, 49, 50, 51, 52, 53, 54, 55] (by decide +kernel) (by decide +kernel)
set_option maxRecDepth 20000 in
theorem gX6_line_X6_saves : GoodIn wsX6_line (wsV RX6 100 RX6 yX6_saves wsX6_saves) := goodIn_app (goodIn_of _ (by decide +kernel)) ggX6_line_X6_saves
theorem dX6_line_0 : decode cX6_line 0 = .ok (.aload_n 0, 1) := by decide +kernel
theorem dX6_line_1 : decode cX6_line 1 = .ok (.iconst 0, 1) := by decide +kernel
theorem dX6_line_2 : decode cX6_line 2 = .ok (.putfield 40, 3) := by decide +kernel
theorem dX6_line_5 : decode cX6_line 5 = .ok (.aload_n 0, 1) := by decide +kernel
theorem dX6_line_6 : decode cX6_line 6 = .ok (.invokevirtual 136, 3) := by decide +kernel
theorem dX6_line_9 : decode cX6_line 9 = .ok (.ifCond .ne 9, 3) := by decide +kernel
theorem dX6_line_12 : decode cX6_line 12 = .ok (.aload_n 0, 1) := by decide +kernel
theorem dX6_line_13 : decode cX6_line 13 = .ok (.iconst 1, 1) := by decide +kernel
theorem dX6_line_14 : decode cX6_line 14 = .ok (.invokevirtual 97, 3) := by decide +kernel
theorem dX6_line_17 : decode cX6_line 17 = .ok (.ireturn, 1) := by decide +kernel
theorem dX6_line_18 : decode cX6_line 18 = .ok (.aload_n 0, 1) := by decide +kernel
theorem dX6_line_19 : decode cX6_line 19 = .ok (.invokevirtual 100, 3) := by decide +kernel
theorem dX6_line_22 : decode cX6_line 22 = .ok (.iconst 0, 1) := by decide +kernel
theorem dX6_line_23 : decode cX6_line 23 = .ok (.istore_n 1, 1) := by decide +kernel
theorem dX6_line_24 : decode cX6_line 24 = .ok (.iload_n 1, 1) := by decide +kernel
theorem dX6_line_25 : decode cX6_line 25 = .ok (.bipush 20, 2) := by decide +kernel
theorem dX6_line_27 : decode cX6_line 27 = .ok (.if_icmp .ge 63, 3) := by decide +kernel
theorem dX6_line_30 : decode cX6_line 30 = .ok (.aload_n 0, 1) := by decide +kernel
theorem dX6_line_31 : decode cX6_line 31 = .ok (.getfield 7, 3) := by decide +kernel
theorem dX6_line_34 : decode cX6_line 34 = .ok (.bipush 8, 2) := by decide +kernel
theorem dX6_line_36 : decode cX6_line 36 = .ok (.iload_n 1, 1) := by decide +kernel
theorem dX6_line_37 : decode cX6_line 37 = .ok (.iadd, 1) := by decide +kernel
theorem dX6_line_38 : decode cX6_line 38 = .ok (.iload_n 1, 1) := by decide +kernel
theorem dX6_line_39 : decode cX6_line 39 = .ok (.aload_n 0, 1) := by decide +kernel
theorem dX6_line_40 : decode cX6_line 40 = .ok (.getfield 126, 3) := by decide +kernel
theorem dX6_line_43 : decode cX6_line 43 = .ok (.if_icmp .ge 12, 3) := by decide +kernel
theorem dX6_line_46 : decode cX6_line 46 = .ok (.aload_n 0, 1) := by decide +kernel
theorem dX6_line_47 : decode cX6_line 47 = .ok (.getfield 34, 3) := by decide +kernel
theorem dX6_line_50 : decode cX6_line 50 = .ok (.iload_n 1, 1) := by decide +kernel
theorem dX6_line_51 : decode cX6_line 51 = .ok (.iaload, 1) := by decide +kernel
theorem dX6_line_52 : decode cX6_line 52 = .ok (.goto 4, 3) := by decide +kernel
theorem dX6_line_55 : decode cX6_line 55 = .ok (.iconst 0, 1) := by decide +kernel
theorem dX6_line_56 : decode cX6_line 56 = .ok (.iastore, 1) := by decide +kernel
theorem dX6_line_57 : decode cX6_line 57 = .ok (.aload_n 0, 1) := by decide +kernel
theorem dX6_line_58 : decode cX6_line 58 = .ok (.getfield 7, 3) := by decide +kernel
theorem dX6_line_61 : decode cX6_line 61 = .ok (.bipush 28, 2) := by decide +kernel
theorem dX6_line_63 : decode cX6_line 63 = .ok (.iload_n 1, 1) := by decide +kernel
theorem dX6_line_64 : decode cX6_line 64 = .ok (.iadd, 1) := by decide +kernel
theorem dX6_line_65 : decode cX6_line 65 = .ok (.iload_n 1, 1) := by decide +kernel
theorem dX6_line_66 : decode cX6_line 66 = .ok (.aload_n 0, 1) := by decide +kernel
theorem dX6_line_67 : decode cX6_line 67 = .ok (.getfield 126, 3) := by decide +kernel
theorem dX6_line_70 : decode cX6_line 70 = .ok (.if_icmp .ge 12, 3) := by decide +kernel
theorem dX6_line_73 : decode cX6_line 73 = .ok (.aload_n 0, 1) := by decide +kernel
theorem dX6_line_74 : decode cX6_line 74 = .ok (.getfield 37, 3) := by decide +kernel
theorem dX6_line_77 : decode cX6_line 77 = .ok (.iload_n 1, 1) := by decide +kernel
theorem dX6_line_78 : decode cX6_line 78 = .ok (.iaload, 1) := by decide +kernel
theorem dX6_line_79 : decode cX6_line 79 = .ok (.goto 4, 3) := by decide +kernel
theorem dX6_line_82 : decode cX6_line 82 = .ok (.iconst 0, 1) := by decide +kernel
theorem dX6_line_83 : decode cX6_line 83 = .ok (.iastore, 1) := by decide +kernel
theorem dX6_line_84 : decode cX6_line 84 = .ok (.iinc 1 1, 3) := by decide +kernel
theorem dX6_line_87 : decode cX6_line 87 = .ok (.goto (-63), 3) := by decide +kernel
theorem dX6_line_90 : decode cX6_line 90 = .ok (.aload_n 0, 1) := by decide +kernel
theorem dX6_line_91 : decode cX6_line 91 = .ok (.getfield 7, 3) := by decide +kernel
theorem dX6_line_94 : decode cX6_line 94 = .ok (.bipush 7, 2) := by decide +kernel
theorem dX6_line_96 : decode cX6_line 96 = .ok (.aload_n 0, 1) := by decide +kernel
theorem dX6_line_97 : decode cX6_line 97 = .ok (.getfield 126, 3) := by decide +kernel
theorem dX6_line_100 : decode cX6_line 100 = .ok (.iastore, 1) := by decide +kernel
theorem dX6_line_101 : decode cX6_line 101 = .ok (.aload_n 0, 1) := by decide +kernel
theorem dX6_line_102 : decode cX6_line 102 = .ok (.iconst 0, 1) := by decide +kernel
theorem dX6_line_103 : decode cX6_line 103 = .ok (.putfield 117, 3) := by decide +kernel
theorem dX6_line_106 : decode cX6_line 106 = .ok (.aload_n 0, 1) := by decide +kernel
theorem dX6_line_107 : decode cX6_line 107 = .ok (.getfield 126, 3) := by decide +kernel
theorem dX6_line_110 : decode cX6_line 110 = .ok (.ireturn, 1) := by decide +kernel
set_option maxRecDepth 20000 in
theorem ggX6_undo_X6_fails : GoodIn wsX6_undo wsX6_fails := goodIn_r _ [9, 1, 10, 11, 12, 13, 14, 15, 16, 17, 18, 19, 20, 21, 22, 23, 24, 25, 26] (by decide +kernel) (by decide +kernel)
set_option maxRecDepth 20000 in
theorem gX6_undo_X6_fails : GoodIn wsX6_undo (wsV RX6 97 RX6 yX6_fails wsX6_fails) := goodIn_app (goodIn_of _ (by decide +kernel)) ggX6_undo_X6_fails
theorem dX6_undo_0 : decode cX6_undo 0 = .ok (.aload_n 0, 1) := by decide +kernel
theorem dX6_undo_1 : decode cX6_undo 1 = .ok (.iconst 0, 1) := by decide +kernel
theorem dX6_undo_2 : decode cX6_undo 2 = .ok (.putfield 40, 3) := by decide +kernel
theorem dX6_undo_5 : decode cX6_undo 5 = .ok (.aload_n 0, 1) := by decide +kernel
theorem dX6_undo_6 : decode cX6_undo 6 = .ok (.getfield 52, 3) := by decide +kernel
theorem dX6_undo_9 : decode cX6_undo 9 = .ok (.ifCond .ne 9, 3) := by decide +kernel
theorem dX6_undo_12 : decode cX6_undo 12 = .ok (.aload_n 0, 1) := by decide +kernel
theorem dX6_undo_13 : decode cX6_undo 13 = .ok (.iconst 1, 1) := by decide +kernel
theorem dX6_undo_14 : decode cX6_undo 14 = .ok (.invokevirtual 97, 3) := by decide +kernel
theorem dX6_undo_17 : decode cX6_undo 17 = .ok (.ireturn, 1) := by decide +kernel
theorem dX6_undo_18 : decode cX6_undo 18 = .ok (.aload_n 0, 1) := by decide +kernel
theorem dX6_undo_19 : decode cX6_undo 19 = .ok (.dup, 1) := by decide +kernel
theorem dX6_undo_20 : decode cX6_undo 20 = .ok (.getfield 52, 3) := by decide +kernel
theorem dX6_undo_23 : decode cX6_undo 23 = .ok (.iconst 1, 1) := by decide +kernel
theorem dX6_undo_24 : decode cX6_undo 24 = .ok (.isub, 1) := by decide +kernel
theorem dX6_undo_25 : decode cX6_undo 25 = .ok (.putfield 52, 3) := by decide +kernel
theorem dX6_undo_28 : decode cX6_undo 28 = .ok (.iconst 0, 1) := by decide +kernel
theorem dX6_undo_29 : decode cX6_undo 29 = .ok (.istore_n 1, 1) := by decide +kernel
theorem dX6_undo_30 : decode cX6_undo 30 = .ok (.iload_n 1, 1) := by decide +kernel
theorem dX6_undo_31 : decode cX6_undo 31 = .ok (.bipush 48, 2) := by decide +kernel
theorem dX6_undo_33 : decode cX6_undo 33 = .ok (.if_icmp .ge 29, 3) := by decide +kernel
theorem dX6_undo_36 : decode cX6_undo 36 = .ok (.aload_n 0, 1) := by decide +kernel
theorem dX6_undo_37 : decode cX6_undo 37 = .ok (.getfield 7, 3) := by decide +kernel
theorem dX6_undo_40 : decode cX6_undo 40 = .ok (.iload_n 1, 1) := by decide +kernel
theorem dX6_undo_41 : decode cX6_undo 41 = .ok (.aload_n 0, 1) := by decide +kernel
theorem dX6_undo_42 : decode cX6_undo 42 = .ok (.getfield 13, 3) := by decide +kernel
theorem dX6_undo_45 : decode cX6_undo 45 = .ok (.bipush 48, 2) := by decide +kernel
theorem dX6_undo_47 : decode cX6_undo 47 = .ok (.aload_n 0, 1) := by decide +kernel
theorem dX6_undo_48 : decode cX6_undo 48 = .ok (.getfield 52, 3) := by decide +kernel
theorem dX6_undo_51 : decode cX6_undo 51 = .ok (.imul, 1) := by decide +kernel
theorem dX6_undo_52 : decode cX6_undo 52 = .ok (.iload_n 1, 1) := by decide +kernel
theorem dX6_undo_53 : decode cX6_undo 53 = .ok (.iadd, 1) := by decide +kernel
theorem dX6_undo_54 : decode cX6_undo 54 = .ok (.iaload, 1) := by decide +kernel
theorem dX6_undo_55 : decode cX6_undo 55 = .ok (.iastore, 1) := by decide +kernel
theorem dX6_undo_56 : decode cX6_undo 56 = .ok (.iinc 1 1, 3) := by decide +kernel
theorem dX6_undo_59 : decode cX6_undo 59 = .ok (.goto (-29), 3) := by decide +kernel
theorem dX6_undo_62 : decode cX6_undo 62 = .ok (.aload_n 0, 1) := by decide +kernel
theorem dX6_undo_63 : decode cX6_undo 63 = .ok (.getfield 52, 3) := by decide +kernel
theorem dX6_undo_66 : decode cX6_undo 66 = .ok (.ireturn, 1) := by decide +kernel
theorem dX6_keep_0 : decode cX6_keep 0 = .ok (.aload_n 0, 1) := by decide +kernel
theorem dX6_keep_1 : decode cX6_keep 1 = .ok (.iconst 0, 1) := by decide +kernel
theorem dX6_keep_2 : decode cX6_keep 2 = .ok (.putfield 40, 3) := by decide +kernel
theorem dX6_keep_5 : decode cX6_keep 5 = .ok (.iconst 0, 1) := by decide +kernel
theorem dX6_keep_6 : decode cX6_keep 6 = .ok (.istore_n 1, 1) := by decide +kernel
theorem dX6_keep_7 : decode cX6_keep 7 = .ok (.iload_n 1, 1) := by decide +kernel
theorem dX6_keep_8 : decode cX6_keep 8 = .ok (.bipush 48, 2) := by decide +kernel
theorem dX6_keep_10 : decode cX6_keep 10 = .ok (.if_icmp .ge 21, 3) := by decide +kernel
theorem dX6_keep_13 : decode cX6_keep 13 = .ok (.aload_n 0, 1) := by decide +kernel
theorem dX6_keep_14 : decode cX6_keep 14 = .ok (.getfield 16, 3) := by decide +kernel
theorem dX6_keep_17 : decode cX6_keep 17 = .ok (.iload_n 1, 1) := by decide +kernel
theorem dX6_keep_18 : decode cX6_keep 18 = .ok (.aload_n 0, 1) := by decide +kernel
theorem dX6_keep_19 : decode cX6_keep 19 = .ok (.getfield 7, 3) := by decide +kernel
theorem dX6_keep_22 : decode cX6_keep 22 = .ok (.iload_n 1, 1) := by decide +kernel
theorem dX6_keep_23 : decode cX6_keep 23 = .ok (.iaload, 1) := by decide +kernel
theorem dX6_keep_24 : decode cX6_keep 24 = .ok (.iastore, 1) := by decide +kernel
theorem dX6_keep_25 : decode cX6_keep 25 = .ok (.iinc 1 1, 3) := by decide +kernel
theorem dX6_keep_28 : decode cX6_keep 28 = .ok (.goto (-21), 3) := by decide +kernel
theorem dX6_keep_31 : decode cX6_keep 31 = .ok (.aload_n 0, 1) := by decide +kernel
theorem dX6_keep_32 : decode cX6_keep 32 = .ok (.iconst 1, 1) := by decide +kernel
theorem dX6_keep_33 : decode cX6_keep 33 = .ok (.putfield 139, 3) := by decide +kernel
theorem dX6_keep_36 : decode cX6_keep 36 = .ok (.aload_n 0, 1) := by decide +kernel
theorem dX6_keep_37 : decode cX6_keep 37 = .ok (.getfield 7, 3) := by decide +kernel
theorem dX6_keep_40 : decode cX6_keep 40 = .ok (.bipush 7, 2) := by decide +kernel
theorem dX6_keep_42 : decode cX6_keep 42 = .ok (.iaload, 1) := by decide +kernel
theorem dX6_keep_43 : decode cX6_keep 43 = .ok (.ireturn, 1) := by decide +kernel
set_option maxRecDepth 20000 in
theorem ggX6_restore_X6_fails : GoodIn wsX6_restore wsX6_fails := goodIn_r _ [9, 1, 16, 17, 18, 19, 20, 21, 22, 23, 24, 25, 26, 27, 28, 29, 30, 31, 32] (by decide +kernel) (by decide +kernel)
set_option maxRecDepth 20000 in
theorem gX6_restore_X6_fails : GoodIn wsX6_restore (wsV RX6 97 RX6 yX6_fails wsX6_fails) := goodIn_app (goodIn_of _ (by decide +kernel)) ggX6_restore_X6_fails
set_option maxRecDepth 20000 in
theorem ggX6_restore_X6_saves : GoodIn wsX6_restore wsX6_saves := goodIn_r _ [13, 14, 15, 3, 16, 17, 18, 19, 20, 21, 22, 23, 24, 25, 26, 27, 28, 29, 30, 31, 32] (by decide +kernel) (by decide +kernel)
set_option maxRecDepth 20000 in
theorem gX6_restore_X6_saves : GoodIn wsX6_restore (wsV RX6 100 RX6 yX6_saves wsX6_saves) := goodIn_app (goodIn_of _ (by decide +kernel)) ggX6_restore_X6_saves
theorem dX6_restore_0 : decode cX6_restore 0 = .ok (.aload_n 0, 1) := by decide +kernel
theorem dX6_restore_1 : decode cX6_restore 1 = .ok (.iconst 0, 1) := by decide +kernel
theorem dX6_restore_2 : decode cX6_restore 2 = .ok (.putfield 40, 3) := by decide +kernel
theorem dX6_restore_5 : decode cX6_restore 5 = .ok (.aload_n 0, 1) := by decide +kernel
theorem dX6_restore_6 : decode cX6_restore 6 = .ok (.getfield 139, 3) := by decide +kernel
theorem dX6_restore_9 : decode cX6_restore 9 = .ok (.ifCond .ne 9, 3) := by decide +kernel
theorem dX6_restore_12 : decode cX6_restore 12 = .ok (.aload_n 0, 1) := by decide +kernel
theorem dX6_restore_13 : decode cX6_restore 13 = .ok (.iconst 1, 1) := by decide +kernel
theorem dX6_restore_14 : decode cX6_restore 14 = .ok (.invokevirtual 97, 3) := by decide +kernel
theorem dX6_restore_17 : decode cX6_restore 17 = .ok (.ireturn, 1) := by decide +kernel
theorem dX6_restore_18 : decode cX6_restore 18 = .ok (.aload_n 0, 1) := by decide +kernel
theorem dX6_restore_19 : decode cX6_restore 19 = .ok (.invokevirtual 100, 3) := by decide +kernel
theorem dX6_restore_22 : decode cX6_restore 22 = .ok (.iconst 0, 1) := by decide +kernel
theorem dX6_restore_23 : decode cX6_restore 23 = .ok (.istore_n 1, 1) := by decide +kernel
theorem dX6_restore_24 : decode cX6_restore 24 = .ok (.iload_n 1, 1) := by decide +kernel
theorem dX6_restore_25 : decode cX6_restore 25 = .ok (.bipush 48, 2) := by decide +kernel
theorem dX6_restore_27 : decode cX6_restore 27 = .ok (.if_icmp .ge 21, 3) := by decide +kernel
theorem dX6_restore_30 : decode cX6_restore 30 = .ok (.aload_n 0, 1) := by decide +kernel
theorem dX6_restore_31 : decode cX6_restore 31 = .ok (.getfield 7, 3) := by decide +kernel
theorem dX6_restore_34 : decode cX6_restore 34 = .ok (.iload_n 1, 1) := by decide +kernel
theorem dX6_restore_35 : decode cX6_restore 35 = .ok (.aload_n 0, 1) := by decide +kernel
theorem dX6_restore_36 : decode cX6_restore 36 = .ok (.getfield 16, 3) := by decide +kernel
theorem dX6_restore_39 : decode cX6_restore 39 = .ok (.iload_n 1, 1) := by decide +kernel
theorem dX6_restore_40 : decode cX6_restore 40 = .ok (.iaload, 1) := by decide +kernel
theorem dX6_restore_41 : decode cX6_restore 41 = .ok (.iastore, 1) := by decide +kernel
theorem dX6_restore_42 : decode cX6_restore 42 = .ok (.iinc 1 1, 3) := by decide +kernel
theorem dX6_restore_45 : decode cX6_restore 45 = .ok (.goto (-21), 3) := by decide +kernel
theorem dX6_restore_48 : decode cX6_restore 48 = .ok (.aload_n 0, 1) := by decide +kernel
theorem dX6_restore_49 : decode cX6_restore 49 = .ok (.getfield 7, 3) := by decide +kernel
theorem dX6_restore_52 : decode cX6_restore 52 = .ok (.bipush 7, 2) := by decide +kernel
theorem dX6_restore_54 : decode cX6_restore 54 = .ok (.iaload, 1) := by decide +kernel
theorem dX6_restore_55 : decode cX6_restore 55 = .ok (.ireturn, 1) := by decide +kernel
set_option maxRecDepth 20000 in
theorem ggX6_letter_X6_in : GoodIn wsX6_letter wsX6_in := goodIn_r _ [5] (by decide +kernel) (by decide +kernel)
set_option maxRecDepth 20000 in
theorem gX6_letter_X6_in : GoodIn wsX6_letter (va_wsS RX6 44 yX6_in wsX6_in) := goodIn_app (goodIn_of _ (by decide +kernel)) ggX6_letter_X6_in
set_option maxRecDepth 20000 in
theorem ggX6_letter_X6_fails : GoodIn wsX6_letter wsX6_fails := goodIn_r _ [9, 1, 19, 20, 21, 22, 23, 24, 25, 26, 27, 28, 29, 30, 31, 32, 33, 34, 35] (by decide +kernel) (by decide +kernel)
set_option maxRecDepth 20000 in
theorem gX6_letter_X6_fails : GoodIn wsX6_letter (wsV RX6 97 RX6 yX6_fails wsX6_fails) := goodIn_app (goodIn_of _ (by decide +kernel)) ggX6_letter_X6_fails
set_option maxRecDepth 20000 in
theorem ggX6_letter_X6_widthOf : GoodIn wsX6_letter wsX6_widthOf := goodIn_r _ [12] (by decide +kernel) (by decide +kernel)
set_option maxRecDepth 20000 in
theorem gX6_letter_X6_widthOf : GoodIn wsX6_letter (va_wsS RX6 88 yX6_widthOf wsX6_widthOf) := goodIn_app (goodIn_of _ (by decide +kernel)) ggX6_letter_X6_widthOf
set_option maxRecDepth 20000 in
theorem ggX6_letter_X6_leftShape : GoodIn wsX6_letter wsX6_leftShape := goodIn_r _ [15] (by decide +kernel) (by decide +kernel)
set_option maxRecDepth 20000 in
theorem gX6_letter_X6_leftShape : GoodIn wsX6_letter (va_wsS RX6 66 yX6_leftShape wsX6_leftShape) := goodIn_app (goodIn_of _ (by decide +kernel)) ggX6_letter_X6_leftShape
set_option maxRecDepth 20000 in
theorem ggX6_letter_X6_rightShape : GoodIn wsX6_letter wsX6_rightShape := goodIn_r _ [18] (by decide +kernel) (by decide +kernel)
set_option maxRecDepth 20000 in
theorem gX6_letter_X6_rightShape : GoodIn wsX6_letter (va_wsS RX6 59 yX6_rightShape wsX6_rightShape) := goodIn_app (goodIn_of _ (by decide +kernel)) ggX6_letter_X6_rightShape
theorem dX6_letter_0 : decode cX6_letter 0 = .ok (.aload_n 0, 1) := by decide +kernel
theorem dX6_letter_1 : decode cX6_letter 1 = .ok (.iconst 0, 1) := by decide +kernel
theorem dX6_letter_2 : decode cX6_letter 2 = .ok (.putfield 40, 3) := by decide +kernel
theorem dX6_letter_5 : decode cX6_letter 5 = .ok (.iload_n 1, 1) := by decide +kernel
theorem dX6_letter_6 : decode cX6_letter 6 = .ok (.iconst 0, 1) := by decide +kernel
theorem dX6_letter_7 : decode cX6_letter 7 = .ok (.bipush 25, 2) := by decide +kernel
theorem dX6_letter_9 : decode cX6_letter 9 = .ok (.invokestatic 44, 3) := by decide +kernel
theorem dX6_letter_12 : decode cX6_letter 12 = .ok (.ifCond .ne 9, 3) := by decide +kernel
theorem dX6_letter_15 : decode cX6_letter 15 = .ok (.aload_n 0, 1) := by decide +kernel
theorem dX6_letter_16 : decode cX6_letter 16 = .ok (.iconst 1, 1) := by decide +kernel
theorem dX6_letter_17 : decode cX6_letter 17 = .ok (.invokevirtual 97, 3) := by decide +kernel
theorem dX6_letter_20 : decode cX6_letter 20 = .ok (.ireturn, 1) := by decide +kernel
theorem dX6_letter_21 : decode cX6_letter 21 = .ok (.iload_n 2, 1) := by decide +kernel
theorem dX6_letter_22 : decode cX6_letter 22 = .ok (.tableswitch 41 0 2 #[26, 31, 36], 26) := by decide +kernel
theorem dX6_letter_48 : decode cX6_letter 48 = .ok (.iload_n 1, 1) := by decide +kernel
theorem dX6_letter_49 : decode cX6_letter 49 = .ok (.invokestatic 88, 3) := by decide +kernel
theorem dX6_letter_52 : decode cX6_letter 52 = .ok (.ireturn, 1) := by decide +kernel
theorem dX6_letter_53 : decode cX6_letter 53 = .ok (.iload_n 1, 1) := by decide +kernel
theorem dX6_letter_54 : decode cX6_letter 54 = .ok (.invokestatic 66, 3) := by decide +kernel
theorem dX6_letter_57 : decode cX6_letter 57 = .ok (.ireturn, 1) := by decide +kernel
theorem dX6_letter_58 : decode cX6_letter 58 = .ok (.iload_n 1, 1) := by decide +kernel
theorem dX6_letter_59 : decode cX6_letter 59 = .ok (.invokestatic 59, 3) := by decide +kernel
theorem dX6_letter_62 : decode cX6_letter 62 = .ok (.ireturn, 1) := by decide +kernel
theorem dX6_letter_63 : decode cX6_letter 63 = .ok (.aload_n 0, 1) := by decide +kernel
theorem dX6_letter_64 : decode cX6_letter 64 = .ok (.iconst 2, 1) := by decide +kernel
theorem dX6_letter_65 : decode cX6_letter 65 = .ok (.invokevirtual 97, 3) := by decide +kernel
theorem dX6_letter_68 : decode cX6_letter 68 = .ok (.ireturn, 1) := by decide +kernel
set_option maxRecDepth 20000 in
theorem ggX6_indent_X6_in : GoodIn wsX6_indent wsX6_in := goodIn_r _ [5] (by decide +kernel) (by decide +kernel)
set_option maxRecDepth 20000 in
theorem gX6_indent_X6_in : GoodIn wsX6_indent (va_wsS RX6 44 yX6_in wsX6_in) := goodIn_app (goodIn_of _ (by decide +kernel)) ggX6_indent_X6_in
set_option maxRecDepth 20000 in
theorem ggX6_indent_X6_back : GoodIn wsX6_indent wsX6_back := goodIn_r _ [9, 10, 11, 12, 4, 13, 2, 3, 5, 18, 19, 20, 21, 22, 23, 24, 25, 26, 27, 28, 29, 30, 31, 32, 33, 34] (by decide +kernel) (by decide +kernel)
set_option maxRecDepth 20000 in
theorem gX6_indent_X6_back : GoodIn wsX6_indent (wsV RX6 62 RX6 yX6_back wsX6_back) := goodIn_app (goodIn_of _ (by decide +kernel)) ggX6_indent_X6_back
set_option maxRecDepth 20000 in
theorem ggX6_indent_X6_fails : GoodIn wsX6_indent wsX6_fails := goodIn_r _ [17, 1, 18, 19, 20, 21, 22, 23, 24, 25, 26, 27, 28, 29, 30, 31, 32, 33, 34] (by decide +kernel) (by decide +kernel)
set_option maxRecDepth 20000 in
theorem gX6_indent_X6_fails : GoodIn wsX6_indent (wsV RX6 97 RX6 yX6_fails wsX6_fails) := goodIn_app (goodIn_of _ (by decide +kernel)) ggX6_indent_X6_fails
theorem dX6_indent_0 : decode cX6_indent 0 = .ok (.aload_n 0, 1) := by decide +kernel
theorem dX6_indent_1 : decode cX6_indent 1 = .ok (.iconst 0, 1) := by decide +kernel
theorem dX6_indent_2 : decode cX6_indent 2 = .ok (.putfield 40, 3) := by decide +kernel
theorem dX6_indent_5 : decode cX6_indent 5 = .ok (.iload_n 1, 1) := by decide +kernel
theorem dX6_indent_6 : decode cX6_indent 6 = .ok (.iconst 0, 1) := by decide +kernel
theorem dX6_indent_7 : decode cX6_indent 7 = .ok (.iconst 3, 1) := by decide +kernel
theorem dX6_indent_8 : decode cX6_indent 8 = .ok (.invokestatic 44, 3) := by decide +kernel
theorem dX6_indent_11 : decode cX6_indent 11 = .ok (.ifCond .eq 22, 3) := by decide +kernel
theorem dX6_indent_14 : decode cX6_indent 14 = .ok (.iload_n 2, 1) := by decide +kernel
theorem dX6_indent_15 : decode cX6_indent 15 = .ok (.iconst 0, 1) := by decide +kernel
theorem dX6_indent_16 : decode cX6_indent 16 = .ok (.bipush 9, 2) := by decide +kernel
theorem dX6_indent_18 : decode cX6_indent 18 = .ok (.invokestatic 44, 3) := by decide +kernel
theorem dX6_indent_21 : decode cX6_indent 21 = .ok (.ifCond .eq 12, 3) := by decide +kernel
theorem dX6_indent_24 : decode cX6_indent 24 = .ok (.aload_n 0, 1) := by decide +kernel
theorem dX6_indent_25 : decode cX6_indent 25 = .ok (.iload_n 1, 1) := by decide +kernel
theorem dX6_indent_26 : decode cX6_indent 26 = .ok (.iload_n 2, 1) := by decide +kernel
theorem dX6_indent_27 : decode cX6_indent 27 = .ok (.invokevirtual 62, 3) := by decide +kernel
theorem dX6_indent_30 : decode cX6_indent 30 = .ok (.goto 8, 3) := by decide +kernel
theorem dX6_indent_33 : decode cX6_indent 33 = .ok (.aload_n 0, 1) := by decide +kernel
theorem dX6_indent_34 : decode cX6_indent 34 = .ok (.iconst 1, 1) := by decide +kernel
theorem dX6_indent_35 : decode cX6_indent 35 = .ok (.invokevirtual 97, 3) := by decide +kernel
theorem dX6_indent_38 : decode cX6_indent 38 = .ok (.ireturn, 1) := by decide +kernel
set_option maxRecDepth 20000 in
theorem ggX6_tellsItem_X6_isLetter : GoodIn wsX6_tellsItem wsX6_isLetter := goodIn_r _ [10, 2, 11, 12, 13, 9, 14, 15, 16, 17, 43, 44, 45, 46, 47, 48, 49, 50, 51, 52, 53, 54, 55, 56, 57, 58, 59] (by decide +kernel) (by decide +kernel)
set_option maxRecDepth 20000 in
theorem gX6_tellsItem_X6_isLetter : GoodIn wsX6_tellsItem (wsV RX6 76 RX6 yX6_isLetter wsX6_isLetter) := goodIn_app (goodIn_of _ (by decide +kernel)) ggX6_tellsItem_X6_isLetter
set_option maxRecDepth 20000 in
theorem ggX6_tellsItem_X6_countedArea : GoodIn wsX6_tellsItem wsX6_countedArea := goodIn_r _ [21, 2, 22, 23, 9, 24, 25, 26, 27, 28, 29, 30, 31, 15, 16, 17, 32, 33, 34, 43, 44, 45, 46, 47, 48, 49, 50, 51, 52, 53, 54, 55, 56, 57, 58, 59] (by decide +kernel) (by decide +kernel)
set_option maxRecDepth 20000 in
theorem gX6_tellsItem_X6_countedArea : GoodIn wsX6_tellsItem (wsV RX6 143 RX6 yX6_countedArea wsX6_countedArea) := goodIn_app (goodIn_of _ (by decide +kernel)) ggX6_tellsItem_X6_countedArea
set_option maxRecDepth 20000 in
theorem ggX6_tellsItem_X6_share : GoodIn wsX6_tellsItem wsX6_share := goodIn_r _ [38, 2, 29, 30, 9, 31, 43, 44, 45, 46, 47, 48, 49, 50, 51, 52, 53, 54, 55, 56, 57, 58, 59] (by decide +kernel) (by decide +kernel)
set_option maxRecDepth 20000 in
theorem gX6_tellsItem_X6_share : GoodIn wsX6_tellsItem (wsV RX6 69 RX6 yX6_share wsX6_share) := goodIn_app (goodIn_of _ (by decide +kernel)) ggX6_tellsItem_X6_share
set_option maxRecDepth 20000 in
theorem ggX6_tellsItem_X6_isFault : GoodIn wsX6_tellsItem wsX6_isFault := goodIn_r _ [42, 1, 2, 35, 36, 37, 9, 38, 29, 30, 31, 43, 44, 45, 46, 47, 48, 49, 50, 51, 52, 53, 54, 55, 56, 57, 58, 59] (by decide +kernel) (by decide +kernel)
set_option maxRecDepth 20000 in
theorem gX6_tellsItem_X6_isFault : GoodIn wsX6_tellsItem (wsV RX6 94 RX6 yX6_isFault wsX6_isFault) := goodIn_app (goodIn_of _ (by decide +kernel)) ggX6_tellsItem_X6_isFault
theorem dX6_tellsItem_0 : decode cX6_tellsItem 0 = .ok (.aload_n 0, 1) := by decide +kernel
theorem dX6_tellsItem_1 : decode cX6_tellsItem 1 = .ok (.iload_n 1, 1) := by decide +kernel
theorem dX6_tellsItem_2 : decode cX6_tellsItem 2 = .ok (.invokevirtual 76, 3) := by decide +kernel
theorem dX6_tellsItem_5 : decode cX6_tellsItem 5 = .ok (.istore_n 3, 1) := by decide +kernel
theorem dX6_tellsItem_6 : decode cX6_tellsItem 6 = .ok (.aload_n 0, 1) := by decide +kernel
theorem dX6_tellsItem_7 : decode cX6_tellsItem 7 = .ok (.getfield 31, 3) := by decide +kernel
theorem dX6_tellsItem_10 : decode cX6_tellsItem 10 = .ok (.iload_n 1, 1) := by decide +kernel
theorem dX6_tellsItem_11 : decode cX6_tellsItem 11 = .ok (.iaload, 1) := by decide +kernel
theorem dX6_tellsItem_12 : decode cX6_tellsItem 12 = .ok (.iconst (-1), 1) := by decide +kernel
theorem dX6_tellsItem_13 : decode cX6_tellsItem 13 = .ok (.if_icmp .eq 7, 3) := by decide +kernel
theorem dX6_tellsItem_16 : decode cX6_tellsItem 16 = .ok (.iconst 1, 1) := by decide +kernel
theorem dX6_tellsItem_17 : decode cX6_tellsItem 17 = .ok (.goto 4, 3) := by decide +kernel
theorem dX6_tellsItem_20 : decode cX6_tellsItem 20 = .ok (.iconst 0, 1) := by decide +kernel
theorem dX6_tellsItem_21 : decode cX6_tellsItem 21 = .ok (.istore 4, 2) := by decide +kernel
theorem dX6_tellsItem_23 : decode cX6_tellsItem 23 = .ok (.iload_n 2, 1) := by decide +kernel
theorem dX6_tellsItem_24 : decode cX6_tellsItem 24 = .ok (.tableswitch 167 0 7 #[48, 58, 79, 86, 93, 100, 107, 147], 48) := by decide +kernel
theorem dX6_tellsItem_72 : decode cX6_tellsItem 72 = .ok (.aload_n 0, 1) := by decide +kernel
theorem dX6_tellsItem_73 : decode cX6_tellsItem 73 = .ok (.getfield 7, 3) := by decide +kernel
theorem dX6_tellsItem_76 : decode cX6_tellsItem 76 = .ok (.bipush 8, 2) := by decide +kernel
theorem dX6_tellsItem_78 : decode cX6_tellsItem 78 = .ok (.iload_n 1, 1) := by decide +kernel
theorem dX6_tellsItem_79 : decode cX6_tellsItem 79 = .ok (.iadd, 1) := by decide +kernel
theorem dX6_tellsItem_80 : decode cX6_tellsItem 80 = .ok (.iaload, 1) := by decide +kernel
theorem dX6_tellsItem_81 : decode cX6_tellsItem 81 = .ok (.ireturn, 1) := by decide +kernel
theorem dX6_tellsItem_82 : decode cX6_tellsItem 82 = .ok (.iload_n 3, 1) := by decide +kernel
theorem dX6_tellsItem_83 : decode cX6_tellsItem 83 = .ok (.ifCond .eq 18, 3) := by decide +kernel
theorem dX6_tellsItem_86 : decode cX6_tellsItem 86 = .ok (.aload_n 0, 1) := by decide +kernel
theorem dX6_tellsItem_87 : decode cX6_tellsItem 87 = .ok (.getfield 7, 3) := by decide +kernel
theorem dX6_tellsItem_90 : decode cX6_tellsItem 90 = .ok (.bipush 28, 2) := by decide +kernel
theorem dX6_tellsItem_92 : decode cX6_tellsItem 92 = .ok (.iload_n 1, 1) := by decide +kernel
theorem dX6_tellsItem_93 : decode cX6_tellsItem 93 = .ok (.iadd, 1) := by decide +kernel
theorem dX6_tellsItem_94 : decode cX6_tellsItem 94 = .ok (.iaload, 1) := by decide +kernel
theorem dX6_tellsItem_95 : decode cX6_tellsItem 95 = .ok (.bipush 10, 2) := by decide +kernel
theorem dX6_tellsItem_97 : decode cX6_tellsItem 97 = .ok (.iadd, 1) := by decide +kernel
theorem dX6_tellsItem_98 : decode cX6_tellsItem 98 = .ok (.goto 4, 3) := by decide +kernel
theorem dX6_tellsItem_101 : decode cX6_tellsItem 101 = .ok (.iconst (-1), 1) := by decide +kernel
theorem dX6_tellsItem_102 : decode cX6_tellsItem 102 = .ok (.ireturn, 1) := by decide +kernel
theorem dX6_tellsItem_103 : decode cX6_tellsItem 103 = .ok (.aload_n 0, 1) := by decide +kernel
theorem dX6_tellsItem_104 : decode cX6_tellsItem 104 = .ok (.getfield 22, 3) := by decide +kernel
theorem dX6_tellsItem_107 : decode cX6_tellsItem 107 = .ok (.iload_n 1, 1) := by decide +kernel
theorem dX6_tellsItem_108 : decode cX6_tellsItem 108 = .ok (.iaload, 1) := by decide +kernel
theorem dX6_tellsItem_109 : decode cX6_tellsItem 109 = .ok (.ireturn, 1) := by decide +kernel
theorem dX6_tellsItem_110 : decode cX6_tellsItem 110 = .ok (.aload_n 0, 1) := by decide +kernel
theorem dX6_tellsItem_111 : decode cX6_tellsItem 111 = .ok (.getfield 25, 3) := by decide +kernel
theorem dX6_tellsItem_114 : decode cX6_tellsItem 114 = .ok (.iload_n 1, 1) := by decide +kernel
theorem dX6_tellsItem_115 : decode cX6_tellsItem 115 = .ok (.iaload, 1) := by decide +kernel
theorem dX6_tellsItem_116 : decode cX6_tellsItem 116 = .ok (.ireturn, 1) := by decide +kernel
theorem dX6_tellsItem_117 : decode cX6_tellsItem 117 = .ok (.aload_n 0, 1) := by decide +kernel
theorem dX6_tellsItem_118 : decode cX6_tellsItem 118 = .ok (.getfield 28, 3) := by decide +kernel
theorem dX6_tellsItem_121 : decode cX6_tellsItem 121 = .ok (.iload_n 1, 1) := by decide +kernel
theorem dX6_tellsItem_122 : decode cX6_tellsItem 122 = .ok (.iaload, 1) := by decide +kernel
theorem dX6_tellsItem_123 : decode cX6_tellsItem 123 = .ok (.ireturn, 1) := by decide +kernel
theorem dX6_tellsItem_124 : decode cX6_tellsItem 124 = .ok (.aload_n 0, 1) := by decide +kernel
theorem dX6_tellsItem_125 : decode cX6_tellsItem 125 = .ok (.getfield 31, 3) := by decide +kernel
theorem dX6_tellsItem_128 : decode cX6_tellsItem 128 = .ok (.iload_n 1, 1) := by decide +kernel
theorem dX6_tellsItem_129 : decode cX6_tellsItem 129 = .ok (.iaload, 1) := by decide +kernel
theorem dX6_tellsItem_130 : decode cX6_tellsItem 130 = .ok (.ireturn, 1) := by decide +kernel
theorem dX6_tellsItem_131 : decode cX6_tellsItem 131 = .ok (.iload 4, 2) := by decide +kernel
theorem dX6_tellsItem_133 : decode cX6_tellsItem 133 = .ok (.ifCond .eq 36, 3) := by decide +kernel
theorem dX6_tellsItem_136 : decode cX6_tellsItem 136 = .ok (.aload_n 0, 1) := by decide +kernel
theorem dX6_tellsItem_137 : decode cX6_tellsItem 137 = .ok (.aload_n 0, 1) := by decide +kernel
theorem dX6_tellsItem_138 : decode cX6_tellsItem 138 = .ok (.getfield 7, 3) := by decide +kernel
theorem dX6_tellsItem_141 : decode cX6_tellsItem 141 = .ok (.bipush 8, 2) := by decide +kernel
theorem dX6_tellsItem_143 : decode cX6_tellsItem 143 = .ok (.iload_n 1, 1) := by decide +kernel
theorem dX6_tellsItem_144 : decode cX6_tellsItem 144 = .ok (.iadd, 1) := by decide +kernel
theorem dX6_tellsItem_145 : decode cX6_tellsItem 145 = .ok (.iconst 1, 1) := by decide +kernel
theorem dX6_tellsItem_146 : decode cX6_tellsItem 146 = .ok (.isub, 1) := by decide +kernel
theorem dX6_tellsItem_147 : decode cX6_tellsItem 147 = .ok (.iaload, 1) := by decide +kernel
theorem dX6_tellsItem_148 : decode cX6_tellsItem 148 = .ok (.aload_n 0, 1) := by decide +kernel
theorem dX6_tellsItem_149 : decode cX6_tellsItem 149 = .ok (.getfield 7, 3) := by decide +kernel
theorem dX6_tellsItem_152 : decode cX6_tellsItem 152 = .ok (.bipush 8, 2) := by decide +kernel
theorem dX6_tellsItem_154 : decode cX6_tellsItem 154 = .ok (.iload_n 1, 1) := by decide +kernel
theorem dX6_tellsItem_155 : decode cX6_tellsItem 155 = .ok (.iadd, 1) := by decide +kernel
theorem dX6_tellsItem_156 : decode cX6_tellsItem 156 = .ok (.iaload, 1) := by decide +kernel
theorem dX6_tellsItem_157 : decode cX6_tellsItem 157 = .ok (.aload_n 0, 1) := by decide +kernel
theorem dX6_tellsItem_158 : decode cX6_tellsItem 158 = .ok (.getfield 28, 3) := by decide +kernel
theorem dX6_tellsItem_161 : decode cX6_tellsItem 161 = .ok (.iload_n 1, 1) := by decide +kernel
theorem dX6_tellsItem_162 : decode cX6_tellsItem 162 = .ok (.iaload, 1) := by decide +kernel
theorem dX6_tellsItem_163 : decode cX6_tellsItem 163 = .ok (.invokevirtual 143, 3) := by decide +kernel
theorem dX6_tellsItem_166 : decode cX6_tellsItem 166 = .ok (.goto 4, 3) := by decide +kernel
theorem dX6_tellsItem_169 : decode cX6_tellsItem 169 = .ok (.iconst (-1), 1) := by decide +kernel
theorem dX6_tellsItem_170 : decode cX6_tellsItem 170 = .ok (.ireturn, 1) := by decide +kernel
theorem dX6_tellsItem_171 : decode cX6_tellsItem 171 = .ok (.iload 4, 2) := by decide +kernel
theorem dX6_tellsItem_173 : decode cX6_tellsItem 173 = .ok (.ifCond .eq 16, 3) := by decide +kernel
theorem dX6_tellsItem_176 : decode cX6_tellsItem 176 = .ok (.aload_n 0, 1) := by decide +kernel
theorem dX6_tellsItem_177 : decode cX6_tellsItem 177 = .ok (.aload_n 0, 1) := by decide +kernel
theorem dX6_tellsItem_178 : decode cX6_tellsItem 178 = .ok (.getfield 31, 3) := by decide +kernel
theorem dX6_tellsItem_181 : decode cX6_tellsItem 181 = .ok (.iload_n 1, 1) := by decide +kernel
theorem dX6_tellsItem_182 : decode cX6_tellsItem 182 = .ok (.iaload, 1) := by decide +kernel
theorem dX6_tellsItem_183 : decode cX6_tellsItem 183 = .ok (.invokevirtual 69, 3) := by decide +kernel
theorem dX6_tellsItem_186 : decode cX6_tellsItem 186 = .ok (.goto 4, 3) := by decide +kernel
theorem dX6_tellsItem_189 : decode cX6_tellsItem 189 = .ok (.iconst (-1), 1) := by decide +kernel
theorem dX6_tellsItem_190 : decode cX6_tellsItem 190 = .ok (.ireturn, 1) := by decide +kernel
theorem dX6_tellsItem_191 : decode cX6_tellsItem 191 = .ok (.iload 4, 2) := by decide +kernel
theorem dX6_tellsItem_193 : decode cX6_tellsItem 193 = .ok (.ifCond .ne 7, 3) := by decide +kernel
theorem dX6_tellsItem_196 : decode cX6_tellsItem 196 = .ok (.iconst (-1), 1) := by decide +kernel
theorem dX6_tellsItem_197 : decode cX6_tellsItem 197 = .ok (.goto 16, 3) := by decide +kernel
theorem dX6_tellsItem_200 : decode cX6_tellsItem 200 = .ok (.aload_n 0, 1) := by decide +kernel
theorem dX6_tellsItem_201 : decode cX6_tellsItem 201 = .ok (.iload_n 1, 1) := by decide +kernel
theorem dX6_tellsItem_202 : decode cX6_tellsItem 202 = .ok (.invokevirtual 94, 3) := by decide +kernel
theorem dX6_tellsItem_205 : decode cX6_tellsItem 205 = .ok (.ifCond .eq 7, 3) := by decide +kernel
theorem dX6_tellsItem_208 : decode cX6_tellsItem 208 = .ok (.iconst 1, 1) := by decide +kernel
theorem dX6_tellsItem_209 : decode cX6_tellsItem 209 = .ok (.goto 4, 3) := by decide +kernel
theorem dX6_tellsItem_212 : decode cX6_tellsItem 212 = .ok (.iconst 0, 1) := by decide +kernel
theorem dX6_tellsItem_213 : decode cX6_tellsItem 213 = .ok (.ireturn, 1) := by decide +kernel
set_option maxRecDepth 20000 in
theorem ggX6_item_X6_isItem : GoodIn wsX6_item wsX6_isItem := goodIn_r _ [6, 7, 8, 9, 5, 10, 75, 76, 77, 78, 79, 80, 81, 82, 83, 84, 85, 86, 87, 88, 89, 90, 91] (by decide +kernel) (by decide +kernel)
set_option maxRecDepth 20000 in
theorem gX6_item_X6_isItem : GoodIn wsX6_item (wsV RX6 48 RX6 yX6_isItem wsX6_isItem) := goodIn_app (goodIn_of _ (by decide +kernel)) ggX6_item_X6_isItem
set_option maxRecDepth 20000 in
theorem ggX6_item_X6_fails : GoodIn wsX6_item wsX6_fails := goodIn_r _ [14, 1, 75, 76, 77, 78, 79, 80, 81, 82, 83, 84, 85, 86, 87, 88, 89, 90, 91] (by decide +kernel) (by decide +kernel)
set_option maxRecDepth 20000 in
theorem gX6_item_X6_fails : GoodIn wsX6_item (wsV RX6 97 RX6 yX6_fails wsX6_fails) := goodIn_app (goodIn_of _ (by decide +kernel)) ggX6_item_X6_fails
set_option maxRecDepth 20000 in
theorem ggX6_item_X6_lays : GoodIn wsX6_item wsX6_lays := goodIn_r _ [18, 7, 19, 20, 21, 22, 23, 24, 25, 5, 26, 2, 3, 4, 6, 8, 9, 10, 27, 28, 29, 30, 31, 32, 33, 34, 35, 36, 37, 38, 39, 40, 41, 42, 43, 44, 45, 46, 47, 48, 49, 50, 51, 52, 53, 54, 55, 56, 57, 58, 75, 76, 77, 78, 79, 80, 81, 82, 83, 84, 85, 86, 87, 88, 89, 90, 91] (by decide +kernel) (by decide +kernel)
set_option maxRecDepth 20000 in
theorem gX6_item_X6_lays : GoodIn wsX6_item (wsV RX6 91 RX6 yX6_lays wsX6_lays) := goodIn_app (goodIn_of _ (by decide +kernel)) ggX6_item_X6_lays
set_option maxRecDepth 20000 in
theorem ggX6_item_X6_in : GoodIn wsX6_item wsX6_in := goodIn_r _ [10] (by decide +kernel) (by decide +kernel)
set_option maxRecDepth 20000 in
theorem gX6_item_X6_in : GoodIn wsX6_item (va_wsS RX6 44 yX6_in wsX6_in) := goodIn_app (goodIn_of _ (by decide +kernel)) ggX6_item_X6_in
set_option maxRecDepth 20000 in
theorem ggX6_item_X6_tellsItem : GoodIn wsX6_item wsX6_tellsItem := goodIn_r _ [62, 21, 7, 19, 22, 20, 23, 24, 25, 5, 26, 2, 3, 4, 6, 8, 9, 10, 63, 64, 65, 66, 39, 40, 41, 42, 43, 44, 45, 46, 47, 48, 49, 50, 51, 67, 68, 69, 70, 71, 72, 73, 74, 75, 76, 77, 78, 79, 80, 81, 82, 83, 84, 85, 86, 87, 88, 89, 90, 91] (by decide +kernel) (by decide +kernel)
set_option maxRecDepth 20000 in
theorem gX6_item_X6_tellsItem : GoodIn wsX6_item (wsV RX6 146 RX6 yX6_tellsItem wsX6_tellsItem) := goodIn_app (goodIn_of _ (by decide +kernel)) ggX6_item_X6_tellsItem
theorem dX6_item_0 : decode cX6_item 0 = .ok (.aload_n 0, 1) := by decide +kernel
theorem dX6_item_1 : decode cX6_item 1 = .ok (.iconst 0, 1) := by decide +kernel
theorem dX6_item_2 : decode cX6_item 2 = .ok (.putfield 40, 3) := by decide +kernel
theorem dX6_item_5 : decode cX6_item 5 = .ok (.aload_n 0, 1) := by decide +kernel
theorem dX6_item_6 : decode cX6_item 6 = .ok (.iload_n 1, 1) := by decide +kernel
theorem dX6_item_7 : decode cX6_item 7 = .ok (.invokevirtual 48, 3) := by decide +kernel
theorem dX6_item_10 : decode cX6_item 10 = .ok (.ifCond .ne 9, 3) := by decide +kernel
theorem dX6_item_13 : decode cX6_item 13 = .ok (.aload_n 0, 1) := by decide +kernel
theorem dX6_item_14 : decode cX6_item 14 = .ok (.iconst 1, 1) := by decide +kernel
theorem dX6_item_15 : decode cX6_item 15 = .ok (.invokevirtual 97, 3) := by decide +kernel
theorem dX6_item_18 : decode cX6_item 18 = .ok (.ireturn, 1) := by decide +kernel
theorem dX6_item_19 : decode cX6_item 19 = .ok (.aload_n 0, 1) := by decide +kernel
theorem dX6_item_20 : decode cX6_item 20 = .ok (.invokevirtual 91, 3) := by decide +kernel
theorem dX6_item_23 : decode cX6_item 23 = .ok (.iload_n 2, 1) := by decide +kernel
theorem dX6_item_24 : decode cX6_item 24 = .ok (.iconst 0, 1) := by decide +kernel
theorem dX6_item_25 : decode cX6_item 25 = .ok (.bipush 8, 2) := by decide +kernel
theorem dX6_item_27 : decode cX6_item 27 = .ok (.invokestatic 44, 3) := by decide +kernel
theorem dX6_item_30 : decode cX6_item 30 = .ok (.ifCond .eq 12, 3) := by decide +kernel
theorem dX6_item_33 : decode cX6_item 33 = .ok (.aload_n 0, 1) := by decide +kernel
theorem dX6_item_34 : decode cX6_item 34 = .ok (.iload_n 1, 1) := by decide +kernel
theorem dX6_item_35 : decode cX6_item 35 = .ok (.iload_n 2, 1) := by decide +kernel
theorem dX6_item_36 : decode cX6_item 36 = .ok (.invokevirtual 146, 3) := by decide +kernel
theorem dX6_item_39 : decode cX6_item 39 = .ok (.goto 8, 3) := by decide +kernel
theorem dX6_item_42 : decode cX6_item 42 = .ok (.aload_n 0, 1) := by decide +kernel
theorem dX6_item_43 : decode cX6_item 43 = .ok (.iconst 2, 1) := by decide +kernel
theorem dX6_item_44 : decode cX6_item 44 = .ok (.invokevirtual 97, 3) := by decide +kernel
theorem dX6_item_47 : decode cX6_item 47 = .ok (.ireturn, 1) := by decide +kernel
set_option maxRecDepth 20000 in
theorem ggX6_isAhead_X6_share : GoodIn wsX6_isAhead wsX6_share := goodIn_r _ [6, 7, 8, 9, 5, 10, 11, 12, 13, 14, 15, 16, 17, 18, 19, 20, 21, 22, 23, 24, 25, 26, 27] (by decide +kernel) (by decide +kernel)
set_option maxRecDepth 20000 in
theorem gX6_isAhead_X6_share : GoodIn wsX6_isAhead (wsV RX6 69 RX6 yX6_share wsX6_share) := goodIn_app (goodIn_of _ (by decide +kernel)) ggX6_isAhead_X6_share
theorem dX6_isAhead_0 : decode cX6_isAhead 0 = .ok (.iload_n 3, 1) := by decide +kernel
theorem dX6_isAhead_1 : decode cX6_isAhead 1 = .ok (.ifCond .eq 27, 3) := by decide +kernel
theorem dX6_isAhead_4 : decode cX6_isAhead 4 = .ok (.aload_n 0, 1) := by decide +kernel
theorem dX6_isAhead_5 : decode cX6_isAhead 5 = .ok (.aload_n 0, 1) := by decide +kernel
theorem dX6_isAhead_6 : decode cX6_isAhead 6 = .ok (.getfield 31, 3) := by decide +kernel
theorem dX6_isAhead_9 : decode cX6_isAhead 9 = .ok (.iload_n 2, 1) := by decide +kernel
theorem dX6_isAhead_10 : decode cX6_isAhead 10 = .ok (.iaload, 1) := by decide +kernel
theorem dX6_isAhead_11 : decode cX6_isAhead 11 = .ok (.invokevirtual 69, 3) := by decide +kernel
theorem dX6_isAhead_14 : decode cX6_isAhead 14 = .ok (.aload_n 0, 1) := by decide +kernel
theorem dX6_isAhead_15 : decode cX6_isAhead 15 = .ok (.aload_n 0, 1) := by decide +kernel
theorem dX6_isAhead_16 : decode cX6_isAhead 16 = .ok (.getfield 31, 3) := by decide +kernel
theorem dX6_isAhead_19 : decode cX6_isAhead 19 = .ok (.iload_n 1, 1) := by decide +kernel
theorem dX6_isAhead_20 : decode cX6_isAhead 20 = .ok (.iaload, 1) := by decide +kernel
theorem dX6_isAhead_21 : decode cX6_isAhead 21 = .ok (.invokevirtual 69, 3) := by decide +kernel
theorem dX6_isAhead_24 : decode cX6_isAhead 24 = .ok (.isub, 1) := by decide +kernel
theorem dX6_isAhead_25 : decode cX6_isAhead 25 = .ok (.goto 4, 3) := by decide +kernel
theorem dX6_isAhead_28 : decode cX6_isAhead 28 = .ok (.iconst 0, 1) := by decide +kernel
theorem dX6_isAhead_29 : decode cX6_isAhead 29 = .ok (.istore 4, 2) := by decide +kernel
theorem dX6_isAhead_31 : decode cX6_isAhead 31 = .ok (.iload 4, 2) := by decide +kernel
theorem dX6_isAhead_33 : decode cX6_isAhead 33 = .ok (.ifCond .eq 8, 3) := by decide +kernel
theorem dX6_isAhead_36 : decode cX6_isAhead 36 = .ok (.iload 4, 2) := by decide +kernel
theorem dX6_isAhead_38 : decode cX6_isAhead 38 = .ok (.goto 36, 3) := by decide +kernel
theorem dX6_isAhead_41 : decode cX6_isAhead 41 = .ok (.iload_n 3, 1) := by decide +kernel
theorem dX6_isAhead_42 : decode cX6_isAhead 42 = .ok (.ifCond .eq 19, 3) := by decide +kernel
theorem dX6_isAhead_45 : decode cX6_isAhead 45 = .ok (.aload_n 0, 1) := by decide +kernel
theorem dX6_isAhead_46 : decode cX6_isAhead 46 = .ok (.getfield 31, 3) := by decide +kernel
theorem dX6_isAhead_49 : decode cX6_isAhead 49 = .ok (.iload_n 2, 1) := by decide +kernel
theorem dX6_isAhead_50 : decode cX6_isAhead 50 = .ok (.iaload, 1) := by decide +kernel
theorem dX6_isAhead_51 : decode cX6_isAhead 51 = .ok (.aload_n 0, 1) := by decide +kernel
theorem dX6_isAhead_52 : decode cX6_isAhead 52 = .ok (.getfield 31, 3) := by decide +kernel
theorem dX6_isAhead_55 : decode cX6_isAhead 55 = .ok (.iload_n 1, 1) := by decide +kernel
theorem dX6_isAhead_56 : decode cX6_isAhead 56 = .ok (.iaload, 1) := by decide +kernel
theorem dX6_isAhead_57 : decode cX6_isAhead 57 = .ok (.isub, 1) := by decide +kernel
theorem dX6_isAhead_58 : decode cX6_isAhead 58 = .ok (.goto 16, 3) := by decide +kernel
theorem dX6_isAhead_61 : decode cX6_isAhead 61 = .ok (.aload_n 0, 1) := by decide +kernel
theorem dX6_isAhead_62 : decode cX6_isAhead 62 = .ok (.getfield 31, 3) := by decide +kernel
theorem dX6_isAhead_65 : decode cX6_isAhead 65 = .ok (.iload_n 1, 1) := by decide +kernel
theorem dX6_isAhead_66 : decode cX6_isAhead 66 = .ok (.iaload, 1) := by decide +kernel
theorem dX6_isAhead_67 : decode cX6_isAhead 67 = .ok (.aload_n 0, 1) := by decide +kernel
theorem dX6_isAhead_68 : decode cX6_isAhead 68 = .ok (.getfield 31, 3) := by decide +kernel
theorem dX6_isAhead_71 : decode cX6_isAhead 71 = .ok (.iload_n 2, 1) := by decide +kernel
theorem dX6_isAhead_72 : decode cX6_isAhead 72 = .ok (.iaload, 1) := by decide +kernel
theorem dX6_isAhead_73 : decode cX6_isAhead 73 = .ok (.isub, 1) := by decide +kernel
theorem dX6_isAhead_74 : decode cX6_isAhead 74 = .ok (.istore 4, 2) := by decide +kernel
theorem dX6_isAhead_76 : decode cX6_isAhead 76 = .ok (.iload 4, 2) := by decide +kernel
theorem dX6_isAhead_78 : decode cX6_isAhead 78 = .ok (.ifCond .lt 13, 3) := by decide +kernel
theorem dX6_isAhead_81 : decode cX6_isAhead 81 = .ok (.iload 4, 2) := by decide +kernel
theorem dX6_isAhead_83 : decode cX6_isAhead 83 = .ok (.ifCond .ne 12, 3) := by decide +kernel
theorem dX6_isAhead_86 : decode cX6_isAhead 86 = .ok (.iload_n 1, 1) := by decide +kernel
theorem dX6_isAhead_87 : decode cX6_isAhead 87 = .ok (.iload_n 2, 1) := by decide +kernel
theorem dX6_isAhead_88 : decode cX6_isAhead 88 = .ok (.if_icmp .ge 7, 3) := by decide +kernel
theorem dX6_isAhead_91 : decode cX6_isAhead 91 = .ok (.iconst 1, 1) := by decide +kernel
theorem dX6_isAhead_92 : decode cX6_isAhead 92 = .ok (.goto 4, 3) := by decide +kernel
theorem dX6_isAhead_95 : decode cX6_isAhead 95 = .ok (.iconst 0, 1) := by decide +kernel
theorem dX6_isAhead_96 : decode cX6_isAhead 96 = .ok (.ireturn, 1) := by decide +kernel
set_option maxRecDepth 20000 in
theorem ggX6_pairAt_X6_isAhead : GoodIn wsX6_pairAt wsX6_isAhead := goodIn_r _ [7, 2, 8, 9, 10, 6, 11, 1, 12, 13, 14, 15, 16, 17, 18, 19, 20, 21, 22, 23, 24, 25, 26, 27, 28, 29, 30, 31] (by decide +kernel) (by decide +kernel)
set_option maxRecDepth 20000 in
theorem gX6_pairAt_X6_isAhead : GoodIn wsX6_pairAt (wsV RX6 149 RX6 yX6_isAhead wsX6_isAhead) := goodIn_app (goodIn_of _ (by decide +kernel)) ggX6_pairAt_X6_isAhead
theorem dX6_pairAt_0 : decode cX6_pairAt 0 = .ok (.iconst 0, 1) := by decide +kernel
theorem dX6_pairAt_1 : decode cX6_pairAt 1 = .ok (.istore_n 3, 1) := by decide +kernel
theorem dX6_pairAt_2 : decode cX6_pairAt 2 = .ok (.iload_n 3, 1) := by decide +kernel
theorem dX6_pairAt_3 : decode cX6_pairAt 3 = .ok (.aload_n 0, 1) := by decide +kernel
theorem dX6_pairAt_4 : decode cX6_pairAt 4 = .ok (.getfield 7, 3) := by decide +kernel
theorem dX6_pairAt_7 : decode cX6_pairAt 7 = .ok (.bipush 7, 2) := by decide +kernel
theorem dX6_pairAt_9 : decode cX6_pairAt 9 = .ok (.iaload, 1) := by decide +kernel
theorem dX6_pairAt_10 : decode cX6_pairAt 10 = .ok (.if_icmp .ge 99, 3) := by decide +kernel
theorem dX6_pairAt_13 : decode cX6_pairAt 13 = .ok (.iconst 0, 1) := by decide +kernel
theorem dX6_pairAt_14 : decode cX6_pairAt 14 = .ok (.istore 4, 2) := by decide +kernel
theorem dX6_pairAt_16 : decode cX6_pairAt 16 = .ok (.iconst 0, 1) := by decide +kernel
theorem dX6_pairAt_17 : decode cX6_pairAt 17 = .ok (.istore 5, 2) := by decide +kernel
theorem dX6_pairAt_19 : decode cX6_pairAt 19 = .ok (.iload 5, 2) := by decide +kernel
theorem dX6_pairAt_21 : decode cX6_pairAt 21 = .ok (.aload_n 0, 1) := by decide +kernel
theorem dX6_pairAt_22 : decode cX6_pairAt 22 = .ok (.getfield 7, 3) := by decide +kernel
theorem dX6_pairAt_25 : decode cX6_pairAt 25 = .ok (.bipush 7, 2) := by decide +kernel
theorem dX6_pairAt_27 : decode cX6_pairAt 27 = .ok (.iaload, 1) := by decide +kernel
theorem dX6_pairAt_28 : decode cX6_pairAt 28 = .ok (.if_icmp .ge 57, 3) := by decide +kernel
theorem dX6_pairAt_31 : decode cX6_pairAt 31 = .ok (.aload_n 0, 1) := by decide +kernel
theorem dX6_pairAt_32 : decode cX6_pairAt 32 = .ok (.getfield 31, 3) := by decide +kernel
theorem dX6_pairAt_35 : decode cX6_pairAt 35 = .ok (.iload_n 3, 1) := by decide +kernel
theorem dX6_pairAt_36 : decode cX6_pairAt 36 = .ok (.iaload, 1) := by decide +kernel
theorem dX6_pairAt_37 : decode cX6_pairAt 37 = .ok (.iconst (-1), 1) := by decide +kernel
theorem dX6_pairAt_38 : decode cX6_pairAt 38 = .ok (.if_icmp .eq 47, 3) := by decide +kernel
theorem dX6_pairAt_41 : decode cX6_pairAt 41 = .ok (.iload 4, 2) := by decide +kernel
theorem dX6_pairAt_43 : decode cX6_pairAt 43 = .ok (.iload 5, 2) := by decide +kernel
theorem dX6_pairAt_45 : decode cX6_pairAt 45 = .ok (.iload_n 3, 1) := by decide +kernel
theorem dX6_pairAt_46 : decode cX6_pairAt 46 = .ok (.if_icmp .eq 29, 3) := by decide +kernel
theorem dX6_pairAt_49 : decode cX6_pairAt 49 = .ok (.aload_n 0, 1) := by decide +kernel
theorem dX6_pairAt_50 : decode cX6_pairAt 50 = .ok (.getfield 31, 3) := by decide +kernel
theorem dX6_pairAt_53 : decode cX6_pairAt 53 = .ok (.iload 5, 2) := by decide +kernel
theorem dX6_pairAt_55 : decode cX6_pairAt 55 = .ok (.iaload, 1) := by decide +kernel
theorem dX6_pairAt_56 : decode cX6_pairAt 56 = .ok (.iconst (-1), 1) := by decide +kernel
theorem dX6_pairAt_57 : decode cX6_pairAt 57 = .ok (.if_icmp .eq 18, 3) := by decide +kernel
theorem dX6_pairAt_60 : decode cX6_pairAt 60 = .ok (.aload_n 0, 1) := by decide +kernel
theorem dX6_pairAt_61 : decode cX6_pairAt 61 = .ok (.iload 5, 2) := by decide +kernel
theorem dX6_pairAt_63 : decode cX6_pairAt 63 = .ok (.iload_n 3, 1) := by decide +kernel
theorem dX6_pairAt_64 : decode cX6_pairAt 64 = .ok (.iload_n 2, 1) := by decide +kernel
theorem dX6_pairAt_65 : decode cX6_pairAt 65 = .ok (.invokevirtual 149, 3) := by decide +kernel
theorem dX6_pairAt_68 : decode cX6_pairAt 68 = .ok (.ifCond .eq 7, 3) := by decide +kernel
theorem dX6_pairAt_71 : decode cX6_pairAt 71 = .ok (.iconst 1, 1) := by decide +kernel
theorem dX6_pairAt_72 : decode cX6_pairAt 72 = .ok (.goto 4, 3) := by decide +kernel
theorem dX6_pairAt_75 : decode cX6_pairAt 75 = .ok (.iconst 0, 1) := by decide +kernel
theorem dX6_pairAt_76 : decode cX6_pairAt 76 = .ok (.iadd, 1) := by decide +kernel
theorem dX6_pairAt_77 : decode cX6_pairAt 77 = .ok (.istore 4, 2) := by decide +kernel
theorem dX6_pairAt_79 : decode cX6_pairAt 79 = .ok (.iinc 5 1, 3) := by decide +kernel
theorem dX6_pairAt_82 : decode cX6_pairAt 82 = .ok (.goto (-63), 3) := by decide +kernel
theorem dX6_pairAt_85 : decode cX6_pairAt 85 = .ok (.aload_n 0, 1) := by decide +kernel
theorem dX6_pairAt_86 : decode cX6_pairAt 86 = .ok (.getfield 31, 3) := by decide +kernel
theorem dX6_pairAt_89 : decode cX6_pairAt 89 = .ok (.iload_n 3, 1) := by decide +kernel
theorem dX6_pairAt_90 : decode cX6_pairAt 90 = .ok (.iaload, 1) := by decide +kernel
theorem dX6_pairAt_91 : decode cX6_pairAt 91 = .ok (.iconst (-1), 1) := by decide +kernel
theorem dX6_pairAt_92 : decode cX6_pairAt 92 = .ok (.if_icmp .eq 11, 3) := by decide +kernel
theorem dX6_pairAt_95 : decode cX6_pairAt 95 = .ok (.iload 4, 2) := by decide +kernel
theorem dX6_pairAt_97 : decode cX6_pairAt 97 = .ok (.iload_n 1, 1) := by decide +kernel
theorem dX6_pairAt_98 : decode cX6_pairAt 98 = .ok (.if_icmp .ne 5, 3) := by decide +kernel
theorem dX6_pairAt_101 : decode cX6_pairAt 101 = .ok (.iload_n 3, 1) := by decide +kernel
theorem dX6_pairAt_102 : decode cX6_pairAt 102 = .ok (.ireturn, 1) := by decide +kernel
theorem dX6_pairAt_103 : decode cX6_pairAt 103 = .ok (.iinc 3 1, 3) := by decide +kernel
theorem dX6_pairAt_106 : decode cX6_pairAt 106 = .ok (.goto (-104), 3) := by decide +kernel
theorem dX6_pairAt_109 : decode cX6_pairAt 109 = .ok (.iconst (-1), 1) := by decide +kernel
theorem dX6_pairAt_110 : decode cX6_pairAt 110 = .ok (.ireturn, 1) := by decide +kernel
set_option maxRecDepth 20000 in
theorem ggX6_byArea_X6_lays : GoodIn wsX6_byArea wsX6_lays := goodIn_r _ [6, 7, 8, 9, 10, 11, 12, 13, 14, 5, 15, 16, 17, 18, 19, 20, 21, 22, 23, 24, 25, 26, 27, 28, 29, 30, 31, 32, 33, 34, 35, 36, 37, 38, 39, 40, 41, 42, 43, 44, 45, 46, 47, 48, 49, 50, 51, 52, 53, 54, 71, 72, 73, 74, 75, 76, 77, 78, 79, 80, 81, 82, 83, 84, 85, 86, 87] (by decide +kernel) (by decide +kernel)
set_option maxRecDepth 20000 in
theorem gX6_byArea_X6_lays : GoodIn wsX6_byArea (wsV RX6 91 RX6 yX6_lays wsX6_lays) := goodIn_app (goodIn_of _ (by decide +kernel)) ggX6_byArea_X6_lays
set_option maxRecDepth 20000 in
theorem ggX6_byArea_X6_fails : GoodIn wsX6_byArea wsX6_fails := goodIn_r _ [58, 1, 71, 72, 73, 74, 75, 76, 77, 78, 79, 80, 81, 82, 83, 84, 85, 86, 87] (by decide +kernel) (by decide +kernel)
set_option maxRecDepth 20000 in
theorem gX6_byArea_X6_fails : GoodIn wsX6_byArea (wsV RX6 97 RX6 yX6_fails wsX6_fails) := goodIn_app (goodIn_of _ (by decide +kernel)) ggX6_byArea_X6_fails
set_option maxRecDepth 20000 in
theorem ggX6_byArea_X6_pairAt : GoodIn wsX6_byArea wsX6_pairAt := goodIn_r _ [62, 7, 10, 63, 64, 65, 5, 66, 67, 68, 69, 70, 42, 43, 44, 71, 72, 73, 74, 75, 76, 77, 78, 79, 80, 81, 82, 83, 84, 85, 86, 87] (by decide +kernel) (by decide +kernel)
set_option maxRecDepth 20000 in
theorem gX6_byArea_X6_pairAt : GoodIn wsX6_byArea (wsV RX6 153 RX6 yX6_pairAt wsX6_pairAt) := goodIn_app (goodIn_of _ (by decide +kernel)) ggX6_byArea_X6_pairAt
theorem dX6_byArea_0 : decode cX6_byArea 0 = .ok (.aload_n 0, 1) := by decide +kernel
theorem dX6_byArea_1 : decode cX6_byArea 1 = .ok (.iconst 0, 1) := by decide +kernel
theorem dX6_byArea_2 : decode cX6_byArea 2 = .ok (.putfield 40, 3) := by decide +kernel
theorem dX6_byArea_5 : decode cX6_byArea 5 = .ok (.aload_n 0, 1) := by decide +kernel
theorem dX6_byArea_6 : decode cX6_byArea 6 = .ok (.invokevirtual 91, 3) := by decide +kernel
theorem dX6_byArea_9 : decode cX6_byArea 9 = .ok (.iload_n 1, 1) := by decide +kernel
theorem dX6_byArea_10 : decode cX6_byArea 10 = .ok (.ifCond .ge 11, 3) := by decide +kernel
theorem dX6_byArea_13 : decode cX6_byArea 13 = .ok (.aload_n 0, 1) := by decide +kernel
theorem dX6_byArea_14 : decode cX6_byArea 14 = .ok (.iconst 1, 1) := by decide +kernel
theorem dX6_byArea_15 : decode cX6_byArea 15 = .ok (.invokevirtual 97, 3) := by decide +kernel
theorem dX6_byArea_18 : decode cX6_byArea 18 = .ok (.goto 9, 3) := by decide +kernel
theorem dX6_byArea_21 : decode cX6_byArea 21 = .ok (.aload_n 0, 1) := by decide +kernel
theorem dX6_byArea_22 : decode cX6_byArea 22 = .ok (.iload_n 1, 1) := by decide +kernel
theorem dX6_byArea_23 : decode cX6_byArea 23 = .ok (.iconst 0, 1) := by decide +kernel
theorem dX6_byArea_24 : decode cX6_byArea 24 = .ok (.invokevirtual 153, 3) := by decide +kernel
theorem dX6_byArea_27 : decode cX6_byArea 27 = .ok (.ireturn, 1) := by decide +kernel
set_option maxRecDepth 20000 in
theorem ggX6_byFault_X6_lays : GoodIn wsX6_byFault wsX6_lays := goodIn_r _ [6, 7, 8, 9, 10, 11, 12, 13, 14, 5, 15, 16, 17, 18, 19, 20, 21, 22, 23, 24, 25, 26, 27, 28, 29, 30, 31, 32, 33, 34, 35, 36, 37, 38, 39, 40, 41, 42, 43, 44, 45, 46, 47, 48, 49, 50, 51, 52, 53, 54, 71, 72, 73, 74, 75, 76, 77, 78, 79, 80, 81, 82, 83, 84, 85, 86, 87] (by decide +kernel) (by decide +kernel)
set_option maxRecDepth 20000 in
theorem gX6_byFault_X6_lays : GoodIn wsX6_byFault (wsV RX6 91 RX6 yX6_lays wsX6_lays) := goodIn_app (goodIn_of _ (by decide +kernel)) ggX6_byFault_X6_lays
set_option maxRecDepth 20000 in
theorem ggX6_byFault_X6_fails : GoodIn wsX6_byFault wsX6_fails := goodIn_r _ [58, 1, 71, 72, 73, 74, 75, 76, 77, 78, 79, 80, 81, 82, 83, 84, 85, 86, 87] (by decide +kernel) (by decide +kernel)
set_option maxRecDepth 20000 in
theorem gX6_byFault_X6_fails : GoodIn wsX6_byFault (wsV RX6 97 RX6 yX6_fails wsX6_fails) := goodIn_app (goodIn_of _ (by decide +kernel)) ggX6_byFault_X6_fails
set_option maxRecDepth 20000 in
theorem ggX6_byFault_X6_pairAt : GoodIn wsX6_byFault wsX6_pairAt := goodIn_r _ [62, 7, 10, 63, 64, 65, 5, 66, 67, 68, 69, 70, 42, 43, 44, 71, 72, 73, 74, 75, 76, 77, 78, 79, 80, 81, 82, 83, 84, 85, 86, 87] (by decide +kernel) (by decide +kernel)
set_option maxRecDepth 20000 in
theorem gX6_byFault_X6_pairAt : GoodIn wsX6_byFault (wsV RX6 153 RX6 yX6_pairAt wsX6_pairAt) := goodIn_app (goodIn_of _ (by decide +kernel)) ggX6_byFault_X6_pairAt
theorem dX6_byFault_0 : decode cX6_byFault 0 = .ok (.aload_n 0, 1) := by decide +kernel
theorem dX6_byFault_1 : decode cX6_byFault 1 = .ok (.iconst 0, 1) := by decide +kernel
theorem dX6_byFault_2 : decode cX6_byFault 2 = .ok (.putfield 40, 3) := by decide +kernel
theorem dX6_byFault_5 : decode cX6_byFault 5 = .ok (.aload_n 0, 1) := by decide +kernel
theorem dX6_byFault_6 : decode cX6_byFault 6 = .ok (.invokevirtual 91, 3) := by decide +kernel
theorem dX6_byFault_9 : decode cX6_byFault 9 = .ok (.iload_n 1, 1) := by decide +kernel
theorem dX6_byFault_10 : decode cX6_byFault 10 = .ok (.ifCond .ge 11, 3) := by decide +kernel
theorem dX6_byFault_13 : decode cX6_byFault 13 = .ok (.aload_n 0, 1) := by decide +kernel
theorem dX6_byFault_14 : decode cX6_byFault 14 = .ok (.iconst 1, 1) := by decide +kernel
theorem dX6_byFault_15 : decode cX6_byFault 15 = .ok (.invokevirtual 97, 3) := by decide +kernel
theorem dX6_byFault_18 : decode cX6_byFault 18 = .ok (.goto 9, 3) := by decide +kernel
theorem dX6_byFault_21 : decode cX6_byFault 21 = .ok (.aload_n 0, 1) := by decide +kernel
theorem dX6_byFault_22 : decode cX6_byFault 22 = .ok (.iload_n 1, 1) := by decide +kernel
theorem dX6_byFault_23 : decode cX6_byFault 23 = .ok (.iconst 1, 1) := by decide +kernel
theorem dX6_byFault_24 : decode cX6_byFault 24 = .ok (.invokevirtual 153, 3) := by decide +kernel
theorem dX6_byFault_27 : decode cX6_byFault 27 = .ok (.ireturn, 1) := by decide +kernel
set_option maxRecDepth 20000 in
theorem ggX6_pairs_X6_lays : GoodIn wsX6_pairs wsX6_lays := goodIn_r _ [7, 1, 8, 9, 2, 10, 11, 12, 13, 6, 14, 15, 16, 17, 18, 19, 20, 21, 22, 23, 24, 25, 26, 27, 28, 29, 30, 31, 32, 33, 34, 35, 36, 37, 38, 39, 40, 41, 42, 43, 44, 45, 46, 47, 48, 49, 50, 51, 52, 53, 54, 55, 56, 57, 58, 59, 60, 61, 62, 63, 64, 65, 66, 67, 68, 69, 70] (by decide +kernel) (by decide +kernel)
set_option maxRecDepth 20000 in
theorem gX6_pairs_X6_lays : GoodIn wsX6_pairs (wsV RX6 91 RX6 yX6_lays wsX6_lays) := goodIn_app (goodIn_of _ (by decide +kernel)) ggX6_pairs_X6_lays
theorem dX6_pairs_0 : decode cX6_pairs 0 = .ok (.aload_n 0, 1) := by decide +kernel
theorem dX6_pairs_1 : decode cX6_pairs 1 = .ok (.invokevirtual 91, 3) := by decide +kernel
theorem dX6_pairs_4 : decode cX6_pairs 4 = .ok (.iconst 0, 1) := by decide +kernel
theorem dX6_pairs_5 : decode cX6_pairs 5 = .ok (.istore_n 1, 1) := by decide +kernel
theorem dX6_pairs_6 : decode cX6_pairs 6 = .ok (.iconst 0, 1) := by decide +kernel
theorem dX6_pairs_7 : decode cX6_pairs 7 = .ok (.istore_n 2, 1) := by decide +kernel
theorem dX6_pairs_8 : decode cX6_pairs 8 = .ok (.iload_n 2, 1) := by decide +kernel
theorem dX6_pairs_9 : decode cX6_pairs 9 = .ok (.aload_n 0, 1) := by decide +kernel
theorem dX6_pairs_10 : decode cX6_pairs 10 = .ok (.getfield 7, 3) := by decide +kernel
theorem dX6_pairs_13 : decode cX6_pairs 13 = .ok (.bipush 7, 2) := by decide +kernel
theorem dX6_pairs_15 : decode cX6_pairs 15 = .ok (.iaload, 1) := by decide +kernel
theorem dX6_pairs_16 : decode cX6_pairs 16 = .ok (.if_icmp .ge 27, 3) := by decide +kernel
theorem dX6_pairs_19 : decode cX6_pairs 19 = .ok (.iload_n 1, 1) := by decide +kernel
theorem dX6_pairs_20 : decode cX6_pairs 20 = .ok (.aload_n 0, 1) := by decide +kernel
theorem dX6_pairs_21 : decode cX6_pairs 21 = .ok (.getfield 31, 3) := by decide +kernel
theorem dX6_pairs_24 : decode cX6_pairs 24 = .ok (.iload_n 2, 1) := by decide +kernel
theorem dX6_pairs_25 : decode cX6_pairs 25 = .ok (.iaload, 1) := by decide +kernel
theorem dX6_pairs_26 : decode cX6_pairs 26 = .ok (.iconst (-1), 1) := by decide +kernel
theorem dX6_pairs_27 : decode cX6_pairs 27 = .ok (.if_icmp .eq 7, 3) := by decide +kernel
theorem dX6_pairs_30 : decode cX6_pairs 30 = .ok (.iconst 1, 1) := by decide +kernel
theorem dX6_pairs_31 : decode cX6_pairs 31 = .ok (.goto 4, 3) := by decide +kernel
theorem dX6_pairs_34 : decode cX6_pairs 34 = .ok (.iconst 0, 1) := by decide +kernel
theorem dX6_pairs_35 : decode cX6_pairs 35 = .ok (.iadd, 1) := by decide +kernel
theorem dX6_pairs_36 : decode cX6_pairs 36 = .ok (.istore_n 1, 1) := by decide +kernel
theorem dX6_pairs_37 : decode cX6_pairs 37 = .ok (.iinc 2 1, 3) := by decide +kernel
theorem dX6_pairs_40 : decode cX6_pairs 40 = .ok (.goto (-32), 3) := by decide +kernel
theorem dX6_pairs_43 : decode cX6_pairs 43 = .ok (.iload_n 1, 1) := by decide +kernel
theorem dX6_pairs_44 : decode cX6_pairs 44 = .ok (.ireturn, 1) := by decide +kernel
set_option maxRecDepth 20000 in
theorem ggX6_letters_X6_isLetter : GoodIn wsX6_letters wsX6_isLetter := goodIn_r _ [6, 1, 7, 8, 9, 5, 10, 11, 12, 13, 14, 15, 16, 17, 18, 19, 20, 21, 22, 23, 24, 25, 26, 27, 28, 29, 30] (by decide +kernel) (by decide +kernel)
set_option maxRecDepth 20000 in
theorem gX6_letters_X6_isLetter : GoodIn wsX6_letters (wsV RX6 76 RX6 yX6_isLetter wsX6_isLetter) := goodIn_app (goodIn_of _ (by decide +kernel)) ggX6_letters_X6_isLetter
theorem dX6_letters_0 : decode cX6_letters 0 = .ok (.iconst 0, 1) := by decide +kernel
theorem dX6_letters_1 : decode cX6_letters 1 = .ok (.istore_n 1, 1) := by decide +kernel
theorem dX6_letters_2 : decode cX6_letters 2 = .ok (.iconst 0, 1) := by decide +kernel
theorem dX6_letters_3 : decode cX6_letters 3 = .ok (.istore_n 2, 1) := by decide +kernel
theorem dX6_letters_4 : decode cX6_letters 4 = .ok (.iload_n 2, 1) := by decide +kernel
theorem dX6_letters_5 : decode cX6_letters 5 = .ok (.aload_n 0, 1) := by decide +kernel
theorem dX6_letters_6 : decode cX6_letters 6 = .ok (.getfield 7, 3) := by decide +kernel
theorem dX6_letters_9 : decode cX6_letters 9 = .ok (.bipush 7, 2) := by decide +kernel
theorem dX6_letters_11 : decode cX6_letters 11 = .ok (.iaload, 1) := by decide +kernel
theorem dX6_letters_12 : decode cX6_letters 12 = .ok (.if_icmp .ge 25, 3) := by decide +kernel
theorem dX6_letters_15 : decode cX6_letters 15 = .ok (.iload_n 1, 1) := by decide +kernel
theorem dX6_letters_16 : decode cX6_letters 16 = .ok (.aload_n 0, 1) := by decide +kernel
theorem dX6_letters_17 : decode cX6_letters 17 = .ok (.iload_n 2, 1) := by decide +kernel
theorem dX6_letters_18 : decode cX6_letters 18 = .ok (.invokevirtual 76, 3) := by decide +kernel
theorem dX6_letters_21 : decode cX6_letters 21 = .ok (.ifCond .eq 7, 3) := by decide +kernel
theorem dX6_letters_24 : decode cX6_letters 24 = .ok (.iconst 1, 1) := by decide +kernel
theorem dX6_letters_25 : decode cX6_letters 25 = .ok (.goto 4, 3) := by decide +kernel
theorem dX6_letters_28 : decode cX6_letters 28 = .ok (.iconst 0, 1) := by decide +kernel
theorem dX6_letters_29 : decode cX6_letters 29 = .ok (.iadd, 1) := by decide +kernel
theorem dX6_letters_30 : decode cX6_letters 30 = .ok (.istore_n 1, 1) := by decide +kernel
theorem dX6_letters_31 : decode cX6_letters 31 = .ok (.iinc 2 1, 3) := by decide +kernel
theorem dX6_letters_34 : decode cX6_letters 34 = .ok (.goto (-30), 3) := by decide +kernel
theorem dX6_letters_37 : decode cX6_letters 37 = .ok (.iload_n 1, 1) := by decide +kernel
theorem dX6_letters_38 : decode cX6_letters 38 = .ok (.ireturn, 1) := by decide +kernel
set_option maxRecDepth 20000 in
theorem ggX6_extremeArea_X6_lays : GoodIn wsX6_extremeArea wsX6_lays := goodIn_r _ [7, 1, 8, 9, 2, 10, 11, 12, 13, 6, 14, 15, 16, 17, 18, 19, 20, 21, 22, 23, 24, 25, 26, 27, 28, 29, 30, 31, 32, 33, 34, 35, 36, 37, 38, 39, 40, 41, 42, 43, 44, 45, 46, 47, 48, 49, 50, 51, 52, 53, 54, 55, 56, 57, 58, 59, 60, 61, 62, 63, 64, 65, 66, 67, 68, 69, 70] (by decide +kernel) (by decide +kernel)
set_option maxRecDepth 20000 in
theorem gX6_extremeArea_X6_lays : GoodIn wsX6_extremeArea (wsV RX6 91 RX6 yX6_lays wsX6_lays) := goodIn_app (goodIn_of _ (by decide +kernel)) ggX6_extremeArea_X6_lays
theorem dX6_extremeArea_0 : decode cX6_extremeArea 0 = .ok (.aload_n 0, 1) := by decide +kernel
theorem dX6_extremeArea_1 : decode cX6_extremeArea 1 = .ok (.invokevirtual 91, 3) := by decide +kernel
theorem dX6_extremeArea_4 : decode cX6_extremeArea 4 = .ok (.iconst (-1), 1) := by decide +kernel
theorem dX6_extremeArea_5 : decode cX6_extremeArea 5 = .ok (.istore_n 2, 1) := by decide +kernel
theorem dX6_extremeArea_6 : decode cX6_extremeArea 6 = .ok (.iconst 0, 1) := by decide +kernel
theorem dX6_extremeArea_7 : decode cX6_extremeArea 7 = .ok (.istore_n 3, 1) := by decide +kernel
theorem dX6_extremeArea_8 : decode cX6_extremeArea 8 = .ok (.iload_n 3, 1) := by decide +kernel
theorem dX6_extremeArea_9 : decode cX6_extremeArea 9 = .ok (.aload_n 0, 1) := by decide +kernel
theorem dX6_extremeArea_10 : decode cX6_extremeArea 10 = .ok (.getfield 7, 3) := by decide +kernel
theorem dX6_extremeArea_13 : decode cX6_extremeArea 13 = .ok (.bipush 7, 2) := by decide +kernel
theorem dX6_extremeArea_15 : decode cX6_extremeArea 15 = .ok (.iaload, 1) := by decide +kernel
theorem dX6_extremeArea_16 : decode cX6_extremeArea 16 = .ok (.if_icmp .ge 74, 3) := by decide +kernel
theorem dX6_extremeArea_19 : decode cX6_extremeArea 19 = .ok (.aload_n 0, 1) := by decide +kernel
theorem dX6_extremeArea_20 : decode cX6_extremeArea 20 = .ok (.getfield 31, 3) := by decide +kernel
theorem dX6_extremeArea_23 : decode cX6_extremeArea 23 = .ok (.iload_n 3, 1) := by decide +kernel
theorem dX6_extremeArea_24 : decode cX6_extremeArea 24 = .ok (.iaload, 1) := by decide +kernel
theorem dX6_extremeArea_25 : decode cX6_extremeArea 25 = .ok (.iconst (-1), 1) := by decide +kernel
theorem dX6_extremeArea_26 : decode cX6_extremeArea 26 = .ok (.if_icmp .eq 39, 3) := by decide +kernel
theorem dX6_extremeArea_29 : decode cX6_extremeArea 29 = .ok (.iload_n 2, 1) := by decide +kernel
theorem dX6_extremeArea_30 : decode cX6_extremeArea 30 = .ok (.iconst (-1), 1) := by decide +kernel
theorem dX6_extremeArea_31 : decode cX6_extremeArea 31 = .ok (.if_icmp .eq 30, 3) := by decide +kernel
theorem dX6_extremeArea_34 : decode cX6_extremeArea 34 = .ok (.iload_n 1, 1) := by decide +kernel
theorem dX6_extremeArea_35 : decode cX6_extremeArea 35 = .ok (.ifCond .eq 16, 3) := by decide +kernel
theorem dX6_extremeArea_38 : decode cX6_extremeArea 38 = .ok (.aload_n 0, 1) := by decide +kernel
theorem dX6_extremeArea_39 : decode cX6_extremeArea 39 = .ok (.getfield 31, 3) := by decide +kernel
theorem dX6_extremeArea_42 : decode cX6_extremeArea 42 = .ok (.iload_n 3, 1) := by decide +kernel
theorem dX6_extremeArea_43 : decode cX6_extremeArea 43 = .ok (.iaload, 1) := by decide +kernel
theorem dX6_extremeArea_44 : decode cX6_extremeArea 44 = .ok (.iload_n 2, 1) := by decide +kernel
theorem dX6_extremeArea_45 : decode cX6_extremeArea 45 = .ok (.if_icmp .le 20, 3) := by decide +kernel
theorem dX6_extremeArea_48 : decode cX6_extremeArea 48 = .ok (.goto 13, 3) := by decide +kernel
theorem dX6_extremeArea_51 : decode cX6_extremeArea 51 = .ok (.aload_n 0, 1) := by decide +kernel
theorem dX6_extremeArea_52 : decode cX6_extremeArea 52 = .ok (.getfield 31, 3) := by decide +kernel
theorem dX6_extremeArea_55 : decode cX6_extremeArea 55 = .ok (.iload_n 3, 1) := by decide +kernel
theorem dX6_extremeArea_56 : decode cX6_extremeArea 56 = .ok (.iaload, 1) := by decide +kernel
theorem dX6_extremeArea_57 : decode cX6_extremeArea 57 = .ok (.iload_n 2, 1) := by decide +kernel
theorem dX6_extremeArea_58 : decode cX6_extremeArea 58 = .ok (.if_icmp .ge 7, 3) := by decide +kernel
theorem dX6_extremeArea_61 : decode cX6_extremeArea 61 = .ok (.iconst 1, 1) := by decide +kernel
theorem dX6_extremeArea_62 : decode cX6_extremeArea 62 = .ok (.goto 4, 3) := by decide +kernel
theorem dX6_extremeArea_65 : decode cX6_extremeArea 65 = .ok (.iconst 0, 1) := by decide +kernel
theorem dX6_extremeArea_66 : decode cX6_extremeArea 66 = .ok (.istore 4, 2) := by decide +kernel
theorem dX6_extremeArea_68 : decode cX6_extremeArea 68 = .ok (.iload 4, 2) := by decide +kernel
theorem dX6_extremeArea_70 : decode cX6_extremeArea 70 = .ok (.ifCond .eq 12, 3) := by decide +kernel
theorem dX6_extremeArea_73 : decode cX6_extremeArea 73 = .ok (.aload_n 0, 1) := by decide +kernel
theorem dX6_extremeArea_74 : decode cX6_extremeArea 74 = .ok (.getfield 31, 3) := by decide +kernel
theorem dX6_extremeArea_77 : decode cX6_extremeArea 77 = .ok (.iload_n 3, 1) := by decide +kernel
theorem dX6_extremeArea_78 : decode cX6_extremeArea 78 = .ok (.iaload, 1) := by decide +kernel
theorem dX6_extremeArea_79 : decode cX6_extremeArea 79 = .ok (.goto 4, 3) := by decide +kernel
theorem dX6_extremeArea_82 : decode cX6_extremeArea 82 = .ok (.iload_n 2, 1) := by decide +kernel
theorem dX6_extremeArea_83 : decode cX6_extremeArea 83 = .ok (.istore_n 2, 1) := by decide +kernel
theorem dX6_extremeArea_84 : decode cX6_extremeArea 84 = .ok (.iinc 3 1, 3) := by decide +kernel
theorem dX6_extremeArea_87 : decode cX6_extremeArea 87 = .ok (.goto (-79), 3) := by decide +kernel
theorem dX6_extremeArea_90 : decode cX6_extremeArea 90 = .ok (.iload_n 2, 1) := by decide +kernel
theorem dX6_extremeArea_91 : decode cX6_extremeArea 91 = .ok (.ireturn, 1) := by decide +kernel
set_option maxRecDepth 20000 in
theorem ggX6_tellsCount_X6_width : GoodIn wsX6_tellsCount wsX6_width := goodIn_r _ [7, 1, 8, 9, 10, 11, 6, 12, 13, 14, 15, 16, 17, 18, 19, 20, 21, 22, 23, 24, 25, 26, 27, 28, 29, 30, 31, 32, 33, 34, 35, 36, 37, 38, 39, 40, 41, 42, 43, 44, 45, 46, 47, 48, 49, 50, 51, 52, 53, 54, 55, 56, 57, 58, 83, 84, 85, 86, 87, 88, 89, 90, 91, 92, 93, 94, 95, 96, 97, 98, 99] (by decide +kernel) (by decide +kernel)
set_option maxRecDepth 20000 in
theorem gX6_tellsCount_X6_width : GoodIn wsX6_tellsCount (wsV RX6 107 RX6 yX6_width wsX6_width) := goodIn_app (goodIn_of _ (by decide +kernel)) ggX6_tellsCount_X6_width
set_option maxRecDepth 20000 in
theorem ggX6_tellsCount_X6_letters : GoodIn wsX6_tellsCount wsX6_letters := goodIn_r _ [62, 1, 16, 17, 18, 6, 19, 20, 21, 22, 23, 24, 25, 26, 83, 84, 85, 86, 87, 88, 89, 90, 91, 92, 93, 94, 95, 96, 97, 98, 99] (by decide +kernel) (by decide +kernel)
set_option maxRecDepth 20000 in
theorem gX6_tellsCount_X6_letters : GoodIn wsX6_tellsCount (wsV RX6 157 RX6 yX6_letters wsX6_letters) := goodIn_app (goodIn_of _ (by decide +kernel)) ggX6_tellsCount_X6_letters
set_option maxRecDepth 20000 in
theorem ggX6_tellsCount_X6_pairs : GoodIn wsX6_tellsCount wsX6_pairs := goodIn_r _ [66, 1, 15, 9, 10, 11, 6, 12, 13, 14, 8, 16, 17, 18, 19, 20, 21, 22, 23, 24, 25, 26, 27, 28, 29, 30, 31, 32, 33, 34, 35, 36, 37, 38, 39, 40, 41, 42, 43, 44, 45, 46, 47, 48, 49, 50, 51, 52, 53, 54, 55, 56, 57, 58, 83, 84, 85, 86, 87, 88, 89, 90, 91, 92, 93, 94, 95, 96, 97, 98, 99] (by decide +kernel) (by decide +kernel)
set_option maxRecDepth 20000 in
theorem gX6_tellsCount_X6_pairs : GoodIn wsX6_tellsCount (wsV RX6 160 RX6 yX6_pairs wsX6_pairs) := goodIn_app (goodIn_of _ (by decide +kernel)) ggX6_tellsCount_X6_pairs
set_option maxRecDepth 20000 in
theorem ggX6_tellsCount_X6_faults : GoodIn wsX6_tellsCount wsX6_faults := goodIn_r _ [70, 1, 9, 10, 11, 6, 12, 13, 14, 15, 8, 16, 17, 18, 19, 20, 21, 22, 23, 24, 25, 26, 27, 28, 29, 30, 31, 32, 33, 34, 35, 36, 37, 38, 39, 40, 41, 42, 43, 44, 45, 46, 47, 48, 49, 50, 51, 52, 53, 54, 55, 56, 57, 58, 71, 72, 73, 74, 75, 76, 77, 78, 83, 84, 85, 86, 87, 88, 89, 90, 91, 92, 93, 94, 95, 96, 97, 98, 99] (by decide +kernel) (by decide +kernel)
set_option maxRecDepth 20000 in
theorem gX6_tellsCount_X6_faults : GoodIn wsX6_tellsCount (wsV RX6 163 RX6 yX6_faults wsX6_faults) := goodIn_app (goodIn_of _ (by decide +kernel)) ggX6_tellsCount_X6_faults
set_option maxRecDepth 20000 in
theorem ggX6_tellsCount_X6_extremeArea : GoodIn wsX6_tellsCount wsX6_extremeArea := goodIn_r _ [82, 1, 15, 9, 10, 11, 6, 12, 13, 14, 8, 16, 17, 18, 19, 20, 21, 22, 23, 24, 25, 26, 27, 28, 29, 30, 31, 32, 33, 34, 35, 36, 37, 38, 39, 40, 41, 42, 43, 44, 45, 46, 47, 48, 49, 50, 51, 52, 53, 54, 55, 56, 57, 58, 83, 84, 85, 86, 87, 88, 89, 90, 91, 92, 93, 94, 95, 96, 97, 98, 99] (by decide +kernel) (by decide +kernel)
set_option maxRecDepth 20000 in
theorem gX6_tellsCount_X6_extremeArea : GoodIn wsX6_tellsCount (wsV RX6 166 RX6 yX6_extremeArea wsX6_extremeArea) := goodIn_app (goodIn_of _ (by decide +kernel)) ggX6_tellsCount_X6_extremeArea
theorem dX6_tellsCount_0 : decode cX6_tellsCount 0 = .ok (.aload_n 0, 1) := by decide +kernel
theorem dX6_tellsCount_1 : decode cX6_tellsCount 1 = .ok (.invokevirtual 107, 3) := by decide +kernel
theorem dX6_tellsCount_4 : decode cX6_tellsCount 4 = .ok (.istore_n 2, 1) := by decide +kernel
theorem dX6_tellsCount_5 : decode cX6_tellsCount 5 = .ok (.iload_n 1, 1) := by decide +kernel
theorem dX6_tellsCount_6 : decode cX6_tellsCount 6 = .ok (.tableswitch 159 0 15 #[78, 86, 91, 96, 101, 103, 130, 138, 138, 159, 159, 159, 159, 159, 159, 154], 78) := by decide +kernel
theorem dX6_tellsCount_84 : decode cX6_tellsCount 84 = .ok (.aload_n 0, 1) := by decide +kernel
theorem dX6_tellsCount_85 : decode cX6_tellsCount 85 = .ok (.getfield 7, 3) := by decide +kernel
theorem dX6_tellsCount_88 : decode cX6_tellsCount 88 = .ok (.bipush 7, 2) := by decide +kernel
theorem dX6_tellsCount_90 : decode cX6_tellsCount 90 = .ok (.iaload, 1) := by decide +kernel
theorem dX6_tellsCount_91 : decode cX6_tellsCount 91 = .ok (.ireturn, 1) := by decide +kernel
theorem dX6_tellsCount_92 : decode cX6_tellsCount 92 = .ok (.aload_n 0, 1) := by decide +kernel
theorem dX6_tellsCount_93 : decode cX6_tellsCount 93 = .ok (.invokevirtual 157, 3) := by decide +kernel
theorem dX6_tellsCount_96 : decode cX6_tellsCount 96 = .ok (.ireturn, 1) := by decide +kernel
theorem dX6_tellsCount_97 : decode cX6_tellsCount 97 = .ok (.aload_n 0, 1) := by decide +kernel
theorem dX6_tellsCount_98 : decode cX6_tellsCount 98 = .ok (.invokevirtual 160, 3) := by decide +kernel
theorem dX6_tellsCount_101 : decode cX6_tellsCount 101 = .ok (.ireturn, 1) := by decide +kernel
theorem dX6_tellsCount_102 : decode cX6_tellsCount 102 = .ok (.aload_n 0, 1) := by decide +kernel
theorem dX6_tellsCount_103 : decode cX6_tellsCount 103 = .ok (.invokevirtual 163, 3) := by decide +kernel
theorem dX6_tellsCount_106 : decode cX6_tellsCount 106 = .ok (.ireturn, 1) := by decide +kernel
theorem dX6_tellsCount_107 : decode cX6_tellsCount 107 = .ok (.iload_n 2, 1) := by decide +kernel
theorem dX6_tellsCount_108 : decode cX6_tellsCount 108 = .ok (.ireturn, 1) := by decide +kernel
theorem dX6_tellsCount_109 : decode cX6_tellsCount 109 = .ok (.iload_n 2, 1) := by decide +kernel
theorem dX6_tellsCount_110 : decode cX6_tellsCount 110 = .ok (.aload_n 0, 1) := by decide +kernel
theorem dX6_tellsCount_111 : decode cX6_tellsCount 111 = .ok (.getfield 7, 3) := by decide +kernel
theorem dX6_tellsCount_114 : decode cX6_tellsCount 114 = .ok (.bipush 6, 2) := by decide +kernel
theorem dX6_tellsCount_116 : decode cX6_tellsCount 116 = .ok (.iaload, 1) := by decide +kernel
theorem dX6_tellsCount_117 : decode cX6_tellsCount 117 = .ok (.if_icmp .le 7, 3) := by decide +kernel
theorem dX6_tellsCount_120 : decode cX6_tellsCount 120 = .ok (.iconst (-1), 1) := by decide +kernel
theorem dX6_tellsCount_121 : decode cX6_tellsCount 121 = .ok (.goto 14, 3) := by decide +kernel
theorem dX6_tellsCount_124 : decode cX6_tellsCount 124 = .ok (.aload_n 0, 1) := by decide +kernel
theorem dX6_tellsCount_125 : decode cX6_tellsCount 125 = .ok (.getfield 7, 3) := by decide +kernel
theorem dX6_tellsCount_128 : decode cX6_tellsCount 128 = .ok (.bipush 6, 2) := by decide +kernel
theorem dX6_tellsCount_130 : decode cX6_tellsCount 130 = .ok (.iaload, 1) := by decide +kernel
theorem dX6_tellsCount_131 : decode cX6_tellsCount 131 = .ok (.iload_n 2, 1) := by decide +kernel
theorem dX6_tellsCount_132 : decode cX6_tellsCount 132 = .ok (.isub, 1) := by decide +kernel
theorem dX6_tellsCount_133 : decode cX6_tellsCount 133 = .ok (.iconst 2, 1) := by decide +kernel
theorem dX6_tellsCount_134 : decode cX6_tellsCount 134 = .ok (.idiv, 1) := by decide +kernel
theorem dX6_tellsCount_135 : decode cX6_tellsCount 135 = .ok (.ireturn, 1) := by decide +kernel
theorem dX6_tellsCount_136 : decode cX6_tellsCount 136 = .ok (.aload_n 0, 1) := by decide +kernel
theorem dX6_tellsCount_137 : decode cX6_tellsCount 137 = .ok (.getfield 7, 3) := by decide +kernel
theorem dX6_tellsCount_140 : decode cX6_tellsCount 140 = .ok (.bipush 6, 2) := by decide +kernel
theorem dX6_tellsCount_142 : decode cX6_tellsCount 142 = .ok (.iaload, 1) := by decide +kernel
theorem dX6_tellsCount_143 : decode cX6_tellsCount 143 = .ok (.ireturn, 1) := by decide +kernel
theorem dX6_tellsCount_144 : decode cX6_tellsCount 144 = .ok (.aload_n 0, 1) := by decide +kernel
theorem dX6_tellsCount_145 : decode cX6_tellsCount 145 = .ok (.iload_n 1, 1) := by decide +kernel
theorem dX6_tellsCount_146 : decode cX6_tellsCount 146 = .ok (.bipush 8, 2) := by decide +kernel
theorem dX6_tellsCount_148 : decode cX6_tellsCount 148 = .ok (.if_icmp .ne 7, 3) := by decide +kernel
theorem dX6_tellsCount_151 : decode cX6_tellsCount 151 = .ok (.iconst 1, 1) := by decide +kernel
theorem dX6_tellsCount_152 : decode cX6_tellsCount 152 = .ok (.goto 4, 3) := by decide +kernel
theorem dX6_tellsCount_155 : decode cX6_tellsCount 155 = .ok (.iconst 0, 1) := by decide +kernel
theorem dX6_tellsCount_156 : decode cX6_tellsCount 156 = .ok (.invokevirtual 166, 3) := by decide +kernel
theorem dX6_tellsCount_159 : decode cX6_tellsCount 159 = .ok (.ireturn, 1) := by decide +kernel
theorem dX6_tellsCount_160 : decode cX6_tellsCount 160 = .ok (.aload_n 0, 1) := by decide +kernel
theorem dX6_tellsCount_161 : decode cX6_tellsCount 161 = .ok (.getfield 52, 3) := by decide +kernel
theorem dX6_tellsCount_164 : decode cX6_tellsCount 164 = .ok (.ireturn, 1) := by decide +kernel
theorem dX6_tellsCount_165 : decode cX6_tellsCount 165 = .ok (.aload_n 0, 1) := by decide +kernel
theorem dX6_tellsCount_166 : decode cX6_tellsCount 166 = .ok (.getfield 7, 3) := by decide +kernel
theorem dX6_tellsCount_169 : decode cX6_tellsCount 169 = .ok (.iload_n 1, 1) := by decide +kernel
theorem dX6_tellsCount_170 : decode cX6_tellsCount 170 = .ok (.bipush 9, 2) := by decide +kernel
theorem dX6_tellsCount_172 : decode cX6_tellsCount 172 = .ok (.isub, 1) := by decide +kernel
theorem dX6_tellsCount_173 : decode cX6_tellsCount 173 = .ok (.iaload, 1) := by decide +kernel
theorem dX6_tellsCount_174 : decode cX6_tellsCount 174 = .ok (.ireturn, 1) := by decide +kernel
set_option maxRecDepth 20000 in
theorem ggX6_count_X6_in : GoodIn wsX6_count wsX6_in := goodIn_r _ [5] (by decide +kernel) (by decide +kernel)
set_option maxRecDepth 20000 in
theorem gX6_count_X6_in : GoodIn wsX6_count (va_wsS RX6 44 yX6_in wsX6_in) := goodIn_app (goodIn_of _ (by decide +kernel)) ggX6_count_X6_in
set_option maxRecDepth 20000 in
theorem ggX6_count_X6_tellsCount : GoodIn wsX6_count wsX6_tellsCount := goodIn_r _ [9, 10, 11, 12, 13, 14, 4, 15, 16, 17, 18, 19, 20, 21, 22, 23, 24, 25, 26, 27, 28, 29, 30, 31, 2, 3, 5, 32, 33, 34, 35, 36, 37, 38, 39, 40, 41, 42, 43, 44, 45, 46, 47, 48, 49, 50, 51, 52, 53, 54, 55, 56, 57, 58, 59, 60, 61, 62, 63, 64, 65, 66, 67, 68, 69, 70, 71, 72, 73, 74, 75, 76, 77, 78, 79, 80, 81, 82, 83, 84, 85, 86, 87, 92, 93, 94, 95, 96, 97, 98, 99, 100, 101, 102, 103, 104, 105, 106, 107, 108] (by decide +kernel) (by decide +kernel)
set_option maxRecDepth 20000 in
theorem gX6_count_X6_tellsCount : GoodIn wsX6_count (wsV RX6 170 RX6 yX6_tellsCount wsX6_tellsCount) := goodIn_app (goodIn_of _ (by decide +kernel)) ggX6_count_X6_tellsCount
set_option maxRecDepth 20000 in
theorem ggX6_count_X6_fails : GoodIn wsX6_count wsX6_fails := goodIn_r _ [91, 1, 92, 93, 94, 95, 96, 97, 98, 99, 100, 101, 102, 103, 104, 105, 106, 107, 108] (by decide +kernel) (by decide +kernel)
set_option maxRecDepth 20000 in
theorem gX6_count_X6_fails : GoodIn wsX6_count (wsV RX6 97 RX6 yX6_fails wsX6_fails) := goodIn_app (goodIn_of _ (by decide +kernel)) ggX6_count_X6_fails
theorem dX6_count_0 : decode cX6_count 0 = .ok (.aload_n 0, 1) := by decide +kernel
theorem dX6_count_1 : decode cX6_count 1 = .ok (.iconst 0, 1) := by decide +kernel
theorem dX6_count_2 : decode cX6_count 2 = .ok (.putfield 40, 3) := by decide +kernel
theorem dX6_count_5 : decode cX6_count 5 = .ok (.iload_n 1, 1) := by decide +kernel
theorem dX6_count_6 : decode cX6_count 6 = .ok (.iconst 0, 1) := by decide +kernel
theorem dX6_count_7 : decode cX6_count 7 = .ok (.bipush 15, 2) := by decide +kernel
theorem dX6_count_9 : decode cX6_count 9 = .ok (.invokestatic 44, 3) := by decide +kernel
theorem dX6_count_12 : decode cX6_count 12 = .ok (.ifCond .eq 11, 3) := by decide +kernel
theorem dX6_count_15 : decode cX6_count 15 = .ok (.aload_n 0, 1) := by decide +kernel
theorem dX6_count_16 : decode cX6_count 16 = .ok (.iload_n 1, 1) := by decide +kernel
theorem dX6_count_17 : decode cX6_count 17 = .ok (.invokevirtual 170, 3) := by decide +kernel
theorem dX6_count_20 : decode cX6_count 20 = .ok (.goto 8, 3) := by decide +kernel
theorem dX6_count_23 : decode cX6_count 23 = .ok (.aload_n 0, 1) := by decide +kernel
theorem dX6_count_24 : decode cX6_count 24 = .ok (.iconst 1, 1) := by decide +kernel
theorem dX6_count_25 : decode cX6_count 25 = .ok (.invokevirtual 97, 3) := by decide +kernel
theorem dX6_count_28 : decode cX6_count 28 = .ok (.ireturn, 1) := by decide +kernel
set_option maxRecDepth 20000 in
theorem ggX6_would_X6_width : GoodIn wsX6_would wsX6_width := goodIn_r _ [6, 1, 7, 8, 9, 10, 5, 11, 12, 13, 14, 15, 16, 17, 18, 19, 20, 21, 22, 23, 24, 25, 26, 27, 28, 29, 30, 31, 32, 33, 34, 35, 36, 37, 38, 39, 40, 41, 42, 43, 44, 45, 46, 47, 48, 49, 50, 51, 52, 53, 54, 55, 56, 57, 70, 71, 72, 73, 74, 75, 76, 77, 78, 79, 80, 81, 82, 83, 84, 85, 86] (by decide +kernel) (by decide +kernel)
set_option maxRecDepth 20000 in
theorem gX6_would_X6_width : GoodIn wsX6_would (wsV RX6 107 RX6 yX6_width wsX6_width) := goodIn_app (goodIn_of _ (by decide +kernel)) ggX6_would_X6_width
set_option maxRecDepth 20000 in
theorem ggX6_would_X6_faults : GoodIn wsX6_would wsX6_faults := goodIn_r _ [61, 1, 8, 9, 10, 5, 11, 12, 13, 14, 7, 15, 16, 17, 18, 19, 20, 21, 22, 23, 24, 25, 26, 27, 28, 29, 30, 31, 32, 33, 34, 35, 36, 37, 38, 39, 40, 41, 42, 43, 44, 45, 46, 47, 48, 49, 50, 51, 52, 53, 54, 55, 56, 57, 62, 63, 64, 65, 66, 67, 68, 69, 70, 71, 72, 73, 74, 75, 76, 77, 78, 79, 80, 81, 82, 83, 84, 85, 86] (by decide +kernel) (by decide +kernel)
set_option maxRecDepth 20000 in
theorem gX6_would_X6_faults : GoodIn wsX6_would (wsV RX6 163 RX6 yX6_faults wsX6_faults) := goodIn_app (goodIn_of _ (by decide +kernel)) ggX6_would_X6_faults
theorem dX6_would_0 : decode cX6_would 0 = .ok (.aload_n 0, 1) := by decide +kernel
theorem dX6_would_1 : decode cX6_would 1 = .ok (.getfield 7, 3) := by decide +kernel
theorem dX6_would_4 : decode cX6_would 4 = .ok (.iload_n 1, 1) := by decide +kernel
theorem dX6_would_5 : decode cX6_would 5 = .ok (.iaload, 1) := by decide +kernel
theorem dX6_would_6 : decode cX6_would 6 = .ok (.istore 4, 2) := by decide +kernel
theorem dX6_would_8 : decode cX6_would 8 = .ok (.aload_n 0, 1) := by decide +kernel
theorem dX6_would_9 : decode cX6_would 9 = .ok (.getfield 7, 3) := by decide +kernel
theorem dX6_would_12 : decode cX6_would 12 = .ok (.iload_n 1, 1) := by decide +kernel
theorem dX6_would_13 : decode cX6_would 13 = .ok (.iload_n 2, 1) := by decide +kernel
theorem dX6_would_14 : decode cX6_would 14 = .ok (.iastore, 1) := by decide +kernel
theorem dX6_would_15 : decode cX6_would 15 = .ok (.iload_n 3, 1) := by decide +kernel
theorem dX6_would_16 : decode cX6_would 16 = .ok (.ifCond .eq 10, 3) := by decide +kernel
theorem dX6_would_19 : decode cX6_would 19 = .ok (.aload_n 0, 1) := by decide +kernel
theorem dX6_would_20 : decode cX6_would 20 = .ok (.invokevirtual 107, 3) := by decide +kernel
theorem dX6_would_23 : decode cX6_would 23 = .ok (.goto 7, 3) := by decide +kernel
theorem dX6_would_26 : decode cX6_would 26 = .ok (.aload_n 0, 1) := by decide +kernel
theorem dX6_would_27 : decode cX6_would 27 = .ok (.invokevirtual 163, 3) := by decide +kernel
theorem dX6_would_30 : decode cX6_would 30 = .ok (.istore 5, 2) := by decide +kernel
theorem dX6_would_32 : decode cX6_would 32 = .ok (.aload_n 0, 1) := by decide +kernel
theorem dX6_would_33 : decode cX6_would 33 = .ok (.getfield 7, 3) := by decide +kernel
theorem dX6_would_36 : decode cX6_would 36 = .ok (.iload_n 1, 1) := by decide +kernel
theorem dX6_would_37 : decode cX6_would 37 = .ok (.iload 4, 2) := by decide +kernel
theorem dX6_would_39 : decode cX6_would 39 = .ok (.iastore, 1) := by decide +kernel
theorem dX6_would_40 : decode cX6_would 40 = .ok (.iload 5, 2) := by decide +kernel
theorem dX6_would_42 : decode cX6_would 42 = .ok (.ireturn, 1) := by decide +kernel
set_option maxRecDepth 20000 in
theorem ggX6_ifSet_X6_in : GoodIn wsX6_ifSet wsX6_in := goodIn_r _ [5] (by decide +kernel) (by decide +kernel)
set_option maxRecDepth 20000 in
theorem gX6_ifSet_X6_in : GoodIn wsX6_ifSet (va_wsS RX6 44 yX6_in wsX6_in) := goodIn_app (goodIn_of _ (by decide +kernel)) ggX6_ifSet_X6_in
set_option maxRecDepth 20000 in
theorem ggX6_ifSet_X6_fails : GoodIn wsX6_ifSet wsX6_fails := goodIn_r _ [9, 1, 85, 86, 87, 88, 89, 90, 91, 92, 93, 94, 95, 96, 97, 98, 99, 100, 101] (by decide +kernel) (by decide +kernel)
set_option maxRecDepth 20000 in
theorem gX6_ifSet_X6_fails : GoodIn wsX6_ifSet (wsV RX6 97 RX6 yX6_fails wsX6_fails) := goodIn_app (goodIn_of _ (by decide +kernel)) ggX6_ifSet_X6_fails
set_option maxRecDepth 20000 in
theorem ggX6_ifSet_X6_leastOf : GoodIn wsX6_ifSet wsX6_leastOf := goodIn_r _ [12] (by decide +kernel) (by decide +kernel)
set_option maxRecDepth 20000 in
theorem gX6_ifSet_X6_leastOf : GoodIn wsX6_ifSet (va_wsS RX6 111 yX6_leastOf wsX6_leastOf) := goodIn_app (goodIn_of _ (by decide +kernel)) ggX6_ifSet_X6_leastOf
set_option maxRecDepth 20000 in
theorem ggX6_ifSet_X6_mostOf : GoodIn wsX6_ifSet wsX6_mostOf := goodIn_r _ [15] (by decide +kernel) (by decide +kernel)
set_option maxRecDepth 20000 in
theorem gX6_ifSet_X6_mostOf : GoodIn wsX6_ifSet (va_wsS RX6 114 yX6_mostOf wsX6_mostOf) := goodIn_app (goodIn_of _ (by decide +kernel)) ggX6_ifSet_X6_mostOf
set_option maxRecDepth 20000 in
theorem ggX6_ifSet_X6_would : GoodIn wsX6_ifSet wsX6_would := goodIn_r _ [19, 20, 21, 22, 23, 4, 24, 25, 26, 27, 28, 29, 30, 31, 32, 33, 34, 35, 36, 37, 38, 39, 40, 2, 3, 5, 41, 42, 43, 44, 45, 46, 47, 48, 49, 50, 51, 52, 53, 54, 55, 56, 57, 58, 59, 60, 61, 62, 63, 64, 65, 66, 67, 68, 69, 70, 71, 72, 73, 74, 75, 76, 77, 78, 79, 80, 81, 82, 83, 84, 85, 86, 87, 88, 89, 90, 91, 92, 93, 94, 95, 96, 97, 98, 99, 100, 101] (by decide +kernel) (by decide +kernel)
set_option maxRecDepth 20000 in
theorem gX6_ifSet_X6_would : GoodIn wsX6_ifSet (wsV RX6 173 RX6 yX6_would wsX6_would) := goodIn_app (goodIn_of _ (by decide +kernel)) ggX6_ifSet_X6_would
theorem dX6_ifSet_0 : decode cX6_ifSet 0 = .ok (.aload_n 0, 1) := by decide +kernel
theorem dX6_ifSet_1 : decode cX6_ifSet 1 = .ok (.iconst 0, 1) := by decide +kernel
theorem dX6_ifSet_2 : decode cX6_ifSet 2 = .ok (.putfield 40, 3) := by decide +kernel
theorem dX6_ifSet_5 : decode cX6_ifSet 5 = .ok (.iload_n 1, 1) := by decide +kernel
theorem dX6_ifSet_6 : decode cX6_ifSet 6 = .ok (.iconst 0, 1) := by decide +kernel
theorem dX6_ifSet_7 : decode cX6_ifSet 7 = .ok (.iconst 5, 1) := by decide +kernel
theorem dX6_ifSet_8 : decode cX6_ifSet 8 = .ok (.invokestatic 44, 3) := by decide +kernel
theorem dX6_ifSet_11 : decode cX6_ifSet 11 = .ok (.ifCond .ne 9, 3) := by decide +kernel
theorem dX6_ifSet_14 : decode cX6_ifSet 14 = .ok (.aload_n 0, 1) := by decide +kernel
theorem dX6_ifSet_15 : decode cX6_ifSet 15 = .ok (.iconst 1, 1) := by decide +kernel
theorem dX6_ifSet_16 : decode cX6_ifSet 16 = .ok (.invokevirtual 97, 3) := by decide +kernel
theorem dX6_ifSet_19 : decode cX6_ifSet 19 = .ok (.ireturn, 1) := by decide +kernel
theorem dX6_ifSet_20 : decode cX6_ifSet 20 = .ok (.iload_n 2, 1) := by decide +kernel
theorem dX6_ifSet_21 : decode cX6_ifSet 21 = .ok (.iload_n 1, 1) := by decide +kernel
theorem dX6_ifSet_22 : decode cX6_ifSet 22 = .ok (.invokestatic 111, 3) := by decide +kernel
theorem dX6_ifSet_25 : decode cX6_ifSet 25 = .ok (.iload_n 1, 1) := by decide +kernel
theorem dX6_ifSet_26 : decode cX6_ifSet 26 = .ok (.invokestatic 114, 3) := by decide +kernel
theorem dX6_ifSet_29 : decode cX6_ifSet 29 = .ok (.invokestatic 44, 3) := by decide +kernel
theorem dX6_ifSet_32 : decode cX6_ifSet 32 = .ok (.ifCond .eq 16, 3) := by decide +kernel
theorem dX6_ifSet_35 : decode cX6_ifSet 35 = .ok (.iload_n 3, 1) := by decide +kernel
theorem dX6_ifSet_36 : decode cX6_ifSet 36 = .ok (.iconst 0, 1) := by decide +kernel
theorem dX6_ifSet_37 : decode cX6_ifSet 37 = .ok (.iconst 1, 1) := by decide +kernel
theorem dX6_ifSet_38 : decode cX6_ifSet 38 = .ok (.invokestatic 44, 3) := by decide +kernel
theorem dX6_ifSet_41 : decode cX6_ifSet 41 = .ok (.ifCond .eq 7, 3) := by decide +kernel
theorem dX6_ifSet_44 : decode cX6_ifSet 44 = .ok (.iconst 1, 1) := by decide +kernel
theorem dX6_ifSet_45 : decode cX6_ifSet 45 = .ok (.goto 4, 3) := by decide +kernel
theorem dX6_ifSet_48 : decode cX6_ifSet 48 = .ok (.iconst 0, 1) := by decide +kernel
theorem dX6_ifSet_49 : decode cX6_ifSet 49 = .ok (.istore 4, 2) := by decide +kernel
theorem dX6_ifSet_51 : decode cX6_ifSet 51 = .ok (.iload 4, 2) := by decide +kernel
theorem dX6_ifSet_53 : decode cX6_ifSet 53 = .ok (.ifCond .eq 22, 3) := by decide +kernel
theorem dX6_ifSet_56 : decode cX6_ifSet 56 = .ok (.aload_n 0, 1) := by decide +kernel
theorem dX6_ifSet_57 : decode cX6_ifSet 57 = .ok (.iload_n 1, 1) := by decide +kernel
theorem dX6_ifSet_58 : decode cX6_ifSet 58 = .ok (.iload_n 2, 1) := by decide +kernel
theorem dX6_ifSet_59 : decode cX6_ifSet 59 = .ok (.iload_n 3, 1) := by decide +kernel
theorem dX6_ifSet_60 : decode cX6_ifSet 60 = .ok (.iconst 1, 1) := by decide +kernel
theorem dX6_ifSet_61 : decode cX6_ifSet 61 = .ok (.if_icmp .ne 7, 3) := by decide +kernel
theorem dX6_ifSet_64 : decode cX6_ifSet 64 = .ok (.iconst 1, 1) := by decide +kernel
theorem dX6_ifSet_65 : decode cX6_ifSet 65 = .ok (.goto 4, 3) := by decide +kernel
theorem dX6_ifSet_68 : decode cX6_ifSet 68 = .ok (.iconst 0, 1) := by decide +kernel
theorem dX6_ifSet_69 : decode cX6_ifSet 69 = .ok (.invokevirtual 173, 3) := by decide +kernel
theorem dX6_ifSet_72 : decode cX6_ifSet 72 = .ok (.goto 8, 3) := by decide +kernel
theorem dX6_ifSet_75 : decode cX6_ifSet 75 = .ok (.aload_n 0, 1) := by decide +kernel
theorem dX6_ifSet_76 : decode cX6_ifSet 76 = .ok (.iconst 2, 1) := by decide +kernel
theorem dX6_ifSet_77 : decode cX6_ifSet 77 = .ok (.invokevirtual 97, 3) := by decide +kernel
theorem dX6_ifSet_80 : decode cX6_ifSet 80 = .ok (.ireturn, 1) := by decide +kernel
set_option maxRecDepth 20000 in
theorem ggX6_largest_X6_would : GoodIn wsX6_largest wsX6_would := goodIn_r _ [6, 1, 7, 8, 9, 5, 10, 11, 12, 13, 14, 15, 16, 17, 18, 19, 20, 21, 22, 23, 24, 25, 26, 27, 28, 29, 30, 31, 32, 33, 34, 35, 36, 37, 38, 39, 40, 41, 42, 43, 44, 45, 46, 47, 48, 49, 50, 51, 52, 53, 54, 55, 56, 57, 58, 59, 60, 61, 62, 63, 64, 65, 66, 67, 68, 69, 70, 71, 72, 73, 74, 75, 76, 77, 78, 79, 80, 81, 82, 83, 84, 85, 86, 87, 88, 89, 90] (by decide +kernel) (by decide +kernel)
set_option maxRecDepth 20000 in
theorem gX6_largest_X6_would : GoodIn wsX6_largest (wsV RX6 173 RX6 yX6_would wsX6_would) := goodIn_app (goodIn_of _ (by decide +kernel)) ggX6_largest_X6_would
theorem dX6_largest_0 : decode cX6_largest 0 = .ok (.iconst (-1), 1) := by decide +kernel
theorem dX6_largest_1 : decode cX6_largest 1 = .ok (.istore_n 1, 1) := by decide +kernel
theorem dX6_largest_2 : decode cX6_largest 2 = .ok (.bipush 10, 2) := by decide +kernel
theorem dX6_largest_4 : decode cX6_largest 4 = .ok (.istore_n 2, 1) := by decide +kernel
theorem dX6_largest_5 : decode cX6_largest 5 = .ok (.iload_n 2, 1) := by decide +kernel
theorem dX6_largest_6 : decode cX6_largest 6 = .ok (.sipush 300, 3) := by decide +kernel
theorem dX6_largest_9 : decode cX6_largest 9 = .ok (.if_icmp .gt 32, 3) := by decide +kernel
theorem dX6_largest_12 : decode cX6_largest 12 = .ok (.aload_n 0, 1) := by decide +kernel
theorem dX6_largest_13 : decode cX6_largest 13 = .ok (.iconst 3, 1) := by decide +kernel
theorem dX6_largest_14 : decode cX6_largest 14 = .ok (.iload_n 2, 1) := by decide +kernel
theorem dX6_largest_15 : decode cX6_largest 15 = .ok (.iconst 1, 1) := by decide +kernel
theorem dX6_largest_16 : decode cX6_largest 16 = .ok (.invokevirtual 173, 3) := by decide +kernel
theorem dX6_largest_19 : decode cX6_largest 19 = .ok (.aload_n 0, 1) := by decide +kernel
theorem dX6_largest_20 : decode cX6_largest 20 = .ok (.getfield 7, 3) := by decide +kernel
theorem dX6_largest_23 : decode cX6_largest 23 = .ok (.bipush 6, 2) := by decide +kernel
theorem dX6_largest_25 : decode cX6_largest 25 = .ok (.iaload, 1) := by decide +kernel
theorem dX6_largest_26 : decode cX6_largest 26 = .ok (.if_icmp .gt 7, 3) := by decide +kernel
theorem dX6_largest_29 : decode cX6_largest 29 = .ok (.iload_n 2, 1) := by decide +kernel
theorem dX6_largest_30 : decode cX6_largest 30 = .ok (.goto 4, 3) := by decide +kernel
theorem dX6_largest_33 : decode cX6_largest 33 = .ok (.iload_n 1, 1) := by decide +kernel
theorem dX6_largest_34 : decode cX6_largest 34 = .ok (.istore_n 1, 1) := by decide +kernel
theorem dX6_largest_35 : decode cX6_largest 35 = .ok (.iinc 2 10, 3) := by decide +kernel
theorem dX6_largest_38 : decode cX6_largest 38 = .ok (.goto (-33), 3) := by decide +kernel
theorem dX6_largest_41 : decode cX6_largest 41 = .ok (.iload_n 1, 1) := by decide +kernel
theorem dX6_largest_42 : decode cX6_largest 42 = .ok (.ireturn, 1) := by decide +kernel
set_option maxRecDepth 20000 in
theorem ggX6_greatestArea_X6_largest : GoodIn wsX6_greatestArea wsX6_largest := goodIn_r _ [6, 7, 8, 9, 10, 5, 11, 12, 13, 14, 15, 16, 17, 18, 19, 20, 21, 22, 23, 24, 25, 26, 27, 28, 29, 30, 31, 32, 33, 34, 35, 36, 37, 38, 39, 40, 41, 42, 43, 44, 45, 46, 47, 48, 49, 50, 51, 52, 53, 54, 55, 56, 57, 58, 59, 60, 61, 62, 63, 64, 65, 66, 67, 68, 69, 70, 71, 72, 73, 74, 75, 76, 77, 78, 79, 80, 81, 82, 83, 84, 85, 86, 87, 88, 89, 90, 91, 92, 93, 94, 95] (by decide +kernel) (by decide +kernel)
set_option maxRecDepth 20000 in
theorem gX6_greatestArea_X6_largest : GoodIn wsX6_greatestArea (wsV RX6 177 RX6 yX6_largest wsX6_largest) := goodIn_app (goodIn_of _ (by decide +kernel)) ggX6_greatestArea_X6_largest
theorem dX6_greatestArea_0 : decode cX6_greatestArea 0 = .ok (.aload_n 0, 1) := by decide +kernel
theorem dX6_greatestArea_1 : decode cX6_greatestArea 1 = .ok (.iconst 0, 1) := by decide +kernel
theorem dX6_greatestArea_2 : decode cX6_greatestArea 2 = .ok (.putfield 40, 3) := by decide +kernel
theorem dX6_greatestArea_5 : decode cX6_greatestArea 5 = .ok (.aload_n 0, 1) := by decide +kernel
theorem dX6_greatestArea_6 : decode cX6_greatestArea 6 = .ok (.invokevirtual 177, 3) := by decide +kernel
theorem dX6_greatestArea_9 : decode cX6_greatestArea 9 = .ok (.ireturn, 1) := by decide +kernel
set_option maxRecDepth 20000 in
theorem ggX6_snapOfFewest_X6_would : GoodIn wsX6_snapOfFewest wsX6_would := goodIn_r _ [5, 6, 7, 8, 9, 4, 10, 11, 12, 13, 14, 15, 16, 17, 18, 19, 20, 21, 22, 23, 24, 25, 26, 27, 28, 29, 30, 31, 32, 33, 34, 35, 36, 37, 38, 39, 40, 41, 42, 43, 44, 45, 46, 47, 48, 49, 50, 51, 52, 53, 54, 55, 56, 57, 58, 59, 60, 61, 62, 63, 64, 65, 66, 67, 68, 69, 70, 71, 72, 73, 74, 75, 76, 77, 78, 79, 80, 81, 82, 83, 84, 85, 86, 87, 88, 89, 90] (by decide +kernel) (by decide +kernel)
set_option maxRecDepth 20000 in
theorem gX6_snapOfFewest_X6_would : GoodIn wsX6_snapOfFewest (wsV RX6 173 RX6 yX6_would wsX6_would) := goodIn_app (goodIn_of _ (by decide +kernel)) ggX6_snapOfFewest_X6_would
theorem dX6_snapOfFewest_0 : decode cX6_snapOfFewest 0 = .ok (.iconst (-1), 1) := by decide +kernel
theorem dX6_snapOfFewest_1 : decode cX6_snapOfFewest 1 = .ok (.istore_n 1, 1) := by decide +kernel
theorem dX6_snapOfFewest_2 : decode cX6_snapOfFewest 2 = .ok (.iconst 0, 1) := by decide +kernel
theorem dX6_snapOfFewest_3 : decode cX6_snapOfFewest 3 = .ok (.istore_n 2, 1) := by decide +kernel
theorem dX6_snapOfFewest_4 : decode cX6_snapOfFewest 4 = .ok (.iconst 1, 1) := by decide +kernel
theorem dX6_snapOfFewest_5 : decode cX6_snapOfFewest 5 = .ok (.istore_n 3, 1) := by decide +kernel
theorem dX6_snapOfFewest_6 : decode cX6_snapOfFewest 6 = .ok (.iload_n 3, 1) := by decide +kernel
theorem dX6_snapOfFewest_7 : decode cX6_snapOfFewest 7 = .ok (.bipush 12, 2) := by decide +kernel
theorem dX6_snapOfFewest_9 : decode cX6_snapOfFewest 9 = .ok (.if_icmp .gt 59, 3) := by decide +kernel
theorem dX6_snapOfFewest_12 : decode cX6_snapOfFewest 12 = .ok (.aload_n 0, 1) := by decide +kernel
theorem dX6_snapOfFewest_13 : decode cX6_snapOfFewest 13 = .ok (.iconst 4, 1) := by decide +kernel
theorem dX6_snapOfFewest_14 : decode cX6_snapOfFewest 14 = .ok (.iload_n 3, 1) := by decide +kernel
theorem dX6_snapOfFewest_15 : decode cX6_snapOfFewest 15 = .ok (.iconst 0, 1) := by decide +kernel
theorem dX6_snapOfFewest_16 : decode cX6_snapOfFewest 16 = .ok (.invokevirtual 173, 3) := by decide +kernel
theorem dX6_snapOfFewest_19 : decode cX6_snapOfFewest 19 = .ok (.istore 4, 2) := by decide +kernel
theorem dX6_snapOfFewest_21 : decode cX6_snapOfFewest 21 = .ok (.iload_n 1, 1) := by decide +kernel
theorem dX6_snapOfFewest_22 : decode cX6_snapOfFewest 22 = .ok (.iconst (-1), 1) := by decide +kernel
theorem dX6_snapOfFewest_23 : decode cX6_snapOfFewest 23 = .ok (.if_icmp .eq 9, 3) := by decide +kernel
theorem dX6_snapOfFewest_26 : decode cX6_snapOfFewest 26 = .ok (.iload 4, 2) := by decide +kernel
theorem dX6_snapOfFewest_28 : decode cX6_snapOfFewest 28 = .ok (.iload_n 2, 1) := by decide +kernel
theorem dX6_snapOfFewest_29 : decode cX6_snapOfFewest 29 = .ok (.if_icmp .gt 7, 3) := by decide +kernel
theorem dX6_snapOfFewest_32 : decode cX6_snapOfFewest 32 = .ok (.iconst 1, 1) := by decide +kernel
theorem dX6_snapOfFewest_33 : decode cX6_snapOfFewest 33 = .ok (.goto 4, 3) := by decide +kernel
theorem dX6_snapOfFewest_36 : decode cX6_snapOfFewest 36 = .ok (.iconst 0, 1) := by decide +kernel
theorem dX6_snapOfFewest_37 : decode cX6_snapOfFewest 37 = .ok (.istore 5, 2) := by decide +kernel
theorem dX6_snapOfFewest_39 : decode cX6_snapOfFewest 39 = .ok (.iload 5, 2) := by decide +kernel
theorem dX6_snapOfFewest_41 : decode cX6_snapOfFewest 41 = .ok (.ifCond .eq 7, 3) := by decide +kernel
theorem dX6_snapOfFewest_44 : decode cX6_snapOfFewest 44 = .ok (.iload_n 3, 1) := by decide +kernel
theorem dX6_snapOfFewest_45 : decode cX6_snapOfFewest 45 = .ok (.goto 4, 3) := by decide +kernel
theorem dX6_snapOfFewest_48 : decode cX6_snapOfFewest 48 = .ok (.iload_n 1, 1) := by decide +kernel
theorem dX6_snapOfFewest_49 : decode cX6_snapOfFewest 49 = .ok (.istore_n 1, 1) := by decide +kernel
theorem dX6_snapOfFewest_50 : decode cX6_snapOfFewest 50 = .ok (.iload 5, 2) := by decide +kernel
theorem dX6_snapOfFewest_52 : decode cX6_snapOfFewest 52 = .ok (.ifCond .eq 8, 3) := by decide +kernel
theorem dX6_snapOfFewest_55 : decode cX6_snapOfFewest 55 = .ok (.iload 4, 2) := by decide +kernel
theorem dX6_snapOfFewest_57 : decode cX6_snapOfFewest 57 = .ok (.goto 4, 3) := by decide +kernel
theorem dX6_snapOfFewest_60 : decode cX6_snapOfFewest 60 = .ok (.iload_n 2, 1) := by decide +kernel
theorem dX6_snapOfFewest_61 : decode cX6_snapOfFewest 61 = .ok (.istore_n 2, 1) := by decide +kernel
theorem dX6_snapOfFewest_62 : decode cX6_snapOfFewest 62 = .ok (.iinc 3 1, 3) := by decide +kernel
theorem dX6_snapOfFewest_65 : decode cX6_snapOfFewest 65 = .ok (.goto (-59), 3) := by decide +kernel
theorem dX6_snapOfFewest_68 : decode cX6_snapOfFewest 68 = .ok (.iload_n 1, 1) := by decide +kernel
theorem dX6_snapOfFewest_69 : decode cX6_snapOfFewest 69 = .ok (.ireturn, 1) := by decide +kernel
set_option maxRecDepth 20000 in
theorem ggX6_bestSnap_X6_snapOfFewest : GoodIn wsX6_bestSnap wsX6_snapOfFewest := goodIn_r _ [6, 7, 8, 9, 5, 10, 11, 12, 13, 14, 15, 16, 17, 18, 19, 20, 21, 22, 23, 24, 25, 26, 27, 28, 29, 30, 31, 32, 33, 34, 35, 36, 37, 38, 39, 40, 41, 42, 43, 44, 45, 46, 47, 48, 49, 50, 51, 52, 53, 54, 55, 56, 57, 58, 59, 60, 61, 62, 63, 64, 65, 66, 67, 68, 69, 70, 71, 72, 73, 74, 75, 76, 77, 78, 79, 80, 81, 82, 83, 84, 85, 86, 87, 88, 89, 90, 91, 92, 93, 94, 95] (by decide +kernel) (by decide +kernel)
set_option maxRecDepth 20000 in
theorem gX6_bestSnap_X6_snapOfFewest : GoodIn wsX6_bestSnap (wsV RX6 180 RX6 yX6_snapOfFewest wsX6_snapOfFewest) := goodIn_app (goodIn_of _ (by decide +kernel)) ggX6_bestSnap_X6_snapOfFewest
theorem dX6_bestSnap_0 : decode cX6_bestSnap 0 = .ok (.aload_n 0, 1) := by decide +kernel
theorem dX6_bestSnap_1 : decode cX6_bestSnap 1 = .ok (.iconst 0, 1) := by decide +kernel
theorem dX6_bestSnap_2 : decode cX6_bestSnap 2 = .ok (.putfield 40, 3) := by decide +kernel
theorem dX6_bestSnap_5 : decode cX6_bestSnap 5 = .ok (.aload_n 0, 1) := by decide +kernel
theorem dX6_bestSnap_6 : decode cX6_bestSnap 6 = .ok (.invokevirtual 180, 3) := by decide +kernel
theorem dX6_bestSnap_9 : decode cX6_bestSnap 9 = .ok (.ireturn, 1) := by decide +kernel
set_option maxRecDepth 20000 in
theorem ggX6_kernFor_X6_lays : GoodIn wsX6_kernFor wsX6_lays := goodIn_r _ [8, 3, 9, 10, 1, 2, 11, 12, 13, 7, 14, 15, 16, 17, 18, 19, 20, 21, 22, 23, 24, 25, 26, 27, 28, 29, 30, 31, 32, 33, 34, 35, 36, 37, 38, 39, 40, 41, 42, 43, 44, 45, 46, 47, 48, 49, 50, 51, 52, 53, 58, 59, 60, 61, 62, 63, 64, 65, 66, 67, 68, 69, 70, 71, 72, 73, 74] (by decide +kernel) (by decide +kernel)
set_option maxRecDepth 20000 in
theorem gX6_kernFor_X6_lays : GoodIn wsX6_kernFor (wsV RX6 91 RX6 yX6_lays wsX6_lays) := goodIn_app (goodIn_of _ (by decide +kernel)) ggX6_kernFor_X6_lays
set_option maxRecDepth 20000 in
theorem ggX6_kernFor_X6_beginning : GoodIn wsX6_kernFor wsX6_beginning := goodIn_r _ [25, 3, 11, 12, 13, 7, 14, 15, 16, 17, 18, 19, 20, 21, 26, 27, 28, 29, 30, 31, 32, 33, 34, 35, 36, 37, 38, 39, 40, 41, 42, 43, 44, 45, 46, 47, 48, 49, 50, 58, 59, 60, 61, 62, 63, 64, 65, 66, 67, 68, 69, 70, 71, 72, 73, 74] (by decide +kernel) (by decide +kernel)
set_option maxRecDepth 20000 in
theorem gX6_kernFor_X6_beginning : GoodIn wsX6_kernFor (wsV RX6 85 RX6 yX6_beginning wsX6_beginning) := goodIn_app (goodIn_of _ (by decide +kernel)) ggX6_kernFor_X6_beginning
set_option maxRecDepth 20000 in
theorem ggX6_kernFor_X6_area : GoodIn wsX6_kernFor wsX6_area := goodIn_r _ [33, 3, 34, 35, 7, 36, 37, 38, 39, 40, 41, 42, 43, 19, 20, 21, 44, 45, 46, 58, 59, 60, 61, 62, 63, 64, 65, 66, 67, 68, 69, 70, 71, 72, 73, 74] (by decide +kernel) (by decide +kernel)
set_option maxRecDepth 20000 in
theorem gX6_kernFor_X6_area : GoodIn wsX6_kernFor (wsV RX6 72 RX6 yX6_area wsX6_area) := goodIn_app (goodIn_of _ (by decide +kernel)) ggX6_kernFor_X6_area
set_option maxRecDepth 20000 in
theorem ggX6_kernFor_X6_share : GoodIn wsX6_kernFor wsX6_share := goodIn_r _ [57, 3, 41, 42, 7, 43, 58, 59, 60, 61, 62, 63, 64, 65, 66, 67, 68, 69, 70, 71, 72, 73, 74] (by decide +kernel) (by decide +kernel)
set_option maxRecDepth 20000 in
theorem gX6_kernFor_X6_share : GoodIn wsX6_kernFor (wsV RX6 69 RX6 yX6_share wsX6_share) := goodIn_app (goodIn_of _ (by decide +kernel)) ggX6_kernFor_X6_share
theorem dX6_kernFor_0 : decode cX6_kernFor 0 = .ok (.aload_n 0, 1) := by decide +kernel
theorem dX6_kernFor_1 : decode cX6_kernFor 1 = .ok (.invokevirtual 91, 3) := by decide +kernel
theorem dX6_kernFor_4 : decode cX6_kernFor 4 = .ok (.aload_n 0, 1) := by decide +kernel
theorem dX6_kernFor_5 : decode cX6_kernFor 5 = .ok (.getfield 31, 3) := by decide +kernel
theorem dX6_kernFor_8 : decode cX6_kernFor 8 = .ok (.iload_n 1, 1) := by decide +kernel
theorem dX6_kernFor_9 : decode cX6_kernFor 9 = .ok (.iaload, 1) := by decide +kernel
theorem dX6_kernFor_10 : decode cX6_kernFor 10 = .ok (.iconst (-1), 1) := by decide +kernel
theorem dX6_kernFor_11 : decode cX6_kernFor 11 = .ok (.if_icmp .ne 5, 3) := by decide +kernel
theorem dX6_kernFor_14 : decode cX6_kernFor 14 = .ok (.iconst (-1), 1) := by decide +kernel
theorem dX6_kernFor_15 : decode cX6_kernFor 15 = .ok (.ireturn, 1) := by decide +kernel
theorem dX6_kernFor_16 : decode cX6_kernFor 16 = .ok (.iconst (-1), 1) := by decide +kernel
theorem dX6_kernFor_17 : decode cX6_kernFor 17 = .ok (.istore_n 2, 1) := by decide +kernel
theorem dX6_kernFor_18 : decode cX6_kernFor 18 = .ok (.iconst 0, 1) := by decide +kernel
theorem dX6_kernFor_19 : decode cX6_kernFor 19 = .ok (.istore_n 3, 1) := by decide +kernel
theorem dX6_kernFor_20 : decode cX6_kernFor 20 = .ok (.iconst 0, 1) := by decide +kernel
theorem dX6_kernFor_21 : decode cX6_kernFor 21 = .ok (.istore 4, 2) := by decide +kernel
theorem dX6_kernFor_23 : decode cX6_kernFor 23 = .ok (.iload 4, 2) := by decide +kernel
theorem dX6_kernFor_25 : decode cX6_kernFor 25 = .ok (.bipush 11, 2) := by decide +kernel
theorem dX6_kernFor_27 : decode cX6_kernFor 27 = .ok (.if_icmp .ge 136, 3) := by decide +kernel
theorem dX6_kernFor_30 : decode cX6_kernFor 30 = .ok (.iload 4, 2) := by decide +kernel
theorem dX6_kernFor_32 : decode cX6_kernFor 32 = .ok (.iconst 2, 1) := by decide +kernel
theorem dX6_kernFor_33 : decode cX6_kernFor 33 = .ok (.irem, 1) := by decide +kernel
theorem dX6_kernFor_34 : decode cX6_kernFor 34 = .ok (.iconst 1, 1) := by decide +kernel
theorem dX6_kernFor_35 : decode cX6_kernFor 35 = .ok (.if_icmp .ne 12, 3) := by decide +kernel
theorem dX6_kernFor_38 : decode cX6_kernFor 38 = .ok (.iload 4, 2) := by decide +kernel
theorem dX6_kernFor_40 : decode cX6_kernFor 40 = .ok (.iconst 1, 1) := by decide +kernel
theorem dX6_kernFor_41 : decode cX6_kernFor 41 = .ok (.iadd, 1) := by decide +kernel
theorem dX6_kernFor_42 : decode cX6_kernFor 42 = .ok (.iconst 2, 1) := by decide +kernel
theorem dX6_kernFor_43 : decode cX6_kernFor 43 = .ok (.idiv, 1) := by decide +kernel
theorem dX6_kernFor_44 : decode cX6_kernFor 44 = .ok (.goto 8, 3) := by decide +kernel
theorem dX6_kernFor_47 : decode cX6_kernFor 47 = .ok (.iload 4, 2) := by decide +kernel
theorem dX6_kernFor_49 : decode cX6_kernFor 49 = .ok (.iconst 2, 1) := by decide +kernel
theorem dX6_kernFor_50 : decode cX6_kernFor 50 = .ok (.idiv, 1) := by decide +kernel
theorem dX6_kernFor_51 : decode cX6_kernFor 51 = .ok (.ineg, 1) := by decide +kernel
theorem dX6_kernFor_52 : decode cX6_kernFor 52 = .ok (.istore 5, 2) := by decide +kernel
theorem dX6_kernFor_54 : decode cX6_kernFor 54 = .ok (.aload_n 0, 1) := by decide +kernel
theorem dX6_kernFor_55 : decode cX6_kernFor 55 = .ok (.iload_n 1, 1) := by decide +kernel
theorem dX6_kernFor_56 : decode cX6_kernFor 56 = .ok (.iload 5, 2) := by decide +kernel
theorem dX6_kernFor_58 : decode cX6_kernFor 58 = .ok (.aload_n 0, 1) := by decide +kernel
theorem dX6_kernFor_59 : decode cX6_kernFor 59 = .ok (.getfield 25, 3) := by decide +kernel
theorem dX6_kernFor_62 : decode cX6_kernFor 62 = .ok (.iload_n 1, 1) := by decide +kernel
theorem dX6_kernFor_63 : decode cX6_kernFor 63 = .ok (.iconst 1, 1) := by decide +kernel
theorem dX6_kernFor_64 : decode cX6_kernFor 64 = .ok (.isub, 1) := by decide +kernel
theorem dX6_kernFor_65 : decode cX6_kernFor 65 = .ok (.iaload, 1) := by decide +kernel
theorem dX6_kernFor_66 : decode cX6_kernFor 66 = .ok (.invokevirtual 85, 3) := by decide +kernel
theorem dX6_kernFor_69 : decode cX6_kernFor 69 = .ok (.aload_n 0, 1) := by decide +kernel
theorem dX6_kernFor_70 : decode cX6_kernFor 70 = .ok (.getfield 25, 3) := by decide +kernel
theorem dX6_kernFor_73 : decode cX6_kernFor 73 = .ok (.iload_n 1, 1) := by decide +kernel
theorem dX6_kernFor_74 : decode cX6_kernFor 74 = .ok (.iconst 1, 1) := by decide +kernel
theorem dX6_kernFor_75 : decode cX6_kernFor 75 = .ok (.isub, 1) := by decide +kernel
theorem dX6_kernFor_76 : decode cX6_kernFor 76 = .ok (.iaload, 1) := by decide +kernel
theorem dX6_kernFor_77 : decode cX6_kernFor 77 = .ok (.isub, 1) := by decide +kernel
theorem dX6_kernFor_78 : decode cX6_kernFor 78 = .ok (.istore 6, 2) := by decide +kernel
theorem dX6_kernFor_80 : decode cX6_kernFor 80 = .ok (.aload_n 0, 1) := by decide +kernel
theorem dX6_kernFor_81 : decode cX6_kernFor 81 = .ok (.aload_n 0, 1) := by decide +kernel
theorem dX6_kernFor_82 : decode cX6_kernFor 82 = .ok (.aload_n 0, 1) := by decide +kernel
theorem dX6_kernFor_83 : decode cX6_kernFor 83 = .ok (.getfield 7, 3) := by decide +kernel
theorem dX6_kernFor_86 : decode cX6_kernFor 86 = .ok (.bipush 8, 2) := by decide +kernel
theorem dX6_kernFor_88 : decode cX6_kernFor 88 = .ok (.iload_n 1, 1) := by decide +kernel
theorem dX6_kernFor_89 : decode cX6_kernFor 89 = .ok (.iadd, 1) := by decide +kernel
theorem dX6_kernFor_90 : decode cX6_kernFor 90 = .ok (.iconst 1, 1) := by decide +kernel
theorem dX6_kernFor_91 : decode cX6_kernFor 91 = .ok (.isub, 1) := by decide +kernel
theorem dX6_kernFor_92 : decode cX6_kernFor 92 = .ok (.iaload, 1) := by decide +kernel
theorem dX6_kernFor_93 : decode cX6_kernFor 93 = .ok (.aload_n 0, 1) := by decide +kernel
theorem dX6_kernFor_94 : decode cX6_kernFor 94 = .ok (.getfield 7, 3) := by decide +kernel
theorem dX6_kernFor_97 : decode cX6_kernFor 97 = .ok (.bipush 8, 2) := by decide +kernel
theorem dX6_kernFor_99 : decode cX6_kernFor 99 = .ok (.iload_n 1, 1) := by decide +kernel
theorem dX6_kernFor_100 : decode cX6_kernFor 100 = .ok (.iadd, 1) := by decide +kernel
theorem dX6_kernFor_101 : decode cX6_kernFor 101 = .ok (.iaload, 1) := by decide +kernel
theorem dX6_kernFor_102 : decode cX6_kernFor 102 = .ok (.iload 6, 2) := by decide +kernel
theorem dX6_kernFor_104 : decode cX6_kernFor 104 = .ok (.invokevirtual 72, 3) := by decide +kernel
theorem dX6_kernFor_107 : decode cX6_kernFor 107 = .ok (.invokevirtual 69, 3) := by decide +kernel
theorem dX6_kernFor_110 : decode cX6_kernFor 110 = .ok (.istore 7, 2) := by decide +kernel
theorem dX6_kernFor_112 : decode cX6_kernFor 112 = .ok (.iload_n 2, 1) := by decide +kernel
theorem dX6_kernFor_113 : decode cX6_kernFor 113 = .ok (.iconst (-1), 1) := by decide +kernel
theorem dX6_kernFor_114 : decode cX6_kernFor 114 = .ok (.if_icmp .eq 9, 3) := by decide +kernel
theorem dX6_kernFor_117 : decode cX6_kernFor 117 = .ok (.iload 7, 2) := by decide +kernel
theorem dX6_kernFor_119 : decode cX6_kernFor 119 = .ok (.iload_n 3, 1) := by decide +kernel
theorem dX6_kernFor_120 : decode cX6_kernFor 120 = .ok (.if_icmp .ge 7, 3) := by decide +kernel
theorem dX6_kernFor_123 : decode cX6_kernFor 123 = .ok (.iconst 1, 1) := by decide +kernel
theorem dX6_kernFor_124 : decode cX6_kernFor 124 = .ok (.goto 4, 3) := by decide +kernel
theorem dX6_kernFor_127 : decode cX6_kernFor 127 = .ok (.iconst 0, 1) := by decide +kernel
theorem dX6_kernFor_128 : decode cX6_kernFor 128 = .ok (.istore 8, 2) := by decide +kernel
theorem dX6_kernFor_130 : decode cX6_kernFor 130 = .ok (.iload 8, 2) := by decide +kernel
theorem dX6_kernFor_132 : decode cX6_kernFor 132 = .ok (.ifCond .eq 11, 3) := by decide +kernel
theorem dX6_kernFor_135 : decode cX6_kernFor 135 = .ok (.iload 5, 2) := by decide +kernel
theorem dX6_kernFor_137 : decode cX6_kernFor 137 = .ok (.bipush 10, 2) := by decide +kernel
theorem dX6_kernFor_139 : decode cX6_kernFor 139 = .ok (.iadd, 1) := by decide +kernel
theorem dX6_kernFor_140 : decode cX6_kernFor 140 = .ok (.goto 4, 3) := by decide +kernel
theorem dX6_kernFor_143 : decode cX6_kernFor 143 = .ok (.iload_n 2, 1) := by decide +kernel
theorem dX6_kernFor_144 : decode cX6_kernFor 144 = .ok (.istore_n 2, 1) := by decide +kernel
theorem dX6_kernFor_145 : decode cX6_kernFor 145 = .ok (.iload 8, 2) := by decide +kernel
theorem dX6_kernFor_147 : decode cX6_kernFor 147 = .ok (.ifCond .eq 8, 3) := by decide +kernel
theorem dX6_kernFor_150 : decode cX6_kernFor 150 = .ok (.iload 7, 2) := by decide +kernel
theorem dX6_kernFor_152 : decode cX6_kernFor 152 = .ok (.goto 4, 3) := by decide +kernel
theorem dX6_kernFor_155 : decode cX6_kernFor 155 = .ok (.iload_n 3, 1) := by decide +kernel
theorem dX6_kernFor_156 : decode cX6_kernFor 156 = .ok (.istore_n 3, 1) := by decide +kernel
theorem dX6_kernFor_157 : decode cX6_kernFor 157 = .ok (.iinc 4 1, 3) := by decide +kernel
theorem dX6_kernFor_160 : decode cX6_kernFor 160 = .ok (.goto (-137), 3) := by decide +kernel
theorem dX6_kernFor_163 : decode cX6_kernFor 163 = .ok (.iload_n 2, 1) := by decide +kernel
theorem dX6_kernFor_164 : decode cX6_kernFor 164 = .ok (.ireturn, 1) := by decide +kernel
set_option maxRecDepth 20000 in
theorem ggX6_bestKern_X6_isItem : GoodIn wsX6_bestKern wsX6_isItem := goodIn_r _ [6, 7, 8, 9, 5, 10, 67, 68, 69, 70, 71, 72, 73, 74, 75, 76, 77, 78, 79, 80, 81, 82, 83] (by decide +kernel) (by decide +kernel)
set_option maxRecDepth 20000 in
theorem gX6_bestKern_X6_isItem : GoodIn wsX6_bestKern (wsV RX6 48 RX6 yX6_isItem wsX6_isItem) := goodIn_app (goodIn_of _ (by decide +kernel)) ggX6_bestKern_X6_isItem
set_option maxRecDepth 20000 in
theorem ggX6_bestKern_X6_kernFor : GoodIn wsX6_bestKern wsX6_kernFor := goodIn_r _ [14, 15, 16, 7, 17, 18, 19, 5, 20, 21, 22, 23, 24, 25, 26, 2, 3, 4, 6, 8, 9, 10, 27, 28, 29, 30, 31, 32, 33, 34, 35, 36, 37, 38, 39, 40, 41, 42, 43, 44, 45, 46, 47, 48, 49, 50, 51, 52, 53, 54, 55, 56, 57, 58, 59, 60, 61, 62, 67, 68, 69, 70, 71, 72, 73, 74, 75, 76, 77, 78, 79, 80, 81, 82, 83] (by decide +kernel) (by decide +kernel)
set_option maxRecDepth 20000 in
theorem gX6_bestKern_X6_kernFor : GoodIn wsX6_bestKern (wsV RX6 183 RX6 yX6_kernFor wsX6_kernFor) := goodIn_app (goodIn_of _ (by decide +kernel)) ggX6_bestKern_X6_kernFor
set_option maxRecDepth 20000 in
theorem ggX6_bestKern_X6_fails : GoodIn wsX6_bestKern wsX6_fails := goodIn_r _ [66, 1, 67, 68, 69, 70, 71, 72, 73, 74, 75, 76, 77, 78, 79, 80, 81, 82, 83] (by decide +kernel) (by decide +kernel)
set_option maxRecDepth 20000 in
theorem gX6_bestKern_X6_fails : GoodIn wsX6_bestKern (wsV RX6 97 RX6 yX6_fails wsX6_fails) := goodIn_app (goodIn_of _ (by decide +kernel)) ggX6_bestKern_X6_fails
theorem dX6_bestKern_0 : decode cX6_bestKern 0 = .ok (.aload_n 0, 1) := by decide +kernel
theorem dX6_bestKern_1 : decode cX6_bestKern 1 = .ok (.iconst 0, 1) := by decide +kernel
theorem dX6_bestKern_2 : decode cX6_bestKern 2 = .ok (.putfield 40, 3) := by decide +kernel
theorem dX6_bestKern_5 : decode cX6_bestKern 5 = .ok (.aload_n 0, 1) := by decide +kernel
theorem dX6_bestKern_6 : decode cX6_bestKern 6 = .ok (.iload_n 1, 1) := by decide +kernel
theorem dX6_bestKern_7 : decode cX6_bestKern 7 = .ok (.invokevirtual 48, 3) := by decide +kernel
theorem dX6_bestKern_10 : decode cX6_bestKern 10 = .ok (.ifCond .eq 11, 3) := by decide +kernel
theorem dX6_bestKern_13 : decode cX6_bestKern 13 = .ok (.aload_n 0, 1) := by decide +kernel
theorem dX6_bestKern_14 : decode cX6_bestKern 14 = .ok (.iload_n 1, 1) := by decide +kernel
theorem dX6_bestKern_15 : decode cX6_bestKern 15 = .ok (.invokevirtual 183, 3) := by decide +kernel
theorem dX6_bestKern_18 : decode cX6_bestKern 18 = .ok (.goto 8, 3) := by decide +kernel
theorem dX6_bestKern_21 : decode cX6_bestKern 21 = .ok (.aload_n 0, 1) := by decide +kernel
theorem dX6_bestKern_22 : decode cX6_bestKern 22 = .ok (.iconst 1, 1) := by decide +kernel
theorem dX6_bestKern_23 : decode cX6_bestKern 23 = .ok (.invokevirtual 97, 3) := by decide +kernel
theorem dX6_bestKern_26 : decode cX6_bestKern 26 = .ok (.ireturn, 1) := by decide +kernel
set_option maxRecDepth 20000 in
theorem ggX6_evenness_X6_pairs : GoodIn wsX6_evenness wsX6_pairs := goodIn_r _ [5, 6, 7, 8, 9, 10, 4, 11, 12, 13, 14, 15, 16, 17, 18, 19, 20, 21, 22, 23, 24, 25, 26, 27, 28, 29, 30, 31, 32, 33, 34, 35, 36, 37, 38, 39, 40, 41, 42, 43, 44, 45, 46, 47, 48, 49, 50, 51, 52, 53, 54, 55, 56, 57, 70, 71, 72, 73, 74, 75, 76, 77, 78, 79, 80, 81, 82, 83, 84, 85, 86] (by decide +kernel) (by decide +kernel)
set_option maxRecDepth 20000 in
theorem gX6_evenness_X6_pairs : GoodIn wsX6_evenness (wsV RX6 160 RX6 yX6_pairs wsX6_pairs) := goodIn_app (goodIn_of _ (by decide +kernel)) ggX6_evenness_X6_pairs
set_option maxRecDepth 20000 in
theorem ggX6_evenness_X6_faults : GoodIn wsX6_evenness wsX6_faults := goodIn_r _ [61, 6, 8, 9, 10, 4, 11, 12, 13, 7, 14, 15, 16, 17, 18, 19, 20, 21, 22, 23, 24, 25, 26, 27, 28, 29, 30, 31, 32, 33, 34, 35, 36, 37, 38, 39, 40, 41, 42, 43, 44, 45, 46, 47, 48, 49, 50, 51, 52, 53, 54, 55, 56, 57, 62, 63, 64, 65, 66, 67, 68, 69, 70, 71, 72, 73, 74, 75, 76, 77, 78, 79, 80, 81, 82, 83, 84, 85, 86] (by decide +kernel) (by decide +kernel)
set_option maxRecDepth 20000 in
theorem gX6_evenness_X6_faults : GoodIn wsX6_evenness (wsV RX6 163 RX6 yX6_faults wsX6_faults) := goodIn_app (goodIn_of _ (by decide +kernel)) ggX6_evenness_X6_faults
theorem dX6_evenness_0 : decode cX6_evenness 0 = .ok (.aload_n 0, 1) := by decide +kernel
theorem dX6_evenness_1 : decode cX6_evenness 1 = .ok (.invokevirtual 160, 3) := by decide +kernel
theorem dX6_evenness_4 : decode cX6_evenness 4 = .ok (.istore_n 1, 1) := by decide +kernel
theorem dX6_evenness_5 : decode cX6_evenness 5 = .ok (.iload_n 1, 1) := by decide +kernel
theorem dX6_evenness_6 : decode cX6_evenness 6 = .ok (.ifCond .ne 7, 3) := by decide +kernel
theorem dX6_evenness_9 : decode cX6_evenness 9 = .ok (.dconst 1, 1) := by decide +kernel
theorem dX6_evenness_10 : decode cX6_evenness 10 = .ok (.goto 13, 3) := by decide +kernel
theorem dX6_evenness_13 : decode cX6_evenness 13 = .ok (.iload_n 1, 1) := by decide +kernel
theorem dX6_evenness_14 : decode cX6_evenness 14 = .ok (.aload_n 0, 1) := by decide +kernel
theorem dX6_evenness_15 : decode cX6_evenness 15 = .ok (.invokevirtual 163, 3) := by decide +kernel
theorem dX6_evenness_18 : decode cX6_evenness 18 = .ok (.isub, 1) := by decide +kernel
theorem dX6_evenness_19 : decode cX6_evenness 19 = .ok (.i2d, 1) := by decide +kernel
theorem dX6_evenness_20 : decode cX6_evenness 20 = .ok (.iload_n 1, 1) := by decide +kernel
theorem dX6_evenness_21 : decode cX6_evenness 21 = .ok (.i2d, 1) := by decide +kernel
theorem dX6_evenness_22 : decode cX6_evenness 22 = .ok (.ddiv, 1) := by decide +kernel
theorem dX6_evenness_23 : decode cX6_evenness 23 = .ok (.dreturn, 1) := by decide +kernel
set_option maxRecDepth 20000 in
theorem ggX6_even_X6_evenness : GoodIn wsX6_even wsX6_evenness := goodIn_r _ [6, 7, 8, 9, 5, 10, 11, 12, 13, 14, 15, 16, 17, 18, 19, 20, 21, 22, 23, 24, 25, 26, 27, 28, 29, 30, 31, 32, 33, 34, 35, 36, 37, 38, 39, 40, 41, 42, 43, 44, 45, 46, 47, 48, 49, 50, 51, 52, 53, 54, 55, 56, 57, 58, 59, 60, 61, 62, 63, 64, 65, 66, 67, 68, 69, 70, 71, 72, 73, 74, 75, 76, 77, 78, 79, 80, 81, 82, 83, 84, 85, 86, 87, 88, 89, 90, 91] (by decide +kernel) (by decide +kernel)
set_option maxRecDepth 20000 in
theorem gX6_even_X6_evenness : GoodIn wsX6_even (wsV RX6 186 RX6 yX6_evenness wsX6_evenness) := goodIn_app (goodIn_of _ (by decide +kernel)) ggX6_even_X6_evenness
theorem dX6_even_0 : decode cX6_even 0 = .ok (.aload_n 0, 1) := by decide +kernel
theorem dX6_even_1 : decode cX6_even 1 = .ok (.iconst 0, 1) := by decide +kernel
theorem dX6_even_2 : decode cX6_even 2 = .ok (.putfield 40, 3) := by decide +kernel
theorem dX6_even_5 : decode cX6_even 5 = .ok (.aload_n 0, 1) := by decide +kernel
theorem dX6_even_6 : decode cX6_even 6 = .ok (.invokevirtual 186, 3) := by decide +kernel
theorem dX6_even_9 : decode cX6_even 9 = .ok (.dreturn, 1) := by decide +kernel
theorem dX6_hashes_0 : decode cX6_hashes 0 = .ok (.aload_n 0, 1) := by decide +kernel
theorem dX6_hashes_1 : decode cX6_hashes 1 = .ok (.ldc2_w 190, 3) := by decide +kernel
theorem dX6_hashes_4 : decode cX6_hashes 4 = .ok (.aload_n 0, 1) := by decide +kernel
theorem dX6_hashes_5 : decode cX6_hashes 5 = .ok (.getfield 192, 3) := by decide +kernel
theorem dX6_hashes_8 : decode cX6_hashes 8 = .ok (.lmul, 1) := by decide +kernel
theorem dX6_hashes_9 : decode cX6_hashes 9 = .ok (.lload_n 1, 1) := by decide +kernel
theorem dX6_hashes_10 : decode cX6_hashes 10 = .ok (.ladd, 1) := by decide +kernel
theorem dX6_hashes_11 : decode cX6_hashes 11 = .ok (.putfield 192, 3) := by decide +kernel
theorem dX6_hashes_14 : decode cX6_hashes 14 = .ok (.return_, 1) := by decide +kernel
set_option maxRecDepth 20000 in
theorem ggX6_digest_X6_tellsCount : GoodIn wsX6_digest wsX6_tellsCount := goodIn_r _ [11, 4, 12, 13, 14, 15, 10, 16, 17, 18, 19, 20, 21, 22, 23, 24, 25, 26, 27, 28, 29, 30, 31, 32, 33, 34, 35, 36, 37, 38, 39, 40, 41, 42, 43, 44, 45, 46, 47, 48, 49, 50, 51, 52, 53, 54, 55, 56, 57, 58, 59, 60, 61, 62, 63, 64, 65, 66, 67, 68, 69, 70, 71, 72, 73, 74, 75, 76, 77, 78, 79, 80, 81, 82, 83, 84, 85, 86, 87, 88, 89, 90, 91, 145, 146, 147, 148, 149, 150, 151, 152, 153, 154, 155, 156, 157, 158, 159, 160, 161] (by decide +kernel) (by decide +kernel)
set_option maxRecDepth 20000 in
theorem gX6_digest_X6_tellsCount : GoodIn wsX6_digest (wsV RX6 170 RX6 yX6_tellsCount wsX6_tellsCount) := goodIn_app (goodIn_of _ (by decide +kernel)) ggX6_digest_X6_tellsCount
set_option maxRecDepth 20000 in
theorem ggX6_digest_X6_hashes : GoodIn wsX6_digest wsX6_hashes := goodIn_r _ [95, 96, 3, 145, 146, 147, 148, 149, 150, 151, 152, 153, 154, 155, 156, 157, 158, 159, 160, 161] (by decide +kernel) (by decide +kernel)
set_option maxRecDepth 20000 in
theorem gX6_digest_X6_hashes : GoodIn wsX6_digest (wsV RX6 198 RX6 yX6_hashes wsX6_hashes) := goodIn_app (goodIn_of _ (by decide +kernel)) ggX6_digest_X6_hashes
set_option maxRecDepth 20000 in
theorem ggX6_digest_X6_lays : GoodIn wsX6_digest wsX6_lays := goodIn_r _ [21, 4, 22, 23, 24, 17, 25, 26, 27, 10, 28, 29, 30, 31, 32, 33, 34, 35, 36, 37, 38, 39, 40, 41, 42, 43, 44, 45, 46, 47, 48, 49, 50, 51, 52, 53, 54, 55, 56, 57, 58, 59, 60, 61, 62, 63, 64, 65, 66, 67, 145, 146, 147, 148, 149, 150, 151, 152, 153, 154, 155, 156, 157, 158, 159, 160, 161] (by decide +kernel) (by decide +kernel)
set_option maxRecDepth 20000 in
theorem gX6_digest_X6_lays : GoodIn wsX6_digest (wsV RX6 91 RX6 yX6_lays wsX6_lays) := goodIn_app (goodIn_of _ (by decide +kernel)) ggX6_digest_X6_lays
set_option maxRecDepth 20000 in
theorem ggX6_digest_X6_tellsItem : GoodIn wsX6_digest wsX6_tellsItem := goodIn_r _ [100, 24, 4, 22, 17, 23, 25, 26, 27, 10, 28, 29, 30, 31, 32, 33, 34, 35, 101, 102, 103, 104, 48, 49, 50, 51, 52, 53, 54, 55, 56, 57, 58, 59, 60, 84, 85, 86, 87, 80, 81, 82, 83, 145, 146, 147, 148, 149, 150, 151, 152, 153, 154, 155, 156, 157, 158, 159, 160, 161] (by decide +kernel) (by decide +kernel)
set_option maxRecDepth 20000 in
theorem gX6_digest_X6_tellsItem : GoodIn wsX6_digest (wsV RX6 146 RX6 yX6_tellsItem wsX6_tellsItem) := goodIn_app (goodIn_of _ (by decide +kernel)) ggX6_digest_X6_tellsItem
set_option maxRecDepth 20000 in
theorem ggX6_digest_X6_kernFor : GoodIn wsX6_digest wsX6_kernFor := goodIn_r _ [108, 24, 17, 4, 18, 19, 20, 10, 21, 22, 23, 25, 26, 27, 28, 29, 30, 31, 32, 33, 34, 35, 36, 37, 38, 39, 40, 41, 42, 43, 44, 45, 46, 47, 48, 49, 50, 51, 52, 53, 54, 55, 56, 57, 58, 59, 60, 61, 62, 63, 64, 65, 66, 67, 84, 85, 86, 87, 145, 146, 147, 148, 149, 150, 151, 152, 153, 154, 155, 156, 157, 158, 159, 160, 161] (by decide +kernel) (by decide +kernel)
set_option maxRecDepth 20000 in
theorem gX6_digest_X6_kernFor : GoodIn wsX6_digest (wsV RX6 183 RX6 yX6_kernFor wsX6_kernFor) := goodIn_app (goodIn_of _ (by decide +kernel)) ggX6_digest_X6_kernFor
set_option maxRecDepth 20000 in
theorem ggX6_digest_X6_pairs : GoodIn wsX6_digest wsX6_pairs := goodIn_r _ [75, 4, 24, 18, 19, 20, 10, 21, 22, 23, 17, 25, 26, 27, 28, 29, 30, 31, 32, 33, 34, 35, 36, 37, 38, 39, 40, 41, 42, 43, 44, 45, 46, 47, 48, 49, 50, 51, 52, 53, 54, 55, 56, 57, 58, 59, 60, 61, 62, 63, 64, 65, 66, 67, 145, 146, 147, 148, 149, 150, 151, 152, 153, 154, 155, 156, 157, 158, 159, 160, 161] (by decide +kernel) (by decide +kernel)
set_option maxRecDepth 20000 in
theorem gX6_digest_X6_pairs : GoodIn wsX6_digest (wsV RX6 160 RX6 yX6_pairs wsX6_pairs) := goodIn_app (goodIn_of _ (by decide +kernel)) ggX6_digest_X6_pairs
set_option maxRecDepth 20000 in
theorem ggX6_digest_X6_pairAt : GoodIn wsX6_digest wsX6_pairAt := goodIn_r _ [112, 4, 24, 113, 114, 115, 10, 116, 84, 85, 86, 87, 55, 56, 57, 145, 146, 147, 148, 149, 150, 151, 152, 153, 154, 155, 156, 157, 158, 159, 160, 161] (by decide +kernel) (by decide +kernel)
set_option maxRecDepth 20000 in
theorem gX6_digest_X6_pairAt : GoodIn wsX6_digest (wsV RX6 153 RX6 yX6_pairAt wsX6_pairAt) := goodIn_app (goodIn_of _ (by decide +kernel)) ggX6_digest_X6_pairAt
set_option maxRecDepth 20000 in
theorem ggX6_digest_X6_back : GoodIn wsX6_digest wsX6_back := goodIn_r _ [54, 4, 55, 56, 10, 57, 33, 34, 35, 145, 146, 147, 148, 149, 150, 151, 152, 153, 154, 155, 156, 157, 158, 159, 160, 161] (by decide +kernel) (by decide +kernel)
set_option maxRecDepth 20000 in
theorem gX6_digest_X6_back : GoodIn wsX6_digest (wsV RX6 62 RX6 yX6_back wsX6_back) := goodIn_app (goodIn_of _ (by decide +kernel)) ggX6_digest_X6_back
set_option maxRecDepth 20000 in
theorem ggX6_digest_X6_would : GoodIn wsX6_digest wsX6_would := goodIn_r _ [120, 4, 13, 14, 15, 10, 16, 17, 18, 19, 20, 21, 22, 23, 24, 25, 26, 27, 28, 29, 30, 31, 32, 33, 34, 35, 36, 37, 38, 39, 40, 41, 42, 43, 44, 45, 46, 47, 48, 49, 50, 51, 52, 53, 54, 55, 56, 57, 58, 59, 60, 61, 62, 63, 64, 65, 66, 67, 76, 77, 78, 79, 80, 81, 82, 83, 84, 85, 86, 87, 145, 146, 147, 148, 149, 150, 151, 152, 153, 154, 155, 156, 157, 158, 159, 160, 161] (by decide +kernel) (by decide +kernel)
set_option maxRecDepth 20000 in
theorem gX6_digest_X6_would : GoodIn wsX6_digest (wsV RX6 173 RX6 yX6_would wsX6_would) := goodIn_app (goodIn_of _ (by decide +kernel)) ggX6_digest_X6_would
set_option maxRecDepth 20000 in
theorem ggX6_digest_X6_largest : GoodIn wsX6_digest wsX6_largest := goodIn_r _ [124, 4, 117, 118, 119, 10, 120, 13, 14, 15, 16, 17, 18, 19, 20, 21, 22, 23, 24, 25, 26, 27, 28, 29, 30, 31, 32, 33, 34, 35, 36, 37, 38, 39, 40, 41, 42, 43, 44, 45, 46, 47, 48, 49, 50, 51, 52, 53, 54, 55, 56, 57, 58, 59, 60, 61, 62, 63, 64, 65, 66, 67, 76, 77, 78, 79, 80, 81, 82, 83, 84, 85, 86, 87, 145, 146, 147, 148, 149, 150, 151, 152, 153, 154, 155, 156, 157, 158, 159, 160, 161] (by decide +kernel) (by decide +kernel)
set_option maxRecDepth 20000 in
theorem gX6_digest_X6_largest : GoodIn wsX6_digest (wsV RX6 177 RX6 yX6_largest wsX6_largest) := goodIn_app (goodIn_of _ (by decide +kernel)) ggX6_digest_X6_largest
set_option maxRecDepth 20000 in
theorem ggX6_digest_X6_snapOfFewest : GoodIn wsX6_digest wsX6_snapOfFewest := goodIn_r _ [128, 117, 118, 119, 10, 120, 4, 13, 14, 15, 16, 17, 18, 19, 20, 21, 22, 23, 24, 25, 26, 27, 28, 29, 30, 31, 32, 33, 34, 35, 36, 37, 38, 39, 40, 41, 42, 43, 44, 45, 46, 47, 48, 49, 50, 51, 52, 53, 54, 55, 56, 57, 58, 59, 60, 61, 62, 63, 64, 65, 66, 67, 76, 77, 78, 79, 80, 81, 82, 83, 84, 85, 86, 87, 145, 146, 147, 148, 149, 150, 151, 152, 153, 154, 155, 156, 157, 158, 159, 160, 161] (by decide +kernel) (by decide +kernel)
set_option maxRecDepth 20000 in
theorem gX6_digest_X6_snapOfFewest : GoodIn wsX6_digest (wsV RX6 180 RX6 yX6_snapOfFewest wsX6_snapOfFewest) := goodIn_app (goodIn_of _ (by decide +kernel)) ggX6_digest_X6_snapOfFewest
set_option maxRecDepth 20000 in
theorem ggX6_digest_X6_evenness : GoodIn wsX6_digest wsX6_evenness := goodIn_r _ [132, 72, 73, 74, 10, 75, 4, 24, 18, 19, 20, 21, 22, 23, 17, 25, 26, 27, 28, 29, 30, 31, 32, 33, 34, 35, 36, 37, 38, 39, 40, 41, 42, 43, 44, 45, 46, 47, 48, 49, 50, 51, 52, 53, 54, 55, 56, 57, 58, 59, 60, 61, 62, 63, 64, 65, 66, 67, 76, 77, 78, 79, 80, 81, 82, 83, 84, 85, 86, 87, 145, 146, 147, 148, 149, 150, 151, 152, 153, 154, 155, 156, 157, 158, 159, 160, 161] (by decide +kernel) (by decide +kernel)
set_option maxRecDepth 20000 in
theorem gX6_digest_X6_evenness : GoodIn wsX6_digest (wsV RX6 186 RX6 yX6_evenness wsX6_evenness) := goodIn_app (goodIn_of _ (by decide +kernel)) ggX6_digest_X6_evenness
set_option maxRecDepth 20000 in
theorem ggX6_digest_Jxe99ae_doubleToLongBits_ccdee : GoodIn wsX6_digest wsJxe99ae_doubleToLongBits_ccdee := goodIn_r _ [136, 137, 138, 139, 140, 141, 142, 143, 135, 144] (by decide +kernel) (by decide +kernel)
set_option maxRecDepth 20000 in
theorem gX6_digest_Jxe99ae_doubleToLongBits_ccdee : GoodIn wsX6_digest (va_wsS RX6 202 yJxe99ae_doubleToLongBits_ccdee wsJxe99ae_doubleToLongBits_ccdee) := goodIn_app (goodIn_of _ (by decide +kernel)) ggX6_digest_Jxe99ae_doubleToLongBits_ccdee
theorem dX6_digest_0 : decode cX6_digest 0 = .ok (.aload_n 0, 1) := by decide +kernel
theorem dX6_digest_1 : decode cX6_digest 1 = .ok (.iconst 0, 1) := by decide +kernel
theorem dX6_digest_2 : decode cX6_digest 2 = .ok (.putfield 40, 3) := by decide +kernel
theorem dX6_digest_5 : decode cX6_digest 5 = .ok (.aload_n 0, 1) := by decide +kernel
theorem dX6_digest_6 : decode cX6_digest 6 = .ok (.ldc2_w 196, 3) := by decide +kernel
theorem dX6_digest_9 : decode cX6_digest 9 = .ok (.putfield 192, 3) := by decide +kernel
theorem dX6_digest_12 : decode cX6_digest 12 = .ok (.iconst 0, 1) := by decide +kernel
theorem dX6_digest_13 : decode cX6_digest 13 = .ok (.istore_n 1, 1) := by decide +kernel
theorem dX6_digest_14 : decode cX6_digest 14 = .ok (.iload_n 1, 1) := by decide +kernel
theorem dX6_digest_15 : decode cX6_digest 15 = .ok (.bipush 16, 2) := by decide +kernel
theorem dX6_digest_17 : decode cX6_digest 17 = .ok (.if_icmp .ge 19, 3) := by decide +kernel
theorem dX6_digest_20 : decode cX6_digest 20 = .ok (.aload_n 0, 1) := by decide +kernel
theorem dX6_digest_21 : decode cX6_digest 21 = .ok (.aload_n 0, 1) := by decide +kernel
theorem dX6_digest_22 : decode cX6_digest 22 = .ok (.iload_n 1, 1) := by decide +kernel
theorem dX6_digest_23 : decode cX6_digest 23 = .ok (.invokevirtual 170, 3) := by decide +kernel
theorem dX6_digest_26 : decode cX6_digest 26 = .ok (.i2l, 1) := by decide +kernel
theorem dX6_digest_27 : decode cX6_digest 27 = .ok (.invokevirtual 198, 3) := by decide +kernel
theorem dX6_digest_30 : decode cX6_digest 30 = .ok (.iinc 1 1, 3) := by decide +kernel
theorem dX6_digest_33 : decode cX6_digest 33 = .ok (.goto (-19), 3) := by decide +kernel
theorem dX6_digest_36 : decode cX6_digest 36 = .ok (.iconst 0, 1) := by decide +kernel
theorem dX6_digest_37 : decode cX6_digest 37 = .ok (.istore_n 1, 1) := by decide +kernel
theorem dX6_digest_38 : decode cX6_digest 38 = .ok (.iload_n 1, 1) := by decide +kernel
theorem dX6_digest_39 : decode cX6_digest 39 = .ok (.aload_n 0, 1) := by decide +kernel
theorem dX6_digest_40 : decode cX6_digest 40 = .ok (.getfield 7, 3) := by decide +kernel
theorem dX6_digest_43 : decode cX6_digest 43 = .ok (.bipush 7, 2) := by decide +kernel
theorem dX6_digest_45 : decode cX6_digest 45 = .ok (.iaload, 1) := by decide +kernel
theorem dX6_digest_46 : decode cX6_digest 46 = .ok (.if_icmp .ge 48, 3) := by decide +kernel
theorem dX6_digest_49 : decode cX6_digest 49 = .ok (.aload_n 0, 1) := by decide +kernel
theorem dX6_digest_50 : decode cX6_digest 50 = .ok (.invokevirtual 91, 3) := by decide +kernel
theorem dX6_digest_53 : decode cX6_digest 53 = .ok (.iconst 0, 1) := by decide +kernel
theorem dX6_digest_54 : decode cX6_digest 54 = .ok (.istore_n 2, 1) := by decide +kernel
theorem dX6_digest_55 : decode cX6_digest 55 = .ok (.iload_n 2, 1) := by decide +kernel
theorem dX6_digest_56 : decode cX6_digest 56 = .ok (.bipush 9, 2) := by decide +kernel
theorem dX6_digest_58 : decode cX6_digest 58 = .ok (.if_icmp .ge 20, 3) := by decide +kernel
theorem dX6_digest_61 : decode cX6_digest 61 = .ok (.aload_n 0, 1) := by decide +kernel
theorem dX6_digest_62 : decode cX6_digest 62 = .ok (.aload_n 0, 1) := by decide +kernel
theorem dX6_digest_63 : decode cX6_digest 63 = .ok (.iload_n 1, 1) := by decide +kernel
theorem dX6_digest_64 : decode cX6_digest 64 = .ok (.iload_n 2, 1) := by decide +kernel
theorem dX6_digest_65 : decode cX6_digest 65 = .ok (.invokevirtual 146, 3) := by decide +kernel
theorem dX6_digest_68 : decode cX6_digest 68 = .ok (.i2l, 1) := by decide +kernel
theorem dX6_digest_69 : decode cX6_digest 69 = .ok (.invokevirtual 198, 3) := by decide +kernel
theorem dX6_digest_72 : decode cX6_digest 72 = .ok (.iinc 2 1, 3) := by decide +kernel
theorem dX6_digest_75 : decode cX6_digest 75 = .ok (.goto (-20), 3) := by decide +kernel
theorem dX6_digest_78 : decode cX6_digest 78 = .ok (.aload_n 0, 1) := by decide +kernel
theorem dX6_digest_79 : decode cX6_digest 79 = .ok (.aload_n 0, 1) := by decide +kernel
theorem dX6_digest_80 : decode cX6_digest 80 = .ok (.iload_n 1, 1) := by decide +kernel
theorem dX6_digest_81 : decode cX6_digest 81 = .ok (.invokevirtual 183, 3) := by decide +kernel
theorem dX6_digest_84 : decode cX6_digest 84 = .ok (.i2l, 1) := by decide +kernel
theorem dX6_digest_85 : decode cX6_digest 85 = .ok (.invokevirtual 198, 3) := by decide +kernel
theorem dX6_digest_88 : decode cX6_digest 88 = .ok (.iinc 1 1, 3) := by decide +kernel
theorem dX6_digest_91 : decode cX6_digest 91 = .ok (.goto (-53), 3) := by decide +kernel
theorem dX6_digest_94 : decode cX6_digest 94 = .ok (.aload_n 0, 1) := by decide +kernel
theorem dX6_digest_95 : decode cX6_digest 95 = .ok (.invokevirtual 160, 3) := by decide +kernel
theorem dX6_digest_98 : decode cX6_digest 98 = .ok (.istore_n 1, 1) := by decide +kernel
theorem dX6_digest_99 : decode cX6_digest 99 = .ok (.iconst 0, 1) := by decide +kernel
theorem dX6_digest_100 : decode cX6_digest 100 = .ok (.istore_n 2, 1) := by decide +kernel
theorem dX6_digest_101 : decode cX6_digest 101 = .ok (.iload_n 2, 1) := by decide +kernel
theorem dX6_digest_102 : decode cX6_digest 102 = .ok (.iload_n 1, 1) := by decide +kernel
theorem dX6_digest_103 : decode cX6_digest 103 = .ok (.if_icmp .ge 31, 3) := by decide +kernel
theorem dX6_digest_106 : decode cX6_digest 106 = .ok (.aload_n 0, 1) := by decide +kernel
theorem dX6_digest_107 : decode cX6_digest 107 = .ok (.aload_n 0, 1) := by decide +kernel
theorem dX6_digest_108 : decode cX6_digest 108 = .ok (.iload_n 2, 1) := by decide +kernel
theorem dX6_digest_109 : decode cX6_digest 109 = .ok (.iconst 0, 1) := by decide +kernel
theorem dX6_digest_110 : decode cX6_digest 110 = .ok (.invokevirtual 153, 3) := by decide +kernel
theorem dX6_digest_113 : decode cX6_digest 113 = .ok (.i2l, 1) := by decide +kernel
theorem dX6_digest_114 : decode cX6_digest 114 = .ok (.invokevirtual 198, 3) := by decide +kernel
theorem dX6_digest_117 : decode cX6_digest 117 = .ok (.aload_n 0, 1) := by decide +kernel
theorem dX6_digest_118 : decode cX6_digest 118 = .ok (.aload_n 0, 1) := by decide +kernel
theorem dX6_digest_119 : decode cX6_digest 119 = .ok (.iload_n 2, 1) := by decide +kernel
theorem dX6_digest_120 : decode cX6_digest 120 = .ok (.iconst 1, 1) := by decide +kernel
theorem dX6_digest_121 : decode cX6_digest 121 = .ok (.invokevirtual 153, 3) := by decide +kernel
theorem dX6_digest_124 : decode cX6_digest 124 = .ok (.i2l, 1) := by decide +kernel
theorem dX6_digest_125 : decode cX6_digest 125 = .ok (.invokevirtual 198, 3) := by decide +kernel
theorem dX6_digest_128 : decode cX6_digest 128 = .ok (.iinc 2 1, 3) := by decide +kernel
theorem dX6_digest_131 : decode cX6_digest 131 = .ok (.goto (-30), 3) := by decide +kernel
theorem dX6_digest_134 : decode cX6_digest 134 = .ok (.iconst 0, 1) := by decide +kernel
theorem dX6_digest_135 : decode cX6_digest 135 = .ok (.istore_n 2, 1) := by decide +kernel
theorem dX6_digest_136 : decode cX6_digest 136 = .ok (.iload_n 2, 1) := by decide +kernel
theorem dX6_digest_137 : decode cX6_digest 137 = .ok (.iconst 4, 1) := by decide +kernel
theorem dX6_digest_138 : decode cX6_digest 138 = .ok (.if_icmp .ge 32, 3) := by decide +kernel
theorem dX6_digest_141 : decode cX6_digest 141 = .ok (.aload_n 0, 1) := by decide +kernel
theorem dX6_digest_142 : decode cX6_digest 142 = .ok (.aload_n 0, 1) := by decide +kernel
theorem dX6_digest_143 : decode cX6_digest 143 = .ok (.iload_n 2, 1) := by decide +kernel
theorem dX6_digest_144 : decode cX6_digest 144 = .ok (.iconst 0, 1) := by decide +kernel
theorem dX6_digest_145 : decode cX6_digest 145 = .ok (.invokevirtual 62, 3) := by decide +kernel
theorem dX6_digest_148 : decode cX6_digest 148 = .ok (.i2l, 1) := by decide +kernel
theorem dX6_digest_149 : decode cX6_digest 149 = .ok (.invokevirtual 198, 3) := by decide +kernel
theorem dX6_digest_152 : decode cX6_digest 152 = .ok (.aload_n 0, 1) := by decide +kernel
theorem dX6_digest_153 : decode cX6_digest 153 = .ok (.aload_n 0, 1) := by decide +kernel
theorem dX6_digest_154 : decode cX6_digest 154 = .ok (.iload_n 2, 1) := by decide +kernel
theorem dX6_digest_155 : decode cX6_digest 155 = .ok (.bipush 9, 2) := by decide +kernel
theorem dX6_digest_157 : decode cX6_digest 157 = .ok (.invokevirtual 62, 3) := by decide +kernel
theorem dX6_digest_160 : decode cX6_digest 160 = .ok (.i2l, 1) := by decide +kernel
theorem dX6_digest_161 : decode cX6_digest 161 = .ok (.invokevirtual 198, 3) := by decide +kernel
theorem dX6_digest_164 : decode cX6_digest 164 = .ok (.iinc 2 1, 3) := by decide +kernel
theorem dX6_digest_167 : decode cX6_digest 167 = .ok (.goto (-31), 3) := by decide +kernel
theorem dX6_digest_170 : decode cX6_digest 170 = .ok (.aload_n 0, 1) := by decide +kernel
theorem dX6_digest_171 : decode cX6_digest 171 = .ok (.aload_n 0, 1) := by decide +kernel
theorem dX6_digest_172 : decode cX6_digest 172 = .ok (.iconst 4, 1) := by decide +kernel
theorem dX6_digest_173 : decode cX6_digest 173 = .ok (.iconst 5, 1) := by decide +kernel
theorem dX6_digest_174 : decode cX6_digest 174 = .ok (.iconst 0, 1) := by decide +kernel
theorem dX6_digest_175 : decode cX6_digest 175 = .ok (.invokevirtual 173, 3) := by decide +kernel
theorem dX6_digest_178 : decode cX6_digest 178 = .ok (.i2l, 1) := by decide +kernel
theorem dX6_digest_179 : decode cX6_digest 179 = .ok (.invokevirtual 198, 3) := by decide +kernel
theorem dX6_digest_182 : decode cX6_digest 182 = .ok (.aload_n 0, 1) := by decide +kernel
theorem dX6_digest_183 : decode cX6_digest 183 = .ok (.aload_n 0, 1) := by decide +kernel
theorem dX6_digest_184 : decode cX6_digest 184 = .ok (.iconst 4, 1) := by decide +kernel
theorem dX6_digest_185 : decode cX6_digest 185 = .ok (.iconst 5, 1) := by decide +kernel
theorem dX6_digest_186 : decode cX6_digest 186 = .ok (.iconst 1, 1) := by decide +kernel
theorem dX6_digest_187 : decode cX6_digest 187 = .ok (.invokevirtual 173, 3) := by decide +kernel
theorem dX6_digest_190 : decode cX6_digest 190 = .ok (.i2l, 1) := by decide +kernel
theorem dX6_digest_191 : decode cX6_digest 191 = .ok (.invokevirtual 198, 3) := by decide +kernel
theorem dX6_digest_194 : decode cX6_digest 194 = .ok (.aload_n 0, 1) := by decide +kernel
theorem dX6_digest_195 : decode cX6_digest 195 = .ok (.aload_n 0, 1) := by decide +kernel
theorem dX6_digest_196 : decode cX6_digest 196 = .ok (.invokevirtual 177, 3) := by decide +kernel
theorem dX6_digest_199 : decode cX6_digest 199 = .ok (.i2l, 1) := by decide +kernel
theorem dX6_digest_200 : decode cX6_digest 200 = .ok (.invokevirtual 198, 3) := by decide +kernel
theorem dX6_digest_203 : decode cX6_digest 203 = .ok (.aload_n 0, 1) := by decide +kernel
theorem dX6_digest_204 : decode cX6_digest 204 = .ok (.aload_n 0, 1) := by decide +kernel
theorem dX6_digest_205 : decode cX6_digest 205 = .ok (.invokevirtual 180, 3) := by decide +kernel
theorem dX6_digest_208 : decode cX6_digest 208 = .ok (.i2l, 1) := by decide +kernel
theorem dX6_digest_209 : decode cX6_digest 209 = .ok (.invokevirtual 198, 3) := by decide +kernel
theorem dX6_digest_212 : decode cX6_digest 212 = .ok (.aload_n 0, 1) := by decide +kernel
theorem dX6_digest_213 : decode cX6_digest 213 = .ok (.aload_n 0, 1) := by decide +kernel
theorem dX6_digest_214 : decode cX6_digest 214 = .ok (.invokevirtual 186, 3) := by decide +kernel
theorem dX6_digest_217 : decode cX6_digest 217 = .ok (.invokestatic 202, 3) := by decide +kernel
theorem dX6_digest_220 : decode cX6_digest 220 = .ok (.invokevirtual 198, 3) := by decide +kernel
theorem dX6_digest_223 : decode cX6_digest 223 = .ok (.aload_n 0, 1) := by decide +kernel
theorem dX6_digest_224 : decode cX6_digest 224 = .ok (.aload_n 0, 1) := by decide +kernel
theorem dX6_digest_225 : decode cX6_digest 225 = .ok (.getfield 117, 3) := by decide +kernel
theorem dX6_digest_228 : decode cX6_digest 228 = .ok (.i2l, 1) := by decide +kernel
theorem dX6_digest_229 : decode cX6_digest 229 = .ok (.invokevirtual 198, 3) := by decide +kernel
theorem dX6_digest_232 : decode cX6_digest 232 = .ok (.iconst 0, 1) := by decide +kernel
theorem dX6_digest_233 : decode cX6_digest 233 = .ok (.istore_n 2, 1) := by decide +kernel
theorem dX6_digest_234 : decode cX6_digest 234 = .ok (.iload_n 2, 1) := by decide +kernel
theorem dX6_digest_235 : decode cX6_digest 235 = .ok (.aload_n 0, 1) := by decide +kernel
theorem dX6_digest_236 : decode cX6_digest 236 = .ok (.getfield 117, 3) := by decide +kernel
theorem dX6_digest_239 : decode cX6_digest 239 = .ok (.if_icmp .ge 20, 3) := by decide +kernel
theorem dX6_digest_242 : decode cX6_digest 242 = .ok (.aload_n 0, 1) := by decide +kernel
theorem dX6_digest_243 : decode cX6_digest 243 = .ok (.aload_n 0, 1) := by decide +kernel
theorem dX6_digest_244 : decode cX6_digest 244 = .ok (.getfield 19, 3) := by decide +kernel
theorem dX6_digest_247 : decode cX6_digest 247 = .ok (.iload_n 2, 1) := by decide +kernel
theorem dX6_digest_248 : decode cX6_digest 248 = .ok (.iaload, 1) := by decide +kernel
theorem dX6_digest_249 : decode cX6_digest 249 = .ok (.i2l, 1) := by decide +kernel
theorem dX6_digest_250 : decode cX6_digest 250 = .ok (.invokevirtual 198, 3) := by decide +kernel
theorem dX6_digest_253 : decode cX6_digest 253 = .ok (.iinc 2 1, 3) := by decide +kernel
theorem dX6_digest_256 : decode cX6_digest 256 = .ok (.goto (-22), 3) := by decide +kernel
theorem dX6_digest_259 : decode cX6_digest 259 = .ok (.aload_n 0, 1) := by decide +kernel
theorem dX6_digest_260 : decode cX6_digest 260 = .ok (.getfield 192, 3) := by decide +kernel
theorem dX6_digest_263 : decode cX6_digest 263 = .ok (.lreturn, 1) := by decide +kernel
theorem dJxe99ae_isNaN_b9ae7_0 : decode cJxe99ae_isNaN_b9ae7 0 = .ok (.dload_n 0, 1) := by decide +kernel
theorem dJxe99ae_isNaN_b9ae7_1 : decode cJxe99ae_isNaN_b9ae7 1 = .ok (.dload_n 0, 1) := by decide +kernel
theorem dJxe99ae_isNaN_b9ae7_2 : decode cJxe99ae_isNaN_b9ae7 2 = .ok (.dcmp .l, 1) := by decide +kernel
theorem dJxe99ae_isNaN_b9ae7_3 : decode cJxe99ae_isNaN_b9ae7 3 = .ok (.ifCond .eq 7, 3) := by decide +kernel
theorem dJxe99ae_isNaN_b9ae7_6 : decode cJxe99ae_isNaN_b9ae7 6 = .ok (.iconst 1, 1) := by decide +kernel
theorem dJxe99ae_isNaN_b9ae7_7 : decode cJxe99ae_isNaN_b9ae7 7 = .ok (.goto 4, 3) := by decide +kernel
theorem dJxe99ae_isNaN_b9ae7_10 : decode cJxe99ae_isNaN_b9ae7 10 = .ok (.iconst 0, 1) := by decide +kernel
theorem dJxe99ae_isNaN_b9ae7_11 : decode cJxe99ae_isNaN_b9ae7 11 = .ok (.ireturn, 1) := by decide +kernel
set_option maxRecDepth 20000 in
theorem ggJxe99ae_doubleToLongBits_ccdee_Jxe99ae_isNaN_b9ae7 : GoodIn wsJxe99ae_doubleToLongBits_ccdee wsJxe99ae_isNaN_b9ae7 := goodIn_r _ [9] (by decide +kernel) (by decide +kernel)
set_option maxRecDepth 20000 in
theorem gJxe99ae_doubleToLongBits_ccdee_Jxe99ae_isNaN_b9ae7 : GoodIn wsJxe99ae_doubleToLongBits_ccdee (va_wsS RJxe99ae 122 yJxe99ae_isNaN_b9ae7 wsJxe99ae_isNaN_b9ae7) := goodIn_app (goodIn_of _ (by decide +kernel)) ggJxe99ae_doubleToLongBits_ccdee_Jxe99ae_isNaN_b9ae7
theorem dJxe99ae_doubleToLongBits_ccdee_0 : decode cJxe99ae_doubleToLongBits_ccdee 0 = .ok (.dload_n 0, 1) := by decide +kernel
theorem dJxe99ae_doubleToLongBits_ccdee_1 : decode cJxe99ae_doubleToLongBits_ccdee 1 = .ok (.invokestatic 122, 3) := by decide +kernel
theorem dJxe99ae_doubleToLongBits_ccdee_4 : decode cJxe99ae_doubleToLongBits_ccdee 4 = .ok (.ifCond .ne 8, 3) := by decide +kernel
theorem dJxe99ae_doubleToLongBits_ccdee_7 : decode cJxe99ae_doubleToLongBits_ccdee 7 = .ok (.dload_n 0, 1) := by decide +kernel
theorem dJxe99ae_doubleToLongBits_ccdee_8 : decode cJxe99ae_doubleToLongBits_ccdee 8 = .ok (.invokestatic 134, 3) := by decide +kernel
theorem dJxe99ae_doubleToLongBits_ccdee_11 : decode cJxe99ae_doubleToLongBits_ccdee 11 = .ok (.lreturn, 1) := by decide +kernel
theorem dJxe99ae_doubleToLongBits_ccdee_12 : decode cJxe99ae_doubleToLongBits_ccdee 12 = .ok (.ldc2_w 137, 3) := by decide +kernel
theorem dJxe99ae_doubleToLongBits_ccdee_15 : decode cJxe99ae_doubleToLongBits_ccdee 15 = .ok (.lreturn, 1) := by decide +kernel
set_option maxRecDepth 20000 in
theorem ggL_put_X5_put : GoodIn wsL_put wsX5_put := goodIn_ca (goodIn_ca (goodIn_ca (goodIn_r _ [8, 9, 10, 11, 12, 13, 14, 15, 16, 17, 7, 18, 19, 20, 21, 22, 23, 24, 25, 26, 27, 28, 29, 30, 31, 32, 33, 34, 35, 36, 37, 38, 39, 40, 41, 42, 43, 44, 45, 46, 47, 48, 49, 50, 51, 52, 53, 54, 55, 56, 57, 58, 59, 60, 61, 62, 63, 64, 65, 66, 67, 68, 69, 70, 71, 72, 73, 74, 75, 76, 77, 78] (by decide +kernel) (by decide +kernel)) (goodIn_sub (fun _ h => List.mem_cons_of_mem _ (List.mem_append_left _ (List.mem_append_left _ (List.mem_append_right _ h)))) (by decide +kernel))) (goodIn_sub (fun _ h => List.mem_cons_of_mem _ (List.mem_append_left _ (List.mem_append_right _ h))) (by decide +kernel))) (goodIn_sub (fun _ h => List.mem_cons_of_mem _ (List.mem_append_right _ h)) (by decide +kernel))
set_option maxRecDepth 20000 in
theorem gL_put_X5_put : GoodIn wsL_put (wsV RL 7 RX5 yX5_put wsX5_put) := goodIn_app (goodIn_of _ (by decide +kernel)) ggL_put_X5_put
