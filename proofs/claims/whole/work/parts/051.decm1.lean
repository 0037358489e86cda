theorem dX6_init_0 : decode cX6_init 0 = .ok (.aload_n 0, 1) := by decide +kernel
theorem dX6_init_1 : decode cX6_init 1 = .ok (.invokespecial 1, 3) := by decide +kernel
theorem dX6_init_4 : decode cX6_init 4 = .ok (.aload_n 0, 1) := by decide +kernel
theorem dX6_init_5 : decode cX6_init 5 = .ok (.bipush 48, 2) := by decide +kernel
theorem dX6_init_7 : decode cX6_init 7 = .ok (.newarray .int, 2) := by decide +kernel
theorem dX6_init_9 : decode cX6_init 9 = .ok (.putfield 7, 3) := by decide +kernel
theorem dX6_init_12 : decode cX6_init 12 = .ok (.aload_n 0, 1) := by decide +kernel
theorem dX6_init_13 : decode cX6_init 13 = .ok (.sipush 288, 3) := by decide +kernel
theorem dX6_init_16 : decode cX6_init 16 = .ok (.newarray .int, 2) := by decide +kernel
theorem dX6_init_18 : decode cX6_init 18 = .ok (.putfield 13, 3) := by decide +kernel
theorem dX6_init_21 : decode cX6_init 21 = .ok (.aload_n 0, 1) := by decide +kernel
theorem dX6_init_22 : decode cX6_init 22 = .ok (.bipush 48, 2) := by decide +kernel
theorem dX6_init_24 : decode cX6_init 24 = .ok (.newarray .int, 2) := by decide +kernel
theorem dX6_init_26 : decode cX6_init 26 = .ok (.putfield 16, 3) := by decide +kernel
theorem dX6_init_29 : decode cX6_init 29 = .ok (.aload_n 0, 1) := by decide +kernel
theorem dX6_init_30 : decode cX6_init 30 = .ok (.bipush 60, 2) := by decide +kernel
theorem dX6_init_32 : decode cX6_init 32 = .ok (.newarray .int, 2) := by decide +kernel
theorem dX6_init_34 : decode cX6_init 34 = .ok (.putfield 19, 3) := by decide +kernel
theorem dX6_init_37 : decode cX6_init 37 = .ok (.aload_n 0, 1) := by decide +kernel
theorem dX6_init_38 : decode cX6_init 38 = .ok (.bipush 20, 2) := by decide +kernel
theorem dX6_init_40 : decode cX6_init 40 = .ok (.newarray .int, 2) := by decide +kernel
theorem dX6_init_42 : decode cX6_init 42 = .ok (.putfield 22, 3) := by decide +kernel
theorem dX6_init_45 : decode cX6_init 45 = .ok (.aload_n 0, 1) := by decide +kernel
theorem dX6_init_46 : decode cX6_init 46 = .ok (.bipush 20, 2) := by decide +kernel
theorem dX6_init_48 : decode cX6_init 48 = .ok (.newarray .int, 2) := by decide +kernel
theorem dX6_init_50 : decode cX6_init 50 = .ok (.putfield 25, 3) := by decide +kernel
theorem dX6_init_53 : decode cX6_init 53 = .ok (.aload_n 0, 1) := by decide +kernel
theorem dX6_init_54 : decode cX6_init 54 = .ok (.bipush 20, 2) := by decide +kernel
theorem dX6_init_56 : decode cX6_init 56 = .ok (.newarray .int, 2) := by decide +kernel
theorem dX6_init_58 : decode cX6_init 58 = .ok (.putfield 28, 3) := by decide +kernel
theorem dX6_init_61 : decode cX6_init 61 = .ok (.aload_n 0, 1) := by decide +kernel
theorem dX6_init_62 : decode cX6_init 62 = .ok (.bipush 20, 2) := by decide +kernel
theorem dX6_init_64 : decode cX6_init 64 = .ok (.newarray .int, 2) := by decide +kernel
theorem dX6_init_66 : decode cX6_init 66 = .ok (.putfield 31, 3) := by decide +kernel
theorem dX6_init_69 : decode cX6_init 69 = .ok (.aload_n 0, 1) := by decide +kernel
theorem dX6_init_70 : decode cX6_init 70 = .ok (.bipush 21, 2) := by decide +kernel
theorem dX6_init_72 : decode cX6_init 72 = .ok (.newarray .int, 2) := by decide +kernel
theorem dX6_init_74 : decode cX6_init 74 = .ok (.putfield 34, 3) := by decide +kernel
theorem dX6_init_77 : decode cX6_init 77 = .ok (.aload_n 0, 1) := by decide +kernel
theorem dX6_init_78 : decode cX6_init 78 = .ok (.bipush 21, 2) := by decide +kernel
theorem dX6_init_80 : decode cX6_init 80 = .ok (.newarray .int, 2) := by decide +kernel
theorem dX6_init_82 : decode cX6_init 82 = .ok (.putfield 37, 3) := by decide +kernel
theorem dX6_init_85 : decode cX6_init 85 = .ok (.aload_n 0, 1) := by decide +kernel
theorem dX6_init_86 : decode cX6_init 86 = .ok (.iconst 0, 1) := by decide +kernel
theorem dX6_init_87 : decode cX6_init 87 = .ok (.putfield 40, 3) := by decide +kernel
theorem dX6_init_90 : decode cX6_init 90 = .ok (.aload_n 0, 1) := by decide +kernel
theorem dX6_init_91 : decode cX6_init 91 = .ok (.getfield 7, 3) := by decide +kernel
theorem dX6_init_94 : decode cX6_init 94 = .ok (.iconst 0, 1) := by decide +kernel
theorem dX6_init_95 : decode cX6_init 95 = .ok (.iconst 1, 1) := by decide +kernel
theorem dX6_init_96 : decode cX6_init 96 = .ok (.iastore, 1) := by decide +kernel
theorem dX6_init_97 : decode cX6_init 97 = .ok (.aload_n 0, 1) := by decide +kernel
theorem dX6_init_98 : decode cX6_init 98 = .ok (.getfield 7, 3) := by decide +kernel
theorem dX6_init_101 : decode cX6_init 101 = .ok (.iconst 1, 1) := by decide +kernel
theorem dX6_init_102 : decode cX6_init 102 = .ok (.bipush 20, 2) := by decide +kernel
theorem dX6_init_104 : decode cX6_init 104 = .ok (.iastore, 1) := by decide +kernel
theorem dX6_init_105 : decode cX6_init 105 = .ok (.aload_n 0, 1) := by decide +kernel
theorem dX6_init_106 : decode cX6_init 106 = .ok (.getfield 7, 3) := by decide +kernel
theorem dX6_init_109 : decode cX6_init 109 = .ok (.iconst 2, 1) := by decide +kernel
theorem dX6_init_110 : decode cX6_init 110 = .ok (.bipush 8, 2) := by decide +kernel
theorem dX6_init_112 : decode cX6_init 112 = .ok (.iastore, 1) := by decide +kernel
theorem dX6_init_113 : decode cX6_init 113 = .ok (.aload_n 0, 1) := by decide +kernel
theorem dX6_init_114 : decode cX6_init 114 = .ok (.getfield 7, 3) := by decide +kernel
theorem dX6_init_117 : decode cX6_init 117 = .ok (.iconst 3, 1) := by decide +kernel
theorem dX6_init_118 : decode cX6_init 118 = .ok (.bipush 60, 2) := by decide +kernel
theorem dX6_init_120 : decode cX6_init 120 = .ok (.iastore, 1) := by decide +kernel
theorem dX6_init_121 : decode cX6_init 121 = .ok (.aload_n 0, 1) := by decide +kernel
theorem dX6_init_122 : decode cX6_init 122 = .ok (.getfield 7, 3) := by decide +kernel
theorem dX6_init_125 : decode cX6_init 125 = .ok (.iconst 4, 1) := by decide +kernel
theorem dX6_init_126 : decode cX6_init 126 = .ok (.iconst 1, 1) := by decide +kernel
theorem dX6_init_127 : decode cX6_init 127 = .ok (.iastore, 1) := by decide +kernel
theorem dX6_init_128 : decode cX6_init 128 = .ok (.aload_n 0, 1) := by decide +kernel
theorem dX6_init_129 : decode cX6_init 129 = .ok (.getfield 7, 3) := by decide +kernel
theorem dX6_init_132 : decode cX6_init 132 = .ok (.iconst 5, 1) := by decide +kernel
theorem dX6_init_133 : decode cX6_init 133 = .ok (.bipush 15, 2) := by decide +kernel
theorem dX6_init_135 : decode cX6_init 135 = .ok (.iastore, 1) := by decide +kernel
theorem dX6_init_136 : decode cX6_init 136 = .ok (.aload_n 0, 1) := by decide +kernel
theorem dX6_init_137 : decode cX6_init 137 = .ok (.getfield 7, 3) := by decide +kernel
theorem dX6_init_140 : decode cX6_init 140 = .ok (.bipush 6, 2) := by decide +kernel
theorem dX6_init_142 : decode cX6_init 142 = .ok (.sipush 300, 3) := by decide +kernel
theorem dX6_init_145 : decode cX6_init 145 = .ok (.iastore, 1) := by decide +kernel
theorem dX6_init_146 : decode cX6_init 146 = .ok (.return_, 1) := by decide +kernel
theorem dX6_thrown_0 : decode cX6_thrown 0 = .ok (.aload_n 0, 1) := by decide +kernel
theorem dX6_thrown_1 : decode cX6_thrown 1 = .ok (.getfield 40, 3) := by decide +kernel
theorem dX6_thrown_4 : decode cX6_thrown 4 = .ok (.ireturn, 1) := by decide +kernel
theorem dX6_in_0 : decode cX6_in 0 = .ok (.iload_n 0, 1) := by decide +kernel
theorem dX6_in_1 : decode cX6_in 1 = .ok (.iload_n 1, 1) := by decide +kernel
theorem dX6_in_2 : decode cX6_in 2 = .ok (.if_icmp .lt 12, 3) := by decide +kernel
theorem dX6_in_5 : decode cX6_in 5 = .ok (.iload_n 0, 1) := by decide +kernel
theorem dX6_in_6 : decode cX6_in 6 = .ok (.iload_n 2, 1) := by decide +kernel
theorem dX6_in_7 : decode cX6_in 7 = .ok (.if_icmp .gt 7, 3) := by decide +kernel
theorem dX6_in_10 : decode cX6_in 10 = .ok (.iconst 1, 1) := by decide +kernel
theorem dX6_in_11 : decode cX6_in 11 = .ok (.goto 4, 3) := by decide +kernel
theorem dX6_in_14 : decode cX6_in 14 = .ok (.iconst 0, 1) := by decide +kernel
theorem dX6_in_15 : decode cX6_in 15 = .ok (.ireturn, 1) := by decide +kernel
theorem dX6_fails_0 : decode cX6_fails 0 = .ok (.aload_n 0, 1) := by decide +kernel
theorem dX6_fails_1 : decode cX6_fails 1 = .ok (.iload_n 1, 1) := by decide +kernel
theorem dX6_fails_2 : decode cX6_fails 2 = .ok (.putfield 40, 3) := by decide +kernel
theorem dX6_fails_5 : decode cX6_fails 5 = .ok (.iconst 0, 1) := by decide +kernel
theorem dX6_fails_6 : decode cX6_fails 6 = .ok (.ireturn, 1) := by decide +kernel
theorem dX6_size_0 : decode cX6_size 0 = .ok (.iload_n 0, 1) := by decide +kernel
theorem dX6_size_1 : decode cX6_size 1 = .ok (.ifCond .ge 8, 3) := by decide +kernel
theorem dX6_size_4 : decode cX6_size 4 = .ok (.iload_n 0, 1) := by decide +kernel
theorem dX6_size_5 : decode cX6_size 5 = .ok (.ineg, 1) := by decide +kernel
theorem dX6_size_6 : decode cX6_size 6 = .ok (.goto 4, 3) := by decide +kernel
theorem dX6_size_9 : decode cX6_size 9 = .ok (.iload_n 0, 1) := by decide +kernel
theorem dX6_size_10 : decode cX6_size 10 = .ok (.ireturn, 1) := by decide +kernel
set_option maxRecDepth 20000 in
theorem ggX6_isItem_X6_in : GoodIn wsX6_isItem wsX6_in := goodIn_r _ [5] (by decide +kernel) (by decide +kernel)
set_option maxRecDepth 20000 in
theorem gX6_isItem_X6_in : GoodIn wsX6_isItem (va_wsS RX6 44 yX6_in wsX6_in) := goodIn_app (goodIn_of _ (by decide +kernel)) ggX6_isItem_X6_in
theorem dX6_isItem_0 : decode cX6_isItem 0 = .ok (.iload_n 1, 1) := by decide +kernel
theorem dX6_isItem_1 : decode cX6_isItem 1 = .ok (.iconst 0, 1) := by decide +kernel
theorem dX6_isItem_2 : decode cX6_isItem 2 = .ok (.aload_n 0, 1) := by decide +kernel
theorem dX6_isItem_3 : decode cX6_isItem 3 = .ok (.getfield 7, 3) := by decide +kernel
theorem dX6_isItem_6 : decode cX6_isItem 6 = .ok (.bipush 7, 2) := by decide +kernel
theorem dX6_isItem_8 : decode cX6_isItem 8 = .ok (.iaload, 1) := by decide +kernel
theorem dX6_isItem_9 : decode cX6_isItem 9 = .ok (.iconst 1, 1) := by decide +kernel
theorem dX6_isItem_10 : decode cX6_isItem 10 = .ok (.isub, 1) := by decide +kernel
theorem dX6_isItem_11 : decode cX6_isItem 11 = .ok (.invokestatic 44, 3) := by decide +kernel
theorem dX6_isItem_14 : decode cX6_isItem 14 = .ok (.ireturn, 1) := by decide +kernel
set_option maxRecDepth 20000 in
theorem ggX6_isLetter_X6_isItem : GoodIn wsX6_isLetter wsX6_isItem := goodIn_r _ [6, 1, 7, 8, 5, 9, 10, 11, 12, 13, 14, 15, 16, 17, 18, 19, 20, 21, 22, 23, 24, 25, 26] (by decide +kernel) (by decide +kernel)
set_option maxRecDepth 20000 in
theorem gX6_isLetter_X6_isItem : GoodIn wsX6_isLetter (wsV RX6 48 RX6 yX6_isItem wsX6_isItem) := goodIn_app (goodIn_of _ (by decide +kernel)) ggX6_isLetter_X6_isItem
theorem dX6_isLetter_0 : decode cX6_isLetter 0 = .ok (.aload_n 0, 1) := by decide +kernel
theorem dX6_isLetter_1 : decode cX6_isLetter 1 = .ok (.iload_n 1, 1) := by decide +kernel
theorem dX6_isLetter_2 : decode cX6_isLetter 2 = .ok (.invokevirtual 48, 3) := by decide +kernel
theorem dX6_isLetter_5 : decode cX6_isLetter 5 = .ok (.ifCond .eq 20, 3) := by decide +kernel
theorem dX6_isLetter_8 : decode cX6_isLetter 8 = .ok (.aload_n 0, 1) := by decide +kernel
theorem dX6_isLetter_9 : decode cX6_isLetter 9 = .ok (.getfield 7, 3) := by decide +kernel
theorem dX6_isLetter_12 : decode cX6_isLetter 12 = .ok (.bipush 8, 2) := by decide +kernel
theorem dX6_isLetter_14 : decode cX6_isLetter 14 = .ok (.iload_n 1, 1) := by decide +kernel
theorem dX6_isLetter_15 : decode cX6_isLetter 15 = .ok (.iadd, 1) := by decide +kernel
theorem dX6_isLetter_16 : decode cX6_isLetter 16 = .ok (.iaload, 1) := by decide +kernel
theorem dX6_isLetter_17 : decode cX6_isLetter 17 = .ok (.iconst (-1), 1) := by decide +kernel
theorem dX6_isLetter_18 : decode cX6_isLetter 18 = .ok (.if_icmp .eq 7, 3) := by decide +kernel
theorem dX6_isLetter_21 : decode cX6_isLetter 21 = .ok (.iconst 1, 1) := by decide +kernel
theorem dX6_isLetter_22 : decode cX6_isLetter 22 = .ok (.goto 4, 3) := by decide +kernel
theorem dX6_isLetter_25 : decode cX6_isLetter 25 = .ok (.iconst 0, 1) := by decide +kernel
theorem dX6_isLetter_26 : decode cX6_isLetter 26 = .ok (.ireturn, 1) := by decide +kernel
theorem dX6_saves_0 : decode cX6_saves 0 = .ok (.aload_n 0, 1) := by decide +kernel
theorem dX6_saves_1 : decode cX6_saves 1 = .ok (.getfield 52, 3) := by decide +kernel
theorem dX6_saves_4 : decode cX6_saves 4 = .ok (.bipush 6, 2) := by decide +kernel
theorem dX6_saves_6 : decode cX6_saves 6 = .ok (.if_icmp .ne 43, 3) := by decide +kernel
theorem dX6_saves_9 : decode cX6_saves 9 = .ok (.iconst 0, 1) := by decide +kernel
theorem dX6_saves_10 : decode cX6_saves 10 = .ok (.istore_n 1, 1) := by decide +kernel
theorem dX6_saves_11 : decode cX6_saves 11 = .ok (.iload_n 1, 1) := by decide +kernel
theorem dX6_saves_12 : decode cX6_saves 12 = .ok (.sipush 240, 3) := by decide +kernel
theorem dX6_saves_15 : decode cX6_saves 15 = .ok (.if_icmp .ge 24, 3) := by decide +kernel
theorem dX6_saves_18 : decode cX6_saves 18 = .ok (.aload_n 0, 1) := by decide +kernel
theorem dX6_saves_19 : decode cX6_saves 19 = .ok (.getfield 13, 3) := by decide +kernel
theorem dX6_saves_22 : decode cX6_saves 22 = .ok (.iload_n 1, 1) := by decide +kernel
theorem dX6_saves_23 : decode cX6_saves 23 = .ok (.aload_n 0, 1) := by decide +kernel
theorem dX6_saves_24 : decode cX6_saves 24 = .ok (.getfield 13, 3) := by decide +kernel
theorem dX6_saves_27 : decode cX6_saves 27 = .ok (.iload_n 1, 1) := by decide +kernel
theorem dX6_saves_28 : decode cX6_saves 28 = .ok (.bipush 48, 2) := by decide +kernel
theorem dX6_saves_30 : decode cX6_saves 30 = .ok (.iadd, 1) := by decide +kernel
theorem dX6_saves_31 : decode cX6_saves 31 = .ok (.iaload, 1) := by decide +kernel
theorem dX6_saves_32 : decode cX6_saves 32 = .ok (.iastore, 1) := by decide +kernel
theorem dX6_saves_33 : decode cX6_saves 33 = .ok (.iinc 1 1, 3) := by decide +kernel
theorem dX6_saves_36 : decode cX6_saves 36 = .ok (.goto (-25), 3) := by decide +kernel
theorem dX6_saves_39 : decode cX6_saves 39 = .ok (.aload_n 0, 1) := by decide +kernel
theorem dX6_saves_40 : decode cX6_saves 40 = .ok (.dup, 1) := by decide +kernel
theorem dX6_saves_41 : decode cX6_saves 41 = .ok (.getfield 52, 3) := by decide +kernel
theorem dX6_saves_44 : decode cX6_saves 44 = .ok (.iconst 1, 1) := by decide +kernel
theorem dX6_saves_45 : decode cX6_saves 45 = .ok (.isub, 1) := by decide +kernel
theorem dX6_saves_46 : decode cX6_saves 46 = .ok (.putfield 52, 3) := by decide +kernel
theorem dX6_saves_49 : decode cX6_saves 49 = .ok (.iconst 0, 1) := by decide +kernel
theorem dX6_saves_50 : decode cX6_saves 50 = .ok (.istore_n 1, 1) := by decide +kernel
theorem dX6_saves_51 : decode cX6_saves 51 = .ok (.iload_n 1, 1) := by decide +kernel
theorem dX6_saves_52 : decode cX6_saves 52 = .ok (.bipush 48, 2) := by decide +kernel
theorem dX6_saves_54 : decode cX6_saves 54 = .ok (.if_icmp .ge 29, 3) := by decide +kernel
theorem dX6_saves_57 : decode cX6_saves 57 = .ok (.aload_n 0, 1) := by decide +kernel
theorem dX6_saves_58 : decode cX6_saves 58 = .ok (.getfield 13, 3) := by decide +kernel
theorem dX6_saves_61 : decode cX6_saves 61 = .ok (.bipush 48, 2) := by decide +kernel
theorem dX6_saves_63 : decode cX6_saves 63 = .ok (.aload_n 0, 1) := by decide +kernel
theorem dX6_saves_64 : decode cX6_saves 64 = .ok (.getfield 52, 3) := by decide +kernel
theorem dX6_saves_67 : decode cX6_saves 67 = .ok (.imul, 1) := by decide +kernel
theorem dX6_saves_68 : decode cX6_saves 68 = .ok (.iload_n 1, 1) := by decide +kernel
theorem dX6_saves_69 : decode cX6_saves 69 = .ok (.iadd, 1) := by decide +kernel
theorem dX6_saves_70 : decode cX6_saves 70 = .ok (.aload_n 0, 1) := by decide +kernel
theorem dX6_saves_71 : decode cX6_saves 71 = .ok (.getfield 7, 3) := by decide +kernel
theorem dX6_saves_74 : decode cX6_saves 74 = .ok (.iload_n 1, 1) := by decide +kernel
theorem dX6_saves_75 : decode cX6_saves 75 = .ok (.iaload, 1) := by decide +kernel
theorem dX6_saves_76 : decode cX6_saves 76 = .ok (.iastore, 1) := by decide +kernel
theorem dX6_saves_77 : decode cX6_saves 77 = .ok (.iinc 1 1, 3) := by decide +kernel
theorem dX6_saves_80 : decode cX6_saves 80 = .ok (.goto (-29), 3) := by decide +kernel
theorem dX6_saves_83 : decode cX6_saves 83 = .ok (.aload_n 0, 1) := by decide +kernel
theorem dX6_saves_84 : decode cX6_saves 84 = .ok (.dup, 1) := by decide +kernel
theorem dX6_saves_85 : decode cX6_saves 85 = .ok (.getfield 52, 3) := by decide +kernel
theorem dX6_saves_88 : decode cX6_saves 88 = .ok (.iconst 1, 1) := by decide +kernel
theorem dX6_saves_89 : decode cX6_saves 89 = .ok (.iadd, 1) := by decide +kernel
theorem dX6_saves_90 : decode cX6_saves 90 = .ok (.putfield 52, 3) := by decide +kernel
theorem dX6_saves_93 : decode cX6_saves 93 = .ok (.return_, 1) := by decide +kernel
theorem dX6_widthOf_0 : decode cX6_widthOf 0 = .ok (.bipush 6, 2) := by decide +kernel
theorem dX6_widthOf_2 : decode cX6_widthOf 2 = .ok (.bipush 7, 2) := by decide +kernel
theorem dX6_widthOf_4 : decode cX6_widthOf 4 = .ok (.iload_n 0, 1) := by decide +kernel
theorem dX6_widthOf_5 : decode cX6_widthOf 5 = .ok (.imul, 1) := by decide +kernel
theorem dX6_widthOf_6 : decode cX6_widthOf 6 = .ok (.bipush 9, 2) := by decide +kernel
theorem dX6_widthOf_8 : decode cX6_widthOf 8 = .ok (.irem, 1) := by decide +kernel
theorem dX6_widthOf_9 : decode cX6_widthOf 9 = .ok (.iadd, 1) := by decide +kernel
theorem dX6_widthOf_10 : decode cX6_widthOf 10 = .ok (.ireturn, 1) := by decide +kernel
theorem dX6_leftShape_0 : decode cX6_leftShape 0 = .ok (.iload_n 0, 1) := by decide +kernel
theorem dX6_leftShape_1 : decode cX6_leftShape 1 = .ok (.iconst 4, 1) := by decide +kernel
theorem dX6_leftShape_2 : decode cX6_leftShape 2 = .ok (.irem, 1) := by decide +kernel
theorem dX6_leftShape_3 : decode cX6_leftShape 3 = .ok (.ireturn, 1) := by decide +kernel
theorem dX6_rightShape_0 : decode cX6_rightShape 0 = .ok (.iconst 3, 1) := by decide +kernel
theorem dX6_rightShape_1 : decode cX6_rightShape 1 = .ok (.iload_n 0, 1) := by decide +kernel
theorem dX6_rightShape_2 : decode cX6_rightShape 2 = .ok (.imul, 1) := by decide +kernel
theorem dX6_rightShape_3 : decode cX6_rightShape 3 = .ok (.iconst 1, 1) := by decide +kernel
theorem dX6_rightShape_4 : decode cX6_rightShape 4 = .ok (.iadd, 1) := by decide +kernel
theorem dX6_rightShape_5 : decode cX6_rightShape 5 = .ok (.iconst 4, 1) := by decide +kernel
theorem dX6_rightShape_6 : decode cX6_rightShape 6 = .ok (.irem, 1) := by decide +kernel
theorem dX6_rightShape_7 : decode cX6_rightShape 7 = .ok (.ireturn, 1) := by decide +kernel
set_option maxRecDepth 20000 in
theorem ggX6_back_X6_size : GoodIn wsX6_back wsX6_size := goodIn_r _ [5] (by decide +kernel) (by decide +kernel)
set_option maxRecDepth 20000 in
theorem gX6_back_X6_size : GoodIn wsX6_back (va_wsS RX6 55 yX6_size wsX6_size) := goodIn_app (goodIn_of _ (by decide +kernel)) ggX6_back_X6_size
set_option maxRecDepth 20000 in
theorem ggX6_back_X6_in : GoodIn wsX6_back wsX6_in := goodIn_r _ [8] (by decide +kernel) (by decide +kernel)
set_option maxRecDepth 20000 in
theorem gX6_back_X6_in : GoodIn wsX6_back (va_wsS RX6 44 yX6_in wsX6_in) := goodIn_app (goodIn_of _ (by decide +kernel)) ggX6_back_X6_in
theorem dX6_back_0 : decode cX6_back 0 = .ok (.iload_n 1, 1) := by decide +kernel
theorem dX6_back_1 : decode cX6_back 1 = .ok (.iconst 1, 1) := by decide +kernel
theorem dX6_back_2 : decode cX6_back 2 = .ok (.if_icmp .ne 17, 3) := by decide +kernel
theorem dX6_back_5 : decode cX6_back 5 = .ok (.iconst 2, 1) := by decide +kernel
theorem dX6_back_6 : decode cX6_back 6 = .ok (.iload_n 2, 1) := by decide +kernel
theorem dX6_back_7 : decode cX6_back 7 = .ok (.imul, 1) := by decide +kernel
theorem dX6_back_8 : decode cX6_back 8 = .ok (.bipush 9, 2) := by decide +kernel
theorem dX6_back_10 : decode cX6_back 10 = .ok (.isub, 1) := by decide +kernel
theorem dX6_back_11 : decode cX6_back 11 = .ok (.invokestatic 55, 3) := by decide +kernel
theorem dX6_back_14 : decode cX6_back 14 = .ok (.iconst 2, 1) := by decide +kernel
theorem dX6_back_15 : decode cX6_back 15 = .ok (.idiv, 1) := by decide +kernel
theorem dX6_back_16 : decode cX6_back 16 = .ok (.goto 34, 3) := by decide +kernel
theorem dX6_back_19 : decode cX6_back 19 = .ok (.iload_n 1, 1) := by decide +kernel
theorem dX6_back_20 : decode cX6_back 20 = .ok (.iconst 2, 1) := by decide +kernel
theorem dX6_back_21 : decode cX6_back 21 = .ok (.if_icmp .ne 9, 3) := by decide +kernel
theorem dX6_back_24 : decode cX6_back 24 = .ok (.iload_n 2, 1) := by decide +kernel
theorem dX6_back_25 : decode cX6_back 25 = .ok (.iconst 2, 1) := by decide +kernel
theorem dX6_back_26 : decode cX6_back 26 = .ok (.idiv, 1) := by decide +kernel
theorem dX6_back_27 : decode cX6_back 27 = .ok (.goto 23, 3) := by decide +kernel
theorem dX6_back_30 : decode cX6_back 30 = .ok (.iload_n 1, 1) := by decide +kernel
theorem dX6_back_31 : decode cX6_back 31 = .ok (.iconst 3, 1) := by decide +kernel
theorem dX6_back_32 : decode cX6_back 32 = .ok (.if_icmp .ne 17, 3) := by decide +kernel
theorem dX6_back_35 : decode cX6_back 35 = .ok (.iload_n 2, 1) := by decide +kernel
theorem dX6_back_36 : decode cX6_back 36 = .ok (.iconst 3, 1) := by decide +kernel
theorem dX6_back_37 : decode cX6_back 37 = .ok (.bipush 6, 2) := by decide +kernel
theorem dX6_back_39 : decode cX6_back 39 = .ok (.invokestatic 44, 3) := by decide +kernel
theorem dX6_back_42 : decode cX6_back 42 = .ok (.ifCond .eq 7, 3) := by decide +kernel
theorem dX6_back_45 : decode cX6_back 45 = .ok (.iconst 4, 1) := by decide +kernel
theorem dX6_back_46 : decode cX6_back 46 = .ok (.goto 4, 3) := by decide +kernel
theorem dX6_back_49 : decode cX6_back 49 = .ok (.iconst 0, 1) := by decide +kernel
theorem dX6_back_50 : decode cX6_back 50 = .ok (.istore_n 3, 1) := by decide +kernel
theorem dX6_back_51 : decode cX6_back 51 = .ok (.iload_n 2, 1) := by decide +kernel
theorem dX6_back_52 : decode cX6_back 52 = .ok (.ifCond .eq 9, 3) := by decide +kernel
theorem dX6_back_55 : decode cX6_back 55 = .ok (.iload_n 2, 1) := by decide +kernel
theorem dX6_back_56 : decode cX6_back 56 = .ok (.bipush 9, 2) := by decide +kernel
theorem dX6_back_58 : decode cX6_back 58 = .ok (.if_icmp .ne 14, 3) := by decide +kernel
theorem dX6_back_61 : decode cX6_back 61 = .ok (.iload_n 3, 1) := by decide +kernel
theorem dX6_back_62 : decode cX6_back 62 = .ok (.aload_n 0, 1) := by decide +kernel
theorem dX6_back_63 : decode cX6_back 63 = .ok (.getfield 7, 3) := by decide +kernel
theorem dX6_back_66 : decode cX6_back 66 = .ok (.iconst 0, 1) := by decide +kernel
theorem dX6_back_67 : decode cX6_back 67 = .ok (.iaload, 1) := by decide +kernel
theorem dX6_back_68 : decode cX6_back 68 = .ok (.isub, 1) := by decide +kernel
theorem dX6_back_69 : decode cX6_back 69 = .ok (.goto 4, 3) := by decide +kernel
theorem dX6_back_72 : decode cX6_back 72 = .ok (.iload_n 3, 1) := by decide +kernel
theorem dX6_back_73 : decode cX6_back 73 = .ok (.istore 4, 2) := by decide +kernel
theorem dX6_back_75 : decode cX6_back 75 = .ok (.iload 4, 2) := by decide +kernel
theorem dX6_back_77 : decode cX6_back 77 = .ok (.ifCond .ge 7, 3) := by decide +kernel
theorem dX6_back_80 : decode cX6_back 80 = .ok (.iconst 0, 1) := by decide +kernel
theorem dX6_back_81 : decode cX6_back 81 = .ok (.goto 5, 3) := by decide +kernel
theorem dX6_back_84 : decode cX6_back 84 = .ok (.iload 4, 2) := by decide +kernel
theorem dX6_back_86 : decode cX6_back 86 = .ok (.ireturn, 1) := by decide +kernel
set_option maxRecDepth 20000 in
theorem ggX6_area_X6_rightShape : GoodIn wsX6_area wsX6_rightShape := goodIn_r _ [5] (by decide +kernel) (by decide +kernel)
set_option maxRecDepth 20000 in
theorem gX6_area_X6_rightShape : GoodIn wsX6_area (va_wsS RX6 59 yX6_rightShape wsX6_rightShape) := goodIn_app (goodIn_of _ (by decide +kernel)) ggX6_area_X6_rightShape
set_option maxRecDepth 20000 in
theorem ggX6_area_X6_back : GoodIn wsX6_area wsX6_back := goodIn_r _ [9, 1, 10, 11, 4, 12, 13, 14, 15, 19, 20, 21, 22, 23, 24, 25, 26, 27, 28, 29, 30, 31, 32, 33, 34, 35] (by decide +kernel) (by decide +kernel)
set_option maxRecDepth 20000 in
theorem gX6_area_X6_back : GoodIn wsX6_area (wsV RX6 62 RX6 yX6_back wsX6_back) := goodIn_app (goodIn_of _ (by decide +kernel)) ggX6_area_X6_back
set_option maxRecDepth 20000 in
theorem ggX6_area_X6_leftShape : GoodIn wsX6_area wsX6_leftShape := goodIn_r _ [18] (by decide +kernel) (by decide +kernel)
set_option maxRecDepth 20000 in
theorem gX6_area_X6_leftShape : GoodIn wsX6_area (va_wsS RX6 66 yX6_leftShape wsX6_leftShape) := goodIn_app (goodIn_of _ (by decide +kernel)) ggX6_area_X6_leftShape
theorem dX6_area_0 : decode cX6_area 0 = .ok (.iconst 0, 1) := by decide +kernel
theorem dX6_area_1 : decode cX6_area 1 = .ok (.istore 4, 2) := by decide +kernel
theorem dX6_area_3 : decode cX6_area 3 = .ok (.iconst 0, 1) := by decide +kernel
theorem dX6_area_4 : decode cX6_area 4 = .ok (.istore 5, 2) := by decide +kernel
theorem dX6_area_6 : decode cX6_area 6 = .ok (.iload 5, 2) := by decide +kernel
theorem dX6_area_8 : decode cX6_area 8 = .ok (.bipush 10, 2) := by decide +kernel
theorem dX6_area_10 : decode cX6_area 10 = .ok (.if_icmp .ge 61, 3) := by decide +kernel
theorem dX6_area_13 : decode cX6_area 13 = .ok (.iload_n 3, 1) := by decide +kernel
theorem dX6_area_14 : decode cX6_area 14 = .ok (.aload_n 0, 1) := by decide +kernel
theorem dX6_area_15 : decode cX6_area 15 = .ok (.iload_n 1, 1) := by decide +kernel
theorem dX6_area_16 : decode cX6_area 16 = .ok (.invokestatic 59, 3) := by decide +kernel
theorem dX6_area_19 : decode cX6_area 19 = .ok (.iload 5, 2) := by decide +kernel
theorem dX6_area_21 : decode cX6_area 21 = .ok (.invokevirtual 62, 3) := by decide +kernel
theorem dX6_area_24 : decode cX6_area 24 = .ok (.iadd, 1) := by decide +kernel
theorem dX6_area_25 : decode cX6_area 25 = .ok (.aload_n 0, 1) := by decide +kernel
theorem dX6_area_26 : decode cX6_area 26 = .ok (.iload_n 2, 1) := by decide +kernel
theorem dX6_area_27 : decode cX6_area 27 = .ok (.invokestatic 66, 3) := by decide +kernel
theorem dX6_area_30 : decode cX6_area 30 = .ok (.iload 5, 2) := by decide +kernel
theorem dX6_area_32 : decode cX6_area 32 = .ok (.invokevirtual 62, 3) := by decide +kernel
theorem dX6_area_35 : decode cX6_area 35 = .ok (.iadd, 1) := by decide +kernel
theorem dX6_area_36 : decode cX6_area 36 = .ok (.istore 6, 2) := by decide +kernel
theorem dX6_area_38 : decode cX6_area 38 = .ok (.iload 4, 2) := by decide +kernel
theorem dX6_area_40 : decode cX6_area 40 = .ok (.iload 6, 2) := by decide +kernel
theorem dX6_area_42 : decode cX6_area 42 = .ok (.aload_n 0, 1) := by decide +kernel
theorem dX6_area_43 : decode cX6_area 43 = .ok (.getfield 7, 3) := by decide +kernel
theorem dX6_area_46 : decode cX6_area 46 = .ok (.iconst 1, 1) := by decide +kernel
theorem dX6_area_47 : decode cX6_area 47 = .ok (.iaload, 1) := by decide +kernel
theorem dX6_area_48 : decode cX6_area 48 = .ok (.if_icmp .ge 8, 3) := by decide +kernel
theorem dX6_area_51 : decode cX6_area 51 = .ok (.iload 6, 2) := by decide +kernel
theorem dX6_area_53 : decode cX6_area 53 = .ok (.goto 9, 3) := by decide +kernel
theorem dX6_area_56 : decode cX6_area 56 = .ok (.aload_n 0, 1) := by decide +kernel
theorem dX6_area_57 : decode cX6_area 57 = .ok (.getfield 7, 3) := by decide +kernel
theorem dX6_area_60 : decode cX6_area 60 = .ok (.iconst 1, 1) := by decide +kernel
theorem dX6_area_61 : decode cX6_area 61 = .ok (.iaload, 1) := by decide +kernel
theorem dX6_area_62 : decode cX6_area 62 = .ok (.iadd, 1) := by decide +kernel
theorem dX6_area_63 : decode cX6_area 63 = .ok (.istore 4, 2) := by decide +kernel
theorem dX6_area_65 : decode cX6_area 65 = .ok (.iinc 5 1, 3) := by decide +kernel
theorem dX6_area_68 : decode cX6_area 68 = .ok (.goto (-62), 3) := by decide +kernel
theorem dX6_area_71 : decode cX6_area 71 = .ok (.iload 4, 2) := by decide +kernel
theorem dX6_area_73 : decode cX6_area 73 = .ok (.ireturn, 1) := by decide +kernel
set_option maxRecDepth 20000 in
theorem ggX6_countedArea_X6_rightShape : GoodIn wsX6_countedArea wsX6_rightShape := goodIn_r _ [5] (by decide +kernel) (by decide +kernel)
set_option maxRecDepth 20000 in
theorem gX6_countedArea_X6_rightShape : GoodIn wsX6_countedArea (va_wsS RX6 59 yX6_rightShape wsX6_rightShape) := goodIn_app (goodIn_of _ (by decide +kernel)) ggX6_countedArea_X6_rightShape
set_option maxRecDepth 20000 in
theorem ggX6_countedArea_X6_back : GoodIn wsX6_countedArea wsX6_back := goodIn_r _ [9, 1, 10, 11, 4, 12, 13, 14, 15, 19, 20, 21, 22, 23, 24, 25, 26, 27, 28, 29, 30, 31, 32, 33, 34, 35] (by decide +kernel) (by decide +kernel)
set_option maxRecDepth 20000 in
theorem gX6_countedArea_X6_back : GoodIn wsX6_countedArea (wsV RX6 62 RX6 yX6_back wsX6_back) := goodIn_app (goodIn_of _ (by decide +kernel)) ggX6_countedArea_X6_back
set_option maxRecDepth 20000 in
theorem ggX6_countedArea_X6_leftShape : GoodIn wsX6_countedArea wsX6_leftShape := goodIn_r _ [18] (by decide +kernel) (by decide +kernel)
set_option maxRecDepth 20000 in
theorem gX6_countedArea_X6_leftShape : GoodIn wsX6_countedArea (va_wsS RX6 66 yX6_leftShape wsX6_leftShape) := goodIn_app (goodIn_of _ (by decide +kernel)) ggX6_countedArea_X6_leftShape
theorem dX6_countedArea_0 : decode cX6_countedArea 0 = .ok (.iconst 0, 1) := by decide +kernel
theorem dX6_countedArea_1 : decode cX6_countedArea 1 = .ok (.istore 4, 2) := by decide +kernel
theorem dX6_countedArea_3 : decode cX6_countedArea 3 = .ok (.iconst 0, 1) := by decide +kernel
theorem dX6_countedArea_4 : decode cX6_countedArea 4 = .ok (.istore 5, 2) := by decide +kernel
theorem dX6_countedArea_6 : decode cX6_countedArea 6 = .ok (.iload 5, 2) := by decide +kernel
theorem dX6_countedArea_8 : decode cX6_countedArea 8 = .ok (.bipush 10, 2) := by decide +kernel
theorem dX6_countedArea_10 : decode cX6_countedArea 10 = .ok (.if_icmp .ge 70, 3) := by decide +kernel
theorem dX6_countedArea_13 : decode cX6_countedArea 13 = .ok (.aload_n 0, 1) := by decide +kernel
theorem dX6_countedArea_14 : decode cX6_countedArea 14 = .ok (.iload_n 1, 1) := by decide +kernel
theorem dX6_countedArea_15 : decode cX6_countedArea 15 = .ok (.invokestatic 59, 3) := by decide +kernel
theorem dX6_countedArea_18 : decode cX6_countedArea 18 = .ok (.iload 5, 2) := by decide +kernel
theorem dX6_countedArea_20 : decode cX6_countedArea 20 = .ok (.invokevirtual 62, 3) := by decide +kernel
theorem dX6_countedArea_23 : decode cX6_countedArea 23 = .ok (.ineg, 1) := by decide +kernel
theorem dX6_countedArea_24 : decode cX6_countedArea 24 = .ok (.istore 6, 2) := by decide +kernel
theorem dX6_countedArea_26 : decode cX6_countedArea 26 = .ok (.iload_n 3, 1) := by decide +kernel
theorem dX6_countedArea_27 : decode cX6_countedArea 27 = .ok (.aload_n 0, 1) := by decide +kernel
theorem dX6_countedArea_28 : decode cX6_countedArea 28 = .ok (.iload_n 2, 1) := by decide +kernel
theorem dX6_countedArea_29 : decode cX6_countedArea 29 = .ok (.invokestatic 66, 3) := by decide +kernel
theorem dX6_countedArea_32 : decode cX6_countedArea 32 = .ok (.iload 5, 2) := by decide +kernel
theorem dX6_countedArea_34 : decode cX6_countedArea 34 = .ok (.invokevirtual 62, 3) := by decide +kernel
theorem dX6_countedArea_37 : decode cX6_countedArea 37 = .ok (.iadd, 1) := by decide +kernel
theorem dX6_countedArea_38 : decode cX6_countedArea 38 = .ok (.istore 7, 2) := by decide +kernel
theorem dX6_countedArea_40 : decode cX6_countedArea 40 = .ok (.iload 6, 2) := by decide +kernel
theorem dX6_countedArea_42 : decode cX6_countedArea 42 = .ok (.istore 8, 2) := by decide +kernel
theorem dX6_countedArea_44 : decode cX6_countedArea 44 = .ok (.iload 8, 2) := by decide +kernel
theorem dX6_countedArea_46 : decode cX6_countedArea 46 = .ok (.iload 7, 2) := by decide +kernel
theorem dX6_countedArea_48 : decode cX6_countedArea 48 = .ok (.if_icmp .ge 26, 3) := by decide +kernel
theorem dX6_countedArea_51 : decode cX6_countedArea 51 = .ok (.iload 8, 2) := by decide +kernel
theorem dX6_countedArea_53 : decode cX6_countedArea 53 = .ok (.iload 6, 2) := by decide +kernel
theorem dX6_countedArea_55 : decode cX6_countedArea 55 = .ok (.isub, 1) := by decide +kernel
theorem dX6_countedArea_56 : decode cX6_countedArea 56 = .ok (.aload_n 0, 1) := by decide +kernel
theorem dX6_countedArea_57 : decode cX6_countedArea 57 = .ok (.getfield 7, 3) := by decide +kernel
theorem dX6_countedArea_60 : decode cX6_countedArea 60 = .ok (.iconst 1, 1) := by decide +kernel
theorem dX6_countedArea_61 : decode cX6_countedArea 61 = .ok (.iaload, 1) := by decide +kernel
theorem dX6_countedArea_62 : decode cX6_countedArea 62 = .ok (.if_icmp .ge 12, 3) := by decide +kernel
theorem dX6_countedArea_65 : decode cX6_countedArea 65 = .ok (.iinc 4 1, 3) := by decide +kernel
theorem dX6_countedArea_68 : decode cX6_countedArea 68 = .ok (.iinc 8 1, 3) := by decide +kernel
theorem dX6_countedArea_71 : decode cX6_countedArea 71 = .ok (.goto (-27), 3) := by decide +kernel
theorem dX6_countedArea_74 : decode cX6_countedArea 74 = .ok (.iinc 5 1, 3) := by decide +kernel
theorem dX6_countedArea_77 : decode cX6_countedArea 77 = .ok (.goto (-71), 3) := by decide +kernel
theorem dX6_countedArea_80 : decode cX6_countedArea 80 = .ok (.iload 4, 2) := by decide +kernel
theorem dX6_countedArea_82 : decode cX6_countedArea 82 = .ok (.ireturn, 1) := by decide +kernel
set_option maxRecDepth 20000 in
theorem ggX6_share_X6_size : GoodIn wsX6_share wsX6_size := goodIn_r _ [5] (by decide +kernel) (by decide +kernel)
set_option maxRecDepth 20000 in
theorem gX6_share_X6_size : GoodIn wsX6_share (va_wsS RX6 55 yX6_size wsX6_size) := goodIn_app (goodIn_of _ (by decide +kernel)) ggX6_share_X6_size
theorem dX6_share_0 : decode cX6_share 0 = .ok (.iload_n 1, 1) := by decide +kernel
theorem dX6_share_1 : decode cX6_share 1 = .ok (.aload_n 0, 1) := by decide +kernel
theorem dX6_share_2 : decode cX6_share 2 = .ok (.getfield 7, 3) := by decide +kernel
theorem dX6_share_5 : decode cX6_share 5 = .ok (.iconst 3, 1) := by decide +kernel
theorem dX6_share_6 : decode cX6_share 6 = .ok (.iaload, 1) := by decide +kernel
theorem dX6_share_7 : decode cX6_share 7 = .ok (.isub, 1) := by decide +kernel
theorem dX6_share_8 : decode cX6_share 8 = .ok (.invokestatic 55, 3) := by decide +kernel
theorem dX6_share_11 : decode cX6_share 11 = .ok (.bipush 100, 2) := by decide +kernel
theorem dX6_share_13 : decode cX6_share 13 = .ok (.imul, 1) := by decide +kernel
theorem dX6_share_14 : decode cX6_share 14 = .ok (.aload_n 0, 1) := by decide +kernel
theorem dX6_share_15 : decode cX6_share 15 = .ok (.getfield 7, 3) := by decide +kernel
theorem dX6_share_18 : decode cX6_share 18 = .ok (.iconst 3, 1) := by decide +kernel
theorem dX6_share_19 : decode cX6_share 19 = .ok (.iaload, 1) := by decide +kernel
theorem dX6_share_20 : decode cX6_share 20 = .ok (.idiv, 1) := by decide +kernel
theorem dX6_share_21 : decode cX6_share 21 = .ok (.ireturn, 1) := by decide +kernel
set_option maxRecDepth 20000 in
theorem ggX6_isFault_X6_share : GoodIn wsX6_isFault wsX6_share := goodIn_r _ [7, 2, 8, 9, 6, 10, 11, 12, 13, 14, 15, 16, 17, 18, 19, 20, 21, 22, 23, 24, 25, 26, 27] (by decide +kernel) (by decide +kernel)
set_option maxRecDepth 20000 in
theorem gX6_isFault_X6_share : GoodIn wsX6_isFault (wsV RX6 69 RX6 yX6_share wsX6_share) := goodIn_app (goodIn_of _ (by decide +kernel)) ggX6_isFault_X6_share
theorem dX6_isFault_0 : decode cX6_isFault 0 = .ok (.aload_n 0, 1) := by decide +kernel
theorem dX6_isFault_1 : decode cX6_isFault 1 = .ok (.getfield 31, 3) := by decide +kernel
theorem dX6_isFault_4 : decode cX6_isFault 4 = .ok (.iload_n 1, 1) := by decide +kernel
theorem dX6_isFault_5 : decode cX6_isFault 5 = .ok (.iaload, 1) := by decide +kernel
theorem dX6_isFault_6 : decode cX6_isFault 6 = .ok (.iconst (-1), 1) := by decide +kernel
theorem dX6_isFault_7 : decode cX6_isFault 7 = .ok (.if_icmp .eq 26, 3) := by decide +kernel
theorem dX6_isFault_10 : decode cX6_isFault 10 = .ok (.aload_n 0, 1) := by decide +kernel
theorem dX6_isFault_11 : decode cX6_isFault 11 = .ok (.aload_n 0, 1) := by decide +kernel
theorem dX6_isFault_12 : decode cX6_isFault 12 = .ok (.getfield 31, 3) := by decide +kernel
theorem dX6_isFault_15 : decode cX6_isFault 15 = .ok (.iload_n 1, 1) := by decide +kernel
theorem dX6_isFault_16 : decode cX6_isFault 16 = .ok (.iaload, 1) := by decide +kernel
theorem dX6_isFault_17 : decode cX6_isFault 17 = .ok (.invokevirtual 69, 3) := by decide +kernel
theorem dX6_isFault_20 : decode cX6_isFault 20 = .ok (.aload_n 0, 1) := by decide +kernel
theorem dX6_isFault_21 : decode cX6_isFault 21 = .ok (.getfield 7, 3) := by decide +kernel
theorem dX6_isFault_24 : decode cX6_isFault 24 = .ok (.iconst 5, 1) := by decide +kernel
theorem dX6_isFault_25 : decode cX6_isFault 25 = .ok (.iaload, 1) := by decide +kernel
theorem dX6_isFault_26 : decode cX6_isFault 26 = .ok (.if_icmp .le 7, 3) := by decide +kernel
theorem dX6_isFault_29 : decode cX6_isFault 29 = .ok (.iconst 1, 1) := by decide +kernel
theorem dX6_isFault_30 : decode cX6_isFault 30 = .ok (.goto 4, 3) := by decide +kernel
theorem dX6_isFault_33 : decode cX6_isFault 33 = .ok (.iconst 0, 1) := by decide +kernel
theorem dX6_isFault_34 : decode cX6_isFault 34 = .ok (.ireturn, 1) := by decide +kernel
set_option maxRecDepth 20000 in
theorem ggX6_wantedGap_X6_area : GoodIn wsX6_wantedGap wsX6_area := goodIn_r _ [6, 1, 7, 8, 5, 9, 10, 11, 12, 13, 14, 15, 16, 17, 18, 19, 20, 21, 22, 23, 24, 25, 26, 27, 28, 29, 30, 31, 32, 33, 34, 35, 36, 37, 38, 39] (by decide +kernel) (by decide +kernel)
set_option maxRecDepth 20000 in
theorem gX6_wantedGap_X6_area : GoodIn wsX6_wantedGap (wsV RX6 72 RX6 yX6_area wsX6_area) := goodIn_app (goodIn_of _ (by decide +kernel)) ggX6_wantedGap_X6_area
theorem dX6_wantedGap_0 : decode cX6_wantedGap 0 = .ok (.iconst 0, 1) := by decide +kernel
theorem dX6_wantedGap_1 : decode cX6_wantedGap 1 = .ok (.istore 4, 2) := by decide +kernel
theorem dX6_wantedGap_3 : decode cX6_wantedGap 3 = .ok (.iload 4, 2) := by decide +kernel
theorem dX6_wantedGap_5 : decode cX6_wantedGap 5 = .ok (.bipush 40, 2) := by decide +kernel
theorem dX6_wantedGap_7 : decode cX6_wantedGap 7 = .ok (.if_icmp .ge 26, 3) := by decide +kernel
theorem dX6_wantedGap_10 : decode cX6_wantedGap 10 = .ok (.aload_n 0, 1) := by decide +kernel
theorem dX6_wantedGap_11 : decode cX6_wantedGap 11 = .ok (.iload_n 1, 1) := by decide +kernel
theorem dX6_wantedGap_12 : decode cX6_wantedGap 12 = .ok (.iload_n 2, 1) := by decide +kernel
theorem dX6_wantedGap_13 : decode cX6_wantedGap 13 = .ok (.iload 4, 2) := by decide +kernel
theorem dX6_wantedGap_15 : decode cX6_wantedGap 15 = .ok (.invokevirtual 72, 3) := by decide +kernel
theorem dX6_wantedGap_18 : decode cX6_wantedGap 18 = .ok (.aload_n 0, 1) := by decide +kernel
theorem dX6_wantedGap_19 : decode cX6_wantedGap 19 = .ok (.getfield 7, 3) := by decide +kernel
theorem dX6_wantedGap_22 : decode cX6_wantedGap 22 = .ok (.iconst 3, 1) := by decide +kernel
theorem dX6_wantedGap_23 : decode cX6_wantedGap 23 = .ok (.iaload, 1) := by decide +kernel
theorem dX6_wantedGap_24 : decode cX6_wantedGap 24 = .ok (.if_icmp .ge 9, 3) := by decide +kernel
theorem dX6_wantedGap_27 : decode cX6_wantedGap 27 = .ok (.iinc 4 1, 3) := by decide +kernel
theorem dX6_wantedGap_30 : decode cX6_wantedGap 30 = .ok (.goto (-27), 3) := by decide +kernel
theorem dX6_wantedGap_33 : decode cX6_wantedGap 33 = .ok (.iload 4, 2) := by decide +kernel
theorem dX6_wantedGap_35 : decode cX6_wantedGap 35 = .ok (.iload_n 3, 1) := by decide +kernel
theorem dX6_wantedGap_36 : decode cX6_wantedGap 36 = .ok (.iadd, 1) := by decide +kernel
theorem dX6_wantedGap_37 : decode cX6_wantedGap 37 = .ok (.ifCond .ge 7, 3) := by decide +kernel
theorem dX6_wantedGap_40 : decode cX6_wantedGap 40 = .ok (.iconst 0, 1) := by decide +kernel
theorem dX6_wantedGap_41 : decode cX6_wantedGap 41 = .ok (.goto 7, 3) := by decide +kernel
theorem dX6_wantedGap_44 : decode cX6_wantedGap 44 = .ok (.iload 4, 2) := by decide +kernel
theorem dX6_wantedGap_46 : decode cX6_wantedGap 46 = .ok (.iload_n 3, 1) := by decide +kernel
theorem dX6_wantedGap_47 : decode cX6_wantedGap 47 = .ok (.iadd, 1) := by decide +kernel
theorem dX6_wantedGap_48 : decode cX6_wantedGap 48 = .ok (.ireturn, 1) := by decide +kernel
theorem dX6_snapped_0 : decode cX6_snapped 0 = .ok (.aload_n 0, 1) := by decide +kernel
theorem dX6_snapped_1 : decode cX6_snapped 1 = .ok (.getfield 7, 3) := by decide +kernel
theorem dX6_snapped_4 : decode cX6_snapped 4 = .ok (.iconst 4, 1) := by decide +kernel
theorem dX6_snapped_5 : decode cX6_snapped 5 = .ok (.iaload, 1) := by decide +kernel
theorem dX6_snapped_6 : decode cX6_snapped 6 = .ok (.iconst 1, 1) := by decide +kernel
theorem dX6_snapped_7 : decode cX6_snapped 7 = .ok (.if_icmp .le 30, 3) := by decide +kernel
theorem dX6_snapped_10 : decode cX6_snapped 10 = .ok (.iload_n 1, 1) := by decide +kernel
theorem dX6_snapped_11 : decode cX6_snapped 11 = .ok (.aload_n 0, 1) := by decide +kernel
theorem dX6_snapped_12 : decode cX6_snapped 12 = .ok (.getfield 7, 3) := by decide +kernel
theorem dX6_snapped_15 : decode cX6_snapped 15 = .ok (.iconst 4, 1) := by decide +kernel
theorem dX6_snapped_16 : decode cX6_snapped 16 = .ok (.iaload, 1) := by decide +kernel
theorem dX6_snapped_17 : decode cX6_snapped 17 = .ok (.iadd, 1) := by decide +kernel
theorem dX6_snapped_18 : decode cX6_snapped 18 = .ok (.iconst 1, 1) := by decide +kernel
theorem dX6_snapped_19 : decode cX6_snapped 19 = .ok (.isub, 1) := by decide +kernel
theorem dX6_snapped_20 : decode cX6_snapped 20 = .ok (.aload_n 0, 1) := by decide +kernel
theorem dX6_snapped_21 : decode cX6_snapped 21 = .ok (.getfield 7, 3) := by decide +kernel
theorem dX6_snapped_24 : decode cX6_snapped 24 = .ok (.iconst 4, 1) := by decide +kernel
theorem dX6_snapped_25 : decode cX6_snapped 25 = .ok (.iaload, 1) := by decide +kernel
theorem dX6_snapped_26 : decode cX6_snapped 26 = .ok (.idiv, 1) := by decide +kernel
theorem dX6_snapped_27 : decode cX6_snapped 27 = .ok (.aload_n 0, 1) := by decide +kernel
theorem dX6_snapped_28 : decode cX6_snapped 28 = .ok (.getfield 7, 3) := by decide +kernel
theorem dX6_snapped_31 : decode cX6_snapped 31 = .ok (.iconst 4, 1) := by decide +kernel
theorem dX6_snapped_32 : decode cX6_snapped 32 = .ok (.iaload, 1) := by decide +kernel
theorem dX6_snapped_33 : decode cX6_snapped 33 = .ok (.imul, 1) := by decide +kernel
theorem dX6_snapped_34 : decode cX6_snapped 34 = .ok (.goto 4, 3) := by decide +kernel
theorem dX6_snapped_37 : decode cX6_snapped 37 = .ok (.iload_n 1, 1) := by decide +kernel
theorem dX6_snapped_38 : decode cX6_snapped 38 = .ok (.ireturn, 1) := by decide +kernel
set_option maxRecDepth 20000 in
theorem ggX6_beginning_X6_isLetter : GoodIn wsX6_beginning wsX6_isLetter := goodIn_r _ [6, 1, 7, 8, 9, 5, 10, 11, 12, 13, 39, 40, 41, 42, 43, 44, 45, 46, 47, 48, 49, 50, 51, 52, 53, 54, 55] (by decide +kernel) (by decide +kernel)
set_option maxRecDepth 20000 in
theorem gX6_beginning_X6_isLetter : GoodIn wsX6_beginning (wsV RX6 76 RX6 yX6_isLetter wsX6_isLetter) := goodIn_app (goodIn_of _ (by decide +kernel)) ggX6_beginning_X6_isLetter
set_option maxRecDepth 20000 in
theorem ggX6_beginning_X6_wantedGap : GoodIn wsX6_beginning wsX6_wantedGap := goodIn_r _ [17, 1, 18, 19, 20, 5, 21, 22, 23, 24, 25, 26, 27, 28, 29, 30, 31, 11, 12, 13, 32, 33, 34, 39, 40, 41, 42, 43, 44, 45, 46, 47, 48, 49, 50, 51, 52, 53, 54, 55] (by decide +kernel) (by decide +kernel)
set_option maxRecDepth 20000 in
theorem gX6_beginning_X6_wantedGap : GoodIn wsX6_beginning (wsV RX6 79 RX6 yX6_wantedGap wsX6_wantedGap) := goodIn_app (goodIn_of _ (by decide +kernel)) ggX6_beginning_X6_wantedGap
set_option maxRecDepth 20000 in
theorem ggX6_beginning_X6_snapped : GoodIn wsX6_beginning wsX6_snapped := goodIn_r _ [38, 1, 39, 40, 41, 42, 43, 44, 45, 46, 47, 48, 49, 50, 51, 52, 53, 54, 55] (by decide +kernel) (by decide +kernel)
set_option maxRecDepth 20000 in
theorem gX6_beginning_X6_snapped : GoodIn wsX6_beginning (wsV RX6 82 RX6 yX6_snapped wsX6_snapped) := goodIn_app (goodIn_of _ (by decide +kernel)) ggX6_beginning_X6_snapped
theorem dX6_beginning_0 : decode cX6_beginning 0 = .ok (.iload_n 1, 1) := by decide +kernel
theorem dX6_beginning_1 : decode cX6_beginning 1 = .ok (.ifCond .ne 5, 3) := by decide +kernel
theorem dX6_beginning_4 : decode cX6_beginning 4 = .ok (.iconst 0, 1) := by decide +kernel
theorem dX6_beginning_5 : decode cX6_beginning 5 = .ok (.ireturn, 1) := by decide +kernel
theorem dX6_beginning_6 : decode cX6_beginning 6 = .ok (.aload_n 0, 1) := by decide +kernel
theorem dX6_beginning_7 : decode cX6_beginning 7 = .ok (.iload_n 1, 1) := by decide +kernel
theorem dX6_beginning_8 : decode cX6_beginning 8 = .ok (.iconst 1, 1) := by decide +kernel
theorem dX6_beginning_9 : decode cX6_beginning 9 = .ok (.isub, 1) := by decide +kernel
theorem dX6_beginning_10 : decode cX6_beginning 10 = .ok (.invokevirtual 76, 3) := by decide +kernel
theorem dX6_beginning_13 : decode cX6_beginning 13 = .ok (.istore 4, 2) := by decide +kernel
theorem dX6_beginning_15 : decode cX6_beginning 15 = .ok (.iload 4, 2) := by decide +kernel
theorem dX6_beginning_17 : decode cX6_beginning 17 = .ok (.ifCond .eq 31, 3) := by decide +kernel
theorem dX6_beginning_20 : decode cX6_beginning 20 = .ok (.aload_n 0, 1) := by decide +kernel
theorem dX6_beginning_21 : decode cX6_beginning 21 = .ok (.aload_n 0, 1) := by decide +kernel
theorem dX6_beginning_22 : decode cX6_beginning 22 = .ok (.getfield 7, 3) := by decide +kernel
theorem dX6_beginning_25 : decode cX6_beginning 25 = .ok (.bipush 8, 2) := by decide +kernel
theorem dX6_beginning_27 : decode cX6_beginning 27 = .ok (.iload_n 1, 1) := by decide +kernel
theorem dX6_beginning_28 : decode cX6_beginning 28 = .ok (.iadd, 1) := by decide +kernel
theorem dX6_beginning_29 : decode cX6_beginning 29 = .ok (.iconst 1, 1) := by decide +kernel
theorem dX6_beginning_30 : decode cX6_beginning 30 = .ok (.isub, 1) := by decide +kernel
theorem dX6_beginning_31 : decode cX6_beginning 31 = .ok (.iaload, 1) := by decide +kernel
theorem dX6_beginning_32 : decode cX6_beginning 32 = .ok (.aload_n 0, 1) := by decide +kernel
theorem dX6_beginning_33 : decode cX6_beginning 33 = .ok (.getfield 7, 3) := by decide +kernel
theorem dX6_beginning_36 : decode cX6_beginning 36 = .ok (.bipush 8, 2) := by decide +kernel
theorem dX6_beginning_38 : decode cX6_beginning 38 = .ok (.iload_n 1, 1) := by decide +kernel
theorem dX6_beginning_39 : decode cX6_beginning 39 = .ok (.iadd, 1) := by decide +kernel
theorem dX6_beginning_40 : decode cX6_beginning 40 = .ok (.iaload, 1) := by decide +kernel
theorem dX6_beginning_41 : decode cX6_beginning 41 = .ok (.iload_n 2, 1) := by decide +kernel
theorem dX6_beginning_42 : decode cX6_beginning 42 = .ok (.invokevirtual 79, 3) := by decide +kernel
theorem dX6_beginning_45 : decode cX6_beginning 45 = .ok (.goto 4, 3) := by decide +kernel
theorem dX6_beginning_48 : decode cX6_beginning 48 = .ok (.iconst 0, 1) := by decide +kernel
theorem dX6_beginning_49 : decode cX6_beginning 49 = .ok (.istore 5, 2) := by decide +kernel
theorem dX6_beginning_51 : decode cX6_beginning 51 = .ok (.aload_n 0, 1) := by decide +kernel
theorem dX6_beginning_52 : decode cX6_beginning 52 = .ok (.iload_n 3, 1) := by decide +kernel
theorem dX6_beginning_53 : decode cX6_beginning 53 = .ok (.iload 5, 2) := by decide +kernel
theorem dX6_beginning_55 : decode cX6_beginning 55 = .ok (.iadd, 1) := by decide +kernel
theorem dX6_beginning_56 : decode cX6_beginning 56 = .ok (.invokevirtual 82, 3) := by decide +kernel
theorem dX6_beginning_59 : decode cX6_beginning 59 = .ok (.ireturn, 1) := by decide +kernel
set_option maxRecDepth 20000 in
theorem ggX6_lays_X6_isLetter : GoodIn wsX6_lays wsX6_isLetter := goodIn_r _ [10, 1, 11, 12, 13, 9, 14, 15, 16, 17, 50, 51, 52, 53, 54, 55, 56, 57, 58, 59, 60, 61, 62, 63, 64, 65, 66] (by decide +kernel) (by decide +kernel)
set_option maxRecDepth 20000 in
theorem gX6_lays_X6_isLetter : GoodIn wsX6_lays (wsV RX6 76 RX6 yX6_isLetter wsX6_isLetter) := goodIn_app (goodIn_of _ (by decide +kernel)) ggX6_lays_X6_isLetter
set_option maxRecDepth 20000 in
theorem ggX6_lays_X6_beginning : GoodIn wsX6_lays wsX6_beginning := goodIn_r _ [21, 1, 6, 7, 8, 9, 10, 11, 12, 13, 14, 15, 16, 17, 22, 23, 24, 25, 26, 27, 28, 29, 30, 31, 32, 33, 34, 35, 36, 37, 38, 39, 40, 41, 42, 43, 44, 45, 46, 50, 51, 52, 53, 54, 55, 56, 57, 58, 59, 60, 61, 62, 63, 64, 65, 66] (by decide +kernel) (by decide +kernel)
set_option maxRecDepth 20000 in
theorem gX6_lays_X6_beginning : GoodIn wsX6_lays (wsV RX6 85 RX6 yX6_beginning wsX6_beginning) := goodIn_app (goodIn_of _ (by decide +kernel)) ggX6_lays_X6_beginning
set_option maxRecDepth 20000 in
theorem ggX6_lays_X6_area : GoodIn wsX6_lays wsX6_area := goodIn_r _ [29, 1, 30, 31, 9, 32, 33, 34, 35, 36, 37, 38, 39, 15, 16, 17, 40, 41, 42, 50, 51, 52, 53, 54, 55, 56, 57, 58, 59, 60, 61, 62, 63, 64, 65, 66] (by decide +kernel) (by decide +kernel)
set_option maxRecDepth 20000 in
theorem gX6_lays_X6_area : GoodIn wsX6_lays (wsV RX6 72 RX6 yX6_area wsX6_area) := goodIn_app (goodIn_of _ (by decide +kernel)) ggX6_lays_X6_area
set_option maxRecDepth 20000 in
theorem ggX6_lays_X6_widthOf : GoodIn wsX6_lays wsX6_widthOf := goodIn_r _ [49] (by decide +kernel) (by decide +kernel)
set_option maxRecDepth 20000 in
theorem gX6_lays_X6_widthOf : GoodIn wsX6_lays (va_wsS RX6 88 yX6_widthOf wsX6_widthOf) := goodIn_app (goodIn_of _ (by decide +kernel)) ggX6_lays_X6_widthOf
theorem dX6_lays_0 : decode cX6_lays 0 = .ok (.iconst 0, 1) := by decide +kernel
theorem dX6_lays_1 : decode cX6_lays 1 = .ok (.istore_n 1, 1) := by decide +kernel
theorem dX6_lays_2 : decode cX6_lays 2 = .ok (.iconst 0, 1) := by decide +kernel
theorem dX6_lays_3 : decode cX6_lays 3 = .ok (.istore_n 2, 1) := by decide +kernel
theorem dX6_lays_4 : decode cX6_lays 4 = .ok (.iload_n 2, 1) := by decide +kernel
theorem dX6_lays_5 : decode cX6_lays 5 = .ok (.aload_n 0, 1) := by decide +kernel
theorem dX6_lays_6 : decode cX6_lays 6 = .ok (.getfield 7, 3) := by decide +kernel
theorem dX6_lays_9 : decode cX6_lays 9 = .ok (.bipush 7, 2) := by decide +kernel
theorem dX6_lays_11 : decode cX6_lays 11 = .ok (.iaload, 1) := by decide +kernel
theorem dX6_lays_12 : decode cX6_lays 12 = .ok (.if_icmp .ge 177, 3) := by decide +kernel
theorem dX6_lays_15 : decode cX6_lays 15 = .ok (.aload_n 0, 1) := by decide +kernel
theorem dX6_lays_16 : decode cX6_lays 16 = .ok (.iload_n 2, 1) := by decide +kernel
theorem dX6_lays_17 : decode cX6_lays 17 = .ok (.invokevirtual 76, 3) := by decide +kernel
theorem dX6_lays_20 : decode cX6_lays 20 = .ok (.istore_n 3, 1) := by decide +kernel
theorem dX6_lays_21 : decode cX6_lays 21 = .ok (.aload_n 0, 1) := by decide +kernel
theorem dX6_lays_22 : decode cX6_lays 22 = .ok (.getfield 22, 3) := by decide +kernel
theorem dX6_lays_25 : decode cX6_lays 25 = .ok (.iload_n 2, 1) := by decide +kernel
theorem dX6_lays_26 : decode cX6_lays 26 = .ok (.iload_n 3, 1) := by decide +kernel
theorem dX6_lays_27 : decode cX6_lays 27 = .ok (.ifCond .eq 21, 3) := by decide +kernel
theorem dX6_lays_30 : decode cX6_lays 30 = .ok (.aload_n 0, 1) := by decide +kernel
theorem dX6_lays_31 : decode cX6_lays 31 = .ok (.iload_n 2, 1) := by decide +kernel
theorem dX6_lays_32 : decode cX6_lays 32 = .ok (.aload_n 0, 1) := by decide +kernel
theorem dX6_lays_33 : decode cX6_lays 33 = .ok (.getfield 7, 3) := by decide +kernel
theorem dX6_lays_36 : decode cX6_lays 36 = .ok (.bipush 28, 2) := by decide +kernel
theorem dX6_lays_38 : decode cX6_lays 38 = .ok (.iload_n 2, 1) := by decide +kernel
theorem dX6_lays_39 : decode cX6_lays 39 = .ok (.iadd, 1) := by decide +kernel
theorem dX6_lays_40 : decode cX6_lays 40 = .ok (.iaload, 1) := by decide +kernel
theorem dX6_lays_41 : decode cX6_lays 41 = .ok (.iload_n 1, 1) := by decide +kernel
theorem dX6_lays_42 : decode cX6_lays 42 = .ok (.invokevirtual 85, 3) := by decide +kernel
theorem dX6_lays_45 : decode cX6_lays 45 = .ok (.goto 4, 3) := by decide +kernel
theorem dX6_lays_48 : decode cX6_lays 48 = .ok (.iload_n 1, 1) := by decide +kernel
theorem dX6_lays_49 : decode cX6_lays 49 = .ok (.iastore, 1) := by decide +kernel
theorem dX6_lays_50 : decode cX6_lays 50 = .ok (.iload_n 3, 1) := by decide +kernel
theorem dX6_lays_51 : decode cX6_lays 51 = .ok (.ifCond .eq 21, 3) := by decide +kernel
theorem dX6_lays_54 : decode cX6_lays 54 = .ok (.iload_n 2, 1) := by decide +kernel
theorem dX6_lays_55 : decode cX6_lays 55 = .ok (.ifCond .le 17, 3) := by decide +kernel
theorem dX6_lays_58 : decode cX6_lays 58 = .ok (.aload_n 0, 1) := by decide +kernel
theorem dX6_lays_59 : decode cX6_lays 59 = .ok (.iload_n 2, 1) := by decide +kernel
theorem dX6_lays_60 : decode cX6_lays 60 = .ok (.iconst 1, 1) := by decide +kernel
theorem dX6_lays_61 : decode cX6_lays 61 = .ok (.isub, 1) := by decide +kernel
theorem dX6_lays_62 : decode cX6_lays 62 = .ok (.invokevirtual 76, 3) := by decide +kernel
theorem dX6_lays_65 : decode cX6_lays 65 = .ok (.ifCond .eq 7, 3) := by decide +kernel
theorem dX6_lays_68 : decode cX6_lays 68 = .ok (.iconst 1, 1) := by decide +kernel
theorem dX6_lays_69 : decode cX6_lays 69 = .ok (.goto 4, 3) := by decide +kernel
theorem dX6_lays_72 : decode cX6_lays 72 = .ok (.iconst 0, 1) := by decide +kernel
theorem dX6_lays_73 : decode cX6_lays 73 = .ok (.istore 4, 2) := by decide +kernel
theorem dX6_lays_75 : decode cX6_lays 75 = .ok (.aload_n 0, 1) := by decide +kernel
theorem dX6_lays_76 : decode cX6_lays 76 = .ok (.getfield 28, 3) := by decide +kernel
theorem dX6_lays_79 : decode cX6_lays 79 = .ok (.iload_n 2, 1) := by decide +kernel
theorem dX6_lays_80 : decode cX6_lays 80 = .ok (.iload 4, 2) := by decide +kernel
theorem dX6_lays_82 : decode cX6_lays 82 = .ok (.ifCond .eq 14, 3) := by decide +kernel
theorem dX6_lays_85 : decode cX6_lays 85 = .ok (.aload_n 0, 1) := by decide +kernel
theorem dX6_lays_86 : decode cX6_lays 86 = .ok (.getfield 22, 3) := by decide +kernel
