theorem dX6_tellsItem_101 : decode cX6_tellsItem 101 = .ok (.iconst (-1), 1) := by decide +kernel
theorem dX6_tellsItem_102 : decode cX6_tellsItem 102 = .ok (.ireturn, 1) := by decide +kernel
theorem dX6_tellsItem_103 : decode cX6_tellsItem 103 = .ok (.aload_n 0, 1) := by decide +kernel
theorem dX6_tellsItem_104 : decode cX6_tellsItem 104 = .ok (.getfield 22, 3) := by decide +kernel
theorem dX6_tellsItem_107 : decode cX6_tellsItem 107 = .ok (.iload_n 1, 1) := by decide +kernel
theorem dX6_tellsItem_108 : decode cX6_tellsItem 108 = .ok (.iaload, 1) := by decide +kernel
theorem dX6_tellsItem_109 : decode cX6_tellsItem 109 = .ok (.ireturn, 1) := by decide +kernel
theorem dX6_tellsItem_110 : decode cX6_tellsItem 110 = .ok (.aload_n 0, 1) := by decide +kernel
theorem dX6_tellsItem_111 : decode cX6_tellsItem 111 = .ok (.getfield 25, 3) := by decide +kernel
theorem dX6_tellsItem_114 : decode cX6_tellsItem 114 = .ok (.iload_n 1, 1) := by decide +kernel
theorem dX6_tellsItem_115 : decode cX6_tellsItem 115 = .ok (.iaload, 1) := by decide +kernel
theorem dX6_tellsItem_116 : decode cX6_tellsItem 116 = .ok (.ireturn, 1) := by decide +kernel
theorem dX6_tellsItem_117 : decode cX6_tellsItem 117 = .ok (.aload_n 0, 1) := by decide +kernel
theorem dX6_tellsItem_118 : decode cX6_tellsItem 118 = .ok (.getfield 28, 3) := by decide +kernel
theorem dX6_tellsItem_121 : decode cX6_tellsItem 121 = .ok (.iload_n 1, 1) := by decide +kernel
theorem dX6_tellsItem_122 : decode cX6_tellsItem 122 = .ok (.iaload, 1) := by decide +kernel
theorem dX6_tellsItem_123 : decode cX6_tellsItem 123 = .ok (.ireturn, 1) := by decide +kernel
theorem dX6_tellsItem_124 : decode cX6_tellsItem 124 = .ok (.aload_n 0, 1) := by decide +kernel
theorem dX6_tellsItem_125 : decode cX6_tellsItem 125 = .ok (.getfield 31, 3) := by decide +kernel
theorem dX6_tellsItem_128 : decode cX6_tellsItem 128 = .ok (.iload_n 1, 1) := by decide +kernel
theorem dX6_tellsItem_129 : decode cX6_tellsItem 129 = .ok (.iaload, 1) := by decide +kernel
theorem dX6_tellsItem_130 : decode cX6_tellsItem 130 = .ok (.ireturn, 1) := by decide +kernel
theorem dX6_tellsItem_131 : decode cX6_tellsItem 131 = .ok (.iload 4, 2) := by decide +kernel
theorem dX6_tellsItem_133 : decode cX6_tellsItem 133 = .ok (.ifCond .eq 36, 3) := by decide +kernel
theorem dX6_tellsItem_136 : decode cX6_tellsItem 136 = .ok (.aload_n 0, 1) := by decide +kernel
theorem dX6_tellsItem_137 : decode cX6_tellsItem 137 = .ok (.aload_n 0, 1) := by decide +kernel
theorem dX6_tellsItem_138 : decode cX6_tellsItem 138 = .ok (.getfield 7, 3) := by decide +kernel
theorem dX6_tellsItem_141 : decode cX6_tellsItem 141 = .ok (.bipush 8, 2) := by decide +kernel
theorem dX6_tellsItem_143 : decode cX6_tellsItem 143 = .ok (.iload_n 1, 1) := by decide +kernel
theorem dX6_tellsItem_144 : decode cX6_tellsItem 144 = .ok (.iadd, 1) := by decide +kernel
theorem dX6_tellsItem_145 : decode cX6_tellsItem 145 = .ok (.iconst 1, 1) := by decide +kernel
theorem dX6_tellsItem_146 : decode cX6_tellsItem 146 = .ok (.isub, 1) := by decide +kernel
theorem dX6_tellsItem_147 : decode cX6_tellsItem 147 = .ok (.iaload, 1) := by decide +kernel
theorem dX6_tellsItem_148 : decode cX6_tellsItem 148 = .ok (.aload_n 0, 1) := by decide +kernel
theorem dX6_tellsItem_149 : decode cX6_tellsItem 149 = .ok (.getfield 7, 3) := by decide +kernel
theorem dX6_tellsItem_152 : decode cX6_tellsItem 152 = .ok (.bipush 8, 2) := by decide +kernel
theorem dX6_tellsItem_154 : decode cX6_tellsItem 154 = .ok (.iload_n 1, 1) := by decide +kernel
theorem dX6_tellsItem_155 : decode cX6_tellsItem 155 = .ok (.iadd, 1) := by decide +kernel
theorem dX6_tellsItem_156 : decode cX6_tellsItem 156 = .ok (.iaload, 1) := by decide +kernel
theorem dX6_tellsItem_157 : decode cX6_tellsItem 157 = .ok (.aload_n 0, 1) := by decide +kernel
theorem dX6_tellsItem_158 : decode cX6_tellsItem 158 = .ok (.getfield 28, 3) := by decide +kernel
theorem dX6_tellsItem_161 : decode cX6_tellsItem 161 = .ok (.iload_n 1, 1) := by decide +kernel
theorem dX6_tellsItem_162 : decode cX6_tellsItem 162 = .ok (.iaload, 1) := by decide +kernel
theorem dX6_tellsItem_163 : decode cX6_tellsItem 163 = .ok (.invokevirtual 143, 3) := by decide +kernel
theorem dX6_tellsItem_166 : decode cX6_tellsItem 166 = .ok (.goto 4, 3) := by decide +kernel
theorem dX6_tellsItem_169 : decode cX6_tellsItem 169 = .ok (.iconst (-1), 1) := by decide +kernel
theorem dX6_tellsItem_170 : decode cX6_tellsItem 170 = .ok (.ireturn, 1) := by decide +kernel
theorem dX6_tellsItem_171 : decode cX6_tellsItem 171 = .ok (.iload 4, 2) := by decide +kernel
theorem dX6_tellsItem_173 : decode cX6_tellsItem 173 = .ok (.ifCond .eq 16, 3) := by decide +kernel
theorem dX6_tellsItem_176 : decode cX6_tellsItem 176 = .ok (.aload_n 0, 1) := by decide +kernel
theorem dX6_tellsItem_177 : decode cX6_tellsItem 177 = .ok (.aload_n 0, 1) := by decide +kernel
theorem dX6_tellsItem_178 : decode cX6_tellsItem 178 = .ok (.getfield 31, 3) := by decide +kernel
theorem dX6_tellsItem_181 : decode cX6_tellsItem 181 = .ok (.iload_n 1, 1) := by decide +kernel
theorem dX6_tellsItem_182 : decode cX6_tellsItem 182 = .ok (.iaload, 1) := by decide +kernel
theorem dX6_tellsItem_183 : decode cX6_tellsItem 183 = .ok (.invokevirtual 69, 3) := by decide +kernel
theorem dX6_tellsItem_186 : decode cX6_tellsItem 186 = .ok (.goto 4, 3) := by decide +kernel
theorem dX6_tellsItem_189 : decode cX6_tellsItem 189 = .ok (.iconst (-1), 1) := by decide +kernel
theorem dX6_tellsItem_190 : decode cX6_tellsItem 190 = .ok (.ireturn, 1) := by decide +kernel
theorem dX6_tellsItem_191 : decode cX6_tellsItem 191 = .ok (.iload 4, 2) := by decide +kernel
theorem dX6_tellsItem_193 : decode cX6_tellsItem 193 = .ok (.ifCond .ne 7, 3) := by decide +kernel
theorem dX6_tellsItem_196 : decode cX6_tellsItem 196 = .ok (.iconst (-1), 1) := by decide +kernel
theorem dX6_tellsItem_197 : decode cX6_tellsItem 197 = .ok (.goto 16, 3) := by decide +kernel
theorem dX6_tellsItem_200 : decode cX6_tellsItem 200 = .ok (.aload_n 0, 1) := by decide +kernel
theorem dX6_tellsItem_201 : decode cX6_tellsItem 201 = .ok (.iload_n 1, 1) := by decide +kernel
theorem dX6_tellsItem_202 : decode cX6_tellsItem 202 = .ok (.invokevirtual 94, 3) := by decide +kernel
theorem dX6_tellsItem_205 : decode cX6_tellsItem 205 = .ok (.ifCond .eq 7, 3) := by decide +kernel
theorem dX6_tellsItem_208 : decode cX6_tellsItem 208 = .ok (.iconst 1, 1) := by decide +kernel
theorem dX6_tellsItem_209 : decode cX6_tellsItem 209 = .ok (.goto 4, 3) := by decide +kernel
theorem dX6_tellsItem_212 : decode cX6_tellsItem 212 = .ok (.iconst 0, 1) := by decide +kernel
theorem dX6_tellsItem_213 : decode cX6_tellsItem 213 = .ok (.ireturn, 1) := by decide +kernel
set_option maxRecDepth 20000 in
theorem ggX6_item_X6_isItem : GoodIn wsX6_item wsX6_isItem := goodIn_r _ [6, 7, 8, 9, 5, 10, 75, 76, 77, 78, 79, 80, 81, 82, 83, 84, 85, 86, 87, 88, 89, 90, 91] (by decide +kernel) (by decide +kernel)
set_option maxRecDepth 20000 in
theorem gX6_item_X6_isItem : GoodIn wsX6_item (wsV RX6 48 RX6 yX6_isItem wsX6_isItem) := goodIn_app (goodIn_of _ (by decide +kernel)) ggX6_item_X6_isItem
set_option maxRecDepth 20000 in
theorem ggX6_item_X6_fails : GoodIn wsX6_item wsX6_fails := goodIn_r _ [14, 1, 75, 76, 77, 78, 79, 80, 81, 82, 83, 84, 85, 86, 87, 88, 89, 90, 91] (by decide +kernel) (by decide +kernel)
set_option maxRecDepth 20000 in
theorem gX6_item_X6_fails : GoodIn wsX6_item (wsV RX6 97 RX6 yX6_fails wsX6_fails) := goodIn_app (goodIn_of _ (by decide +kernel)) ggX6_item_X6_fails
set_option maxRecDepth 20000 in
theorem ggX6_item_X6_lays : GoodIn wsX6_item wsX6_lays := goodIn_r _ [18, 7, 19, 20, 21, 22, 23, 24, 25, 5, 26, 2, 3, 4, 6, 8, 9, 10, 27, 28, 29, 30, 31, 32, 33, 34, 35, 36, 37, 38, 39, 40, 41, 42, 43, 44, 45, 46, 47, 48, 49, 50, 51, 52, 53, 54, 55, 56, 57, 58, 75, 76, 77, 78, 79, 80, 81, 82, 83, 84, 85, 86, 87, 88, 89, 90, 91] (by decide +kernel) (by decide +kernel)
set_option maxRecDepth 20000 in
theorem gX6_item_X6_lays : GoodIn wsX6_item (wsV RX6 91 RX6 yX6_lays wsX6_lays) := goodIn_app (goodIn_of _ (by decide +kernel)) ggX6_item_X6_lays
set_option maxRecDepth 20000 in
theorem ggX6_item_X6_in : GoodIn wsX6_item wsX6_in := goodIn_r _ [10] (by decide +kernel) (by decide +kernel)
set_option maxRecDepth 20000 in
theorem gX6_item_X6_in : GoodIn wsX6_item (va_wsS RX6 44 yX6_in wsX6_in) := goodIn_app (goodIn_of _ (by decide +kernel)) ggX6_item_X6_in
set_option maxRecDepth 20000 in
theorem ggX6_item_X6_tellsItem : GoodIn wsX6_item wsX6_tellsItem := goodIn_r _ [62, 21, 7, 19, 22, 20, 23, 24, 25, 5, 26, 2, 3, 4, 6, 8, 9, 10, 63, 64, 65, 66, 39, 40, 41, 42, 43, 44, 45, 46, 47, 48, 49, 50, 51, 67, 68, 69, 70, 71, 72, 73, 74, 75, 76, 77, 78, 79, 80, 81, 82, 83, 84, 85, 86, 87, 88, 89, 90, 91] (by decide +kernel) (by decide +kernel)
set_option maxRecDepth 20000 in
theorem gX6_item_X6_tellsItem : GoodIn wsX6_item (wsV RX6 146 RX6 yX6_tellsItem wsX6_tellsItem) := goodIn_app (goodIn_of _ (by decide +kernel)) ggX6_item_X6_tellsItem
theorem dX6_item_0 : decode cX6_item 0 = .ok (.aload_n 0, 1) := by decide +kernel
theorem dX6_item_1 : decode cX6_item 1 = .ok (.iconst 0, 1) := by decide +kernel
theorem dX6_item_2 : decode cX6_item 2 = .ok (.putfield 40, 3) := by decide +kernel
theorem dX6_item_5 : decode cX6_item 5 = .ok (.aload_n 0, 1) := by decide +kernel
theorem dX6_item_6 : decode cX6_item 6 = .ok (.iload_n 1, 1) := by decide +kernel
theorem dX6_item_7 : decode cX6_item 7 = .ok (.invokevirtual 48, 3) := by decide +kernel
theorem dX6_item_10 : decode cX6_item 10 = .ok (.ifCond .ne 9, 3) := by decide +kernel
theorem dX6_item_13 : decode cX6_item 13 = .ok (.aload_n 0, 1) := by decide +kernel
theorem dX6_item_14 : decode cX6_item 14 = .ok (.iconst 1, 1) := by decide +kernel
theorem dX6_item_15 : decode cX6_item 15 = .ok (.invokevirtual 97, 3) := by decide +kernel
theorem dX6_item_18 : decode cX6_item 18 = .ok (.ireturn, 1) := by decide +kernel
theorem dX6_item_19 : decode cX6_item 19 = .ok (.aload_n 0, 1) := by decide +kernel
theorem dX6_item_20 : decode cX6_item 20 = .ok (.invokevirtual 91, 3) := by decide +kernel
theorem dX6_item_23 : decode cX6_item 23 = .ok (.iload_n 2, 1) := by decide +kernel
theorem dX6_item_24 : decode cX6_item 24 = .ok (.iconst 0, 1) := by decide +kernel
theorem dX6_item_25 : decode cX6_item 25 = .ok (.bipush 8, 2) := by decide +kernel
theorem dX6_item_27 : decode cX6_item 27 = .ok (.invokestatic 44, 3) := by decide +kernel
theorem dX6_item_30 : decode cX6_item 30 = .ok (.ifCond .eq 12, 3) := by decide +kernel
theorem dX6_item_33 : decode cX6_item 33 = .ok (.aload_n 0, 1) := by decide +kernel
theorem dX6_item_34 : decode cX6_item 34 = .ok (.iload_n 1, 1) := by decide +kernel
theorem dX6_item_35 : decode cX6_item 35 = .ok (.iload_n 2, 1) := by decide +kernel
theorem dX6_item_36 : decode cX6_item 36 = .ok (.invokevirtual 146, 3) := by decide +kernel
theorem dX6_item_39 : decode cX6_item 39 = .ok (.goto 8, 3) := by decide +kernel
theorem dX6_item_42 : decode cX6_item 42 = .ok (.aload_n 0, 1) := by decide +kernel
theorem dX6_item_43 : decode cX6_item 43 = .ok (.iconst 2, 1) := by decide +kernel
theorem dX6_item_44 : decode cX6_item 44 = .ok (.invokevirtual 97, 3) := by decide +kernel
theorem dX6_item_47 : decode cX6_item 47 = .ok (.ireturn, 1) := by decide +kernel
set_option maxRecDepth 20000 in
theorem ggX6_isAhead_X6_share : GoodIn wsX6_isAhead wsX6_share := goodIn_r _ [6, 7, 8, 9, 5, 10, 11, 12, 13, 14, 15, 16, 17, 18, 19, 20, 21, 22, 23, 24, 25, 26, 27] (by decide +kernel) (by decide +kernel)
set_option maxRecDepth 20000 in
theorem gX6_isAhead_X6_share : GoodIn wsX6_isAhead (wsV RX6 69 RX6 yX6_share wsX6_share) := goodIn_app (goodIn_of _ (by decide +kernel)) ggX6_isAhead_X6_share
theorem dX6_isAhead_0 : decode cX6_isAhead 0 = .ok (.iload_n 3, 1) := by decide +kernel
theorem dX6_isAhead_1 : decode cX6_isAhead 1 = .ok (.ifCond .eq 27, 3) := by decide +kernel
theorem dX6_isAhead_4 : decode cX6_isAhead 4 = .ok (.aload_n 0, 1) := by decide +kernel
theorem dX6_isAhead_5 : decode cX6_isAhead 5 = .ok (.aload_n 0, 1) := by decide +kernel
theorem dX6_isAhead_6 : decode cX6_isAhead 6 = .ok (.getfield 31, 3) := by decide +kernel
theorem dX6_isAhead_9 : decode cX6_isAhead 9 = .ok (.iload_n 2, 1) := by decide +kernel
theorem dX6_isAhead_10 : decode cX6_isAhead 10 = .ok (.iaload, 1) := by decide +kernel
theorem dX6_isAhead_11 : decode cX6_isAhead 11 = .ok (.invokevirtual 69, 3) := by decide +kernel
theorem dX6_isAhead_14 : decode cX6_isAhead 14 = .ok (.aload_n 0, 1) := by decide +kernel
theorem dX6_isAhead_15 : decode cX6_isAhead 15 = .ok (.aload_n 0, 1) := by decide +kernel
theorem dX6_isAhead_16 : decode cX6_isAhead 16 = .ok (.getfield 31, 3) := by decide +kernel
theorem dX6_isAhead_19 : decode cX6_isAhead 19 = .ok (.iload_n 1, 1) := by decide +kernel
theorem dX6_isAhead_20 : decode cX6_isAhead 20 = .ok (.iaload, 1) := by decide +kernel
theorem dX6_isAhead_21 : decode cX6_isAhead 21 = .ok (.invokevirtual 69, 3) := by decide +kernel
theorem dX6_isAhead_24 : decode cX6_isAhead 24 = .ok (.isub, 1) := by decide +kernel
theorem dX6_isAhead_25 : decode cX6_isAhead 25 = .ok (.goto 4, 3) := by decide +kernel
theorem dX6_isAhead_28 : decode cX6_isAhead 28 = .ok (.iconst 0, 1) := by decide +kernel
theorem dX6_isAhead_29 : decode cX6_isAhead 29 = .ok (.istore 4, 2) := by decide +kernel
theorem dX6_isAhead_31 : decode cX6_isAhead 31 = .ok (.iload 4, 2) := by decide +kernel
theorem dX6_isAhead_33 : decode cX6_isAhead 33 = .ok (.ifCond .eq 8, 3) := by decide +kernel
theorem dX6_isAhead_36 : decode cX6_isAhead 36 = .ok (.iload 4, 2) := by decide +kernel
theorem dX6_isAhead_38 : decode cX6_isAhead 38 = .ok (.goto 36, 3) := by decide +kernel
theorem dX6_isAhead_41 : decode cX6_isAhead 41 = .ok (.iload_n 3, 1) := by decide +kernel
theorem dX6_isAhead_42 : decode cX6_isAhead 42 = .ok (.ifCond .eq 19, 3) := by decide +kernel
theorem dX6_isAhead_45 : decode cX6_isAhead 45 = .ok (.aload_n 0, 1) := by decide +kernel
theorem dX6_isAhead_46 : decode cX6_isAhead 46 = .ok (.getfield 31, 3) := by decide +kernel
theorem dX6_isAhead_49 : decode cX6_isAhead 49 = .ok (.iload_n 2, 1) := by decide +kernel
theorem dX6_isAhead_50 : decode cX6_isAhead 50 = .ok (.iaload, 1) := by decide +kernel
theorem dX6_isAhead_51 : decode cX6_isAhead 51 = .ok (.aload_n 0, 1) := by decide +kernel
theorem dX6_isAhead_52 : decode cX6_isAhead 52 = .ok (.getfield 31, 3) := by decide +kernel
theorem dX6_isAhead_55 : decode cX6_isAhead 55 = .ok (.iload_n 1, 1) := by decide +kernel
theorem dX6_isAhead_56 : decode cX6_isAhead 56 = .ok (.iaload, 1) := by decide +kernel
theorem dX6_isAhead_57 : decode cX6_isAhead 57 = .ok (.isub, 1) := by decide +kernel
theorem dX6_isAhead_58 : decode cX6_isAhead 58 = .ok (.goto 16, 3) := by decide +kernel
theorem dX6_isAhead_61 : decode cX6_isAhead 61 = .ok (.aload_n 0, 1) := by decide +kernel
theorem dX6_isAhead_62 : decode cX6_isAhead 62 = .ok (.getfield 31, 3) := by decide +kernel
theorem dX6_isAhead_65 : decode cX6_isAhead 65 = .ok (.iload_n 1, 1) := by decide +kernel
theorem dX6_isAhead_66 : decode cX6_isAhead 66 = .ok (.iaload, 1) := by decide +kernel
theorem dX6_isAhead_67 : decode cX6_isAhead 67 = .ok (.aload_n 0, 1) := by decide +kernel
theorem dX6_isAhead_68 : decode cX6_isAhead 68 = .ok (.getfield 31, 3) := by decide +kernel
theorem dX6_isAhead_71 : decode cX6_isAhead 71 = .ok (.iload_n 2, 1) := by decide +kernel
theorem dX6_isAhead_72 : decode cX6_isAhead 72 = .ok (.iaload, 1) := by decide +kernel
theorem dX6_isAhead_73 : decode cX6_isAhead 73 = .ok (.isub, 1) := by decide +kernel
theorem dX6_isAhead_74 : decode cX6_isAhead 74 = .ok (.istore 4, 2) := by decide +kernel
theorem dX6_isAhead_76 : decode cX6_isAhead 76 = .ok (.iload 4, 2) := by decide +kernel
theorem dX6_isAhead_78 : decode cX6_isAhead 78 = .ok (.ifCond .lt 13, 3) := by decide +kernel
theorem dX6_isAhead_81 : decode cX6_isAhead 81 = .ok (.iload 4, 2) := by decide +kernel
theorem dX6_isAhead_83 : decode cX6_isAhead 83 = .ok (.ifCond .ne 12, 3) := by decide +kernel
theorem dX6_isAhead_86 : decode cX6_isAhead 86 = .ok (.iload_n 1, 1) := by decide +kernel
theorem dX6_isAhead_87 : decode cX6_isAhead 87 = .ok (.iload_n 2, 1) := by decide +kernel
theorem dX6_isAhead_88 : decode cX6_isAhead 88 = .ok (.if_icmp .ge 7, 3) := by decide +kernel
theorem dX6_isAhead_91 : decode cX6_isAhead 91 = .ok (.iconst 1, 1) := by decide +kernel
theorem dX6_isAhead_92 : decode cX6_isAhead 92 = .ok (.goto 4, 3) := by decide +kernel
theorem dX6_isAhead_95 : decode cX6_isAhead 95 = .ok (.iconst 0, 1) := by decide +kernel
theorem dX6_isAhead_96 : decode cX6_isAhead 96 = .ok (.ireturn, 1) := by decide +kernel
set_option maxRecDepth 20000 in
theorem ggX6_pairAt_X6_isAhead : GoodIn wsX6_pairAt wsX6_isAhead := goodIn_r _ [7, 2, 8, 9, 10, 6, 11, 1, 12, 13, 14, 15, 16, 17, 18, 19, 20, 21, 22, 23, 24, 25, 26, 27, 28, 29, 30, 31] (by decide +kernel) (by decide +kernel)
set_option maxRecDepth 20000 in
theorem gX6_pairAt_X6_isAhead : GoodIn wsX6_pairAt (wsV RX6 149 RX6 yX6_isAhead wsX6_isAhead) := goodIn_app (goodIn_of _ (by decide +kernel)) ggX6_pairAt_X6_isAhead
theorem dX6_pairAt_0 : decode cX6_pairAt 0 = .ok (.iconst 0, 1) := by decide +kernel
theorem dX6_pairAt_1 : decode cX6_pairAt 1 = .ok (.istore_n 3, 1) := by decide +kernel
theorem dX6_pairAt_2 : decode cX6_pairAt 2 = .ok (.iload_n 3, 1) := by decide +kernel
theorem dX6_pairAt_3 : decode cX6_pairAt 3 = .ok (.aload_n 0, 1) := by decide +kernel
theorem dX6_pairAt_4 : decode cX6_pairAt 4 = .ok (.getfield 7, 3) := by decide +kernel
theorem dX6_pairAt_7 : decode cX6_pairAt 7 = .ok (.bipush 7, 2) := by decide +kernel
theorem dX6_pairAt_9 : decode cX6_pairAt 9 = .ok (.iaload, 1) := by decide +kernel
theorem dX6_pairAt_10 : decode cX6_pairAt 10 = .ok (.if_icmp .ge 99, 3) := by decide +kernel
theorem dX6_pairAt_13 : decode cX6_pairAt 13 = .ok (.iconst 0, 1) := by decide +kernel
theorem dX6_pairAt_14 : decode cX6_pairAt 14 = .ok (.istore 4, 2) := by decide +kernel
theorem dX6_pairAt_16 : decode cX6_pairAt 16 = .ok (.iconst 0, 1) := by decide +kernel
theorem dX6_pairAt_17 : decode cX6_pairAt 17 = .ok (.istore 5, 2) := by decide +kernel
theorem dX6_pairAt_19 : decode cX6_pairAt 19 = .ok (.iload 5, 2) := by decide +kernel
theorem dX6_pairAt_21 : decode cX6_pairAt 21 = .ok (.aload_n 0, 1) := by decide +kernel
theorem dX6_pairAt_22 : decode cX6_pairAt 22 = .ok (.getfield 7, 3) := by decide +kernel
theorem dX6_pairAt_25 : decode cX6_pairAt 25 = .ok (.bipush 7, 2) := by decide +kernel
theorem dX6_pairAt_27 : decode cX6_pairAt 27 = .ok (.iaload, 1) := by decide +kernel
theorem dX6_pairAt_28 : decode cX6_pairAt 28 = .ok (.if_icmp .ge 57, 3) := by decide +kernel
theorem dX6_pairAt_31 : decode cX6_pairAt 31 = .ok (.aload_n 0, 1) := by decide +kernel
theorem dX6_pairAt_32 : decode cX6_pairAt 32 = .ok (.getfield 31, 3) := by decide +kernel
theorem dX6_pairAt_35 : decode cX6_pairAt 35 = .ok (.iload_n 3, 1) := by decide +kernel
theorem dX6_pairAt_36 : decode cX6_pairAt 36 = .ok (.iaload, 1) := by decide +kernel
theorem dX6_pairAt_37 : decode cX6_pairAt 37 = .ok (.iconst (-1), 1) := by decide +kernel
theorem dX6_pairAt_38 : decode cX6_pairAt 38 = .ok (.if_icmp .eq 47, 3) := by decide +kernel
theorem dX6_pairAt_41 : decode cX6_pairAt 41 = .ok (.iload 4, 2) := by decide +kernel
theorem dX6_pairAt_43 : decode cX6_pairAt 43 = .ok (.iload 5, 2) := by decide +kernel
theorem dX6_pairAt_45 : decode cX6_pairAt 45 = .ok (.iload_n 3, 1) := by decide +kernel
theorem dX6_pairAt_46 : decode cX6_pairAt 46 = .ok (.if_icmp .eq 29, 3) := by decide +kernel
theorem dX6_pairAt_49 : decode cX6_pairAt 49 = .ok (.aload_n 0, 1) := by decide +kernel
theorem dX6_pairAt_50 : decode cX6_pairAt 50 = .ok (.getfield 31, 3) := by decide +kernel
theorem dX6_pairAt_53 : decode cX6_pairAt 53 = .ok (.iload 5, 2) := by decide +kernel
theorem dX6_pairAt_55 : decode cX6_pairAt 55 = .ok (.iaload, 1) := by decide +kernel
theorem dX6_pairAt_56 : decode cX6_pairAt 56 = .ok (.iconst (-1), 1) := by decide +kernel
theorem dX6_pairAt_57 : decode cX6_pairAt 57 = .ok (.if_icmp .eq 18, 3) := by decide +kernel
theorem dX6_pairAt_60 : decode cX6_pairAt 60 = .ok (.aload_n 0, 1) := by decide +kernel
theorem dX6_pairAt_61 : decode cX6_pairAt 61 = .ok (.iload 5, 2) := by decide +kernel
theorem dX6_pairAt_63 : decode cX6_pairAt 63 = .ok (.iload_n 3, 1) := by decide +kernel
theorem dX6_pairAt_64 : decode cX6_pairAt 64 = .ok (.iload_n 2, 1) := by decide +kernel
theorem dX6_pairAt_65 : decode cX6_pairAt 65 = .ok (.invokevirtual 149, 3) := by decide +kernel
theorem dX6_pairAt_68 : decode cX6_pairAt 68 = .ok (.ifCond .eq 7, 3) := by decide +kernel
theorem dX6_pairAt_71 : decode cX6_pairAt 71 = .ok (.iconst 1, 1) := by decide +kernel
theorem dX6_pairAt_72 : decode cX6_pairAt 72 = .ok (.goto 4, 3) := by decide +kernel
theorem dX6_pairAt_75 : decode cX6_pairAt 75 = .ok (.iconst 0, 1) := by decide +kernel
theorem dX6_pairAt_76 : decode cX6_pairAt 76 = .ok (.iadd, 1) := by decide +kernel
theorem dX6_pairAt_77 : decode cX6_pairAt 77 = .ok (.istore 4, 2) := by decide +kernel
theorem dX6_pairAt_79 : decode cX6_pairAt 79 = .ok (.iinc 5 1, 3) := by decide +kernel
theorem dX6_pairAt_82 : decode cX6_pairAt 82 = .ok (.goto (-63), 3) := by decide +kernel
theorem dX6_pairAt_85 : decode cX6_pairAt 85 = .ok (.aload_n 0, 1) := by decide +kernel
theorem dX6_pairAt_86 : decode cX6_pairAt 86 = .ok (.getfield 31, 3) := by decide +kernel
theorem dX6_pairAt_89 : decode cX6_pairAt 89 = .ok (.iload_n 3, 1) := by decide +kernel
theorem dX6_pairAt_90 : decode cX6_pairAt 90 = .ok (.iaload, 1) := by decide +kernel
theorem dX6_pairAt_91 : decode cX6_pairAt 91 = .ok (.iconst (-1), 1) := by decide +kernel
theorem dX6_pairAt_92 : decode cX6_pairAt 92 = .ok (.if_icmp .eq 11, 3) := by decide +kernel
theorem dX6_pairAt_95 : decode cX6_pairAt 95 = .ok (.iload 4, 2) := by decide +kernel
theorem dX6_pairAt_97 : decode cX6_pairAt 97 = .ok (.iload_n 1, 1) := by decide +kernel
theorem dX6_pairAt_98 : decode cX6_pairAt 98 = .ok (.if_icmp .ne 5, 3) := by decide +kernel
theorem dX6_pairAt_101 : decode cX6_pairAt 101 = .ok (.iload_n 3, 1) := by decide +kernel
theorem dX6_pairAt_102 : decode cX6_pairAt 102 = .ok (.ireturn, 1) := by decide +kernel
theorem dX6_pairAt_103 : decode cX6_pairAt 103 = .ok (.iinc 3 1, 3) := by decide +kernel
theorem dX6_pairAt_106 : decode cX6_pairAt 106 = .ok (.goto (-104), 3) := by decide +kernel
theorem dX6_pairAt_109 : decode cX6_pairAt 109 = .ok (.iconst (-1), 1) := by decide +kernel
theorem dX6_pairAt_110 : decode cX6_pairAt 110 = .ok (.ireturn, 1) := by decide +kernel
set_option maxRecDepth 20000 in
theorem ggX6_byArea_X6_lays : GoodIn wsX6_byArea wsX6_lays := goodIn_r _ [6, 7, 8, 9, 10, 11, 12, 13, 14, 5, 15, 16, 17, 18, 19, 20, 21, 22, 23, 24, 25, 26, 27, 28, 29, 30, 31, 32, 33, 34, 35, 36, 37, 38, 39, 40, 41, 42, 43, 44, 45, 46, 47, 48, 49, 50, 51, 52, 53, 54, 71, 72, 73, 74, 75, 76, 77, 78, 79, 80, 81, 82, 83, 84, 85, 86, 87] (by decide +kernel) (by decide +kernel)
set_option maxRecDepth 20000 in
theorem gX6_byArea_X6_lays : GoodIn wsX6_byArea (wsV RX6 91 RX6 yX6_lays wsX6_lays) := goodIn_app (goodIn_of _ (by decide +kernel)) ggX6_byArea_X6_lays
set_option maxRecDepth 20000 in
theorem ggX6_byArea_X6_fails : GoodIn wsX6_byArea wsX6_fails := goodIn_r _ [58, 1, 71, 72, 73, 74, 75, 76, 77, 78, 79, 80, 81, 82, 83, 84, 85, 86, 87] (by decide +kernel) (by decide +kernel)
set_option maxRecDepth 20000 in
theorem gX6_byArea_X6_fails : GoodIn wsX6_byArea (wsV RX6 97 RX6 yX6_fails wsX6_fails) := goodIn_app (goodIn_of _ (by decide +kernel)) ggX6_byArea_X6_fails
set_option maxRecDepth 20000 in
theorem ggX6_byArea_X6_pairAt : GoodIn wsX6_byArea wsX6_pairAt := goodIn_r _ [62, 7, 10, 63, 64, 65, 5, 66, 67, 68, 69, 70, 42, 43, 44, 71, 72, 73, 74, 75, 76, 77, 78, 79, 80, 81, 82, 83, 84, 85, 86, 87] (by decide +kernel) (by decide +kernel)
set_option maxRecDepth 20000 in
theorem gX6_byArea_X6_pairAt : GoodIn wsX6_byArea (wsV RX6 153 RX6 yX6_pairAt wsX6_pairAt) := goodIn_app (goodIn_of _ (by decide +kernel)) ggX6_byArea_X6_pairAt
theorem dX6_byArea_0 : decode cX6_byArea 0 = .ok (.aload_n 0, 1) := by decide +kernel
theorem dX6_byArea_1 : decode cX6_byArea 1 = .ok (.iconst 0, 1) := by decide +kernel
theorem dX6_byArea_2 : decode cX6_byArea 2 = .ok (.putfield 40, 3) := by decide +kernel
theorem dX6_byArea_5 : decode cX6_byArea 5 = .ok (.aload_n 0, 1) := by decide +kernel
theorem dX6_byArea_6 : decode cX6_byArea 6 = .ok (.invokevirtual 91, 3) := by decide +kernel
theorem dX6_byArea_9 : decode cX6_byArea 9 = .ok (.iload_n 1, 1) := by decide +kernel
theorem dX6_byArea_10 : decode cX6_byArea 10 = .ok (.ifCond .ge 11, 3) := by decide +kernel
theorem dX6_byArea_13 : decode cX6_byArea 13 = .ok (.aload_n 0, 1) := by decide +kernel
theorem dX6_byArea_14 : decode cX6_byArea 14 = .ok (.iconst 1, 1) := by decide +kernel
theorem dX6_byArea_15 : decode cX6_byArea 15 = .ok (.invokevirtual 97, 3) := by decide +kernel
theorem dX6_byArea_18 : decode cX6_byArea 18 = .ok (.goto 9, 3) := by decide +kernel
theorem dX6_byArea_21 : decode cX6_byArea 21 = .ok (.aload_n 0, 1) := by decide +kernel
theorem dX6_byArea_22 : decode cX6_byArea 22 = .ok (.iload_n 1, 1) := by decide +kernel
theorem dX6_byArea_23 : decode cX6_byArea 23 = .ok (.iconst 0, 1) := by decide +kernel
theorem dX6_byArea_24 : decode cX6_byArea 24 = .ok (.invokevirtual 153, 3) := by decide +kernel
theorem dX6_byArea_27 : decode cX6_byArea 27 = .ok (.ireturn, 1) := by decide +kernel
set_option maxRecDepth 20000 in
theorem ggX6_byFault_X6_lays : GoodIn wsX6_byFault wsX6_lays := goodIn_r _ [6, 7, 8, 9, 10, 11, 12, 13, 14, 5, 15, 16, 17, 18, 19, 20, 21, 22, 23, 24, 25, 26, 27, 28, 29, 30, 31, 32, 33, 34, 35, 36, 37, 38, 39, 40, 41, 42, 43, 44, 45, 46, 47, 48, 49, 50, 51, 52, 53, 54, 71, 72, 73, 74, 75, 76, 77, 78, 79, 80, 81, 82, 83, 84, 85, 86, 87] (by decide +kernel) (by decide +kernel)
set_option maxRecDepth 20000 in
theorem gX6_byFault_X6_lays : GoodIn wsX6_byFault (wsV RX6 91 RX6 yX6_lays wsX6_lays) := goodIn_app (goodIn_of _ (by decide +kernel)) ggX6_byFault_X6_lays
set_option maxRecDepth 20000 in
theorem ggX6_byFault_X6_fails : GoodIn wsX6_byFault wsX6_fails := goodIn_r _ [58, 1, 71, 72, 73, 74, 75, 76, 77, 78, 79, 80, 81, 82, 83, 84, 85, 86, 87] (by decide +kernel) (by decide +kernel)
set_option maxRecDepth 20000 in
theorem gX6_byFault_X6_fails : GoodIn wsX6_byFault (wsV RX6 97 RX6 yX6_fails wsX6_fails) := goodIn_app (goodIn_of _ (by decide +kernel)) ggX6_byFault_X6_fails
set_option maxRecDepth 20000 in
theorem ggX6_byFault_X6_pairAt : GoodIn wsX6_byFault wsX6_pairAt := goodIn_r _ [62, 7, 10, 63, 64, 65, 5, 66, 67, 68, 69, 70, 42, 43, 44, 71, 72, 73, 74, 75, 76, 77, 78, 79, 80, 81, 82, 83, 84, 85, 86, 87] (by decide +kernel) (by decide +kernel)
set_option maxRecDepth 20000 in
theorem gX6_byFault_X6_pairAt : GoodIn wsX6_byFault (wsV RX6 153 RX6 yX6_pairAt wsX6_pairAt) := goodIn_app (goodIn_of _ (by decide +kernel)) ggX6_byFault_X6_pairAt
theorem dX6_byFault_0 : decode cX6_byFault 0 = .ok (.aload_n 0, 1) := by decide +kernel
theorem dX6_byFault_1 : decode cX6_byFault 1 = .ok (.iconst 0, 1) := by decide +kernel
theorem dX6_byFault_2 : decode cX6_byFault 2 = .ok (.putfield 40, 3) := by decide +kernel
theorem dX6_byFault_5 : decode cX6_byFault 5 = .ok (.aload_n 0, 1) := by decide +kernel
theorem dX6_byFault_6 : decode cX6_byFault 6 = .ok (.invokevirtual 91, 3) := by decide +kernel
theorem dX6_byFault_9 : decode cX6_byFault 9 = .ok (.iload_n 1, 1) := by decide +kernel
theorem dX6_byFault_10 : decode cX6_byFault 10 = .ok (.ifCond .ge 11, 3) := by decide +kernel
theorem dX6_byFault_13 : decode cX6_byFault 13 = .ok (.aload_n 0, 1) := by decide +kernel
theorem dX6_byFault_14 : decode cX6_byFault 14 = .ok (.iconst 1, 1) := by decide +kernel
theorem dX6_byFault_15 : decode cX6_byFault 15 = .ok (.invokevirtual 97, 3) := by decide +kernel
theorem dX6_byFault_18 : decode cX6_byFault 18 = .ok (.goto 9, 3) := by decide +kernel
theorem dX6_byFault_21 : decode cX6_byFault 21 = .ok (.aload_n 0, 1) := by decide +kernel
theorem dX6_byFault_22 : decode cX6_byFault 22 = .ok (.iload_n 1, 1) := by decide +kernel
theorem dX6_byFault_23 : decode cX6_byFault 23 = .ok (.iconst 1, 1) := by decide +kernel
theorem dX6_byFault_24 : decode cX6_byFault 24 = .ok (.invokevirtual 153, 3) := by decide +kernel
theorem dX6_byFault_27 : decode cX6_byFault 27 = .ok (.ireturn, 1) := by decide +kernel
set_option maxRecDepth 20000 in
theorem ggX6_pairs_X6_lays : GoodIn wsX6_pairs wsX6_lays := goodIn_r _ [7, 1, 8, 9, 2, 10, 11, 12, 13, 6, 14, 15, 16, 17, 18, 19, 20, 21, 22, 23, 24, 25, 26, 27, 28, 29, 30, 31, 32, 33, 34, 35, 36, 37, 38, 39, 40, 41, 42, 43, 44, 45, 46, 47, 48, 49, 50, 51, 52, 53, 54, 55, 56, 57, 58, 59, 60, 61, 62, 63, 64, 65, 66, 67, 68, 69, 70] (by decide +kernel) (by decide +kernel)
set_option maxRecDepth 20000 in
theorem gX6_pairs_X6_lays : GoodIn wsX6_pairs (wsV RX6 91 RX6 yX6_lays wsX6_lays) := goodIn_app (goodIn_of _ (by decide +kernel)) ggX6_pairs_X6_lays
theorem dX6_pairs_0 : decode cX6_pairs 0 = .ok (.aload_n 0, 1) := by decide +kernel
theorem dX6_pairs_1 : decode cX6_pairs 1 = .ok (.invokevirtual 91, 3) := by decide +kernel
theorem dX6_pairs_4 : decode cX6_pairs 4 = .ok (.iconst 0, 1) := by decide +kernel
theorem dX6_pairs_5 : decode cX6_pairs 5 = .ok (.istore_n 1, 1) := by decide +kernel
theorem dX6_pairs_6 : decode cX6_pairs 6 = .ok (.iconst 0, 1) := by decide +kernel
theorem dX6_pairs_7 : decode cX6_pairs 7 = .ok (.istore_n 2, 1) := by decide +kernel
theorem dX6_pairs_8 : decode cX6_pairs 8 = .ok (.iload_n 2, 1) := by decide +kernel
theorem dX6_pairs_9 : decode cX6_pairs 9 = .ok (.aload_n 0, 1) := by decide +kernel
theorem dX6_pairs_10 : decode cX6_pairs 10 = .ok (.getfield 7, 3) := by decide +kernel
theorem dX6_pairs_13 : decode cX6_pairs 13 = .ok (.bipush 7, 2) := by decide +kernel
theorem dX6_pairs_15 : decode cX6_pairs 15 = .ok (.iaload, 1) := by decide +kernel
theorem dX6_pairs_16 : decode cX6_pairs 16 = .ok (.if_icmp .ge 27, 3) := by decide +kernel
theorem dX6_pairs_19 : decode cX6_pairs 19 = .ok (.iload_n 1, 1) := by decide +kernel
theorem dX6_pairs_20 : decode cX6_pairs 20 = .ok (.aload_n 0, 1) := by decide +kernel
theorem dX6_pairs_21 : decode cX6_pairs 21 = .ok (.getfield 31, 3) := by decide +kernel
theorem dX6_pairs_24 : decode cX6_pairs 24 = .ok (.iload_n 2, 1) := by decide +kernel
theorem dX6_pairs_25 : decode cX6_pairs 25 = .ok (.iaload, 1) := by decide +kernel
theorem dX6_pairs_26 : decode cX6_pairs 26 = .ok (.iconst (-1), 1) := by decide +kernel
theorem dX6_pairs_27 : decode cX6_pairs 27 = .ok (.if_icmp .eq 7, 3) := by decide +kernel
theorem dX6_pairs_30 : decode cX6_pairs 30 = .ok (.iconst 1, 1) := by decide +kernel
theorem dX6_pairs_31 : decode cX6_pairs 31 = .ok (.goto 4, 3) := by decide +kernel
theorem dX6_pairs_34 : decode cX6_pairs 34 = .ok (.iconst 0, 1) := by decide +kernel
theorem dX6_pairs_35 : decode cX6_pairs 35 = .ok (.iadd, 1) := by decide +kernel
theorem dX6_pairs_36 : decode cX6_pairs 36 = .ok (.istore_n 1, 1) := by decide +kernel
theorem dX6_pairs_37 : decode cX6_pairs 37 = .ok (.iinc 2 1, 3) := by decide +kernel
theorem dX6_pairs_40 : decode cX6_pairs 40 = .ok (.goto (-32), 3) := by decide +kernel
theorem dX6_pairs_43 : decode cX6_pairs 43 = .ok (.iload_n 1, 1) := by decide +kernel
theorem dX6_pairs_44 : decode cX6_pairs 44 = .ok (.ireturn, 1) := by decide +kernel
set_option maxRecDepth 20000 in
theorem ggX6_letters_X6_isLetter : GoodIn wsX6_letters wsX6_isLetter := goodIn_r _ [6, 1, 7, 8, 9, 5, 10, 11, 12, 13, 14, 15, 16, 17, 18, 19, 20, 21, 22, 23, 24, 25, 26, 27, 28, 29, 30] (by decide +kernel) (by decide +kernel)
set_option maxRecDepth 20000 in
theorem gX6_letters_X6_isLetter : GoodIn wsX6_letters (wsV RX6 76 RX6 yX6_isLetter wsX6_isLetter) := goodIn_app (goodIn_of _ (by decide +kernel)) ggX6_letters_X6_isLetter
theorem dX6_letters_0 : decode cX6_letters 0 = .ok (.iconst 0, 1) := by decide +kernel
theorem dX6_letters_1 : decode cX6_letters 1 = .ok (.istore_n 1, 1) := by decide +kernel
theorem dX6_letters_2 : decode cX6_letters 2 = .ok (.iconst 0, 1) := by decide +kernel
theorem dX6_letters_3 : decode cX6_letters 3 = .ok (.istore_n 2, 1) := by decide +kernel
theorem dX6_letters_4 : decode cX6_letters 4 = .ok (.iload_n 2, 1) := by decide +kernel
theorem dX6_letters_5 : decode cX6_letters 5 = .ok (.aload_n 0, 1) := by decide +kernel
theorem dX6_letters_6 : decode cX6_letters 6 = .ok (.getfield 7, 3) := by decide +kernel
theorem dX6_letters_9 : decode cX6_letters 9 = .ok (.bipush 7, 2) := by decide +kernel
theorem dX6_letters_11 : decode cX6_letters 11 = .ok (.iaload, 1) := by decide +kernel
theorem dX6_letters_12 : decode cX6_letters 12 = .ok (.if_icmp .ge 25, 3) := by decide +kernel
theorem dX6_letters_15 : decode cX6_letters 15 = .ok (.iload_n 1, 1) := by decide +kernel
theorem dX6_letters_16 : decode cX6_letters 16 = .ok (.aload_n 0, 1) := by decide +kernel
theorem dX6_letters_17 : decode cX6_letters 17 = .ok (.iload_n 2, 1) := by decide +kernel
theorem dX6_letters_18 : decode cX6_letters 18 = .ok (.invokevirtual 76, 3) := by decide +kernel
theorem dX6_letters_21 : decode cX6_letters 21 = .ok (.ifCond .eq 7, 3) := by decide +kernel
theorem dX6_letters_24 : decode cX6_letters 24 = .ok (.iconst 1, 1) := by decide +kernel
theorem dX6_letters_25 : decode cX6_letters 25 = .ok (.goto 4, 3) := by decide +kernel
theorem dX6_letters_28 : decode cX6_letters 28 = .ok (.iconst 0, 1) := by decide +kernel
theorem dX6_letters_29 : decode cX6_letters 29 = .ok (.iadd, 1) := by decide +kernel
theorem dX6_letters_30 : decode cX6_letters 30 = .ok (.istore_n 1, 1) := by decide +kernel
theorem dX6_letters_31 : decode cX6_letters 31 = .ok (.iinc 2 1, 3) := by decide +kernel
theorem dX6_letters_34 : decode cX6_letters 34 = .ok (.goto (-30), 3) := by decide +kernel
theorem dX6_letters_37 : decode cX6_letters 37 = .ok (.iload_n 1, 1) := by decide +kernel
theorem dX6_letters_38 : decode cX6_letters 38 = .ok (.ireturn, 1) := by decide +kernel
set_option maxRecDepth 20000 in
theorem ggX6_extremeArea_X6_lays : GoodIn wsX6_extremeArea wsX6_lays := goodIn_r _ [7, 1, 8, 9, 2, 10, 11, 12, 13, 6, 14, 15, 16, 17, 18, 19, 20, 21, 22, 23, 24, 25, 26, 27, 28, 29, 30, 31, 32, 33, 34, 35, 36, 37, 38, 39, 40, 41, 42, 43, 44, 45, 46, 47, 48, 49, 50, 51, 52, 53, 54, 55, 56, 57, 58, 59, 60, 61, 62, 63, 64, 65, 66, 67, 68, 69, 70] (by decide +kernel) (by decide +kernel)
set_option maxRecDepth 20000 in
theorem gX6_extremeArea_X6_lays : GoodIn wsX6_extremeArea (wsV RX6 91 RX6 yX6_lays wsX6_lays) := goodIn_app (goodIn_of _ (by decide +kernel)) ggX6_extremeArea_X6_lays
theorem dX6_extremeArea_0 : decode cX6_extremeArea 0 = .ok (.aload_n 0, 1) := by decide +kernel
theorem dX6_extremeArea_1 : decode cX6_extremeArea 1 = .ok (.invokevirtual 91, 3) := by decide +kernel
theorem dX6_extremeArea_4 : decode cX6_extremeArea 4 = .ok (.iconst (-1), 1) := by decide +kernel
theorem dX6_extremeArea_5 : decode cX6_extremeArea 5 = .ok (.istore_n 2, 1) := by decide +kernel
theorem dX6_extremeArea_6 : decode cX6_extremeArea 6 = .ok (.iconst 0, 1) := by decide +kernel
theorem dX6_extremeArea_7 : decode cX6_extremeArea 7 = .ok (.istore_n 3, 1) := by decide +kernel
theorem dX6_extremeArea_8 : decode cX6_extremeArea 8 = .ok (.iload_n 3, 1) := by decide +kernel
theorem dX6_extremeArea_9 : decode cX6_extremeArea 9 = .ok (.aload_n 0, 1) := by decide +kernel
theorem dX6_extremeArea_10 : decode cX6_extremeArea 10 = .ok (.getfield 7, 3) := by decide +kernel
theorem dX6_extremeArea_13 : decode cX6_extremeArea 13 = .ok (.bipush 7, 2) := by decide +kernel
theorem dX6_extremeArea_15 : decode cX6_extremeArea 15 = .ok (.iaload, 1) := by decide +kernel
theorem dX6_extremeArea_16 : decode cX6_extremeArea 16 = .ok (.if_icmp .ge 74, 3) := by decide +kernel
theorem dX6_extremeArea_19 : decode cX6_extremeArea 19 = .ok (.aload_n 0, 1) := by decide +kernel
theorem dX6_extremeArea_20 : decode cX6_extremeArea 20 = .ok (.getfield 31, 3) := by decide +kernel
theorem dX6_extremeArea_23 : decode cX6_extremeArea 23 = .ok (.iload_n 3, 1) := by decide +kernel
theorem dX6_extremeArea_24 : decode cX6_extremeArea 24 = .ok (.iaload, 1) := by decide +kernel
theorem dX6_extremeArea_25 : decode cX6_extremeArea 25 = .ok (.iconst (-1), 1) := by decide +kernel
theorem dX6_extremeArea_26 : decode cX6_extremeArea 26 = .ok (.if_icmp .eq 39, 3) := by decide +kernel
theorem dX6_extremeArea_29 : decode cX6_extremeArea 29 = .ok (.iload_n 2, 1) := by decide +kernel
theorem dX6_extremeArea_30 : decode cX6_extremeArea 30 = .ok (.iconst (-1), 1) := by decide +kernel
theorem dX6_extremeArea_31 : decode cX6_extremeArea 31 = .ok (.if_icmp .eq 30, 3) := by decide +kernel
theorem dX6_extremeArea_34 : decode cX6_extremeArea 34 = .ok (.iload_n 1, 1) := by decide +kernel
theorem dX6_extremeArea_35 : decode cX6_extremeArea 35 = .ok (.ifCond .eq 16, 3) := by decide +kernel
theorem dX6_extremeArea_38 : decode cX6_extremeArea 38 = .ok (.aload_n 0, 1) := by decide +kernel
theorem dX6_extremeArea_39 : decode cX6_extremeArea 39 = .ok (.getfield 31, 3) := by decide +kernel
theorem dX6_extremeArea_42 : decode cX6_extremeArea 42 = .ok (.iload_n 3, 1) := by decide +kernel
theorem dX6_extremeArea_43 : decode cX6_extremeArea 43 = .ok (.iaload, 1) := by decide +kernel
theorem dX6_extremeArea_44 : decode cX6_extremeArea 44 = .ok (.iload_n 2, 1) := by decide +kernel
theorem dX6_extremeArea_45 : decode cX6_extremeArea 45 = .ok (.if_icmp .le 20, 3) := by decide +kernel
theorem dX6_extremeArea_48 : decode cX6_extremeArea 48 = .ok (.goto 13, 3) := by decide +kernel
theorem dX6_extremeArea_51 : decode cX6_extremeArea 51 = .ok (.aload_n 0, 1) := by decide +kernel
theorem dX6_extremeArea_52 : decode cX6_extremeArea 52 = .ok (.getfield 31, 3) := by decide +kernel
theorem dX6_extremeArea_55 : decode cX6_extremeArea 55 = .ok (.iload_n 3, 1) := by decide +kernel
theorem dX6_extremeArea_56 : decode cX6_extremeArea 56 = .ok (.iaload, 1) := by decide +kernel
theorem dX6_extremeArea_57 : decode cX6_extremeArea 57 = .ok (.iload_n 2, 1) := by decide +kernel
theorem dX6_extremeArea_58 : decode cX6_extremeArea 58 = .ok (.if_icmp .ge 7, 3) := by decide +kernel
theorem dX6_extremeArea_61 : decode cX6_extremeArea 61 = .ok (.iconst 1, 1) := by decide +kernel
theorem dX6_extremeArea_62 : decode cX6_extremeArea 62 = .ok (.goto 4, 3) := by decide +kernel
theorem dX6_extremeArea_65 : decode cX6_extremeArea 65 = .ok (.iconst 0, 1) := by decide +kernel
theorem dX6_extremeArea_66 : decode cX6_extremeArea 66 = .ok (.istore 4, 2) := by decide +kernel
theorem dX6_extremeArea_68 : decode cX6_extremeArea 68 = .ok (.iload 4, 2) := by decide +kernel
theorem dX6_extremeArea_70 : decode cX6_extremeArea 70 = .ok (.ifCond .eq 12, 3) := by decide +kernel
theorem dX6_extremeArea_73 : decode cX6_extremeArea 73 = .ok (.aload_n 0, 1) := by decide +kernel
theorem dX6_extremeArea_74 : decode cX6_extremeArea 74 = .ok (.getfield 31, 3) := by decide +kernel
theorem dX6_extremeArea_77 : decode cX6_extremeArea 77 = .ok (.iload_n 3, 1) := by decide +kernel
theorem dX6_extremeArea_78 : decode cX6_extremeArea 78 = .ok (.iaload, 1) := by decide +kernel
theorem dX6_extremeArea_79 : decode cX6_extremeArea 79 = .ok (.goto 4, 3) := by decide +kernel
theorem dX6_extremeArea_82 : decode cX6_extremeArea 82 = .ok (.iload_n 2, 1) := by decide +kernel
theorem dX6_extremeArea_83 : decode cX6_extremeArea 83 = .ok (.istore_n 2, 1) := by decide +kernel
theorem dX6_extremeArea_84 : decode cX6_extremeArea 84 = .ok (.iinc 3 1, 3) := by decide +kernel
theorem dX6_extremeArea_87 : decode cX6_extremeArea 87 = .ok (.goto (-79), 3) := by decide +kernel
theorem dX6_extremeArea_90 : decode cX6_extremeArea 90 = .ok (.iload_n 2, 1) := by decide +kernel
theorem dX6_extremeArea_91 : decode cX6_extremeArea 91 = .ok (.ireturn, 1) := by decide +kernel
set_option maxRecDepth 20000 in
theorem ggX6_tellsCount_X6_width : GoodIn wsX6_tellsCount wsX6_width := goodIn_r _ [7, 1, 8, 9, 10, 11, 6, 12, 13, 14, 15, 16, 17, 18, 19, 20, 21, 22, 23, 24, 25, 26, 27, 28, 29, 30, 31, 32, 33, 34, 35, 36, 37, 38, 39, 40, 41, 42, 43, 44, 45, 46, 47, 48, 49, 50, 51, 52, 53, 54, 55, 56, 57, 58, 83, 84, 85, 86, 87, 88, 89, 90, 91, 92, 93, 94, 95, 96, 97, 98, 99] (by decide +kernel) (by decide +kernel)
set_option maxRecDepth 20000 in
theorem gX6_tellsCount_X6_width : GoodIn wsX6_tellsCount (wsV RX6 107 RX6 yX6_width wsX6_width) := goodIn_app (goodIn_of _ (by decide +kernel)) ggX6_tellsCount_X6_width
set_option maxRecDepth 20000 in
theorem ggX6_tellsCount_X6_letters : GoodIn wsX6_tellsCount wsX6_letters := goodIn_r _ [62, 1, 16, 17, 18, 6, 19, 20, 21, 22, 23, 24, 25, 26, 83, 84, 85, 86, 87, 88, 89, 90, 91, 92, 93, 94, 95, 96, 97, 98, 99] (by decide +kernel) (by decide +kernel)
set_option maxRecDepth 20000 in
theorem gX6_tellsCount_X6_letters : GoodIn wsX6_tellsCount (wsV RX6 157 RX6 yX6_letters wsX6_letters) := goodIn_app (goodIn_of _ (by decide +kernel)) ggX6_tellsCount_X6_letters
set_option maxRecDepth 20000 in
theorem ggX6_tellsCount_X6_pairs : GoodIn wsX6_tellsCount wsX6_pairs := goodIn_r _ [66, 1, 15, 9, 10, 11, 6, 12, 13, 14, 8, 16, 17, 18, 19, 20, 21, 22, 23, 24, 25, 26, 27, 28, 29, 30, 31, 32, 33, 34, 35, 36, 37, 38, 39, 40, 41, 42, 43, 44, 45, 46, 47, 48, 49, 50, 51, 52, 53, 54, 55, 56, 57, 58, 83, 84, 85, 86, 87, 88, 89, 90, 91, 92, 93, 94, 95, 96, 97, 98, 99] (by decide +kernel) (by decide +kernel)
set_option maxRecDepth 20000 in
theorem gX6_tellsCount_X6_pairs : GoodIn wsX6_tellsCount (wsV RX6 160 RX6 yX6_pairs wsX6_pairs) := goodIn_app (goodIn_of _ (by decide +kernel)) ggX6_tellsCount_X6_pairs
set_option maxRecDepth 20000 in
theorem ggX6_tellsCount_X6_faults : GoodIn wsX6_tellsCount wsX6_faults := goodIn_r _ [70, 1, 9, 10, 11, 6, 12, 13, 14, 15, 8, 16, 17, 18, 19, 20, 21, 22, 23, 24, 25, 26, 27, 28, 29, 30, 31, 32, 33, 34, 35, 36, 37, 38, 39, 40, 41, 42, 43, 44, 45, 46, 47, 48, 49, 50, 51, 52, 53, 54, 55, 56, 57, 58, 71, 72, 73, 74, 75, 76, 77, 78, 83, 84, 85, 86, 87, 88, 89, 90, 91, 92, 93, 94, 95, 96, 97, 98, 99] (by decide +kernel) (by decide +kernel)
set_option maxRecDepth 20000 in
theorem gX6_tellsCount_X6_faults : GoodIn wsX6_tellsCount (wsV RX6 163 RX6 yX6_faults wsX6_faults) := goodIn_app (goodIn_of _ (by decide +kernel)) ggX6_tellsCount_X6_faults
set_option maxRecDepth 20000 in
theorem ggX6_tellsCount_X6_extremeArea : GoodIn wsX6_tellsCount wsX6_extremeArea := goodIn_r _ [82, 1, 15, 9, 10, 11, 6, 12, 13, 14, 8, 16, 17, 18, 19, 20, 21, 22, 23, 24, 25, 26, 27, 28, 29, 30, 31, 32, 33, 34, 35, 36, 37, 38, 39, 40, 41, 42, 43, 44, 45, 46, 47, 48, 49, 50, 51, 52, 53, 54, 55, 56, 57, 58, 83, 84, 85, 86, 87, 88, 89, 90, 91, 92, 93, 94, 95, 96, 97, 98, 99] (by decide +kernel) (by decide +kernel)
set_option maxRecDepth 20000 in
theorem gX6_tellsCount_X6_extremeArea : GoodIn wsX6_tellsCount (wsV RX6 166 RX6 yX6_extremeArea wsX6_extremeArea) := goodIn_app (goodIn_of _ (by decide +kernel)) ggX6_tellsCount_X6_extremeArea
theorem dX6_tellsCount_0 : decode cX6_tellsCount 0 = .ok (.aload_n 0, 1) := by decide +kernel
theorem dX6_tellsCount_1 : decode cX6_tellsCount 1 = .ok (.invokevirtual 107, 3) := by decide +kernel
theorem dX6_tellsCount_4 : decode cX6_tellsCount 4 = .ok (.istore_n 2, 1) := by decide +kernel
theorem dX6_tellsCount_5 : decode cX6_tellsCount 5 = .ok (.iload_n 1, 1) := by decide +kernel
theorem dX6_tellsCount_6 : decode cX6_tellsCount 6 = .ok (.tableswitch 159 0 15 #[78, 86, 91, 96, 101, 103, 130, 138, 138, 159, 159, 159, 159, 159, 159, 154], 78) := by decide +kernel
theorem dX6_tellsCount_84 : decode cX6_tellsCount 84 = .ok (.aload_n 0, 1) := by decide +kernel
theorem dX6_tellsCount_85 : decode cX6_tellsCount 85 = .ok (.getfield 7, 3) := by decide +kernel
theorem dX6_tellsCount_88 : decode cX6_tellsCount 88 = .ok (.bipush 7, 2) := by decide +kernel
theorem dX6_tellsCount_90 : decode cX6_tellsCount 90 = .ok (.iaload, 1) := by decide +kernel
theorem dX6_tellsCount_91 : decode cX6_tellsCount 91 = .ok (.ireturn, 1) := by decide +kernel
theorem dX6_tellsCount_92 : decode cX6_tellsCount 92 = .ok (.aload_n 0, 1) := by decide +kernel
theorem dX6_tellsCount_93 : decode cX6_tellsCount 93 = .ok (.invokevirtual 157, 3) := by decide +kernel
theorem dX6_tellsCount_96 : decode cX6_tellsCount 96 = .ok (.ireturn, 1) := by decide +kernel
theorem dX6_tellsCount_97 : decode cX6_tellsCount 97 = .ok (.aload_n 0, 1) := by decide +kernel
theorem dX6_tellsCount_98 : decode cX6_tellsCount 98 = .ok (.invokevirtual 160, 3) := by decide +kernel
theorem dX6_tellsCount_101 : decode cX6_tellsCount 101 = .ok (.ireturn, 1) := by decide +kernel
theorem dX6_tellsCount_102 : decode cX6_tellsCount 102 = .ok (.aload_n 0, 1) := by decide +kernel
theorem dX6_tellsCount_103 : decode cX6_tellsCount 103 = .ok (.invokevirtual 163, 3) := by decide +kernel
theorem dX6_tellsCount_106 : decode cX6_tellsCount 106 = .ok (.ireturn, 1) := by decide +kernel
theorem dX6_tellsCount_107 : decode cX6_tellsCount 107 = .ok (.iload_n 2, 1) := by decide +kernel
theorem dX6_tellsCount_108 : decode cX6_tellsCount 108 = .ok (.ireturn, 1) := by decide +kernel
theorem dX6_tellsCount_109 : decode cX6_tellsCount 109 = .ok (.iload_n 2, 1) := by decide +kernel
theorem dX6_tellsCount_110 : decode cX6_tellsCount 110 = .ok (.aload_n 0, 1) := by decide +kernel
theorem dX6_tellsCount_111 : decode cX6_tellsCount 111 = .ok (.getfield 7, 3) := by decide +kernel
theorem dX6_tellsCount_114 : decode cX6_tellsCount 114 = .ok (.bipush 6, 2) := by decide +kernel
theorem dX6_tellsCount_116 : decode cX6_tellsCount 116 = .ok (.iaload, 1) := by decide +kernel
theorem dX6_tellsCount_117 : decode cX6_tellsCount 117 = .ok (.if_icmp .le 7, 3) := by decide +kernel
theorem dX6_tellsCount_120 : decode cX6_tellsCount 120 = .ok (.iconst (-1), 1) := by decide +kernel
theorem dX6_tellsCount_121 : decode cX6_tellsCount 121 = .ok (.goto 14, 3) := by decide +kernel
theorem dX6_tellsCount_124 : decode cX6_tellsCount 124 = .ok (.aload_n 0, 1) := by decide +kernel
theorem dX6_tellsCount_125 : decode cX6_tellsCount 125 = .ok (.getfield 7, 3) := by decide +kernel
theorem dX6_tellsCount_128 : decode cX6_tellsCount 128 = .ok (.bipush 6, 2) := by decide +kernel
theorem dX6_tellsCount_130 : decode cX6_tellsCount 130 = .ok (.iaload, 1) := by decide +kernel
theorem dX6_tellsCount_131 : decode cX6_tellsCount 131 = .ok (.iload_n 2, 1) := by decide +kernel
theorem dX6_tellsCount_132 : decode cX6_tellsCount 132 = .ok (.isub, 1) := by decide +kernel
theorem dX6_tellsCount_133 : decode cX6_tellsCount 133 = .ok (.iconst 2, 1) := by decide +kernel
theorem dX6_tellsCount_134 : decode cX6_tellsCount 134 = .ok (.idiv, 1) := by decide +kernel
theorem dX6_tellsCount_135 : decode cX6_tellsCount 135 = .ok (.ireturn, 1) := by decide +kernel
theorem dX6_tellsCount_136 : decode cX6_tellsCount 136 = .ok (.aload_n 0, 1) := by decide +kernel
theorem dX6_tellsCount_137 : decode cX6_tellsCount 137 = .ok (.getfield 7, 3) := by decide +kernel
theorem dX6_tellsCount_140 : decode cX6_tellsCount 140 = .ok (.bipush 6, 2) := by decide +kernel
theorem dX6_tellsCount_142 : decode cX6_tellsCount 142 = .ok (.iaload, 1) := by decide +kernel
theorem dX6_tellsCount_143 : decode cX6_tellsCount 143 = .ok (.ireturn, 1) := by decide +kernel
theorem dX6_tellsCount_144 : decode cX6_tellsCount 144 = .ok (.aload_n 0, 1) := by decide +kernel
theorem dX6_tellsCount_145 : decode cX6_tellsCount 145 = .ok (.iload_n 1, 1) := by decide +kernel
theorem dX6_tellsCount_146 : decode cX6_tellsCount 146 = .ok (.bipush 8, 2) := by decide +kernel
theorem dX6_tellsCount_148 : decode cX6_tellsCount 148 = .ok (.if_icmp .ne 7, 3) := by decide +kernel
theorem dX6_tellsCount_151 : decode cX6_tellsCount 151 = .ok (.iconst 1, 1) := by decide +kernel
theorem dX6_tellsCount_152 : decode cX6_tellsCount 152 = .ok (.goto 4, 3) := by decide +kernel
theorem dX6_tellsCount_155 : decode cX6_tellsCount 155 = .ok (.iconst 0, 1) := by decide +kernel
theorem dX6_tellsCount_156 : decode cX6_tellsCount 156 = .ok (.invokevirtual 166, 3) := by decide +kernel
theorem dX6_tellsCount_159 : decode cX6_tellsCount 159 = .ok (.ireturn, 1) := by decide +kernel
theorem dX6_tellsCount_160 : decode cX6_tellsCount 160 = .ok (.aload_n 0, 1) := by decide +kernel
theorem dX6_tellsCount_161 : decode cX6_tellsCount 161 = .ok (.getfield 52, 3) := by decide +kernel
theorem dX6_tellsCount_164 : decode cX6_tellsCount 164 = .ok (.ireturn, 1) := by decide +kernel
theorem dX6_tellsCount_165 : decode cX6_tellsCount 165 = .ok (.aload_n 0, 1) := by decide +kernel
theorem dX6_tellsCount_166 : decode cX6_tellsCount 166 = .ok (.getfield 7, 3) := by decide +kernel
theorem dX6_tellsCount_169 : decode cX6_tellsCount 169 = .ok (.iload_n 1, 1) := by decide +kernel
theorem dX6_tellsCount_170 : decode cX6_tellsCount 170 = .ok (.bipush 9, 2) := by decide +kernel
theorem dX6_tellsCount_172 : decode cX6_tellsCount 172 = .ok (.isub, 1) := by decide +kernel
theorem dX6_tellsCount_173 : decode cX6_tellsCount 173 = .ok (.iaload, 1) := by decide +kernel
theorem dX6_tellsCount_174 : decode cX6_tellsCount 174 = .ok (.ireturn, 1) := by decide +kernel
set_option maxRecDepth 20000 in
theorem ggX6_count_X6_in : GoodIn wsX6_count wsX6_in := goodIn_r _ [5] (by decide +kernel) (by decide +kernel)
set_option maxRecDepth 20000 in
theorem gX6_count_X6_in : GoodIn wsX6_count (va_wsS RX6 44 yX6_in wsX6_in) := goodIn_app (goodIn_of _ (by decide +kernel)) ggX6_count_X6_in
set_option maxRecDepth 20000 in
theorem ggX6_count_X6_tellsCount : GoodIn wsX6_count wsX6_tellsCount := goodIn_r _ [9, 10, 11, 12, 13, 14, 4, 15, 16, 17, 18, 19, 20, 21, 22, 23, 24, 25, 26, 27, 28, 29, 30, 31, 2, 3, 5, 32, 33, 34, 35, 36, 37, 38, 39, 40, 41, 42, 43, 44, 45, 46, 47, 48, 49, 50, 51, 52, 53, 54, 55, 56, 57, 58, 59, 60, 61, 62, 63, 64, 65, 66, 67, 68, 69, 70, 71, 72, 73, 74, 75, 76, 77, 78, 79, 80, 81, 82, 83, 84, 85, 86, 87, 92, 93, 94, 95, 96, 97, 98, 99, 100, 101, 102, 103, 104, 105, 106, 107, 108] (by decide +kernel) (by decide +kernel)
set_option maxRecDepth 20000 in
theorem gX6_count_X6_tellsCount : GoodIn wsX6_count (wsV RX6 170 RX6 yX6_tellsCount wsX6_tellsCount) := goodIn_app (goodIn_of _ (by decide +kernel)) ggX6_count_X6_tellsCount
set_option maxRecDepth 20000 in
theorem ggX6_count_X6_fails : GoodIn wsX6_count wsX6_fails := goodIn_r _ [91, 1, 92, 93, 94, 95, 96, 97, 98, 99, 100, 101, 102, 103, 104, 105, 106, 107, 108] (by decide +kernel) (by decide +kernel)
set_option maxRecDepth 20000 in
theorem gX6_count_X6_fails : GoodIn wsX6_count (wsV RX6 97 RX6 yX6_fails wsX6_fails) := goodIn_app (goodIn_of _ (by decide +kernel)) ggX6_count_X6_fails
theorem dX6_count_0 : decode cX6_count 0 = .ok (.aload_n 0, 1) := by decide +kernel
theorem dX6_count_1 : decode cX6_count 1 = .ok (.iconst 0, 1) := by decide +kernel
theorem dX6_count_2 : decode cX6_count 2 = .ok (.putfield 40, 3) := by decide +kernel
theorem dX6_count_5 : decode cX6_count 5 = .ok (.iload_n 1, 1) := by decide +kernel
theorem dX6_count_6 : decode cX6_count 6 = .ok (.iconst 0, 1) := by decide +kernel
theorem dX6_count_7 : decode cX6_count 7 = .ok (.bipush 15, 2) := by decide +kernel
theorem dX6_count_9 : decode cX6_count 9 = .ok (.invokestatic 44, 3) := by decide +kernel
theorem dX6_count_12 : decode cX6_count 12 = .ok (.ifCond .eq 11, 3) := by decide +kernel
theorem dX6_count_15 : decode cX6_count 15 = .ok (.aload_n 0, 1) := by decide +kernel
theorem dX6_count_16 : decode cX6_count 16 = .ok (.iload_n 1, 1) := by decide +kernel
theorem dX6_count_17 : decode cX6_count 17 = .ok (.invokevirtual 170, 3) := by decide +kernel
theorem dX6_count_20 : decode cX6_count 20 = .ok (.goto 8, 3) := by decide +kernel
theorem dX6_count_23 : decode cX6_count 23 = .ok (.aload_n 0, 1) := by decide +kernel
theorem dX6_count_24 : decode cX6_count 24 = .ok (.iconst 1, 1) := by decide +kernel
theorem dX6_count_25 : decode cX6_count 25 = .ok (.invokevirtual 97, 3) := by decide +kernel
theorem dX6_count_28 : decode cX6_count 28 = .ok (.ireturn, 1) := by decide +kernel
set_option maxRecDepth 20000 in
theorem ggX6_would_X6_width : GoodIn wsX6_would wsX6_width := goodIn_r _ [6, 1, 7, 8, 9, 10, 5, 11, 12, 13, 14, 15, 16, 17, 18, 19, 20, 21, 22, 23, 24, 25, 26, 27, 28, 29, 30, 31, 32, 33, 34, 35, 36, 37, 38, 39, 40, 41, 42, 43, 44, 45, 46, 47, 48, 49, 50, 51, 52, 53, 54, 55, 56, 57, 70, 71, 72, 73, 74, 75, 76, 77, 78, 79, 80, 81, 82, 83, 84, 85, 86] (by decide +kernel) (by decide +kernel)
set_option maxRecDepth 20000 in
theorem gX6_would_X6_width : GoodIn wsX6_would (wsV RX6 107 RX6 yX6_width wsX6_width) := goodIn_app (goodIn_of _ (by decide +kernel)) ggX6_would_X6_width
set_option maxRecDepth 20000 in
theorem ggX6_would_X6_faults : GoodIn wsX6_would wsX6_faults := goodIn_r _ [61, 1, 8, 9, 10, 5, 11, 12, 13, 14, 7, 15, 16, 17, 18, 19, 20, 21, 22, 23, 24, 25, 26, 27, 28, 29, 30, 31, 32, 33, 34, 35, 36, 37, 38, 39, 40, 41, 42, 43, 44, 45, 46, 47, 48, 49, 50, 51, 52, 53, 54, 55, 56, 57, 62, 63, 64, 65, 66, 67, 68, 69, 70, 71, 72, 73, 74, 75, 76, 77, 78, 79, 80, 81, 82, 83, 84, 85, 86] (by decide +kernel) (by decide +kernel)
set_option maxRecDepth 20000 in
theorem gX6_would_X6_faults : GoodIn wsX6_would (wsV RX6 163 RX6 yX6_faults wsX6_faults) := goodIn_app (goodIn_of _ (by decide +kernel)) ggX6_would_X6_faults
theorem dX6_would_0 : decode cX6_would 0 = .ok (.aload_n 0, 1) := by decide +kernel
theorem dX6_would_1 : decode cX6_would 1 = .ok (.getfield 7, 3) := by decide +kernel
theorem dX6_would_4 : decode cX6_would 4 = .ok (.iload_n 1, 1) := by decide +kernel
theorem dX6_would_5 : decode cX6_would 5 = .ok (.iaload, 1) := by decide +kernel
theorem dX6_would_6 : decode cX6_would 6 = .ok (.istore 4, 2) := by decide +kernel
theorem dX6_would_8 : decode cX6_would 8 = .ok (.aload_n 0, 1) := by decide +kernel
theorem dX6_would_9 : decode cX6_would 9 = .ok (.getfield 7, 3) := by decide +kernel
theorem dX6_would_12 : decode cX6_would 12 = .ok (.iload_n 1, 1) := by decide +kernel
theorem dX6_would_13 : decode cX6_would 13 = .ok (.iload_n 2, 1) := by decide +kernel
theorem dX6_would_14 : decode cX6_would 14 = .ok (.iastore, 1) := by decide +kernel
theorem dX6_would_15 : decode cX6_would 15 = .ok (.iload_n 3, 1) := by decide +kernel
theorem dX6_would_16 : decode cX6_would 16 = .ok (.ifCond .eq 10, 3) := by decide +kernel
theorem dX6_would_19 : decode cX6_would 19 = .ok (.aload_n 0, 1) := by decide +kernel
theorem dX6_would_20 : decode cX6_would 20 = .ok (.invokevirtual 107, 3) := by decide +kernel
theorem dX6_would_23 : decode cX6_would 23 = .ok (.goto 7, 3) := by decide +kernel
theorem dX6_would_26 : decode cX6_would 26 = .ok (.aload_n 0, 1) := by decide +kernel
theorem dX6_would_27 : decode cX6_would 27 = .ok (.invokevirtual 163, 3) := by decide +kernel
theorem dX6_would_30 : decode cX6_would 30 = .ok (.istore 5, 2) := by decide +kernel
theorem dX6_would_32 : decode cX6_would 32 = .ok (.aload_n 0, 1) := by decide +kernel
theorem dX6_would_33 : decode cX6_would 33 = .ok (.getfield 7, 3) := by decide +kernel
theorem dX6_would_36 : decode cX6_would 36 = .ok (.iload_n 1, 1) := by decide +kernel
theorem dX6_would_37 : decode cX6_would 37 = .ok (.iload 4, 2) := by decide +kernel
theorem dX6_would_39 : decode cX6_would 39 = .ok (.iastore, 1) := by decide +kernel
theorem dX6_would_40 : decode cX6_would 40 = .ok (.iload 5, 2) := by decide +kernel
theorem dX6_would_42 : decode cX6_would 42 = .ok (.ireturn, 1) := by decide +kernel
set_option maxRecDepth 20000 in
theorem ggX6_ifSet_X6_in : GoodIn wsX6_ifSet wsX6_in := goodIn_r _ [5] (by decide +kernel) (by decide +kernel)
set_option maxRecDepth 20000 in
theorem gX6_ifSet_X6_in : GoodIn wsX6_ifSet (va_wsS RX6 44 yX6_in wsX6_in) := goodIn_app (goodIn_of _ (by decide +kernel)) ggX6_ifSet_X6_in
set_option maxRecDepth 20000 in
theorem ggX6_ifSet_X6_fails : GoodIn wsX6_ifSet wsX6_fails := goodIn_r _ [9, 1, 85, 86, 87, 88, 89, 90, 91, 92, 93, 94, 95, 96, 97, 98, 99, 100, 101] (by decide +kernel) (by decide +kernel)
set_option maxRecDepth 20000 in
theorem gX6_ifSet_X6_fails : GoodIn wsX6_ifSet (wsV RX6 97 RX6 yX6_fails wsX6_fails) := goodIn_app (goodIn_of _ (by decide +kernel)) ggX6_ifSet_X6_fails
set_option maxRecDepth 20000 in
theorem ggX6_ifSet_X6_leastOf : GoodIn wsX6_ifSet wsX6_leastOf := goodIn_r _ [12] (by decide +kernel) (by decide +kernel)
set_option maxRecDepth 20000 in
theorem gX6_ifSet_X6_leastOf : GoodIn wsX6_ifSet (va_wsS RX6 111 yX6_leastOf wsX6_leastOf) := goodIn_app (goodIn_of _ (by decide +kernel)) ggX6_ifSet_X6_leastOf
