theorem dX6_lays_89 : decode cX6_lays 89 = .ok (.iload_n 2, 1) := by decide +kernel
theorem dX6_lays_90 : decode cX6_lays 90 = .ok (.iaload, 1) := by decide +kernel
theorem dX6_lays_91 : decode cX6_lays 91 = .ok (.iload_n 1, 1) := by decide +kernel
theorem dX6_lays_92 : decode cX6_lays 92 = .ok (.isub, 1) := by decide +kernel
theorem dX6_lays_93 : decode cX6_lays 93 = .ok (.goto 4, 3) := by decide +kernel
theorem dX6_lays_96 : decode cX6_lays 96 = .ok (.iconst (-1), 1) := by decide +kernel
theorem dX6_lays_97 : decode cX6_lays 97 = .ok (.iastore, 1) := by decide +kernel
theorem dX6_lays_98 : decode cX6_lays 98 = .ok (.aload_n 0, 1) := by decide +kernel
theorem dX6_lays_99 : decode cX6_lays 99 = .ok (.getfield 31, 3) := by decide +kernel
theorem dX6_lays_102 : decode cX6_lays 102 = .ok (.iload_n 2, 1) := by decide +kernel
theorem dX6_lays_103 : decode cX6_lays 103 = .ok (.iload 4, 2) := by decide +kernel
theorem dX6_lays_105 : decode cX6_lays 105 = .ok (.ifCond .eq 36, 3) := by decide +kernel
theorem dX6_lays_108 : decode cX6_lays 108 = .ok (.aload_n 0, 1) := by decide +kernel
theorem dX6_lays_109 : decode cX6_lays 109 = .ok (.aload_n 0, 1) := by decide +kernel
theorem dX6_lays_110 : decode cX6_lays 110 = .ok (.getfield 7, 3) := by decide +kernel
theorem dX6_lays_113 : decode cX6_lays 113 = .ok (.bipush 8, 2) := by decide +kernel
theorem dX6_lays_115 : decode cX6_lays 115 = .ok (.iload_n 2, 1) := by decide +kernel
theorem dX6_lays_116 : decode cX6_lays 116 = .ok (.iadd, 1) := by decide +kernel
theorem dX6_lays_117 : decode cX6_lays 117 = .ok (.iconst 1, 1) := by decide +kernel
theorem dX6_lays_118 : decode cX6_lays 118 = .ok (.isub, 1) := by decide +kernel
theorem dX6_lays_119 : decode cX6_lays 119 = .ok (.iaload, 1) := by decide +kernel
theorem dX6_lays_120 : decode cX6_lays 120 = .ok (.aload_n 0, 1) := by decide +kernel
theorem dX6_lays_121 : decode cX6_lays 121 = .ok (.getfield 7, 3) := by decide +kernel
theorem dX6_lays_124 : decode cX6_lays 124 = .ok (.bipush 8, 2) := by decide +kernel
theorem dX6_lays_126 : decode cX6_lays 126 = .ok (.iload_n 2, 1) := by decide +kernel
theorem dX6_lays_127 : decode cX6_lays 127 = .ok (.iadd, 1) := by decide +kernel
theorem dX6_lays_128 : decode cX6_lays 128 = .ok (.iaload, 1) := by decide +kernel
theorem dX6_lays_129 : decode cX6_lays 129 = .ok (.aload_n 0, 1) := by decide +kernel
theorem dX6_lays_130 : decode cX6_lays 130 = .ok (.getfield 28, 3) := by decide +kernel
theorem dX6_lays_133 : decode cX6_lays 133 = .ok (.iload_n 2, 1) := by decide +kernel
theorem dX6_lays_134 : decode cX6_lays 134 = .ok (.iaload, 1) := by decide +kernel
theorem dX6_lays_135 : decode cX6_lays 135 = .ok (.invokevirtual 72, 3) := by decide +kernel
theorem dX6_lays_138 : decode cX6_lays 138 = .ok (.goto 4, 3) := by decide +kernel
theorem dX6_lays_141 : decode cX6_lays 141 = .ok (.iconst (-1), 1) := by decide +kernel
theorem dX6_lays_142 : decode cX6_lays 142 = .ok (.iastore, 1) := by decide +kernel
theorem dX6_lays_143 : decode cX6_lays 143 = .ok (.aload_n 0, 1) := by decide +kernel
theorem dX6_lays_144 : decode cX6_lays 144 = .ok (.getfield 22, 3) := by decide +kernel
theorem dX6_lays_147 : decode cX6_lays 147 = .ok (.iload_n 2, 1) := by decide +kernel
theorem dX6_lays_148 : decode cX6_lays 148 = .ok (.iaload, 1) := by decide +kernel
theorem dX6_lays_149 : decode cX6_lays 149 = .ok (.iload_n 3, 1) := by decide +kernel
theorem dX6_lays_150 : decode cX6_lays 150 = .ok (.ifCond .eq 18, 3) := by decide +kernel
theorem dX6_lays_153 : decode cX6_lays 153 = .ok (.aload_n 0, 1) := by decide +kernel
theorem dX6_lays_154 : decode cX6_lays 154 = .ok (.getfield 7, 3) := by decide +kernel
theorem dX6_lays_157 : decode cX6_lays 157 = .ok (.bipush 8, 2) := by decide +kernel
theorem dX6_lays_159 : decode cX6_lays 159 = .ok (.iload_n 2, 1) := by decide +kernel
theorem dX6_lays_160 : decode cX6_lays 160 = .ok (.iadd, 1) := by decide +kernel
theorem dX6_lays_161 : decode cX6_lays 161 = .ok (.iaload, 1) := by decide +kernel
theorem dX6_lays_162 : decode cX6_lays 162 = .ok (.invokestatic 88, 3) := by decide +kernel
theorem dX6_lays_165 : decode cX6_lays 165 = .ok (.goto 9, 3) := by decide +kernel
theorem dX6_lays_168 : decode cX6_lays 168 = .ok (.aload_n 0, 1) := by decide +kernel
theorem dX6_lays_169 : decode cX6_lays 169 = .ok (.getfield 7, 3) := by decide +kernel
theorem dX6_lays_172 : decode cX6_lays 172 = .ok (.iconst 2, 1) := by decide +kernel
theorem dX6_lays_173 : decode cX6_lays 173 = .ok (.iaload, 1) := by decide +kernel
theorem dX6_lays_174 : decode cX6_lays 174 = .ok (.iadd, 1) := by decide +kernel
theorem dX6_lays_175 : decode cX6_lays 175 = .ok (.istore_n 1, 1) := by decide +kernel
theorem dX6_lays_176 : decode cX6_lays 176 = .ok (.aload_n 0, 1) := by decide +kernel
theorem dX6_lays_177 : decode cX6_lays 177 = .ok (.getfield 25, 3) := by decide +kernel
theorem dX6_lays_180 : decode cX6_lays 180 = .ok (.iload_n 2, 1) := by decide +kernel
theorem dX6_lays_181 : decode cX6_lays 181 = .ok (.iload_n 1, 1) := by decide +kernel
theorem dX6_lays_182 : decode cX6_lays 182 = .ok (.iastore, 1) := by decide +kernel
theorem dX6_lays_183 : decode cX6_lays 183 = .ok (.iinc 2 1, 3) := by decide +kernel
theorem dX6_lays_186 : decode cX6_lays 186 = .ok (.goto (-182), 3) := by decide +kernel
theorem dX6_lays_189 : decode cX6_lays 189 = .ok (.return_, 1) := by decide +kernel
set_option maxRecDepth 20000 in
theorem ggX6_width_X6_lays : GoodIn wsX6_width wsX6_lays := goodIn_r _ [7, 1, 8, 9, 10, 2, 11, 12, 13, 6, 14, 15, 16, 17, 18, 19, 20, 21, 22, 23, 24, 25, 26, 27, 28, 29, 30, 31, 32, 33, 34, 35, 36, 37, 38, 39, 40, 41, 42, 43, 44, 45, 46, 47, 48, 49, 50, 51, 52, 53, 54, 55, 56, 57, 58, 59, 60, 61, 62, 63, 64, 65, 66, 67, 68, 69, 70] (by decide +kernel) (by decide +kernel)
set_option maxRecDepth 20000 in
theorem gX6_width_X6_lays : GoodIn wsX6_width (wsV RX6 91 RX6 yX6_lays wsX6_lays) := goodIn_app (goodIn_of _ (by decide +kernel)) ggX6_width_X6_lays
theorem dX6_width_0 : decode cX6_width 0 = .ok (.aload_n 0, 1) := by decide +kernel
theorem dX6_width_1 : decode cX6_width 1 = .ok (.invokevirtual 91, 3) := by decide +kernel
theorem dX6_width_4 : decode cX6_width 4 = .ok (.aload_n 0, 1) := by decide +kernel
theorem dX6_width_5 : decode cX6_width 5 = .ok (.getfield 7, 3) := by decide +kernel
theorem dX6_width_8 : decode cX6_width 8 = .ok (.bipush 7, 2) := by decide +kernel
theorem dX6_width_10 : decode cX6_width 10 = .ok (.iaload, 1) := by decide +kernel
theorem dX6_width_11 : decode cX6_width 11 = .ok (.ifCond .ne 7, 3) := by decide +kernel
theorem dX6_width_14 : decode cX6_width 14 = .ok (.iconst 0, 1) := by decide +kernel
theorem dX6_width_15 : decode cX6_width 15 = .ok (.goto 17, 3) := by decide +kernel
theorem dX6_width_18 : decode cX6_width 18 = .ok (.aload_n 0, 1) := by decide +kernel
theorem dX6_width_19 : decode cX6_width 19 = .ok (.getfield 25, 3) := by decide +kernel
theorem dX6_width_22 : decode cX6_width 22 = .ok (.aload_n 0, 1) := by decide +kernel
theorem dX6_width_23 : decode cX6_width 23 = .ok (.getfield 7, 3) := by decide +kernel
theorem dX6_width_26 : decode cX6_width 26 = .ok (.bipush 7, 2) := by decide +kernel
theorem dX6_width_28 : decode cX6_width 28 = .ok (.iaload, 1) := by decide +kernel
theorem dX6_width_29 : decode cX6_width 29 = .ok (.iconst 1, 1) := by decide +kernel
theorem dX6_width_30 : decode cX6_width 30 = .ok (.isub, 1) := by decide +kernel
theorem dX6_width_31 : decode cX6_width 31 = .ok (.iaload, 1) := by decide +kernel
theorem dX6_width_32 : decode cX6_width 32 = .ok (.ireturn, 1) := by decide +kernel
set_option maxRecDepth 20000 in
theorem ggX6_faults_X6_lays : GoodIn wsX6_faults wsX6_lays := goodIn_r _ [6, 1, 7, 8, 9, 10, 11, 12, 13, 5, 14, 15, 16, 17, 18, 19, 20, 21, 22, 23, 24, 25, 26, 27, 28, 29, 30, 31, 32, 33, 34, 35, 36, 37, 38, 39, 40, 41, 42, 43, 44, 45, 46, 47, 48, 49, 50, 51, 52, 53, 62, 63, 64, 65, 66, 67, 68, 69, 70, 71, 72, 73, 74, 75, 76, 77, 78] (by decide +kernel) (by decide +kernel)
set_option maxRecDepth 20000 in
theorem gX6_faults_X6_lays : GoodIn wsX6_faults (wsV RX6 91 RX6 yX6_lays wsX6_lays) := goodIn_app (goodIn_of _ (by decide +kernel)) ggX6_faults_X6_lays
set_option maxRecDepth 20000 in
theorem ggX6_faults_X6_isFault : GoodIn wsX6_faults wsX6_isFault := goodIn_r _ [57, 9, 1, 58, 59, 60, 5, 61, 41, 42, 43, 62, 63, 64, 65, 66, 67, 68, 69, 70, 71, 72, 73, 74, 75, 76, 77, 78] (by decide +kernel) (by decide +kernel)
set_option maxRecDepth 20000 in
theorem gX6_faults_X6_isFault : GoodIn wsX6_faults (wsV RX6 94 RX6 yX6_isFault wsX6_isFault) := goodIn_app (goodIn_of _ (by decide +kernel)) ggX6_faults_X6_isFault
theorem dX6_faults_0 : decode cX6_faults 0 = .ok (.aload_n 0, 1) := by decide +kernel
theorem dX6_faults_1 : decode cX6_faults 1 = .ok (.invokevirtual 91, 3) := by decide +kernel
theorem dX6_faults_4 : decode cX6_faults 4 = .ok (.iconst 0, 1) := by decide +kernel
theorem dX6_faults_5 : decode cX6_faults 5 = .ok (.istore_n 1, 1) := by decide +kernel
theorem dX6_faults_6 : decode cX6_faults 6 = .ok (.iconst 0, 1) := by decide +kernel
theorem dX6_faults_7 : decode cX6_faults 7 = .ok (.istore_n 2, 1) := by decide +kernel
theorem dX6_faults_8 : decode cX6_faults 8 = .ok (.iload_n 2, 1) := by decide +kernel
theorem dX6_faults_9 : decode cX6_faults 9 = .ok (.aload_n 0, 1) := by decide +kernel
theorem dX6_faults_10 : decode cX6_faults 10 = .ok (.getfield 7, 3) := by decide +kernel
theorem dX6_faults_13 : decode cX6_faults 13 = .ok (.bipush 7, 2) := by decide +kernel
theorem dX6_faults_15 : decode cX6_faults 15 = .ok (.iaload, 1) := by decide +kernel
theorem dX6_faults_16 : decode cX6_faults 16 = .ok (.if_icmp .ge 25, 3) := by decide +kernel
theorem dX6_faults_19 : decode cX6_faults 19 = .ok (.iload_n 1, 1) := by decide +kernel
theorem dX6_faults_20 : decode cX6_faults 20 = .ok (.aload_n 0, 1) := by decide +kernel
theorem dX6_faults_21 : decode cX6_faults 21 = .ok (.iload_n 2, 1) := by decide +kernel
theorem dX6_faults_22 : decode cX6_faults 22 = .ok (.invokevirtual 94, 3) := by decide +kernel
theorem dX6_faults_25 : decode cX6_faults 25 = .ok (.ifCond .eq 7, 3) := by decide +kernel
theorem dX6_faults_28 : decode cX6_faults 28 = .ok (.iconst 1, 1) := by decide +kernel
theorem dX6_faults_29 : decode cX6_faults 29 = .ok (.goto 4, 3) := by decide +kernel
theorem dX6_faults_32 : decode cX6_faults 32 = .ok (.iconst 0, 1) := by decide +kernel
theorem dX6_faults_33 : decode cX6_faults 33 = .ok (.iadd, 1) := by decide +kernel
theorem dX6_faults_34 : decode cX6_faults 34 = .ok (.istore_n 1, 1) := by decide +kernel
theorem dX6_faults_35 : decode cX6_faults 35 = .ok (.iinc 2 1, 3) := by decide +kernel
theorem dX6_faults_38 : decode cX6_faults 38 = .ok (.goto (-30), 3) := by decide +kernel
theorem dX6_faults_41 : decode cX6_faults 41 = .ok (.iload_n 1, 1) := by decide +kernel
theorem dX6_faults_42 : decode cX6_faults 42 = .ok (.ireturn, 1) := by decide +kernel
set_option maxRecDepth 20000 in
theorem ggX6_put_X6_in : GoodIn wsX6_put wsX6_in := goodIn_r _ [6] (by decide +kernel) (by decide +kernel)
set_option maxRecDepth 20000 in
theorem gX6_put_X6_in : GoodIn wsX6_put (va_wsS RX6 44 yX6_in wsX6_in) := goodIn_app (goodIn_of _ (by decide +kernel)) ggX6_put_X6_in
set_option maxRecDepth 20000 in
theorem ggX6_put_X6_fails : GoodIn wsX6_put wsX6_fails := goodIn_r _ [10, 1, 17, 18, 19, 20, 21, 22, 23, 24, 25, 26, 27, 28, 29, 30, 31, 32, 33] (by decide +kernel) (by decide +kernel)
set_option maxRecDepth 20000 in
theorem gX6_put_X6_fails : GoodIn wsX6_put (wsV RX6 97 RX6 yX6_fails wsX6_fails) := goodIn_app (goodIn_of _ (by decide +kernel)) ggX6_put_X6_fails
set_option maxRecDepth 20000 in
theorem ggX6_put_X6_saves : GoodIn wsX6_put wsX6_saves := goodIn_r _ [14, 15, 16, 2, 17, 18, 19, 20, 21, 22, 23, 24, 25, 26, 27, 28, 29, 30, 31, 32, 33] (by decide +kernel) (by decide +kernel)
set_option maxRecDepth 20000 in
theorem gX6_put_X6_saves : GoodIn wsX6_put (wsV RX6 100 RX6 yX6_saves wsX6_saves) := goodIn_app (goodIn_of _ (by decide +kernel)) ggX6_put_X6_saves
theorem dX6_put_0 : decode cX6_put 0 = .ok (.aload_n 0, 1) := by decide +kernel
theorem dX6_put_1 : decode cX6_put 1 = .ok (.iconst 0, 1) := by decide +kernel
theorem dX6_put_2 : decode cX6_put 2 = .ok (.putfield 40, 3) := by decide +kernel
theorem dX6_put_5 : decode cX6_put 5 = .ok (.iload_n 1, 1) := by decide +kernel
theorem dX6_put_6 : decode cX6_put 6 = .ok (.iconst 0, 1) := by decide +kernel
theorem dX6_put_7 : decode cX6_put 7 = .ok (.aload_n 0, 1) := by decide +kernel
theorem dX6_put_8 : decode cX6_put 8 = .ok (.getfield 7, 3) := by decide +kernel
theorem dX6_put_11 : decode cX6_put 11 = .ok (.bipush 7, 2) := by decide +kernel
theorem dX6_put_13 : decode cX6_put 13 = .ok (.iaload, 1) := by decide +kernel
theorem dX6_put_14 : decode cX6_put 14 = .ok (.invokestatic 44, 3) := by decide +kernel
theorem dX6_put_17 : decode cX6_put 17 = .ok (.ifCond .ne 9, 3) := by decide +kernel
theorem dX6_put_20 : decode cX6_put 20 = .ok (.aload_n 0, 1) := by decide +kernel
theorem dX6_put_21 : decode cX6_put 21 = .ok (.iconst 1, 1) := by decide +kernel
theorem dX6_put_22 : decode cX6_put 22 = .ok (.invokevirtual 97, 3) := by decide +kernel
theorem dX6_put_25 : decode cX6_put 25 = .ok (.ireturn, 1) := by decide +kernel
theorem dX6_put_26 : decode cX6_put 26 = .ok (.iload_n 2, 1) := by decide +kernel
theorem dX6_put_27 : decode cX6_put 27 = .ok (.iconst (-1), 1) := by decide +kernel
theorem dX6_put_28 : decode cX6_put 28 = .ok (.bipush 25, 2) := by decide +kernel
theorem dX6_put_30 : decode cX6_put 30 = .ok (.invokestatic 44, 3) := by decide +kernel
theorem dX6_put_33 : decode cX6_put 33 = .ok (.ifCond .ne 9, 3) := by decide +kernel
theorem dX6_put_36 : decode cX6_put 36 = .ok (.aload_n 0, 1) := by decide +kernel
theorem dX6_put_37 : decode cX6_put 37 = .ok (.iconst 2, 1) := by decide +kernel
theorem dX6_put_38 : decode cX6_put 38 = .ok (.invokevirtual 97, 3) := by decide +kernel
theorem dX6_put_41 : decode cX6_put 41 = .ok (.ireturn, 1) := by decide +kernel
theorem dX6_put_42 : decode cX6_put 42 = .ok (.aload_n 0, 1) := by decide +kernel
theorem dX6_put_43 : decode cX6_put 43 = .ok (.getfield 7, 3) := by decide +kernel
theorem dX6_put_46 : decode cX6_put 46 = .ok (.bipush 7, 2) := by decide +kernel
theorem dX6_put_48 : decode cX6_put 48 = .ok (.iaload, 1) := by decide +kernel
theorem dX6_put_49 : decode cX6_put 49 = .ok (.bipush 20, 2) := by decide +kernel
theorem dX6_put_51 : decode cX6_put 51 = .ok (.if_icmp .ne 9, 3) := by decide +kernel
theorem dX6_put_54 : decode cX6_put 54 = .ok (.aload_n 0, 1) := by decide +kernel
theorem dX6_put_55 : decode cX6_put 55 = .ok (.iconst 3, 1) := by decide +kernel
theorem dX6_put_56 : decode cX6_put 56 = .ok (.invokevirtual 97, 3) := by decide +kernel
theorem dX6_put_59 : decode cX6_put 59 = .ok (.ireturn, 1) := by decide +kernel
theorem dX6_put_60 : decode cX6_put 60 = .ok (.aload_n 0, 1) := by decide +kernel
theorem dX6_put_61 : decode cX6_put 61 = .ok (.invokevirtual 100, 3) := by decide +kernel
theorem dX6_put_64 : decode cX6_put 64 = .ok (.aload_n 0, 1) := by decide +kernel
theorem dX6_put_65 : decode cX6_put 65 = .ok (.getfield 7, 3) := by decide +kernel
theorem dX6_put_68 : decode cX6_put 68 = .ok (.bipush 7, 2) := by decide +kernel
theorem dX6_put_70 : decode cX6_put 70 = .ok (.iaload, 1) := by decide +kernel
theorem dX6_put_71 : decode cX6_put 71 = .ok (.istore_n 3, 1) := by decide +kernel
theorem dX6_put_72 : decode cX6_put 72 = .ok (.iload_n 3, 1) := by decide +kernel
theorem dX6_put_73 : decode cX6_put 73 = .ok (.iload_n 1, 1) := by decide +kernel
theorem dX6_put_74 : decode cX6_put 74 = .ok (.if_icmp .le 49, 3) := by decide +kernel
theorem dX6_put_77 : decode cX6_put 77 = .ok (.aload_n 0, 1) := by decide +kernel
theorem dX6_put_78 : decode cX6_put 78 = .ok (.getfield 7, 3) := by decide +kernel
theorem dX6_put_81 : decode cX6_put 81 = .ok (.bipush 8, 2) := by decide +kernel
theorem dX6_put_83 : decode cX6_put 83 = .ok (.iload_n 3, 1) := by decide +kernel
theorem dX6_put_84 : decode cX6_put 84 = .ok (.iadd, 1) := by decide +kernel
theorem dX6_put_85 : decode cX6_put 85 = .ok (.aload_n 0, 1) := by decide +kernel
theorem dX6_put_86 : decode cX6_put 86 = .ok (.getfield 7, 3) := by decide +kernel
theorem dX6_put_89 : decode cX6_put 89 = .ok (.bipush 8, 2) := by decide +kernel
theorem dX6_put_91 : decode cX6_put 91 = .ok (.iload_n 3, 1) := by decide +kernel
theorem dX6_put_92 : decode cX6_put 92 = .ok (.iadd, 1) := by decide +kernel
theorem dX6_put_93 : decode cX6_put 93 = .ok (.iconst 1, 1) := by decide +kernel
theorem dX6_put_94 : decode cX6_put 94 = .ok (.isub, 1) := by decide +kernel
theorem dX6_put_95 : decode cX6_put 95 = .ok (.iaload, 1) := by decide +kernel
theorem dX6_put_96 : decode cX6_put 96 = .ok (.iastore, 1) := by decide +kernel
theorem dX6_put_97 : decode cX6_put 97 = .ok (.aload_n 0, 1) := by decide +kernel
theorem dX6_put_98 : decode cX6_put 98 = .ok (.getfield 7, 3) := by decide +kernel
theorem dX6_put_101 : decode cX6_put 101 = .ok (.bipush 28, 2) := by decide +kernel
theorem dX6_put_103 : decode cX6_put 103 = .ok (.iload_n 3, 1) := by decide +kernel
theorem dX6_put_104 : decode cX6_put 104 = .ok (.iadd, 1) := by decide +kernel
theorem dX6_put_105 : decode cX6_put 105 = .ok (.aload_n 0, 1) := by decide +kernel
theorem dX6_put_106 : decode cX6_put 106 = .ok (.getfield 7, 3) := by decide +kernel
theorem dX6_put_109 : decode cX6_put 109 = .ok (.bipush 28, 2) := by decide +kernel
theorem dX6_put_111 : decode cX6_put 111 = .ok (.iload_n 3, 1) := by decide +kernel
theorem dX6_put_112 : decode cX6_put 112 = .ok (.iadd, 1) := by decide +kernel
theorem dX6_put_113 : decode cX6_put 113 = .ok (.iconst 1, 1) := by decide +kernel
theorem dX6_put_114 : decode cX6_put 114 = .ok (.isub, 1) := by decide +kernel
theorem dX6_put_115 : decode cX6_put 115 = .ok (.iaload, 1) := by decide +kernel
theorem dX6_put_116 : decode cX6_put 116 = .ok (.iastore, 1) := by decide +kernel
theorem dX6_put_117 : decode cX6_put 117 = .ok (.iinc 3 (-1), 3) := by decide +kernel
theorem dX6_put_120 : decode cX6_put 120 = .ok (.goto (-48), 3) := by decide +kernel
theorem dX6_put_123 : decode cX6_put 123 = .ok (.aload_n 0, 1) := by decide +kernel
theorem dX6_put_124 : decode cX6_put 124 = .ok (.getfield 7, 3) := by decide +kernel
theorem dX6_put_127 : decode cX6_put 127 = .ok (.bipush 8, 2) := by decide +kernel
theorem dX6_put_129 : decode cX6_put 129 = .ok (.iload_n 1, 1) := by decide +kernel
theorem dX6_put_130 : decode cX6_put 130 = .ok (.iadd, 1) := by decide +kernel
theorem dX6_put_131 : decode cX6_put 131 = .ok (.iload_n 2, 1) := by decide +kernel
theorem dX6_put_132 : decode cX6_put 132 = .ok (.iastore, 1) := by decide +kernel
theorem dX6_put_133 : decode cX6_put 133 = .ok (.aload_n 0, 1) := by decide +kernel
theorem dX6_put_134 : decode cX6_put 134 = .ok (.getfield 7, 3) := by decide +kernel
theorem dX6_put_137 : decode cX6_put 137 = .ok (.bipush 28, 2) := by decide +kernel
theorem dX6_put_139 : decode cX6_put 139 = .ok (.iload_n 1, 1) := by decide +kernel
theorem dX6_put_140 : decode cX6_put 140 = .ok (.iadd, 1) := by decide +kernel
theorem dX6_put_141 : decode cX6_put 141 = .ok (.iconst 0, 1) := by decide +kernel
theorem dX6_put_142 : decode cX6_put 142 = .ok (.iastore, 1) := by decide +kernel
theorem dX6_put_143 : decode cX6_put 143 = .ok (.aload_n 0, 1) := by decide +kernel
theorem dX6_put_144 : decode cX6_put 144 = .ok (.getfield 7, 3) := by decide +kernel
theorem dX6_put_147 : decode cX6_put 147 = .ok (.bipush 7, 2) := by decide +kernel
theorem dX6_put_149 : decode cX6_put 149 = .ok (.dup2, 1) := by decide +kernel
theorem dX6_put_150 : decode cX6_put 150 = .ok (.iaload, 1) := by decide +kernel
theorem dX6_put_151 : decode cX6_put 151 = .ok (.iconst 1, 1) := by decide +kernel
theorem dX6_put_152 : decode cX6_put 152 = .ok (.iadd, 1) := by decide +kernel
theorem dX6_put_153 : decode cX6_put 153 = .ok (.iastore, 1) := by decide +kernel
theorem dX6_put_154 : decode cX6_put 154 = .ok (.aload_n 0, 1) := by decide +kernel
theorem dX6_put_155 : decode cX6_put 155 = .ok (.getfield 7, 3) := by decide +kernel
theorem dX6_put_158 : decode cX6_put 158 = .ok (.bipush 7, 2) := by decide +kernel
theorem dX6_put_160 : decode cX6_put 160 = .ok (.iaload, 1) := by decide +kernel
theorem dX6_put_161 : decode cX6_put 161 = .ok (.ireturn, 1) := by decide +kernel
set_option maxRecDepth 20000 in
theorem ggX6_drop_X6_isItem : GoodIn wsX6_drop wsX6_isItem := goodIn_r _ [7, 2, 8, 9, 6, 10, 21, 22, 23, 24, 25, 26, 27, 28, 29, 30, 31, 32, 33, 34, 35, 36, 37] (by decide +kernel) (by decide +kernel)
set_option maxRecDepth 20000 in
theorem gX6_drop_X6_isItem : GoodIn wsX6_drop (wsV RX6 48 RX6 yX6_isItem wsX6_isItem) := goodIn_app (goodIn_of _ (by decide +kernel)) ggX6_drop_X6_isItem
set_option maxRecDepth 20000 in
theorem ggX6_drop_X6_fails : GoodIn wsX6_drop wsX6_fails := goodIn_r _ [14, 1, 21, 22, 23, 24, 25, 26, 27, 28, 29, 30, 31, 32, 33, 34, 35, 36, 37] (by decide +kernel) (by decide +kernel)
set_option maxRecDepth 20000 in
theorem gX6_drop_X6_fails : GoodIn wsX6_drop (wsV RX6 97 RX6 yX6_fails wsX6_fails) := goodIn_app (goodIn_of _ (by decide +kernel)) ggX6_drop_X6_fails
set_option maxRecDepth 20000 in
theorem ggX6_drop_X6_saves : GoodIn wsX6_drop wsX6_saves := goodIn_r _ [18, 19, 20, 2, 21, 22, 23, 24, 25, 26, 27, 28, 29, 30, 31, 32, 33, 34, 35, 36, 37] (by decide +kernel) (by decide +kernel)
set_option maxRecDepth 20000 in
theorem gX6_drop_X6_saves : GoodIn wsX6_drop (wsV RX6 100 RX6 yX6_saves wsX6_saves) := goodIn_app (goodIn_of _ (by decide +kernel)) ggX6_drop_X6_saves
theorem dX6_drop_0 : decode cX6_drop 0 = .ok (.aload_n 0, 1) := by decide +kernel
theorem dX6_drop_1 : decode cX6_drop 1 = .ok (.iconst 0, 1) := by decide +kernel
theorem dX6_drop_2 : decode cX6_drop 2 = .ok (.putfield 40, 3) := by decide +kernel
theorem dX6_drop_5 : decode cX6_drop 5 = .ok (.aload_n 0, 1) := by decide +kernel
theorem dX6_drop_6 : decode cX6_drop 6 = .ok (.iload_n 1, 1) := by decide +kernel
theorem dX6_drop_7 : decode cX6_drop 7 = .ok (.invokevirtual 48, 3) := by decide +kernel
theorem dX6_drop_10 : decode cX6_drop 10 = .ok (.ifCond .ne 9, 3) := by decide +kernel
theorem dX6_drop_13 : decode cX6_drop 13 = .ok (.aload_n 0, 1) := by decide +kernel
theorem dX6_drop_14 : decode cX6_drop 14 = .ok (.iconst 1, 1) := by decide +kernel
theorem dX6_drop_15 : decode cX6_drop 15 = .ok (.invokevirtual 97, 3) := by decide +kernel
theorem dX6_drop_18 : decode cX6_drop 18 = .ok (.ireturn, 1) := by decide +kernel
theorem dX6_drop_19 : decode cX6_drop 19 = .ok (.aload_n 0, 1) := by decide +kernel
theorem dX6_drop_20 : decode cX6_drop 20 = .ok (.invokevirtual 100, 3) := by decide +kernel
theorem dX6_drop_23 : decode cX6_drop 23 = .ok (.aload_n 0, 1) := by decide +kernel
theorem dX6_drop_24 : decode cX6_drop 24 = .ok (.getfield 7, 3) := by decide +kernel
theorem dX6_drop_27 : decode cX6_drop 27 = .ok (.bipush 7, 2) := by decide +kernel
theorem dX6_drop_29 : decode cX6_drop 29 = .ok (.dup2, 1) := by decide +kernel
theorem dX6_drop_30 : decode cX6_drop 30 = .ok (.iaload, 1) := by decide +kernel
theorem dX6_drop_31 : decode cX6_drop 31 = .ok (.iconst 1, 1) := by decide +kernel
theorem dX6_drop_32 : decode cX6_drop 32 = .ok (.isub, 1) := by decide +kernel
theorem dX6_drop_33 : decode cX6_drop 33 = .ok (.iastore, 1) := by decide +kernel
theorem dX6_drop_34 : decode cX6_drop 34 = .ok (.iload_n 1, 1) := by decide +kernel
theorem dX6_drop_35 : decode cX6_drop 35 = .ok (.istore_n 2, 1) := by decide +kernel
theorem dX6_drop_36 : decode cX6_drop 36 = .ok (.iload_n 2, 1) := by decide +kernel
theorem dX6_drop_37 : decode cX6_drop 37 = .ok (.aload_n 0, 1) := by decide +kernel
theorem dX6_drop_38 : decode cX6_drop 38 = .ok (.getfield 7, 3) := by decide +kernel
theorem dX6_drop_41 : decode cX6_drop 41 = .ok (.bipush 7, 2) := by decide +kernel
theorem dX6_drop_43 : decode cX6_drop 43 = .ok (.iaload, 1) := by decide +kernel
theorem dX6_drop_44 : decode cX6_drop 44 = .ok (.if_icmp .ge 49, 3) := by decide +kernel
theorem dX6_drop_47 : decode cX6_drop 47 = .ok (.aload_n 0, 1) := by decide +kernel
theorem dX6_drop_48 : decode cX6_drop 48 = .ok (.getfield 7, 3) := by decide +kernel
theorem dX6_drop_51 : decode cX6_drop 51 = .ok (.bipush 8, 2) := by decide +kernel
theorem dX6_drop_53 : decode cX6_drop 53 = .ok (.iload_n 2, 1) := by decide +kernel
theorem dX6_drop_54 : decode cX6_drop 54 = .ok (.iadd, 1) := by decide +kernel
theorem dX6_drop_55 : decode cX6_drop 55 = .ok (.aload_n 0, 1) := by decide +kernel
theorem dX6_drop_56 : decode cX6_drop 56 = .ok (.getfield 7, 3) := by decide +kernel
theorem dX6_drop_59 : decode cX6_drop 59 = .ok (.bipush 8, 2) := by decide +kernel
theorem dX6_drop_61 : decode cX6_drop 61 = .ok (.iload_n 2, 1) := by decide +kernel
theorem dX6_drop_62 : decode cX6_drop 62 = .ok (.iadd, 1) := by decide +kernel
theorem dX6_drop_63 : decode cX6_drop 63 = .ok (.iconst 1, 1) := by decide +kernel
theorem dX6_drop_64 : decode cX6_drop 64 = .ok (.iadd, 1) := by decide +kernel
theorem dX6_drop_65 : decode cX6_drop 65 = .ok (.iaload, 1) := by decide +kernel
theorem dX6_drop_66 : decode cX6_drop 66 = .ok (.iastore, 1) := by decide +kernel
theorem dX6_drop_67 : decode cX6_drop 67 = .ok (.aload_n 0, 1) := by decide +kernel
theorem dX6_drop_68 : decode cX6_drop 68 = .ok (.getfield 7, 3) := by decide +kernel
theorem dX6_drop_71 : decode cX6_drop 71 = .ok (.bipush 28, 2) := by decide +kernel
theorem dX6_drop_73 : decode cX6_drop 73 = .ok (.iload_n 2, 1) := by decide +kernel
theorem dX6_drop_74 : decode cX6_drop 74 = .ok (.iadd, 1) := by decide +kernel
theorem dX6_drop_75 : decode cX6_drop 75 = .ok (.aload_n 0, 1) := by decide +kernel
theorem dX6_drop_76 : decode cX6_drop 76 = .ok (.getfield 7, 3) := by decide +kernel
theorem dX6_drop_79 : decode cX6_drop 79 = .ok (.bipush 28, 2) := by decide +kernel
theorem dX6_drop_81 : decode cX6_drop 81 = .ok (.iload_n 2, 1) := by decide +kernel
theorem dX6_drop_82 : decode cX6_drop 82 = .ok (.iadd, 1) := by decide +kernel
theorem dX6_drop_83 : decode cX6_drop 83 = .ok (.iconst 1, 1) := by decide +kernel
theorem dX6_drop_84 : decode cX6_drop 84 = .ok (.iadd, 1) := by decide +kernel
theorem dX6_drop_85 : decode cX6_drop 85 = .ok (.iaload, 1) := by decide +kernel
theorem dX6_drop_86 : decode cX6_drop 86 = .ok (.iastore, 1) := by decide +kernel
theorem dX6_drop_87 : decode cX6_drop 87 = .ok (.iinc 2 1, 3) := by decide +kernel
theorem dX6_drop_90 : decode cX6_drop 90 = .ok (.goto (-54), 3) := by decide +kernel
theorem dX6_drop_93 : decode cX6_drop 93 = .ok (.aload_n 0, 1) := by decide +kernel
theorem dX6_drop_94 : decode cX6_drop 94 = .ok (.getfield 7, 3) := by decide +kernel
theorem dX6_drop_97 : decode cX6_drop 97 = .ok (.bipush 8, 2) := by decide +kernel
theorem dX6_drop_99 : decode cX6_drop 99 = .ok (.aload_n 0, 1) := by decide +kernel
theorem dX6_drop_100 : decode cX6_drop 100 = .ok (.getfield 7, 3) := by decide +kernel
theorem dX6_drop_103 : decode cX6_drop 103 = .ok (.bipush 7, 2) := by decide +kernel
theorem dX6_drop_105 : decode cX6_drop 105 = .ok (.iaload, 1) := by decide +kernel
theorem dX6_drop_106 : decode cX6_drop 106 = .ok (.iadd, 1) := by decide +kernel
theorem dX6_drop_107 : decode cX6_drop 107 = .ok (.iconst 0, 1) := by decide +kernel
theorem dX6_drop_108 : decode cX6_drop 108 = .ok (.iastore, 1) := by decide +kernel
theorem dX6_drop_109 : decode cX6_drop 109 = .ok (.aload_n 0, 1) := by decide +kernel
theorem dX6_drop_110 : decode cX6_drop 110 = .ok (.getfield 7, 3) := by decide +kernel
theorem dX6_drop_113 : decode cX6_drop 113 = .ok (.bipush 28, 2) := by decide +kernel
theorem dX6_drop_115 : decode cX6_drop 115 = .ok (.aload_n 0, 1) := by decide +kernel
theorem dX6_drop_116 : decode cX6_drop 116 = .ok (.getfield 7, 3) := by decide +kernel
theorem dX6_drop_119 : decode cX6_drop 119 = .ok (.bipush 7, 2) := by decide +kernel
theorem dX6_drop_121 : decode cX6_drop 121 = .ok (.iaload, 1) := by decide +kernel
theorem dX6_drop_122 : decode cX6_drop 122 = .ok (.iadd, 1) := by decide +kernel
theorem dX6_drop_123 : decode cX6_drop 123 = .ok (.iconst 0, 1) := by decide +kernel
theorem dX6_drop_124 : decode cX6_drop 124 = .ok (.iastore, 1) := by decide +kernel
theorem dX6_drop_125 : decode cX6_drop 125 = .ok (.aload_n 0, 1) := by decide +kernel
theorem dX6_drop_126 : decode cX6_drop 126 = .ok (.getfield 7, 3) := by decide +kernel
theorem dX6_drop_129 : decode cX6_drop 129 = .ok (.bipush 7, 2) := by decide +kernel
theorem dX6_drop_131 : decode cX6_drop 131 = .ok (.iaload, 1) := by decide +kernel
theorem dX6_drop_132 : decode cX6_drop 132 = .ok (.ireturn, 1) := by decide +kernel
theorem dX6_exchanges_0 : decode cX6_exchanges 0 = .ok (.aload_n 0, 1) := by decide +kernel
theorem dX6_exchanges_1 : decode cX6_exchanges 1 = .ok (.getfield 7, 3) := by decide +kernel
theorem dX6_exchanges_4 : decode cX6_exchanges 4 = .ok (.iload_n 1, 1) := by decide +kernel
theorem dX6_exchanges_5 : decode cX6_exchanges 5 = .ok (.iaload, 1) := by decide +kernel
theorem dX6_exchanges_6 : decode cX6_exchanges 6 = .ok (.istore_n 3, 1) := by decide +kernel
theorem dX6_exchanges_7 : decode cX6_exchanges 7 = .ok (.aload_n 0, 1) := by decide +kernel
theorem dX6_exchanges_8 : decode cX6_exchanges 8 = .ok (.getfield 7, 3) := by decide +kernel
theorem dX6_exchanges_11 : decode cX6_exchanges 11 = .ok (.iload_n 1, 1) := by decide +kernel
theorem dX6_exchanges_12 : decode cX6_exchanges 12 = .ok (.aload_n 0, 1) := by decide +kernel
theorem dX6_exchanges_13 : decode cX6_exchanges 13 = .ok (.getfield 7, 3) := by decide +kernel
theorem dX6_exchanges_16 : decode cX6_exchanges 16 = .ok (.iload_n 2, 1) := by decide +kernel
theorem dX6_exchanges_17 : decode cX6_exchanges 17 = .ok (.iaload, 1) := by decide +kernel
theorem dX6_exchanges_18 : decode cX6_exchanges 18 = .ok (.iastore, 1) := by decide +kernel
theorem dX6_exchanges_19 : decode cX6_exchanges 19 = .ok (.aload_n 0, 1) := by decide +kernel
theorem dX6_exchanges_20 : decode cX6_exchanges 20 = .ok (.getfield 7, 3) := by decide +kernel
theorem dX6_exchanges_23 : decode cX6_exchanges 23 = .ok (.iload_n 2, 1) := by decide +kernel
theorem dX6_exchanges_24 : decode cX6_exchanges 24 = .ok (.iload_n 3, 1) := by decide +kernel
theorem dX6_exchanges_25 : decode cX6_exchanges 25 = .ok (.iastore, 1) := by decide +kernel
theorem dX6_exchanges_26 : decode cX6_exchanges 26 = .ok (.return_, 1) := by decide +kernel
set_option maxRecDepth 20000 in
theorem ggX6_swap_X6_isItem : GoodIn wsX6_swap wsX6_isItem := goodIn_r _ [6, 7, 8, 9, 5, 10, 73, 74, 75, 76, 77, 78, 79, 80, 81, 82, 83, 84, 85, 86, 87, 88, 89] (by decide +kernel) (by decide +kernel)
set_option maxRecDepth 20000 in
theorem gX6_swap_X6_isItem : GoodIn wsX6_swap (wsV RX6 48 RX6 yX6_isItem wsX6_isItem) := goodIn_app (goodIn_of _ (by decide +kernel)) ggX6_swap_X6_isItem
set_option maxRecDepth 20000 in
theorem ggX6_swap_X6_fails : GoodIn wsX6_swap wsX6_fails := goodIn_r _ [14, 1, 73, 74, 75, 76, 77, 78, 79, 80, 81, 82, 83, 84, 85, 86, 87, 88, 89] (by decide +kernel) (by decide +kernel)
set_option maxRecDepth 20000 in
theorem gX6_swap_X6_fails : GoodIn wsX6_swap (wsV RX6 97 RX6 yX6_fails wsX6_fails) := goodIn_app (goodIn_of _ (by decide +kernel)) ggX6_swap_X6_fails
set_option maxRecDepth 20000 in
theorem ggX6_swap_X6_saves : GoodIn wsX6_swap wsX6_saves := goodIn_r _ [18, 19, 20, 7, 73, 74, 75, 76, 77, 78, 79, 80, 81, 82, 83, 84, 85, 86, 87, 88, 89] (by decide +kernel) (by decide +kernel)
set_option maxRecDepth 20000 in
theorem gX6_swap_X6_saves : GoodIn wsX6_swap (wsV RX6 100 RX6 yX6_saves wsX6_saves) := goodIn_app (goodIn_of _ (by decide +kernel)) ggX6_swap_X6_saves
set_option maxRecDepth 20000 in
theorem ggX6_swap_X6_exchanges : GoodIn wsX6_swap wsX6_exchanges := goodIn_r _ [24, 7, 73, 74, 75, 76, 77, 78, 79, 80, 81, 82, 83, 84, 85, 86, 87, 88, 89] (by decide +kernel) (by decide +kernel)
set_option maxRecDepth 20000 in
theorem gX6_swap_X6_exchanges : GoodIn wsX6_swap (wsV RX6 103 RX6 yX6_exchanges wsX6_exchanges) := goodIn_app (goodIn_of _ (by decide +kernel)) ggX6_swap_X6_exchanges
set_option maxRecDepth 20000 in
theorem ggX6_swap_X6_width : GoodIn wsX6_swap wsX6_width := goodIn_r _ [28, 7, 29, 30, 31, 32, 5, 33, 34, 35, 36, 37, 38, 39, 40, 2, 3, 4, 6, 8, 9, 10, 41, 42, 43, 44, 45, 46, 47, 48, 49, 50, 51, 52, 53, 54, 55, 56, 57, 58, 59, 60, 61, 62, 63, 64, 65, 66, 67, 68, 69, 70, 71, 72, 73, 74, 75, 76, 77, 78, 79, 80, 81, 82, 83, 84, 85, 86, 87, 88, 89] (by decide +kernel) (by decide +kernel)
set_option maxRecDepth 20000 in
theorem gX6_swap_X6_width : GoodIn wsX6_swap (wsV RX6 107 RX6 yX6_width wsX6_width) := goodIn_app (goodIn_of _ (by decide +kernel)) ggX6_swap_X6_width
theorem dX6_swap_0 : decode cX6_swap 0 = .ok (.aload_n 0, 1) := by decide +kernel
theorem dX6_swap_1 : decode cX6_swap 1 = .ok (.iconst 0, 1) := by decide +kernel
theorem dX6_swap_2 : decode cX6_swap 2 = .ok (.putfield 40, 3) := by decide +kernel
theorem dX6_swap_5 : decode cX6_swap 5 = .ok (.aload_n 0, 1) := by decide +kernel
theorem dX6_swap_6 : decode cX6_swap 6 = .ok (.iload_n 1, 1) := by decide +kernel
theorem dX6_swap_7 : decode cX6_swap 7 = .ok (.invokevirtual 48, 3) := by decide +kernel
theorem dX6_swap_10 : decode cX6_swap 10 = .ok (.ifCond .eq 11, 3) := by decide +kernel
theorem dX6_swap_13 : decode cX6_swap 13 = .ok (.aload_n 0, 1) := by decide +kernel
theorem dX6_swap_14 : decode cX6_swap 14 = .ok (.iload_n 2, 1) := by decide +kernel
theorem dX6_swap_15 : decode cX6_swap 15 = .ok (.invokevirtual 48, 3) := by decide +kernel
theorem dX6_swap_18 : decode cX6_swap 18 = .ok (.ifCond .ne 9, 3) := by decide +kernel
theorem dX6_swap_21 : decode cX6_swap 21 = .ok (.aload_n 0, 1) := by decide +kernel
theorem dX6_swap_22 : decode cX6_swap 22 = .ok (.iconst 1, 1) := by decide +kernel
theorem dX6_swap_23 : decode cX6_swap 23 = .ok (.invokevirtual 97, 3) := by decide +kernel
theorem dX6_swap_26 : decode cX6_swap 26 = .ok (.ireturn, 1) := by decide +kernel
theorem dX6_swap_27 : decode cX6_swap 27 = .ok (.aload_n 0, 1) := by decide +kernel
theorem dX6_swap_28 : decode cX6_swap 28 = .ok (.invokevirtual 100, 3) := by decide +kernel
theorem dX6_swap_31 : decode cX6_swap 31 = .ok (.aload_n 0, 1) := by decide +kernel
theorem dX6_swap_32 : decode cX6_swap 32 = .ok (.bipush 8, 2) := by decide +kernel
theorem dX6_swap_34 : decode cX6_swap 34 = .ok (.iload_n 1, 1) := by decide +kernel
theorem dX6_swap_35 : decode cX6_swap 35 = .ok (.iadd, 1) := by decide +kernel
theorem dX6_swap_36 : decode cX6_swap 36 = .ok (.bipush 8, 2) := by decide +kernel
theorem dX6_swap_38 : decode cX6_swap 38 = .ok (.iload_n 2, 1) := by decide +kernel
theorem dX6_swap_39 : decode cX6_swap 39 = .ok (.iadd, 1) := by decide +kernel
theorem dX6_swap_40 : decode cX6_swap 40 = .ok (.invokevirtual 103, 3) := by decide +kernel
theorem dX6_swap_43 : decode cX6_swap 43 = .ok (.aload_n 0, 1) := by decide +kernel
theorem dX6_swap_44 : decode cX6_swap 44 = .ok (.bipush 28, 2) := by decide +kernel
theorem dX6_swap_46 : decode cX6_swap 46 = .ok (.iload_n 1, 1) := by decide +kernel
theorem dX6_swap_47 : decode cX6_swap 47 = .ok (.iadd, 1) := by decide +kernel
theorem dX6_swap_48 : decode cX6_swap 48 = .ok (.bipush 28, 2) := by decide +kernel
theorem dX6_swap_50 : decode cX6_swap 50 = .ok (.iload_n 2, 1) := by decide +kernel
theorem dX6_swap_51 : decode cX6_swap 51 = .ok (.iadd, 1) := by decide +kernel
theorem dX6_swap_52 : decode cX6_swap 52 = .ok (.invokevirtual 103, 3) := by decide +kernel
theorem dX6_swap_55 : decode cX6_swap 55 = .ok (.aload_n 0, 1) := by decide +kernel
theorem dX6_swap_56 : decode cX6_swap 56 = .ok (.invokevirtual 107, 3) := by decide +kernel
theorem dX6_swap_59 : decode cX6_swap 59 = .ok (.ireturn, 1) := by decide +kernel
set_option maxRecDepth 20000 in
theorem ggX6_kern_X6_isItem : GoodIn wsX6_kern wsX6_isItem := goodIn_r _ [7, 2, 8, 9, 6, 10, 25, 26, 27, 28, 29, 30, 31, 32, 33, 34, 35, 36, 37, 38, 39, 40, 41] (by decide +kernel) (by decide +kernel)
set_option maxRecDepth 20000 in
theorem gX6_kern_X6_isItem : GoodIn wsX6_kern (wsV RX6 48 RX6 yX6_isItem wsX6_isItem) := goodIn_app (goodIn_of _ (by decide +kernel)) ggX6_kern_X6_isItem
set_option maxRecDepth 20000 in
theorem ggX6_kern_X6_fails : GoodIn wsX6_kern wsX6_fails := goodIn_r _ [14, 1, 25, 26, 27, 28, 29, 30, 31, 32, 33, 34, 35, 36, 37, 38, 39, 40, 41] (by decide +kernel) (by decide +kernel)
set_option maxRecDepth 20000 in
theorem gX6_kern_X6_fails : GoodIn wsX6_kern (wsV RX6 97 RX6 yX6_fails wsX6_fails) := goodIn_app (goodIn_of _ (by decide +kernel)) ggX6_kern_X6_fails
set_option maxRecDepth 20000 in
theorem ggX6_kern_X6_in : GoodIn wsX6_kern wsX6_in := goodIn_r _ [10] (by decide +kernel) (by decide +kernel)
set_option maxRecDepth 20000 in
theorem gX6_kern_X6_in : GoodIn wsX6_kern (va_wsS RX6 44 yX6_in wsX6_in) := goodIn_app (goodIn_of _ (by decide +kernel)) ggX6_kern_X6_in
set_option maxRecDepth 20000 in
theorem ggX6_kern_X6_isLetter : GoodIn wsX6_kern wsX6_isLetter := goodIn_r _ [18, 2, 3, 4, 5, 6, 7, 8, 9, 10, 25, 26, 27, 28, 29, 30, 31, 32, 33, 34, 35, 36, 37, 38, 39, 40, 41] (by decide +kernel) (by decide +kernel)
set_option maxRecDepth 20000 in
theorem gX6_kern_X6_isLetter : GoodIn wsX6_kern (wsV RX6 76 RX6 yX6_isLetter wsX6_isLetter) := goodIn_app (goodIn_of _ (by decide +kernel)) ggX6_kern_X6_isLetter
set_option maxRecDepth 20000 in
theorem ggX6_kern_X6_saves : GoodIn wsX6_kern wsX6_saves := goodIn_r _ [22, 23, 24, 2, 25, 26, 27, 28, 29, 30, 31, 32, 33, 34, 35, 36, 37, 38, 39, 40, 41] (by decide +kernel) (by decide +kernel)
set_option maxRecDepth 20000 in
theorem gX6_kern_X6_saves : GoodIn wsX6_kern (wsV RX6 100 RX6 yX6_saves wsX6_saves) := goodIn_app (goodIn_of _ (by decide +kernel)) ggX6_kern_X6_saves
theorem dX6_kern_0 : decode cX6_kern 0 = .ok (.aload_n 0, 1) := by decide +kernel
theorem dX6_kern_1 : decode cX6_kern 1 = .ok (.iconst 0, 1) := by decide +kernel
theorem dX6_kern_2 : decode cX6_kern 2 = .ok (.putfield 40, 3) := by decide +kernel
theorem dX6_kern_5 : decode cX6_kern 5 = .ok (.aload_n 0, 1) := by decide +kernel
theorem dX6_kern_6 : decode cX6_kern 6 = .ok (.iload_n 1, 1) := by decide +kernel
theorem dX6_kern_7 : decode cX6_kern 7 = .ok (.invokevirtual 48, 3) := by decide +kernel
theorem dX6_kern_10 : decode cX6_kern 10 = .ok (.ifCond .ne 9, 3) := by decide +kernel
theorem dX6_kern_13 : decode cX6_kern 13 = .ok (.aload_n 0, 1) := by decide +kernel
theorem dX6_kern_14 : decode cX6_kern 14 = .ok (.iconst 1, 1) := by decide +kernel
theorem dX6_kern_15 : decode cX6_kern 15 = .ok (.invokevirtual 97, 3) := by decide +kernel
theorem dX6_kern_18 : decode cX6_kern 18 = .ok (.ireturn, 1) := by decide +kernel
theorem dX6_kern_19 : decode cX6_kern 19 = .ok (.iload_n 2, 1) := by decide +kernel
theorem dX6_kern_20 : decode cX6_kern 20 = .ok (.bipush (-5), 2) := by decide +kernel
theorem dX6_kern_22 : decode cX6_kern 22 = .ok (.iconst 5, 1) := by decide +kernel
theorem dX6_kern_23 : decode cX6_kern 23 = .ok (.invokestatic 44, 3) := by decide +kernel
theorem dX6_kern_26 : decode cX6_kern 26 = .ok (.ifCond .ne 9, 3) := by decide +kernel
theorem dX6_kern_29 : decode cX6_kern 29 = .ok (.aload_n 0, 1) := by decide +kernel
theorem dX6_kern_30 : decode cX6_kern 30 = .ok (.iconst 2, 1) := by decide +kernel
theorem dX6_kern_31 : decode cX6_kern 31 = .ok (.invokevirtual 97, 3) := by decide +kernel
theorem dX6_kern_34 : decode cX6_kern 34 = .ok (.ireturn, 1) := by decide +kernel
theorem dX6_kern_35 : decode cX6_kern 35 = .ok (.aload_n 0, 1) := by decide +kernel
theorem dX6_kern_36 : decode cX6_kern 36 = .ok (.iload_n 1, 1) := by decide +kernel
theorem dX6_kern_37 : decode cX6_kern 37 = .ok (.invokevirtual 76, 3) := by decide +kernel
theorem dX6_kern_40 : decode cX6_kern 40 = .ok (.ifCond .ne 9, 3) := by decide +kernel
theorem dX6_kern_43 : decode cX6_kern 43 = .ok (.aload_n 0, 1) := by decide +kernel
theorem dX6_kern_44 : decode cX6_kern 44 = .ok (.iconst 3, 1) := by decide +kernel
theorem dX6_kern_45 : decode cX6_kern 45 = .ok (.invokevirtual 97, 3) := by decide +kernel
theorem dX6_kern_48 : decode cX6_kern 48 = .ok (.ireturn, 1) := by decide +kernel
theorem dX6_kern_49 : decode cX6_kern 49 = .ok (.aload_n 0, 1) := by decide +kernel
theorem dX6_kern_50 : decode cX6_kern 50 = .ok (.invokevirtual 100, 3) := by decide +kernel
theorem dX6_kern_53 : decode cX6_kern 53 = .ok (.aload_n 0, 1) := by decide +kernel
theorem dX6_kern_54 : decode cX6_kern 54 = .ok (.getfield 7, 3) := by decide +kernel
theorem dX6_kern_57 : decode cX6_kern 57 = .ok (.bipush 28, 2) := by decide +kernel
theorem dX6_kern_59 : decode cX6_kern 59 = .ok (.iload_n 1, 1) := by decide +kernel
theorem dX6_kern_60 : decode cX6_kern 60 = .ok (.iadd, 1) := by decide +kernel
theorem dX6_kern_61 : decode cX6_kern 61 = .ok (.iaload, 1) := by decide +kernel
theorem dX6_kern_62 : decode cX6_kern 62 = .ok (.istore_n 3, 1) := by decide +kernel
theorem dX6_kern_63 : decode cX6_kern 63 = .ok (.aload_n 0, 1) := by decide +kernel
theorem dX6_kern_64 : decode cX6_kern 64 = .ok (.getfield 7, 3) := by decide +kernel
theorem dX6_kern_67 : decode cX6_kern 67 = .ok (.bipush 28, 2) := by decide +kernel
theorem dX6_kern_69 : decode cX6_kern 69 = .ok (.iload_n 1, 1) := by decide +kernel
theorem dX6_kern_70 : decode cX6_kern 70 = .ok (.iadd, 1) := by decide +kernel
theorem dX6_kern_71 : decode cX6_kern 71 = .ok (.iload_n 2, 1) := by decide +kernel
theorem dX6_kern_72 : decode cX6_kern 72 = .ok (.iastore, 1) := by decide +kernel
theorem dX6_kern_73 : decode cX6_kern 73 = .ok (.iload_n 3, 1) := by decide +kernel
theorem dX6_kern_74 : decode cX6_kern 74 = .ok (.bipush 10, 2) := by decide +kernel
theorem dX6_kern_76 : decode cX6_kern 76 = .ok (.iadd, 1) := by decide +kernel
theorem dX6_kern_77 : decode cX6_kern 77 = .ok (.ireturn, 1) := by decide +kernel
set_option maxRecDepth 20000 in
theorem ggX6_board_X6_in : GoodIn wsX6_board wsX6_in := goodIn_r _ [6] (by decide +kernel) (by decide +kernel)
set_option maxRecDepth 20000 in
theorem gX6_board_X6_in : GoodIn wsX6_board (va_wsS RX6 44 yX6_in wsX6_in) := goodIn_app (goodIn_of _ (by decide +kernel)) ggX6_board_X6_in
set_option maxRecDepth 20000 in
theorem ggX6_board_X6_fails : GoodIn wsX6_board wsX6_fails := goodIn_r _ [10, 1, 17, 18, 19, 20, 21, 22, 23, 24, 25, 26, 27, 28, 29, 30, 31, 32, 33] (by decide +kernel) (by decide +kernel)
set_option maxRecDepth 20000 in
theorem gX6_board_X6_fails : GoodIn wsX6_board (wsV RX6 97 RX6 yX6_fails wsX6_fails) := goodIn_app (goodIn_of _ (by decide +kernel)) ggX6_board_X6_fails
set_option maxRecDepth 20000 in
theorem ggX6_board_X6_saves : GoodIn wsX6_board wsX6_saves := goodIn_r _ [14, 15, 16, 2, 17, 18, 19, 20, 21, 22, 23, 24, 25, 26, 27, 28, 29, 30, 31, 32, 33] (by decide +kernel) (by decide +kernel)
set_option maxRecDepth 20000 in
theorem gX6_board_X6_saves : GoodIn wsX6_board (wsV RX6 100 RX6 yX6_saves wsX6_saves) := goodIn_app (goodIn_of _ (by decide +kernel)) ggX6_board_X6_saves
theorem dX6_board_0 : decode cX6_board 0 = .ok (.aload_n 0, 1) := by decide +kernel
theorem dX6_board_1 : decode cX6_board 1 = .ok (.iconst 0, 1) := by decide +kernel
theorem dX6_board_2 : decode cX6_board 2 = .ok (.putfield 40, 3) := by decide +kernel
theorem dX6_board_5 : decode cX6_board 5 = .ok (.iload_n 1, 1) := by decide +kernel
theorem dX6_board_6 : decode cX6_board 6 = .ok (.bipush 50, 2) := by decide +kernel
theorem dX6_board_8 : decode cX6_board 8 = .ok (.sipush 600, 3) := by decide +kernel
theorem dX6_board_11 : decode cX6_board 11 = .ok (.invokestatic 44, 3) := by decide +kernel
theorem dX6_board_14 : decode cX6_board 14 = .ok (.ifCond .ne 9, 3) := by decide +kernel
theorem dX6_board_17 : decode cX6_board 17 = .ok (.aload_n 0, 1) := by decide +kernel
theorem dX6_board_18 : decode cX6_board 18 = .ok (.iconst 1, 1) := by decide +kernel
theorem dX6_board_19 : decode cX6_board 19 = .ok (.invokevirtual 97, 3) := by decide +kernel
theorem dX6_board_22 : decode cX6_board 22 = .ok (.ireturn, 1) := by decide +kernel
theorem dX6_board_23 : decode cX6_board 23 = .ok (.aload_n 0, 1) := by decide +kernel
theorem dX6_board_24 : decode cX6_board 24 = .ok (.invokevirtual 100, 3) := by decide +kernel
theorem dX6_board_27 : decode cX6_board 27 = .ok (.aload_n 0, 1) := by decide +kernel
theorem dX6_board_28 : decode cX6_board 28 = .ok (.getfield 7, 3) := by decide +kernel
theorem dX6_board_31 : decode cX6_board 31 = .ok (.bipush 6, 2) := by decide +kernel
theorem dX6_board_33 : decode cX6_board 33 = .ok (.iaload, 1) := by decide +kernel
theorem dX6_board_34 : decode cX6_board 34 = .ok (.istore_n 2, 1) := by decide +kernel
theorem dX6_board_35 : decode cX6_board 35 = .ok (.aload_n 0, 1) := by decide +kernel
theorem dX6_board_36 : decode cX6_board 36 = .ok (.getfield 7, 3) := by decide +kernel
theorem dX6_board_39 : decode cX6_board 39 = .ok (.bipush 6, 2) := by decide +kernel
theorem dX6_board_41 : decode cX6_board 41 = .ok (.iload_n 1, 1) := by decide +kernel
theorem dX6_board_42 : decode cX6_board 42 = .ok (.iastore, 1) := by decide +kernel
theorem dX6_board_43 : decode cX6_board 43 = .ok (.iload_n 2, 1) := by decide +kernel
theorem dX6_board_44 : decode cX6_board 44 = .ok (.ireturn, 1) := by decide +kernel
theorem dX6_leastOf_0 : decode cX6_leastOf 0 = .ok (.iload_n 0, 1) := by decide +kernel
theorem dX6_leastOf_1 : decode cX6_leastOf 1 = .ok (.tableswitch 38 1 4 #[31, 36, 33, 36], 31) := by decide +kernel
theorem dX6_leastOf_32 : decode cX6_leastOf 32 = .ok (.iconst 5, 1) := by decide +kernel
theorem dX6_leastOf_33 : decode cX6_leastOf 33 = .ok (.ireturn, 1) := by decide +kernel
theorem dX6_leastOf_34 : decode cX6_leastOf 34 = .ok (.bipush 10, 2) := by decide +kernel
theorem dX6_leastOf_36 : decode cX6_leastOf 36 = .ok (.ireturn, 1) := by decide +kernel
theorem dX6_leastOf_37 : decode cX6_leastOf 37 = .ok (.iconst 1, 1) := by decide +kernel
theorem dX6_leastOf_38 : decode cX6_leastOf 38 = .ok (.ireturn, 1) := by decide +kernel
theorem dX6_leastOf_39 : decode cX6_leastOf 39 = .ok (.iconst 0, 1) := by decide +kernel
theorem dX6_leastOf_40 : decode cX6_leastOf 40 = .ok (.ireturn, 1) := by decide +kernel
theorem dX6_mostOf_0 : decode cX6_mostOf 0 = .ok (.iload_n 0, 1) := by decide +kernel
theorem dX6_mostOf_1 : decode cX6_mostOf 1 = .ok (.tableswitch 50 0 4 #[35, 37, 40, 43, 47], 35) := by decide +kernel
theorem dX6_mostOf_36 : decode cX6_mostOf 36 = .ok (.iconst 4, 1) := by decide +kernel
theorem dX6_mostOf_37 : decode cX6_mostOf 37 = .ok (.ireturn, 1) := by decide +kernel
theorem dX6_mostOf_38 : decode cX6_mostOf 38 = .ok (.bipush 40, 2) := by decide +kernel
theorem dX6_mostOf_40 : decode cX6_mostOf 40 = .ok (.ireturn, 1) := by decide +kernel
theorem dX6_mostOf_41 : decode cX6_mostOf 41 = .ok (.bipush 30, 2) := by decide +kernel
theorem dX6_mostOf_43 : decode cX6_mostOf 43 = .ok (.ireturn, 1) := by decide +kernel
theorem dX6_mostOf_44 : decode cX6_mostOf 44 = .ok (.sipush 300, 3) := by decide +kernel
theorem dX6_mostOf_47 : decode cX6_mostOf 47 = .ok (.ireturn, 1) := by decide +kernel
theorem dX6_mostOf_48 : decode cX6_mostOf 48 = .ok (.bipush 12, 2) := by decide +kernel
theorem dX6_mostOf_50 : decode cX6_mostOf 50 = .ok (.ireturn, 1) := by decide +kernel
theorem dX6_mostOf_51 : decode cX6_mostOf 51 = .ok (.bipush 100, 2) := by decide +kernel
theorem dX6_mostOf_53 : decode cX6_mostOf 53 = .ok (.ireturn, 1) := by decide +kernel
set_option maxRecDepth 20000 in
theorem ggX6_set_X6_in : GoodIn wsX6_set wsX6_in := goodIn_r _ [6] (by decide +kernel) (by decide +kernel)
set_option maxRecDepth 20000 in
theorem gX6_set_X6_in : GoodIn wsX6_set (va_wsS RX6 44 yX6_in wsX6_in) := goodIn_app (goodIn_of _ (by decide +kernel)) ggX6_set_X6_in
set_option maxRecDepth 20000 in
theorem ggX6_set_X6_fails : GoodIn wsX6_set wsX6_fails := goodIn_r _ [10, 1, 23, 24, 25, 26, 27, 28, 29, 30, 31, 32, 33, 34, 35, 36, 37, 38, 39] (by decide +kernel) (by decide +kernel)
set_option maxRecDepth 20000 in
theorem gX6_set_X6_fails : GoodIn wsX6_set (wsV RX6 97 RX6 yX6_fails wsX6_fails) := goodIn_app (goodIn_of _ (by decide +kernel)) ggX6_set_X6_fails
set_option maxRecDepth 20000 in
theorem ggX6_set_X6_leastOf : GoodIn wsX6_set wsX6_leastOf := goodIn_r _ [13] (by decide +kernel) (by decide +kernel)
set_option maxRecDepth 20000 in
theorem gX6_set_X6_leastOf : GoodIn wsX6_set (va_wsS RX6 111 yX6_leastOf wsX6_leastOf) := goodIn_app (goodIn_of _ (by decide +kernel)) ggX6_set_X6_leastOf
set_option maxRecDepth 20000 in
theorem ggX6_set_X6_mostOf : GoodIn wsX6_set wsX6_mostOf := goodIn_r _ [16] (by decide +kernel) (by decide +kernel)
set_option maxRecDepth 20000 in
theorem gX6_set_X6_mostOf : GoodIn wsX6_set (va_wsS RX6 114 yX6_mostOf wsX6_mostOf) := goodIn_app (goodIn_of _ (by decide +kernel)) ggX6_set_X6_mostOf
set_option maxRecDepth 20000 in
theorem ggX6_set_X6_saves : GoodIn wsX6_set wsX6_saves := goodIn_r _ [20, 21, 22, 2, 23, 24, 25, 26, 27, 28, 29, 30, 31, 32, 33, 34, 35, 36, 37, 38, 39] (by decide +kernel) (by decide +kernel)
set_option maxRecDepth 20000 in
theorem gX6_set_X6_saves : GoodIn wsX6_set (wsV RX6 100 RX6 yX6_saves wsX6_saves) := goodIn_app (goodIn_of _ (by decide +kernel)) ggX6_set_X6_saves
theorem dX6_set_0 : decode cX6_set 0 = .ok (.aload_n 0, 1) := by decide +kernel
theorem dX6_set_1 : decode cX6_set 1 = .ok (.iconst 0, 1) := by decide +kernel
theorem dX6_set_2 : decode cX6_set 2 = .ok (.putfield 40, 3) := by decide +kernel
theorem dX6_set_5 : decode cX6_set 5 = .ok (.iload_n 1, 1) := by decide +kernel
theorem dX6_set_6 : decode cX6_set 6 = .ok (.iconst 0, 1) := by decide +kernel
theorem dX6_set_7 : decode cX6_set 7 = .ok (.iconst 5, 1) := by decide +kernel
theorem dX6_set_8 : decode cX6_set 8 = .ok (.invokestatic 44, 3) := by decide +kernel
theorem dX6_set_11 : decode cX6_set 11 = .ok (.ifCond .ne 9, 3) := by decide +kernel
theorem dX6_set_14 : decode cX6_set 14 = .ok (.aload_n 0, 1) := by decide +kernel
theorem dX6_set_15 : decode cX6_set 15 = .ok (.iconst 1, 1) := by decide +kernel
theorem dX6_set_16 : decode cX6_set 16 = .ok (.invokevirtual 97, 3) := by decide +kernel
theorem dX6_set_19 : decode cX6_set 19 = .ok (.ireturn, 1) := by decide +kernel
theorem dX6_set_20 : decode cX6_set 20 = .ok (.iload_n 2, 1) := by decide +kernel
theorem dX6_set_21 : decode cX6_set 21 = .ok (.iload_n 1, 1) := by decide +kernel
theorem dX6_set_22 : decode cX6_set 22 = .ok (.invokestatic 111, 3) := by decide +kernel
theorem dX6_set_25 : decode cX6_set 25 = .ok (.iload_n 1, 1) := by decide +kernel
theorem dX6_set_26 : decode cX6_set 26 = .ok (.invokestatic 114, 3) := by decide +kernel
theorem dX6_set_29 : decode cX6_set 29 = .ok (.invokestatic 44, 3) := by decide +kernel
theorem dX6_set_32 : decode cX6_set 32 = .ok (.ifCond .ne 9, 3) := by decide +kernel
theorem dX6_set_35 : decode cX6_set 35 = .ok (.aload_n 0, 1) := by decide +kernel
theorem dX6_set_36 : decode cX6_set 36 = .ok (.iconst 2, 1) := by decide +kernel
theorem dX6_set_37 : decode cX6_set 37 = .ok (.invokevirtual 97, 3) := by decide +kernel
theorem dX6_set_40 : decode cX6_set 40 = .ok (.ireturn, 1) := by decide +kernel
theorem dX6_set_41 : decode cX6_set 41 = .ok (.aload_n 0, 1) := by decide +kernel
theorem dX6_set_42 : decode cX6_set 42 = .ok (.invokevirtual 100, 3) := by decide +kernel
theorem dX6_set_45 : decode cX6_set 45 = .ok (.aload_n 0, 1) := by decide +kernel
