theorem dL_holds_120 : decode cL_holds 120 = .ok (.aload_n 0, 1) := by decide +kernel
theorem dL_holds_121 : decode cL_holds 121 = .ok (.iload 5, 2) := by decide +kernel
theorem dL_holds_123 : decode cL_holds 123 = .ok (.bipush 6, 2) := by decide +kernel
theorem dL_holds_125 : decode cL_holds 125 = .ok (.invokevirtual 18, 3) := by decide +kernel
theorem dL_holds_128 : decode cL_holds 128 = .ok (.iload 8, 2) := by decide +kernel
theorem dL_holds_130 : decode cL_holds 130 = .ok (.if_icmp .ne 99, 3) := by decide +kernel
theorem dL_holds_133 : decode cL_holds 133 = .ok (.aload_n 0, 1) := by decide +kernel
theorem dL_holds_134 : decode cL_holds 134 = .ok (.iload 5, 2) := by decide +kernel
theorem dL_holds_136 : decode cL_holds 136 = .ok (.iconst 4, 1) := by decide +kernel
theorem dL_holds_137 : decode cL_holds 137 = .ok (.invokevirtual 18, 3) := by decide +kernel
theorem dL_holds_140 : decode cL_holds 140 = .ok (.ifCond .lt 7, 3) := by decide +kernel
theorem dL_holds_143 : decode cL_holds 143 = .ok (.iconst 1, 1) := by decide +kernel
theorem dL_holds_144 : decode cL_holds 144 = .ok (.goto 4, 3) := by decide +kernel
theorem dL_holds_147 : decode cL_holds 147 = .ok (.iconst 0, 1) := by decide +kernel
theorem dL_holds_148 : decode cL_holds 148 = .ok (.iload 7, 2) := by decide +kernel
theorem dL_holds_150 : decode cL_holds 150 = .ok (.if_icmp .ne 79, 3) := by decide +kernel
theorem dL_holds_153 : decode cL_holds 153 = .ok (.aload_n 0, 1) := by decide +kernel
theorem dL_holds_154 : decode cL_holds 154 = .ok (.iload 5, 2) := by decide +kernel
theorem dL_holds_156 : decode cL_holds 156 = .ok (.iconst 3, 1) := by decide +kernel
theorem dL_holds_157 : decode cL_holds 157 = .ok (.invokevirtual 18, 3) := by decide +kernel
theorem dL_holds_160 : decode cL_holds 160 = .ok (.aload_n 0, 1) := by decide +kernel
theorem dL_holds_161 : decode cL_holds 161 = .ok (.iload 5, 2) := by decide +kernel
theorem dL_holds_163 : decode cL_holds 163 = .ok (.iconst 2, 1) := by decide +kernel
theorem dL_holds_164 : decode cL_holds 164 = .ok (.invokevirtual 18, 3) := by decide +kernel
theorem dL_holds_167 : decode cL_holds 167 = .ok (.iload 9, 2) := by decide +kernel
theorem dL_holds_169 : decode cL_holds 169 = .ok (.iadd, 1) := by decide +kernel
theorem dL_holds_170 : decode cL_holds 170 = .ok (.if_icmp .ne 59, 3) := by decide +kernel
theorem dL_holds_173 : decode cL_holds 173 = .ok (.aload_n 0, 1) := by decide +kernel
theorem dL_holds_174 : decode cL_holds 174 = .ok (.iload 5, 2) := by decide +kernel
theorem dL_holds_176 : decode cL_holds 176 = .ok (.iconst 2, 1) := by decide +kernel
theorem dL_holds_177 : decode cL_holds 177 = .ok (.invokevirtual 18, 3) := by decide +kernel
theorem dL_holds_180 : decode cL_holds 180 = .ok (.iload 4, 2) := by decide +kernel
theorem dL_holds_182 : decode cL_holds 182 = .ok (.if_icmp .lt 47, 3) := by decide +kernel
theorem dL_holds_185 : decode cL_holds 185 = .ok (.iload 6, 2) := by decide +kernel
theorem dL_holds_187 : decode cL_holds 187 = .ok (.ifCond .ne 15, 3) := by decide +kernel
theorem dL_holds_190 : decode cL_holds 190 = .ok (.aload_n 0, 1) := by decide +kernel
theorem dL_holds_191 : decode cL_holds 191 = .ok (.iload 5, 2) := by decide +kernel
theorem dL_holds_193 : decode cL_holds 193 = .ok (.iconst 2, 1) := by decide +kernel
theorem dL_holds_194 : decode cL_holds 194 = .ok (.invokevirtual 18, 3) := by decide +kernel
theorem dL_holds_197 : decode cL_holds 197 = .ok (.iload 4, 2) := by decide +kernel
theorem dL_holds_199 : decode cL_holds 199 = .ok (.if_icmp .ne 30, 3) := by decide +kernel
theorem dL_holds_202 : decode cL_holds 202 = .ok (.iload 6, 2) := by decide +kernel
theorem dL_holds_204 : decode cL_holds 204 = .ok (.ifCond .eq 27, 3) := by decide +kernel
theorem dL_holds_207 : decode cL_holds 207 = .ok (.iload 5, 2) := by decide +kernel
theorem dL_holds_209 : decode cL_holds 209 = .ok (.ifCond .le 22, 3) := by decide +kernel
theorem dL_holds_212 : decode cL_holds 212 = .ok (.aload_n 0, 1) := by decide +kernel
theorem dL_holds_213 : decode cL_holds 213 = .ok (.iload 5, 2) := by decide +kernel
theorem dL_holds_215 : decode cL_holds 215 = .ok (.iconst 2, 1) := by decide +kernel
theorem dL_holds_216 : decode cL_holds 216 = .ok (.invokevirtual 18, 3) := by decide +kernel
theorem dL_holds_219 : decode cL_holds 219 = .ok (.aload_n 0, 1) := by decide +kernel
theorem dL_holds_220 : decode cL_holds 220 = .ok (.bipush 13, 2) := by decide +kernel
theorem dL_holds_222 : decode cL_holds 222 = .ok (.invokevirtual 12, 3) := by decide +kernel
theorem dL_holds_225 : decode cL_holds 225 = .ok (.irem, 1) := by decide +kernel
theorem dL_holds_226 : decode cL_holds 226 = .ok (.ifCond .eq 5, 3) := by decide +kernel
theorem dL_holds_229 : decode cL_holds 229 = .ok (.iconst 0, 1) := by decide +kernel
theorem dL_holds_230 : decode cL_holds 230 = .ok (.ireturn, 1) := by decide +kernel
theorem dL_holds_231 : decode cL_holds 231 = .ok (.iload 7, 2) := by decide +kernel
theorem dL_holds_233 : decode cL_holds 233 = .ok (.ifCond .eq 149, 3) := by decide +kernel
theorem dL_holds_236 : decode cL_holds 236 = .ok (.iload 8, 2) := by decide +kernel
theorem dL_holds_238 : decode cL_holds 238 = .ok (.aload_n 0, 1) := by decide +kernel
theorem dL_holds_239 : decode cL_holds 239 = .ok (.bipush 12, 2) := by decide +kernel
theorem dL_holds_241 : decode cL_holds 241 = .ok (.invokevirtual 12, 3) := by decide +kernel
theorem dL_holds_244 : decode cL_holds 244 = .ok (.if_icmp .le 15, 3) := by decide +kernel
theorem dL_holds_247 : decode cL_holds 247 = .ok (.iload 8, 2) := by decide +kernel
theorem dL_holds_249 : decode cL_holds 249 = .ok (.aload_n 0, 1) := by decide +kernel
