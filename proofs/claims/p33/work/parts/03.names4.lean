theorem dL_law_79 : decode cL_law 79 = .ok (.invokestatic 111, 3) := by decide +kernel
theorem dL_law_82 : decode cL_law 82 = .ok (.istore 9, 2) := by decide +kernel
theorem dL_law_84 : decode cL_law 84 = .ok (.iload 9, 2) := by decide +kernel
theorem dL_law_86 : decode cL_law 86 = .ok (.ifCond .lt 32, 3) := by decide +kernel
theorem dL_law_89 : decode cL_law 89 = .ok (.aload_n 1, 1) := by decide +kernel
theorem dL_law_90 : decode cL_law 90 = .ok (.bipush 21, 2) := by decide +kernel
theorem dL_law_92 : decode cL_law 92 = .ok (.invokevirtual 13, 3) := by decide +kernel
theorem dL_law_95 : decode cL_law 95 = .ok (.iload 8, 2) := by decide +kernel
theorem dL_law_97 : decode cL_law 97 = .ok (.bipush 6, 2) := by decide +kernel
theorem dL_law_99 : decode cL_law 99 = .ok (.if_icmp .ge 10, 3) := by decide +kernel
theorem dL_law_102 : decode cL_law 102 = .ok (.iload 8, 2) := by decide +kernel
theorem dL_law_104 : decode cL_law 104 = .ok (.iconst 1, 1) := by decide +kernel
theorem dL_law_105 : decode cL_law 105 = .ok (.iadd, 1) := by decide +kernel
theorem dL_law_106 : decode cL_law 106 = .ok (.goto 5, 3) := by decide +kernel
theorem dL_law_109 : decode cL_law 109 = .ok (.bipush 6, 2) := by decide +kernel
theorem dL_law_111 : decode cL_law 111 = .ok (.if_icmp .ne 7, 3) := by decide +kernel
theorem dL_law_114 : decode cL_law 114 = .ok (.iconst 1, 1) := by decide +kernel
theorem dL_law_115 : decode cL_law 115 = .ok (.goto 4, 3) := by decide +kernel
theorem dL_law_118 : decode cL_law 118 = .ok (.iconst 0, 1) := by decide +kernel
theorem dL_law_119 : decode cL_law 119 = .ok (.istore_n 2, 1) := by decide +kernel
theorem dL_law_120 : decode cL_law 120 = .ok (.iload_n 2, 1) := by decide +kernel
theorem dL_law_121 : decode cL_law 121 = .ok (.ifCond .eq 77, 3) := by decide +kernel
theorem dL_law_124 : decode cL_law 124 = .ok (.iload 4, 2) := by decide +kernel
theorem dL_law_126 : decode cL_law 126 = .ok (.bipush 8, 2) := by decide +kernel
theorem dL_law_128 : decode cL_law 128 = .ok (.ishr, 1) := by decide +kernel
theorem dL_law_129 : decode cL_law 129 = .ok (.iconst 3, 1) := by decide +kernel
theorem dL_law_130 : decode cL_law 130 = .ok (.iand, 1) := by decide +kernel
theorem dL_law_131 : decode cL_law 131 = .ok (.ifCond .ne 67, 3) := by decide +kernel
theorem dL_law_134 : decode cL_law 134 = .ok (.aload_n 1, 1) := by decide +kernel
theorem dL_law_135 : decode cL_law 135 = .ok (.invokestatic 83, 3) := by decide +kernel
theorem dL_law_138 : decode cL_law 138 = .ok (.lstore 10, 2) := by decide +kernel
theorem dL_law_140 : decode cL_law 140 = .ok (.aload_n 1, 1) := by decide +kernel
theorem dL_law_141 : decode cL_law 141 = .ok (.bipush 21, 2) := by decide +kernel
theorem dL_law_143 : decode cL_law 143 = .ok (.invokevirtual 13, 3) := by decide +kernel
theorem dL_law_146 : decode cL_law 146 = .ok (.iconst 1, 1) := by decide +kernel
theorem dL_law_147 : decode cL_law 147 = .ok (.isub, 1) := by decide +kernel
theorem dL_law_148 : decode cL_law 148 = .ok (.istore 12, 2) := by decide +kernel
theorem dL_law_150 : decode cL_law 150 = .ok (.aload_n 1, 1) := by decide +kernel
theorem dL_law_151 : decode cL_law 151 = .ok (.invokevirtual 96, 3) := by decide +kernel
theorem dL_law_154 : decode cL_law 154 = .ok (.iload 12, 2) := by decide +kernel
theorem dL_law_156 : decode cL_law 156 = .ok (.if_icmp .ne 40, 3) := by decide +kernel
theorem dL_law_159 : decode cL_law 159 = .ok (.aload_n 1, 1) := by decide +kernel
theorem dL_law_160 : decode cL_law 160 = .ok (.invokestatic 83, 3) := by decide +kernel
theorem dL_law_163 : decode cL_law 163 = .ok (.lload 6, 2) := by decide +kernel
theorem dL_law_165 : decode cL_law 165 = .ok (.lcmp, 1) := by decide +kernel
theorem dL_law_166 : decode cL_law 166 = .ok (.ifCond .ne 30, 3) := by decide +kernel
theorem dL_law_169 : decode cL_law 169 = .ok (.aload_n 1, 1) := by decide +kernel
theorem dL_law_170 : decode cL_law 170 = .ok (.iload 4, 2) := by decide +kernel
theorem dL_law_172 : decode cL_law 172 = .ok (.iload 5, 2) := by decide +kernel
theorem dL_law_174 : decode cL_law 174 = .ok (.invokestatic 111, 3) := by decide +kernel
theorem dL_law_177 : decode cL_law 177 = .ok (.iload 9, 2) := by decide +kernel
theorem dL_law_179 : decode cL_law 179 = .ok (.if_icmp .ne 17, 3) := by decide +kernel
theorem dL_law_182 : decode cL_law 182 = .ok (.aload_n 1, 1) := by decide +kernel
theorem dL_law_183 : decode cL_law 183 = .ok (.invokestatic 83, 3) := by decide +kernel
theorem dL_law_186 : decode cL_law 186 = .ok (.lload 10, 2) := by decide +kernel
theorem dL_law_188 : decode cL_law 188 = .ok (.lcmp, 1) := by decide +kernel
theorem dL_law_189 : decode cL_law 189 = .ok (.ifCond .ne 7, 3) := by decide +kernel
theorem dL_law_192 : decode cL_law 192 = .ok (.iconst 1, 1) := by decide +kernel
theorem dL_law_193 : decode cL_law 193 = .ok (.goto 4, 3) := by decide +kernel
theorem dL_law_196 : decode cL_law 196 = .ok (.iconst 0, 1) := by decide +kernel
theorem dL_law_197 : decode cL_law 197 = .ok (.istore_n 2, 1) := by decide +kernel
theorem dL_law_198 : decode cL_law 198 = .ok (.aload_n 1, 1) := by decide +kernel
theorem dL_law_199 : decode cL_law 199 = .ok (.iconst 1, 1) := by decide +kernel
theorem dL_law_200 : decode cL_law 200 = .ok (.invokevirtual 13, 3) := by decide +kernel
theorem dL_law_203 : decode cL_law 203 = .ok (.istore 10, 2) := by decide +kernel
theorem dL_law_205 : decode cL_law 205 = .ok (.iload_n 2, 1) := by decide +kernel
theorem dL_law_206 : decode cL_law 206 = .ok (.ifCond .eq 71, 3) := by decide +kernel
theorem dL_law_209 : decode cL_law 209 = .ok (.aload_n 1, 1) := by decide +kernel
theorem dL_law_210 : decode cL_law 210 = .ok (.invokestatic 103, 3) := by decide +kernel
theorem dL_law_213 : decode cL_law 213 = .ok (.ifCond .eq 64, 3) := by decide +kernel
theorem dL_law_216 : decode cL_law 216 = .ok (.iload_n 3, 1) := by decide +kernel
theorem dL_law_217 : decode cL_law 217 = .ok (.iconst 3, 1) := by decide +kernel
theorem dL_law_218 : decode cL_law 218 = .ok (.irem, 1) := by decide +kernel
theorem dL_law_219 : decode cL_law 219 = .ok (.iconst 1, 1) := by decide +kernel
theorem dL_law_220 : decode cL_law 220 = .ok (.if_icmp .ne 32, 3) := by decide +kernel
theorem dL_law_223 : decode cL_law 223 = .ok (.iload 10, 2) := by decide +kernel
theorem dL_law_225 : decode cL_law 225 = .ok (.ifCond .eq 27, 3) := by decide +kernel
theorem dL_law_228 : decode cL_law 228 = .ok (.aload_n 1, 1) := by decide +kernel
theorem dL_law_229 : decode cL_law 229 = .ok (.iload 4, 2) := by decide +kernel
theorem dL_law_231 : decode cL_law 231 = .ok (.iconst 5, 1) := by decide +kernel
theorem dL_law_232 : decode cL_law 232 = .ok (.ishr, 1) := by decide +kernel
theorem dL_law_233 : decode cL_law 233 = .ok (.iload 10, 2) := by decide +kernel
theorem dL_law_235 : decode cL_law 235 = .ok (.invokestatic 23, 3) := by decide +kernel
theorem dL_law_238 : decode cL_law 238 = .ok (.iload 5, 2) := by decide +kernel
theorem dL_law_240 : decode cL_law 240 = .ok (.iconst 5, 1) := by decide +kernel
theorem dL_law_241 : decode cL_law 241 = .ok (.ishr, 1) := by decide +kernel
theorem dL_law_242 : decode cL_law 242 = .ok (.iconst 3, 1) := by decide +kernel
theorem dL_law_243 : decode cL_law 243 = .ok (.invokestatic 23, 3) := by decide +kernel
theorem dL_law_246 : decode cL_law 246 = .ok (.invokestatic 115, 3) := by decide +kernel
theorem dL_law_249 : decode cL_law 249 = .ok (.ifCond .eq 28, 3) := by decide +kernel
theorem dL_law_252 : decode cL_law 252 = .ok (.iload_n 3, 1) := by decide +kernel
theorem dL_law_253 : decode cL_law 253 = .ok (.bipush 23, 2) := by decide +kernel
theorem dL_law_255 : decode cL_law 255 = .ok (.irem, 1) := by decide +kernel
theorem dL_law_256 : decode cL_law 256 = .ok (.bipush 14, 2) := by decide +kernel
theorem dL_law_258 : decode cL_law 258 = .ok (.if_icmp .ne 15, 3) := by decide +kernel
theorem dL_law_261 : decode cL_law 261 = .ok (.aload_n 1, 1) := by decide +kernel
theorem dL_law_262 : decode cL_law 262 = .ok (.invokevirtual 100, 3) := by decide +kernel
theorem dL_law_265 : decode cL_law 265 = .ok (.aload_n 1, 1) := by decide +kernel
theorem dL_law_266 : decode cL_law 266 = .ok (.iconst 0, 1) := by decide +kernel
theorem dL_law_267 : decode cL_law 267 = .ok (.invokevirtual 13, 3) := by decide +kernel
theorem dL_law_270 : decode cL_law 270 = .ok (.if_icmp .ne 7, 3) := by decide +kernel
theorem dL_law_273 : decode cL_law 273 = .ok (.iconst 1, 1) := by decide +kernel
theorem dL_law_274 : decode cL_law 274 = .ok (.goto 4, 3) := by decide +kernel
theorem dL_law_277 : decode cL_law 277 = .ok (.iconst 0, 1) := by decide +kernel
theorem dL_law_278 : decode cL_law 278 = .ok (.istore_n 2, 1) := by decide +kernel
theorem dL_law_279 : decode cL_law 279 = .ok (.iinc 3 1, 3) := by decide +kernel
theorem dL_law_282 : decode cL_law 282 = .ok (.goto (-252), 3) := by decide +kernel
theorem dL_law_285 : decode cL_law 285 = .ok (.iload_n 2, 1) := by decide +kernel
theorem dL_law_286 : decode cL_law 286 = .ok (.ireturn, 1) := by decide +kernel
abbrev vwCl : List vw_C := [(RX0, TX0, 12), (RX1, TX1, 9), (RX2, TX2, 3), (RX3, TX3, 2), (RX4, TX4, 2), (RX5, TX5, 5)]
