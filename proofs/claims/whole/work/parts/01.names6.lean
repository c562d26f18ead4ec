theorem dX5_move_135 : decode cX5_move 135 = .ok (.i2l, 1) := by decide +kernel
theorem dX5_move_136 : decode cX5_move 136 = .ok (.iload 5, 2) := by decide +kernel
theorem dX5_move_138 : decode cX5_move 138 = .ok (.i2l, 1) := by decide +kernel
theorem dX5_move_139 : decode cX5_move 139 = .ok (.ladd, 1) := by decide +kernel
theorem dX5_move_140 : decode cX5_move 140 = .ok (.aload_n 0, 1) := by decide +kernel
theorem dX5_move_141 : decode cX5_move 141 = .ok (.getfield 25, 3) := by decide +kernel
theorem dX5_move_144 : decode cX5_move 144 = .ok (.iload 7, 2) := by decide +kernel
theorem dX5_move_146 : decode cX5_move 146 = .ok (.iaload, 1) := by decide +kernel
theorem dX5_move_147 : decode cX5_move 147 = .ok (.i2l, 1) := by decide +kernel
theorem dX5_move_148 : decode cX5_move 148 = .ok (.lcmp, 1) := by decide +kernel
theorem dX5_move_149 : decode cX5_move 149 = .ok (.ifCond .gt 7, 3) := by decide +kernel
theorem dX5_move_152 : decode cX5_move 152 = .ok (.iconst 1, 1) := by decide +kernel
theorem dX5_move_153 : decode cX5_move 153 = .ok (.goto 4, 3) := by decide +kernel
theorem dX5_move_156 : decode cX5_move 156 = .ok (.iconst 0, 1) := by decide +kernel
theorem dX5_move_157 : decode cX5_move 157 = .ok (.istore 9, 2) := by decide +kernel
theorem dX5_move_159 : decode cX5_move 159 = .ok (.iload 8, 2) := by decide +kernel
theorem dX5_move_161 : decode cX5_move 161 = .ok (.ifCond .eq 8, 3) := by decide +kernel
theorem dX5_move_164 : decode cX5_move 164 = .ok (.iload 9, 2) := by decide +kernel
theorem dX5_move_166 : decode cX5_move 166 = .ok (.ifCond .ne 20, 3) := by decide +kernel
theorem dX5_move_169 : decode cX5_move 169 = .ok (.iconst 0, 1) := by decide +kernel
theorem dX5_move_170 : decode cX5_move 170 = .ok (.aload_n 0, 1) := by decide +kernel
theorem dX5_move_171 : decode cX5_move 171 = .ok (.iload 8, 2) := by decide +kernel
theorem dX5_move_173 : decode cX5_move 173 = .ok (.ifCond .eq 7, 3) := by decide +kernel
theorem dX5_move_176 : decode cX5_move 176 = .ok (.iconst 3, 1) := by decide +kernel
theorem dX5_move_177 : decode cX5_move 177 = .ok (.goto 4, 3) := by decide +kernel
theorem dX5_move_180 : decode cX5_move 180 = .ok (.iconst 5, 1) := by decide +kernel
theorem dX5_move_181 : decode cX5_move 181 = .ok (.invokevirtual 64, 3) := by decide +kernel
theorem dX5_move_184 : decode cX5_move 184 = .ok (.imul, 1) := by decide +kernel
theorem dX5_move_185 : decode cX5_move 185 = .ok (.ireturn, 1) := by decide +kernel
theorem dX5_move_186 : decode cX5_move 186 = .ok (.aload_n 0, 1) := by decide +kernel
theorem dX5_move_187 : decode cX5_move 187 = .ok (.iload 6, 2) := by decide +kernel
theorem dX5_move_189 : decode cX5_move 189 = .ok (.iload_n 2, 1) := by decide +kernel
theorem dX5_move_190 : decode cX5_move 190 = .ok (.iload 7, 2) := by decide +kernel
theorem dX5_move_192 : decode cX5_move 192 = .ok (.iload 5, 2) := by decide +kernel
theorem dX5_move_194 : decode cX5_move 194 = .ok (.invokevirtual 87, 3) := by decide +kernel
theorem dX5_move_197 : decode cX5_move 197 = .ok (.istore 10, 2) := by decide +kernel
theorem dX5_move_199 : decode cX5_move 199 = .ok (.iconst 0, 1) := by decide +kernel
theorem dX5_move_200 : decode cX5_move 200 = .ok (.istore 11, 2) := by decide +kernel
theorem dX5_move_202 : decode cX5_move 202 = .ok (.iload 11, 2) := by decide +kernel
theorem dX5_move_204 : decode cX5_move 204 = .ok (.iload 10, 2) := by decide +kernel
theorem dX5_move_206 : decode cX5_move 206 = .ok (.if_icmp .ge 67, 3) := by decide +kernel
theorem dX5_move_209 : decode cX5_move 209 = .ok (.iload 6, 2) := by decide +kernel
theorem dX5_move_211 : decode cX5_move 211 = .ok (.iload 7, 2) := by decide +kernel
theorem dX5_move_213 : decode cX5_move 213 = .ok (.if_icmp .ne 19, 3) := by decide +kernel
theorem dX5_move_216 : decode cX5_move 216 = .ok (.iload_n 2, 1) := by decide +kernel
theorem dX5_move_217 : decode cX5_move 217 = .ok (.iload 4, 2) := by decide +kernel
theorem dX5_move_219 : decode cX5_move 219 = .ok (.if_icmp .ge 13, 3) := by decide +kernel
theorem dX5_move_222 : decode cX5_move 222 = .ok (.iload 10, 2) := by decide +kernel
theorem dX5_move_224 : decode cX5_move 224 = .ok (.iconst 1, 1) := by decide +kernel
theorem dX5_move_225 : decode cX5_move 225 = .ok (.isub, 1) := by decide +kernel
theorem dX5_move_226 : decode cX5_move 226 = .ok (.iload 11, 2) := by decide +kernel
theorem dX5_move_228 : decode cX5_move 228 = .ok (.isub, 1) := by decide +kernel
theorem dX5_move_229 : decode cX5_move 229 = .ok (.goto 5, 3) := by decide +kernel
theorem dX5_move_232 : decode cX5_move 232 = .ok (.iload 11, 2) := by decide +kernel
theorem dX5_move_234 : decode cX5_move 234 = .ok (.istore 12, 2) := by decide +kernel
theorem dX5_move_236 : decode cX5_move 236 = .ok (.aload_n 0, 1) := by decide +kernel
theorem dX5_move_237 : decode cX5_move 237 = .ok (.getfield 28, 3) := by decide +kernel
theorem dX5_move_240 : decode cX5_move 240 = .ok (.bipush 12, 2) := by decide +kernel
theorem dX5_move_242 : decode cX5_move 242 = .ok (.iload 7, 2) := by decide +kernel
theorem dX5_move_244 : decode cX5_move 244 = .ok (.imul, 1) := by decide +kernel
theorem dX5_move_245 : decode cX5_move 245 = .ok (.iload 4, 2) := by decide +kernel
theorem dX5_move_247 : decode cX5_move 247 = .ok (.iadd, 1) := by decide +kernel
theorem dX5_move_248 : decode cX5_move 248 = .ok (.iload 12, 2) := by decide +kernel
theorem dX5_move_250 : decode cX5_move 250 = .ok (.iadd, 1) := by decide +kernel
theorem dX5_move_251 : decode cX5_move 251 = .ok (.aload_n 0, 1) := by decide +kernel
theorem dX5_move_252 : decode cX5_move 252 = .ok (.getfield 28, 3) := by decide +kernel
theorem dX5_move_255 : decode cX5_move 255 = .ok (.bipush 12, 2) := by decide +kernel
theorem dX5_move_257 : decode cX5_move 257 = .ok (.iload 6, 2) := by decide +kernel
theorem dX5_move_259 : decode cX5_move 259 = .ok (.imul, 1) := by decide +kernel
theorem dX5_move_260 : decode cX5_move 260 = .ok (.iload_n 2, 1) := by decide +kernel
theorem dX5_move_261 : decode cX5_move 261 = .ok (.iadd, 1) := by decide +kernel
theorem dX5_move_262 : decode cX5_move 262 = .ok (.iload 12, 2) := by decide +kernel
theorem dX5_move_264 : decode cX5_move 264 = .ok (.iadd, 1) := by decide +kernel
theorem dX5_move_265 : decode cX5_move 265 = .ok (.laload, 1) := by decide +kernel
theorem dX5_move_266 : decode cX5_move 266 = .ok (.lastore, 1) := by decide +kernel
theorem dX5_move_267 : decode cX5_move 267 = .ok (.iinc 11 1, 3) := by decide +kernel
theorem dX5_move_270 : decode cX5_move 270 = .ok (.goto (-68), 3) := by decide +kernel
theorem dX5_move_273 : decode cX5_move 273 = .ok (.aload_n 0, 1) := by decide +kernel
theorem dX5_move_274 : decode cX5_move 274 = .ok (.iload 10, 2) := by decide +kernel
theorem dX5_move_276 : decode cX5_move 276 = .ok (.iload 5, 2) := by decide +kernel
theorem dX5_move_278 : decode cX5_move 278 = .ok (.if_icmp .ne 7, 3) := by decide +kernel
theorem dX5_move_281 : decode cX5_move 281 = .ok (.iconst 0, 1) := by decide +kernel
theorem dX5_move_282 : decode cX5_move 282 = .ok (.goto 4, 3) := by decide +kernel
theorem dX5_move_285 : decode cX5_move 285 = .ok (.iconst 5, 1) := by decide +kernel
theorem dX5_move_286 : decode cX5_move 286 = .ok (.invokevirtual 64, 3) := by decide +kernel
theorem dX5_move_289 : decode cX5_move 289 = .ok (.ifCond .ne 8, 3) := by decide +kernel
theorem dX5_move_292 : decode cX5_move 292 = .ok (.iload 5, 2) := by decide +kernel
theorem dX5_move_294 : decode cX5_move 294 = .ok (.goto 4, 3) := by decide +kernel
theorem dX5_move_297 : decode cX5_move 297 = .ok (.iconst 0, 1) := by decide +kernel
theorem dX5_move_298 : decode cX5_move 298 = .ok (.ireturn, 1) := by decide +kernel
set_option maxRecDepth 20000 in
theorem ggX5_plain_X5_summed : GoodIn wsX5_plain wsX5_summed := goodIn_r _ [12, 4, 13, 6, 14, 15, 16, 17, 18, 19, 20, 21, 22, 23, 24, 25, 26, 27, 28, 29, 30] (by decide +kernel) (by decide +kernel)
set_option maxRecDepth 20000 in
theorem gX5_plain_X5_summed : GoodIn wsX5_plain (wsV RX5 97 RX5 yX5_summed wsX5_summed) := goodIn_app (goodIn_of _ (by decide +kernel)) ggX5_plain_X5_summed
theorem dX5_plain_0 : decode cX5_plain 0 = .ok (.aload_n 0, 1) := by decide +kernel
theorem dX5_plain_1 : decode cX5_plain 1 = .ok (.getfield 13, 3) := by decide +kernel
theorem dX5_plain_4 : decode cX5_plain 4 = .ok (.iload_n 1, 1) := by decide +kernel
theorem dX5_plain_5 : decode cX5_plain 5 = .ok (.iaload, 1) := by decide +kernel
theorem dX5_plain_6 : decode cX5_plain 6 = .ok (.istore_n 2, 1) := by decide +kernel
theorem dX5_plain_7 : decode cX5_plain 7 = .ok (.aload_n 0, 1) := by decide +kernel
theorem dX5_plain_8 : decode cX5_plain 8 = .ok (.getfield 19, 3) := by decide +kernel
theorem dX5_plain_11 : decode cX5_plain 11 = .ok (.iload_n 1, 1) := by decide +kernel
theorem dX5_plain_12 : decode cX5_plain 12 = .ok (.iaload, 1) := by decide +kernel
theorem dX5_plain_13 : decode cX5_plain 13 = .ok (.istore_n 3, 1) := by decide +kernel
theorem dX5_plain_14 : decode cX5_plain 14 = .ok (.aload_n 0, 1) := by decide +kernel
theorem dX5_plain_15 : decode cX5_plain 15 = .ok (.getfield 7, 3) := by decide +kernel
theorem dX5_plain_18 : decode cX5_plain 18 = .ok (.iload_n 1, 1) := by decide +kernel
theorem dX5_plain_19 : decode cX5_plain 19 = .ok (.iaload, 1) := by decide +kernel
theorem dX5_plain_20 : decode cX5_plain 20 = .ok (.tableswitch 129 0 6 #[44, 51, 60, 69, 129, 97, 113], 44) := by decide +kernel
theorem dX5_plain_64 : decode cX5_plain 64 = .ok (.aload_n 0, 1) := by decide +kernel
theorem dX5_plain_65 : decode cX5_plain 65 = .ok (.iload_n 2, 1) := by decide +kernel
theorem dX5_plain_66 : decode cX5_plain 66 = .ok (.putfield 91, 3) := by decide +kernel
theorem dX5_plain_69 : decode cX5_plain 69 = .ok (.iconst 0, 1) := by decide +kernel
theorem dX5_plain_70 : decode cX5_plain 70 = .ok (.ireturn, 1) := by decide +kernel
theorem dX5_plain_71 : decode cX5_plain 71 = .ok (.aload_n 0, 1) := by decide +kernel
theorem dX5_plain_72 : decode cX5_plain 72 = .ok (.iconst 2, 1) := by decide +kernel
theorem dX5_plain_73 : decode cX5_plain 73 = .ok (.iload_n 2, 1) := by decide +kernel
theorem dX5_plain_74 : decode cX5_plain 74 = .ok (.imul, 1) := by decide +kernel
theorem dX5_plain_75 : decode cX5_plain 75 = .ok (.putfield 91, 3) := by decide +kernel
theorem dX5_plain_78 : decode cX5_plain 78 = .ok (.iconst 0, 1) := by decide +kernel
theorem dX5_plain_79 : decode cX5_plain 79 = .ok (.ireturn, 1) := by decide +kernel
theorem dX5_plain_80 : decode cX5_plain 80 = .ok (.aload_n 0, 1) := by decide +kernel
theorem dX5_plain_81 : decode cX5_plain 81 = .ok (.iconst 3, 1) := by decide +kernel
theorem dX5_plain_82 : decode cX5_plain 82 = .ok (.iload_n 2, 1) := by decide +kernel
theorem dX5_plain_83 : decode cX5_plain 83 = .ok (.imul, 1) := by decide +kernel
theorem dX5_plain_84 : decode cX5_plain 84 = .ok (.putfield 91, 3) := by decide +kernel
theorem dX5_plain_87 : decode cX5_plain 87 = .ok (.iconst 0, 1) := by decide +kernel
theorem dX5_plain_88 : decode cX5_plain 88 = .ok (.ireturn, 1) := by decide +kernel
theorem dX5_plain_89 : decode cX5_plain 89 = .ok (.aload_n 0, 1) := by decide +kernel
theorem dX5_plain_90 : decode cX5_plain 90 = .ok (.iload_n 2, 1) := by decide +kernel
theorem dX5_plain_91 : decode cX5_plain 91 = .ok (.ifCond .ne 7, 3) := by decide +kernel
theorem dX5_plain_94 : decode cX5_plain 94 = .ok (.iconst 0, 1) := by decide +kernel
theorem dX5_plain_95 : decode cX5_plain 95 = .ok (.goto 8, 3) := by decide +kernel
theorem dX5_plain_98 : decode cX5_plain 98 = .ok (.sipush 1000, 3) := by decide +kernel
theorem dX5_plain_101 : decode cX5_plain 101 = .ok (.iload_n 2, 1) := by decide +kernel
theorem dX5_plain_102 : decode cX5_plain 102 = .ok (.idiv, 1) := by decide +kernel
theorem dX5_plain_103 : decode cX5_plain 103 = .ok (.putfield 91, 3) := by decide +kernel
theorem dX5_plain_106 : decode cX5_plain 106 = .ok (.iload_n 2, 1) := by decide +kernel
theorem dX5_plain_107 : decode cX5_plain 107 = .ok (.ifCond .ne 8, 3) := by decide +kernel
theorem dX5_plain_110 : decode cX5_plain 110 = .ok (.bipush 6, 2) := by decide +kernel
theorem dX5_plain_112 : decode cX5_plain 112 = .ok (.goto 4, 3) := by decide +kernel
theorem dX5_plain_115 : decode cX5_plain 115 = .ok (.iconst 0, 1) := by decide +kernel
theorem dX5_plain_116 : decode cX5_plain 116 = .ok (.ireturn, 1) := by decide +kernel
theorem dX5_plain_117 : decode cX5_plain 117 = .ok (.aload_n 0, 1) := by decide +kernel
theorem dX5_plain_118 : decode cX5_plain 118 = .ok (.iload_n 2, 1) := by decide +kernel
theorem dX5_plain_119 : decode cX5_plain 119 = .ok (.putfield 94, 3) := by decide +kernel
theorem dX5_plain_122 : decode cX5_plain 122 = .ok (.iload_n 2, 1) := by decide +kernel
theorem dX5_plain_123 : decode cX5_plain 123 = .ok (.ifCond .ne 7, 3) := by decide +kernel
theorem dX5_plain_126 : decode cX5_plain 126 = .ok (.iconst 1, 1) := by decide +kernel
theorem dX5_plain_127 : decode cX5_plain 127 = .ok (.goto 5, 3) := by decide +kernel
theorem dX5_plain_130 : decode cX5_plain 130 = .ok (.bipush 7, 2) := by decide +kernel
theorem dX5_plain_132 : decode cX5_plain 132 = .ok (.ireturn, 1) := by decide +kernel
theorem dX5_plain_133 : decode cX5_plain 133 = .ok (.aload_n 0, 1) := by decide +kernel
theorem dX5_plain_134 : decode cX5_plain 134 = .ok (.aload_n 0, 1) := by decide +kernel
theorem dX5_plain_135 : decode cX5_plain 135 = .ok (.getfield 28, 3) := by decide +kernel
theorem dX5_plain_138 : decode cX5_plain 138 = .ok (.bipush 12, 2) := by decide +kernel
theorem dX5_plain_140 : decode cX5_plain 140 = .ok (.iload_n 3, 1) := by decide +kernel
theorem dX5_plain_141 : decode cX5_plain 141 = .ok (.imul, 1) := by decide +kernel
theorem dX5_plain_142 : decode cX5_plain 142 = .ok (.laload, 1) := by decide +kernel
theorem dX5_plain_143 : decode cX5_plain 143 = .ok (.l2i, 1) := by decide +kernel
theorem dX5_plain_144 : decode cX5_plain 144 = .ok (.putfield 91, 3) := by decide +kernel
theorem dX5_plain_147 : decode cX5_plain 147 = .ok (.iconst 0, 1) := by decide +kernel
theorem dX5_plain_148 : decode cX5_plain 148 = .ok (.ireturn, 1) := by decide +kernel
theorem dX5_plain_149 : decode cX5_plain 149 = .ok (.iload_n 3, 1) := by decide +kernel
theorem dX5_plain_150 : decode cX5_plain 150 = .ok (.iconst (-1), 1) := by decide +kernel
theorem dX5_plain_151 : decode cX5_plain 151 = .ok (.if_icmp .ne 7, 3) := by decide +kernel
theorem dX5_plain_154 : decode cX5_plain 154 = .ok (.iconst 1, 1) := by decide +kernel
theorem dX5_plain_155 : decode cX5_plain 155 = .ok (.goto 21, 3) := by decide +kernel
theorem dX5_plain_158 : decode cX5_plain 158 = .ok (.aload_n 0, 1) := by decide +kernel
theorem dX5_plain_159 : decode cX5_plain 159 = .ok (.getfield 22, 3) := by decide +kernel
theorem dX5_plain_162 : decode cX5_plain 162 = .ok (.iload_n 3, 1) := by decide +kernel
theorem dX5_plain_163 : decode cX5_plain 163 = .ok (.iaload, 1) := by decide +kernel
theorem dX5_plain_164 : decode cX5_plain 164 = .ok (.ifCond .eq 7, 3) := by decide +kernel
theorem dX5_plain_167 : decode cX5_plain 167 = .ok (.iconst 2, 1) := by decide +kernel
theorem dX5_plain_168 : decode cX5_plain 168 = .ok (.goto 8, 3) := by decide +kernel
theorem dX5_plain_171 : decode cX5_plain 171 = .ok (.aload_n 0, 1) := by decide +kernel
theorem dX5_plain_172 : decode cX5_plain 172 = .ok (.iload_n 3, 1) := by decide +kernel
theorem dX5_plain_173 : decode cX5_plain 173 = .ok (.invokevirtual 97, 3) := by decide +kernel
theorem dX5_plain_176 : decode cX5_plain 176 = .ok (.ireturn, 1) := by decide +kernel
theorem dX5_summed_0 : decode cX5_summed 0 = .ok (.aload_n 0, 1) := by decide +kernel
theorem dX5_summed_1 : decode cX5_summed 1 = .ok (.iconst 0, 1) := by decide +kernel
theorem dX5_summed_2 : decode cX5_summed 2 = .ok (.putfield 91, 3) := by decide +kernel
theorem dX5_summed_5 : decode cX5_summed 5 = .ok (.iconst 0, 1) := by decide +kernel
theorem dX5_summed_6 : decode cX5_summed 6 = .ok (.istore_n 2, 1) := by decide +kernel
theorem dX5_summed_7 : decode cX5_summed 7 = .ok (.iload_n 2, 1) := by decide +kernel
theorem dX5_summed_8 : decode cX5_summed 8 = .ok (.aload_n 0, 1) := by decide +kernel
theorem dX5_summed_9 : decode cX5_summed 9 = .ok (.getfield 25, 3) := by decide +kernel
theorem dX5_summed_12 : decode cX5_summed 12 = .ok (.iload_n 1, 1) := by decide +kernel
theorem dX5_summed_13 : decode cX5_summed 13 = .ok (.iaload, 1) := by decide +kernel
theorem dX5_summed_14 : decode cX5_summed 14 = .ok (.if_icmp .ge 30, 3) := by decide +kernel
theorem dX5_summed_17 : decode cX5_summed 17 = .ok (.aload_n 0, 1) := by decide +kernel
theorem dX5_summed_18 : decode cX5_summed 18 = .ok (.dup, 1) := by decide +kernel
theorem dX5_summed_19 : decode cX5_summed 19 = .ok (.getfield 91, 3) := by decide +kernel
theorem dX5_summed_22 : decode cX5_summed 22 = .ok (.aload_n 0, 1) := by decide +kernel
theorem dX5_summed_23 : decode cX5_summed 23 = .ok (.getfield 28, 3) := by decide +kernel
theorem dX5_summed_26 : decode cX5_summed 26 = .ok (.bipush 12, 2) := by decide +kernel
theorem dX5_summed_28 : decode cX5_summed 28 = .ok (.iload_n 1, 1) := by decide +kernel
theorem dX5_summed_29 : decode cX5_summed 29 = .ok (.imul, 1) := by decide +kernel
theorem dX5_summed_30 : decode cX5_summed 30 = .ok (.iload_n 2, 1) := by decide +kernel
theorem dX5_summed_31 : decode cX5_summed 31 = .ok (.iadd, 1) := by decide +kernel
theorem dX5_summed_32 : decode cX5_summed 32 = .ok (.laload, 1) := by decide +kernel
theorem dX5_summed_33 : decode cX5_summed 33 = .ok (.l2i, 1) := by decide +kernel
theorem dX5_summed_34 : decode cX5_summed 34 = .ok (.iadd, 1) := by decide +kernel
theorem dX5_summed_35 : decode cX5_summed 35 = .ok (.putfield 91, 3) := by decide +kernel
theorem dX5_summed_38 : decode cX5_summed 38 = .ok (.iinc 2 1, 3) := by decide +kernel
theorem dX5_summed_41 : decode cX5_summed 41 = .ok (.goto (-34), 3) := by decide +kernel
theorem dX5_summed_44 : decode cX5_summed 44 = .ok (.iconst 0, 1) := by decide +kernel
theorem dX5_summed_45 : decode cX5_summed 45 = .ok (.ireturn, 1) := by decide +kernel
theorem dX5_takes_0 : decode cX5_takes 0 = .ok (.aload_n 0, 1) := by decide +kernel
theorem dX5_takes_1 : decode cX5_takes 1 = .ok (.iconst (-1), 1) := by decide +kernel
theorem dX5_takes_2 : decode cX5_takes 2 = .ok (.putfield 100, 3) := by decide +kernel
theorem dX5_takes_5 : decode cX5_takes 5 = .ok (.aload_n 0, 1) := by decide +kernel
theorem dX5_takes_6 : decode cX5_takes 6 = .ok (.getfield 7, 3) := by decide +kernel
theorem dX5_takes_9 : decode cX5_takes 9 = .ok (.iload_n 1, 1) := by decide +kernel
theorem dX5_takes_10 : decode cX5_takes 10 = .ok (.iaload, 1) := by decide +kernel
theorem dX5_takes_11 : decode cX5_takes 11 = .ok (.iconst 4, 1) := by decide +kernel
theorem dX5_takes_12 : decode cX5_takes 12 = .ok (.if_icmp .ne 27, 3) := by decide +kernel
theorem dX5_takes_15 : decode cX5_takes 15 = .ok (.aload_n 0, 1) := by decide +kernel
theorem dX5_takes_16 : decode cX5_takes 16 = .ok (.aload_n 0, 1) := by decide +kernel
theorem dX5_takes_17 : decode cX5_takes 17 = .ok (.getfield 16, 3) := by decide +kernel
theorem dX5_takes_20 : decode cX5_takes 20 = .ok (.iload_n 1, 1) := by decide +kernel
theorem dX5_takes_21 : decode cX5_takes 21 = .ok (.iaload, 1) := by decide +kernel
theorem dX5_takes_22 : decode cX5_takes 22 = .ok (.putfield 100, 3) := by decide +kernel
theorem dX5_takes_25 : decode cX5_takes 25 = .ok (.aload_n 0, 1) := by decide +kernel
theorem dX5_takes_26 : decode cX5_takes 26 = .ok (.getfield 100, 3) := by decide +kernel
theorem dX5_takes_29 : decode cX5_takes 29 = .ok (.iconst (-1), 1) := by decide +kernel
theorem dX5_takes_30 : decode cX5_takes 30 = .ok (.if_icmp .ne 7, 3) := by decide +kernel
theorem dX5_takes_33 : decode cX5_takes 33 = .ok (.iconst 1, 1) := by decide +kernel
theorem dX5_takes_34 : decode cX5_takes 34 = .ok (.goto 4, 3) := by decide +kernel
theorem dX5_takes_37 : decode cX5_takes 37 = .ok (.iconst 0, 1) := by decide +kernel
theorem dX5_takes_38 : decode cX5_takes 38 = .ok (.ireturn, 1) := by decide +kernel
theorem dX5_takes_39 : decode cX5_takes 39 = .ok (.aload_n 0, 1) := by decide +kernel
theorem dX5_takes_40 : decode cX5_takes 40 = .ok (.getfield 19, 3) := by decide +kernel
theorem dX5_takes_43 : decode cX5_takes 43 = .ok (.iload_n 1, 1) := by decide +kernel
theorem dX5_takes_44 : decode cX5_takes 44 = .ok (.iaload, 1) := by decide +kernel
theorem dX5_takes_45 : decode cX5_takes 45 = .ok (.istore_n 2, 1) := by decide +kernel
theorem dX5_takes_46 : decode cX5_takes 46 = .ok (.aload_n 0, 1) := by decide +kernel
theorem dX5_takes_47 : decode cX5_takes 47 = .ok (.getfield 7, 3) := by decide +kernel
theorem dX5_takes_50 : decode cX5_takes 50 = .ok (.iload_n 1, 1) := by decide +kernel
theorem dX5_takes_51 : decode cX5_takes 51 = .ok (.iaload, 1) := by decide +kernel
theorem dX5_takes_52 : decode cX5_takes 52 = .ok (.bipush 6, 2) := by decide +kernel
theorem dX5_takes_54 : decode cX5_takes 54 = .ok (.if_icmp .eq 5, 3) := by decide +kernel
theorem dX5_takes_57 : decode cX5_takes 57 = .ok (.iconst 0, 1) := by decide +kernel
theorem dX5_takes_58 : decode cX5_takes 58 = .ok (.ireturn, 1) := by decide +kernel
theorem dX5_takes_59 : decode cX5_takes 59 = .ok (.iload_n 2, 1) := by decide +kernel
theorem dX5_takes_60 : decode cX5_takes 60 = .ok (.iconst (-1), 1) := by decide +kernel
theorem dX5_takes_61 : decode cX5_takes 61 = .ok (.if_icmp .eq 12, 3) := by decide +kernel
theorem dX5_takes_64 : decode cX5_takes 64 = .ok (.aload_n 0, 1) := by decide +kernel
theorem dX5_takes_65 : decode cX5_takes 65 = .ok (.getfield 25, 3) := by decide +kernel
theorem dX5_takes_68 : decode cX5_takes 68 = .ok (.iload_n 2, 1) := by decide +kernel
theorem dX5_takes_69 : decode cX5_takes 69 = .ok (.iaload, 1) := by decide +kernel
theorem dX5_takes_70 : decode cX5_takes 70 = .ok (.ifCond .ne 14, 3) := by decide +kernel
theorem dX5_takes_73 : decode cX5_takes 73 = .ok (.iload_n 2, 1) := by decide +kernel
theorem dX5_takes_74 : decode cX5_takes 74 = .ok (.iconst (-1), 1) := by decide +kernel
theorem dX5_takes_75 : decode cX5_takes 75 = .ok (.if_icmp .ne 7, 3) := by decide +kernel
theorem dX5_takes_78 : decode cX5_takes 78 = .ok (.iconst 1, 1) := by decide +kernel
theorem dX5_takes_79 : decode cX5_takes 79 = .ok (.goto 4, 3) := by decide +kernel
theorem dX5_takes_82 : decode cX5_takes 82 = .ok (.iconst 3, 1) := by decide +kernel
theorem dX5_takes_83 : decode cX5_takes 83 = .ok (.ireturn, 1) := by decide +kernel
theorem dX5_takes_84 : decode cX5_takes 84 = .ok (.aload_n 0, 1) := by decide +kernel
theorem dX5_takes_85 : decode cX5_takes 85 = .ok (.getfield 22, 3) := by decide +kernel
theorem dX5_takes_88 : decode cX5_takes 88 = .ok (.iload_n 2, 1) := by decide +kernel
theorem dX5_takes_89 : decode cX5_takes 89 = .ok (.iaload, 1) := by decide +kernel
theorem dX5_takes_90 : decode cX5_takes 90 = .ok (.iconst 2, 1) := by decide +kernel
theorem dX5_takes_91 : decode cX5_takes 91 = .ok (.if_icmp .ge 5, 3) := by decide +kernel
theorem dX5_takes_94 : decode cX5_takes 94 = .ok (.iconst 0, 1) := by decide +kernel
theorem dX5_takes_95 : decode cX5_takes 95 = .ok (.ireturn, 1) := by decide +kernel
theorem dX5_takes_96 : decode cX5_takes 96 = .ok (.aload_n 0, 1) := by decide +kernel
theorem dX5_takes_97 : decode cX5_takes 97 = .ok (.aload_n 0, 1) := by decide +kernel
theorem dX5_takes_98 : decode cX5_takes 98 = .ok (.getfield 28, 3) := by decide +kernel
theorem dX5_takes_101 : decode cX5_takes 101 = .ok (.bipush 12, 2) := by decide +kernel
theorem dX5_takes_103 : decode cX5_takes 103 = .ok (.iload_n 2, 1) := by decide +kernel
theorem dX5_takes_104 : decode cX5_takes 104 = .ok (.imul, 1) := by decide +kernel
theorem dX5_takes_105 : decode cX5_takes 105 = .ok (.laload, 1) := by decide +kernel
theorem dX5_takes_106 : decode cX5_takes 106 = .ok (.l2i, 1) := by decide +kernel
theorem dX5_takes_107 : decode cX5_takes 107 = .ok (.putfield 100, 3) := by decide +kernel
theorem dX5_takes_110 : decode cX5_takes 110 = .ok (.aload_n 0, 1) := by decide +kernel
theorem dX5_takes_111 : decode cX5_takes 111 = .ok (.getfield 100, 3) := by decide +kernel
theorem dX5_takes_114 : decode cX5_takes 114 = .ok (.iconst (-1), 1) := by decide +kernel
theorem dX5_takes_115 : decode cX5_takes 115 = .ok (.if_icmp .ne 7, 3) := by decide +kernel
theorem dX5_takes_118 : decode cX5_takes 118 = .ok (.iconst 1, 1) := by decide +kernel
theorem dX5_takes_119 : decode cX5_takes 119 = .ok (.goto 4, 3) := by decide +kernel
theorem dX5_takes_122 : decode cX5_takes 122 = .ok (.iconst 0, 1) := by decide +kernel
theorem dX5_takes_123 : decode cX5_takes 123 = .ok (.ireturn, 1) := by decide +kernel
set_option maxRecDepth 20000 in
theorem ggX5_number_X5_takes : GoodIn wsX5_number wsX5_takes := goodIn_r _ [10, 3, 5, 11, 12, 13, 14, 15, 26, 27, 28, 29, 30, 31, 32, 33, 34, 35, 36, 37, 38, 39, 40, 41, 42] (by decide +kernel) (by decide +kernel)
set_option maxRecDepth 20000 in
theorem gX5_number_X5_takes : GoodIn wsX5_number (wsV RX5 103 RX5 yX5_takes wsX5_takes) := goodIn_app (goodIn_of _ (by decide +kernel)) ggX5_number_X5_takes
set_option maxRecDepth 20000 in
theorem ggX5_number_X5_plain : GoodIn wsX5_number wsX5_plain := goodIn_r _ [19, 20, 12, 5, 4, 21, 15, 14, 22, 23, 24, 9, 25, 13, 26, 27, 28, 29, 30, 31, 32, 33, 34, 35, 36, 37, 38, 39, 40, 41, 42] (by decide +kernel) (by decide +kernel)
set_option maxRecDepth 20000 in
theorem gX5_number_X5_plain : GoodIn wsX5_number (wsV RX5 106 RX5 yX5_plain wsX5_plain) := goodIn_app (goodIn_of _ (by decide +kernel)) ggX5_number_X5_plain
theorem dX5_number_0 : decode cX5_number 0 = .ok (.iconst 0, 1) := by decide +kernel
theorem dX5_number_1 : decode cX5_number 1 = .ok (.istore_n 3, 1) := by decide +kernel
theorem dX5_number_2 : decode cX5_number 2 = .ok (.iconst 0, 1) := by decide +kernel
theorem dX5_number_3 : decode cX5_number 3 = .ok (.istore 4, 2) := by decide +kernel
theorem dX5_number_5 : decode cX5_number 5 = .ok (.iload_n 1, 1) := by decide +kernel
theorem dX5_number_6 : decode cX5_number 6 = .ok (.istore 5, 2) := by decide +kernel
theorem dX5_number_8 : decode cX5_number 8 = .ok (.aload_n 0, 1) := by decide +kernel
theorem dX5_number_9 : decode cX5_number 9 = .ok (.iload_n 3, 1) := by decide +kernel
theorem dX5_number_10 : decode cX5_number 10 = .ok (.putfield 55, 3) := by decide +kernel
theorem dX5_number_13 : decode cX5_number 13 = .ok (.aload_n 0, 1) := by decide +kernel
theorem dX5_number_14 : decode cX5_number 14 = .ok (.getfield 52, 3) := by decide +kernel
theorem dX5_number_17 : decode cX5_number 17 = .ok (.iload_n 2, 1) := by decide +kernel
theorem dX5_number_18 : decode cX5_number 18 = .ok (.if_icmp .eq 9, 3) := by decide +kernel
theorem dX5_number_21 : decode cX5_number 21 = .ok (.iload_n 3, 1) := by decide +kernel
theorem dX5_number_22 : decode cX5_number 22 = .ok (.bipush 30, 2) := by decide +kernel
theorem dX5_number_24 : decode cX5_number 24 = .ok (.if_icmp .ne 19, 3) := by decide +kernel
theorem dX5_number_27 : decode cX5_number 27 = .ok (.aload_n 0, 1) := by decide +kernel
theorem dX5_number_28 : decode cX5_number 28 = .ok (.getfield 52, 3) := by decide +kernel
theorem dX5_number_31 : decode cX5_number 31 = .ok (.iload_n 2, 1) := by decide +kernel
theorem dX5_number_32 : decode cX5_number 32 = .ok (.if_icmp .ne 8, 3) := by decide +kernel
theorem dX5_number_35 : decode cX5_number 35 = .ok (.bipush 9, 2) := by decide +kernel
theorem dX5_number_37 : decode cX5_number 37 = .ok (.goto 5, 3) := by decide +kernel
theorem dX5_number_40 : decode cX5_number 40 = .ok (.bipush 8, 2) := by decide +kernel
theorem dX5_number_42 : decode cX5_number 42 = .ok (.ireturn, 1) := by decide +kernel
theorem dX5_number_43 : decode cX5_number 43 = .ok (.aload_n 0, 1) := by decide +kernel
theorem dX5_number_44 : decode cX5_number 44 = .ok (.dup, 1) := by decide +kernel
theorem dX5_number_45 : decode cX5_number 45 = .ok (.getfield 52, 3) := by decide +kernel
theorem dX5_number_48 : decode cX5_number 48 = .ok (.iconst 1, 1) := by decide +kernel
theorem dX5_number_49 : decode cX5_number 49 = .ok (.iadd, 1) := by decide +kernel
theorem dX5_number_50 : decode cX5_number 50 = .ok (.putfield 52, 3) := by decide +kernel
theorem dX5_number_53 : decode cX5_number 53 = .ok (.iinc 3 1, 3) := by decide +kernel
theorem dX5_number_56 : decode cX5_number 56 = .ok (.aload_n 0, 1) := by decide +kernel
theorem dX5_number_57 : decode cX5_number 57 = .ok (.iload_n 3, 1) := by decide +kernel
theorem dX5_number_58 : decode cX5_number 58 = .ok (.putfield 55, 3) := by decide +kernel
theorem dX5_number_61 : decode cX5_number 61 = .ok (.aload_n 0, 1) := by decide +kernel
theorem dX5_number_62 : decode cX5_number 62 = .ok (.iload 5, 2) := by decide +kernel
theorem dX5_number_64 : decode cX5_number 64 = .ok (.invokevirtual 103, 3) := by decide +kernel
theorem dX5_number_67 : decode cX5_number 67 = .ok (.istore 6, 2) := by decide +kernel
theorem dX5_number_69 : decode cX5_number 69 = .ok (.iload 6, 2) := by decide +kernel
theorem dX5_number_71 : decode cX5_number 71 = .ok (.ifCond .ne 47, 3) := by decide +kernel
theorem dX5_number_74 : decode cX5_number 74 = .ok (.aload_n 0, 1) := by decide +kernel
theorem dX5_number_75 : decode cX5_number 75 = .ok (.getfield 100, 3) := by decide +kernel
theorem dX5_number_78 : decode cX5_number 78 = .ok (.iconst (-1), 1) := by decide +kernel
theorem dX5_number_79 : decode cX5_number 79 = .ok (.if_icmp .ne 39, 3) := by decide +kernel
theorem dX5_number_82 : decode cX5_number 82 = .ok (.aload_n 0, 1) := by decide +kernel
theorem dX5_number_83 : decode cX5_number 83 = .ok (.iload 5, 2) := by decide +kernel
theorem dX5_number_85 : decode cX5_number 85 = .ok (.invokevirtual 106, 3) := by decide +kernel
theorem dX5_number_88 : decode cX5_number 88 = .ok (.istore 6, 2) := by decide +kernel
theorem dX5_number_90 : decode cX5_number 90 = .ok (.aload_n 0, 1) := by decide +kernel
theorem dX5_number_91 : decode cX5_number 91 = .ok (.dup, 1) := by decide +kernel
theorem dX5_number_92 : decode cX5_number 92 = .ok (.getfield 91, 3) := by decide +kernel
theorem dX5_number_95 : decode cX5_number 95 = .ok (.iload 4, 2) := by decide +kernel
theorem dX5_number_97 : decode cX5_number 97 = .ok (.iadd, 1) := by decide +kernel
theorem dX5_number_98 : decode cX5_number 98 = .ok (.putfield 91, 3) := by decide +kernel
theorem dX5_number_101 : decode cX5_number 101 = .ok (.aload_n 0, 1) := by decide +kernel
theorem dX5_number_102 : decode cX5_number 102 = .ok (.iload 6, 2) := by decide +kernel
theorem dX5_number_104 : decode cX5_number 104 = .ok (.ifCond .ne 7, 3) := by decide +kernel
theorem dX5_number_107 : decode cX5_number 107 = .ok (.iconst 0, 1) := by decide +kernel
theorem dX5_number_108 : decode cX5_number 108 = .ok (.goto 4, 3) := by decide +kernel
theorem dX5_number_111 : decode cX5_number 111 = .ok (.iload_n 3, 1) := by decide +kernel
theorem dX5_number_112 : decode cX5_number 112 = .ok (.putfield 55, 3) := by decide +kernel
theorem dX5_number_115 : decode cX5_number 115 = .ok (.iload 6, 2) := by decide +kernel
theorem dX5_number_117 : decode cX5_number 117 = .ok (.ireturn, 1) := by decide +kernel
theorem dX5_number_118 : decode cX5_number 118 = .ok (.iload 6, 2) := by decide +kernel
theorem dX5_number_120 : decode cX5_number 120 = .ok (.ifCond .eq 6, 3) := by decide +kernel
theorem dX5_number_123 : decode cX5_number 123 = .ok (.iload 6, 2) := by decide +kernel
theorem dX5_number_125 : decode cX5_number 125 = .ok (.ireturn, 1) := by decide +kernel
theorem dX5_number_126 : decode cX5_number 126 = .ok (.iload 4, 2) := by decide +kernel
theorem dX5_number_128 : decode cX5_number 128 = .ok (.aload_n 0, 1) := by decide +kernel
theorem dX5_number_129 : decode cX5_number 129 = .ok (.getfield 7, 3) := by decide +kernel
theorem dX5_number_132 : decode cX5_number 132 = .ok (.iload 5, 2) := by decide +kernel
theorem dX5_number_134 : decode cX5_number 134 = .ok (.iaload, 1) := by decide +kernel
theorem dX5_number_135 : decode cX5_number 135 = .ok (.iconst 4, 1) := by decide +kernel
theorem dX5_number_136 : decode cX5_number 136 = .ok (.if_icmp .ne 7, 3) := by decide +kernel
theorem dX5_number_139 : decode cX5_number 139 = .ok (.iconst 1, 1) := by decide +kernel
theorem dX5_number_140 : decode cX5_number 140 = .ok (.goto 4, 3) := by decide +kernel
theorem dX5_number_143 : decode cX5_number 143 = .ok (.iconst 0, 1) := by decide +kernel
theorem dX5_number_144 : decode cX5_number 144 = .ok (.iadd, 1) := by decide +kernel
theorem dX5_number_145 : decode cX5_number 145 = .ok (.istore 4, 2) := by decide +kernel
theorem dX5_number_147 : decode cX5_number 147 = .ok (.aload_n 0, 1) := by decide +kernel
theorem dX5_number_148 : decode cX5_number 148 = .ok (.getfield 100, 3) := by decide +kernel
theorem dX5_number_151 : decode cX5_number 151 = .ok (.istore 5, 2) := by decide +kernel
theorem dX5_number_153 : decode cX5_number 153 = .ok (.goto (-145), 3) := by decide +kernel
set_option maxRecDepth 20000 in
theorem ggX5_ended_X5_tell : GoodIn wsX5_ended wsX5_tell := goodIn_r _ [7, 8, 9, 10, 11, 12, 13, 14, 15, 16, 17, 18, 19, 20, 21, 22, 23, 24, 25, 26] (by decide +kernel) (by decide +kernel)
set_option maxRecDepth 20000 in
theorem gX5_ended_X5_tell : GoodIn wsX5_ended (wsV RX5 64 RX5 yX5_tell wsX5_tell) := goodIn_app (goodIn_of _ (by decide +kernel)) ggX5_ended_X5_tell
theorem dX5_ended_0 : decode cX5_ended 0 = .ok (.aload_n 0, 1) := by decide +kernel
theorem dX5_ended_1 : decode cX5_ended 1 = .ok (.iload_n 1, 1) := by decide +kernel
theorem dX5_ended_2 : decode cX5_ended 2 = .ok (.bipush 7, 2) := by decide +kernel
theorem dX5_ended_4 : decode cX5_ended 4 = .ok (.if_icmp .ne 10, 3) := by decide +kernel
theorem dX5_ended_7 : decode cX5_ended 7 = .ok (.aload_n 0, 1) := by decide +kernel
theorem dX5_ended_8 : decode cX5_ended 8 = .ok (.getfield 94, 3) := by decide +kernel
theorem dX5_ended_11 : decode cX5_ended 11 = .ok (.goto 7, 3) := by decide +kernel
theorem dX5_ended_14 : decode cX5_ended 14 = .ok (.aload_n 0, 1) := by decide +kernel
theorem dX5_ended_15 : decode cX5_ended 15 = .ok (.getfield 49, 3) := by decide +kernel
theorem dX5_ended_18 : decode cX5_ended 18 = .ok (.putfield 49, 3) := by decide +kernel
theorem dX5_ended_21 : decode cX5_ended 21 = .ok (.aload_n 0, 1) := by decide +kernel
theorem dX5_ended_22 : decode cX5_ended 22 = .ok (.iload_n 1, 1) := by decide +kernel
theorem dX5_ended_23 : decode cX5_ended 23 = .ok (.invokevirtual 64, 3) := by decide +kernel
theorem dX5_ended_26 : decode cX5_ended 26 = .ok (.ifCond .ne 7, 3) := by decide +kernel
theorem dX5_ended_29 : decode cX5_ended 29 = .ok (.iload_n 2, 1) := by decide +kernel
theorem dX5_ended_30 : decode cX5_ended 30 = .ok (.goto 4, 3) := by decide +kernel
theorem dX5_ended_33 : decode cX5_ended 33 = .ok (.iconst 0, 1) := by decide +kernel
theorem dX5_ended_34 : decode cX5_ended 34 = .ok (.ireturn, 1) := by decide +kernel
set_option maxRecDepth 20000 in
theorem ggX5_run_X5_isThing : GoodIn wsX5_run wsX5_isThing := goodIn_r _ [9, 10, 11, 12, 8, 13, 51, 52, 53, 54, 55, 56, 57, 58, 59, 60, 61, 62, 63, 64, 65, 66, 67] (by decide +kernel) (by decide +kernel)
set_option maxRecDepth 20000 in
theorem gX5_run_X5_isThing : GoodIn wsX5_run (wsV RX5 60 RX5 yX5_isThing wsX5_isThing) := goodIn_app (goodIn_of _ (by decide +kernel)) ggX5_run_X5_isThing
set_option maxRecDepth 20000 in
theorem ggX5_run_X5_in : GoodIn wsX5_run wsX5_in := goodIn_r _ [13] (by decide +kernel) (by decide +kernel)
set_option maxRecDepth 20000 in
theorem gX5_run_X5_in : GoodIn wsX5_run (va_wsS RX5 39 yX5_in wsX5_in) := goodIn_app (goodIn_of _ (by decide +kernel)) ggX5_run_X5_in
set_option maxRecDepth 20000 in
theorem ggX5_run_X5_number : GoodIn wsX5_run wsX5_number := goodIn_r _ [17, 18, 3, 19, 4, 20, 21, 22, 23, 8, 24, 25, 26, 27, 28, 29, 30, 31, 32, 33, 34, 35, 36, 37, 38, 39, 51, 52, 53, 54, 55, 56, 57, 58, 59, 60, 61, 62, 63, 64, 65, 66, 67] (by decide +kernel) (by decide +kernel)
set_option maxRecDepth 20000 in
theorem gX5_run_X5_number : GoodIn wsX5_run (wsV RX5 111 RX5 yX5_number wsX5_number) := goodIn_app (goodIn_of _ (by decide +kernel)) ggX5_run_X5_number
set_option maxRecDepth 20000 in
theorem ggX5_run_X5_ended : GoodIn wsX5_run wsX5_ended := goodIn_r _ [43, 35, 44, 45, 46, 47, 8, 48, 49, 50, 51, 52, 53, 54, 55, 56, 57, 58, 59, 60, 61, 62, 63, 64, 65, 66, 67] (by decide +kernel) (by decide +kernel)
set_option maxRecDepth 20000 in
theorem gX5_run_X5_ended : GoodIn wsX5_run (wsV RX5 115 RX5 yX5_ended wsX5_ended) := goodIn_app (goodIn_of _ (by decide +kernel)) ggX5_run_X5_ended
theorem dX5_run_0 : decode cX5_run 0 = .ok (.aload_n 0, 1) := by decide +kernel
theorem dX5_run_1 : decode cX5_run 1 = .ok (.iload_n 1, 1) := by decide +kernel
theorem dX5_run_2 : decode cX5_run 2 = .ok (.invokevirtual 60, 3) := by decide +kernel
theorem dX5_run_5 : decode cX5_run 5 = .ok (.ifCond .eq 15, 3) := by decide +kernel
theorem dX5_run_8 : decode cX5_run 8 = .ok (.iload_n 2, 1) := by decide +kernel
theorem dX5_run_9 : decode cX5_run 9 = .ok (.i2l, 1) := by decide +kernel
theorem dX5_run_10 : decode cX5_run 10 = .ok (.lconst 1, 1) := by decide +kernel
theorem dX5_run_11 : decode cX5_run 11 = .ok (.ldc2_w 109, 3) := by decide +kernel
theorem dX5_run_14 : decode cX5_run 14 = .ok (.invokestatic 39, 3) := by decide +kernel
theorem dX5_run_17 : decode cX5_run 17 = .ok (.ifCond .ne 6, 3) := by decide +kernel
theorem dX5_run_20 : decode cX5_run 20 = .ok (.ldc 48, 2) := by decide +kernel
theorem dX5_run_22 : decode cX5_run 22 = .ok (.ireturn, 1) := by decide +kernel
theorem dX5_run_23 : decode cX5_run 23 = .ok (.aload_n 0, 1) := by decide +kernel
theorem dX5_run_24 : decode cX5_run 24 = .ok (.iconst 0, 1) := by decide +kernel
theorem dX5_run_25 : decode cX5_run 25 = .ok (.putfield 52, 3) := by decide +kernel
theorem dX5_run_28 : decode cX5_run 28 = .ok (.aload_n 0, 1) := by decide +kernel
theorem dX5_run_29 : decode cX5_run 29 = .ok (.iload_n 1, 1) := by decide +kernel
theorem dX5_run_30 : decode cX5_run 30 = .ok (.iload_n 2, 1) := by decide +kernel
theorem dX5_run_31 : decode cX5_run 31 = .ok (.invokevirtual 111, 3) := by decide +kernel
theorem dX5_run_34 : decode cX5_run 34 = .ok (.istore_n 3, 1) := by decide +kernel
theorem dX5_run_35 : decode cX5_run 35 = .ok (.aload_n 0, 1) := by decide +kernel
theorem dX5_run_36 : decode cX5_run 36 = .ok (.iload_n 3, 1) := by decide +kernel
theorem dX5_run_37 : decode cX5_run 37 = .ok (.aload_n 0, 1) := by decide +kernel
theorem dX5_run_38 : decode cX5_run 38 = .ok (.getfield 91, 3) := by decide +kernel
theorem dX5_run_41 : decode cX5_run 41 = .ok (.invokevirtual 115, 3) := by decide +kernel
theorem dX5_run_44 : decode cX5_run 44 = .ok (.ireturn, 1) := by decide +kernel
set_option maxRecDepth 20000 in
theorem ggX5_either_X5_isThing : GoodIn wsX5_either wsX5_isThing := goodIn_r _ [9, 10, 11, 12, 8, 13, 51, 52, 53, 54, 55, 56, 57, 58, 59, 60, 61, 62, 63, 64, 65, 66, 67] (by decide +kernel) (by decide +kernel)
set_option maxRecDepth 20000 in
theorem gX5_either_X5_isThing : GoodIn wsX5_either (wsV RX5 60 RX5 yX5_isThing wsX5_isThing) := goodIn_app (goodIn_of _ (by decide +kernel)) ggX5_either_X5_isThing
set_option maxRecDepth 20000 in
theorem ggX5_either_X5_in : GoodIn wsX5_either wsX5_in := goodIn_r _ [13] (by decide +kernel) (by decide +kernel)
set_option maxRecDepth 20000 in
theorem gX5_either_X5_in : GoodIn wsX5_either (va_wsS RX5 39 yX5_in wsX5_in) := goodIn_app (goodIn_of _ (by decide +kernel)) ggX5_either_X5_in
set_option maxRecDepth 20000 in
theorem ggX5_either_X5_number : GoodIn wsX5_either wsX5_number := goodIn_r _ [17, 18, 3, 19, 4, 20, 21, 22, 23, 8, 24, 25, 26, 27, 28, 29, 30, 31, 32, 33, 34, 35, 36, 37, 38, 39, 51, 52, 53, 54, 55, 56, 57, 58, 59, 60, 61, 62, 63, 64, 65, 66, 67] (by decide +kernel) (by decide +kernel)
set_option maxRecDepth 20000 in
theorem gX5_either_X5_number : GoodIn wsX5_either (wsV RX5 111 RX5 yX5_number wsX5_number) := goodIn_app (goodIn_of _ (by decide +kernel)) ggX5_either_X5_number
set_option maxRecDepth 20000 in
theorem ggX5_either_X5_ended : GoodIn wsX5_either wsX5_ended := goodIn_r _ [43, 35, 44, 45, 46, 47, 8, 48, 49, 50, 51, 52, 53, 54, 55, 56, 57, 58, 59, 60, 61, 62, 63, 64, 65, 66, 67] (by decide +kernel) (by decide +kernel)
set_option maxRecDepth 20000 in
theorem gX5_either_X5_ended : GoodIn wsX5_either (wsV RX5 115 RX5 yX5_ended wsX5_ended) := goodIn_app (goodIn_of _ (by decide +kernel)) ggX5_either_X5_ended
theorem dX5_either_0 : decode cX5_either 0 = .ok (.aload_n 0, 1) := by decide +kernel
theorem dX5_either_1 : decode cX5_either 1 = .ok (.iload_n 1, 1) := by decide +kernel
theorem dX5_either_2 : decode cX5_either 2 = .ok (.invokevirtual 60, 3) := by decide +kernel
theorem dX5_either_5 : decode cX5_either 5 = .ok (.ifCond .eq 23, 3) := by decide +kernel
theorem dX5_either_8 : decode cX5_either 8 = .ok (.aload_n 0, 1) := by decide +kernel
theorem dX5_either_9 : decode cX5_either 9 = .ok (.iload_n 2, 1) := by decide +kernel
theorem dX5_either_10 : decode cX5_either 10 = .ok (.invokevirtual 60, 3) := by decide +kernel
theorem dX5_either_13 : decode cX5_either 13 = .ok (.ifCond .eq 15, 3) := by decide +kernel
theorem dX5_either_16 : decode cX5_either 16 = .ok (.iload_n 3, 1) := by decide +kernel
theorem dX5_either_17 : decode cX5_either 17 = .ok (.i2l, 1) := by decide +kernel
theorem dX5_either_18 : decode cX5_either 18 = .ok (.lconst 1, 1) := by decide +kernel
theorem dX5_either_19 : decode cX5_either 19 = .ok (.ldc2_w 109, 3) := by decide +kernel
theorem dX5_either_22 : decode cX5_either 22 = .ok (.invokestatic 39, 3) := by decide +kernel
theorem dX5_either_25 : decode cX5_either 25 = .ok (.ifCond .ne 6, 3) := by decide +kernel
theorem dX5_either_28 : decode cX5_either 28 = .ok (.ldc 48, 2) := by decide +kernel
theorem dX5_either_30 : decode cX5_either 30 = .ok (.ireturn, 1) := by decide +kernel
theorem dX5_either_31 : decode cX5_either 31 = .ok (.aload_n 0, 1) := by decide +kernel
theorem dX5_either_32 : decode cX5_either 32 = .ok (.iconst 0, 1) := by decide +kernel
theorem dX5_either_33 : decode cX5_either 33 = .ok (.putfield 52, 3) := by decide +kernel
theorem dX5_either_36 : decode cX5_either 36 = .ok (.aload_n 0, 1) := by decide +kernel
theorem dX5_either_37 : decode cX5_either 37 = .ok (.iload_n 1, 1) := by decide +kernel
theorem dX5_either_38 : decode cX5_either 38 = .ok (.iload_n 3, 1) := by decide +kernel
theorem dX5_either_39 : decode cX5_either 39 = .ok (.invokevirtual 111, 3) := by decide +kernel
theorem dX5_either_42 : decode cX5_either 42 = .ok (.istore 4, 2) := by decide +kernel
theorem dX5_either_44 : decode cX5_either 44 = .ok (.iload 4, 2) := by decide +kernel
theorem dX5_either_46 : decode cX5_either 46 = .ok (.iconst 1, 1) := by decide +kernel
theorem dX5_either_47 : decode cX5_either 47 = .ok (.if_icmp .lt 18, 3) := by decide +kernel
theorem dX5_either_50 : decode cX5_either 50 = .ok (.iload 4, 2) := by decide +kernel
theorem dX5_either_52 : decode cX5_either 52 = .ok (.bipush 7, 2) := by decide +kernel
theorem dX5_either_54 : decode cX5_either 54 = .ok (.if_icmp .gt 11, 3) := by decide +kernel
theorem dX5_either_57 : decode cX5_either 57 = .ok (.aload_n 0, 1) := by decide +kernel
theorem dX5_either_58 : decode cX5_either 58 = .ok (.iload_n 2, 1) := by decide +kernel
theorem dX5_either_59 : decode cX5_either 59 = .ok (.iload_n 3, 1) := by decide +kernel
theorem dX5_either_60 : decode cX5_either 60 = .ok (.invokevirtual 111, 3) := by decide +kernel
theorem dX5_either_63 : decode cX5_either 63 = .ok (.istore 4, 2) := by decide +kernel
theorem dX5_either_65 : decode cX5_either 65 = .ok (.aload_n 0, 1) := by decide +kernel
theorem dX5_either_66 : decode cX5_either 66 = .ok (.iload 4, 2) := by decide +kernel
theorem dX5_either_68 : decode cX5_either 68 = .ok (.aload_n 0, 1) := by decide +kernel
theorem dX5_either_69 : decode cX5_either 69 = .ok (.getfield 91, 3) := by decide +kernel
theorem dX5_either_72 : decode cX5_either 72 = .ok (.invokevirtual 115, 3) := by decide +kernel
theorem dX5_either_75 : decode cX5_either 75 = .ok (.ireturn, 1) := by decide +kernel
set_option maxRecDepth 20000 in
theorem ggX5_gather_X5_isThing : GoodIn wsX5_gather wsX5_isThing := goodIn_r _ [12, 13, 14, 15, 11, 16, 51, 52, 53, 54, 55, 56, 57, 58, 59, 60, 61, 62, 63, 64, 65, 66, 67] (by decide +kernel) (by decide +kernel)
set_option maxRecDepth 20000 in
theorem gX5_gather_X5_isThing : GoodIn wsX5_gather (wsV RX5 60 RX5 yX5_isThing wsX5_isThing) := goodIn_app (goodIn_of _ (by decide +kernel)) ggX5_gather_X5_isThing
set_option maxRecDepth 20000 in
theorem ggX5_gather_X5_in : GoodIn wsX5_gather wsX5_in := goodIn_r _ [16] (by decide +kernel) (by decide +kernel)
set_option maxRecDepth 20000 in
theorem gX5_gather_X5_in : GoodIn wsX5_gather (va_wsS RX5 39 yX5_in wsX5_in) := goodIn_app (goodIn_of _ (by decide +kernel)) ggX5_gather_X5_in
set_option maxRecDepth 20000 in
theorem ggX5_gather_X5_number : GoodIn wsX5_gather wsX5_number := goodIn_r _ [20, 4, 3, 21, 7, 22, 23, 24, 25, 11, 26, 5, 27, 28, 29, 30, 31, 32, 33, 34, 6, 35, 36, 37, 38, 39, 51, 52, 53, 54, 55, 56, 57, 58, 59, 60, 61, 62, 63, 64, 65, 66, 67] (by decide +kernel) (by decide +kernel)
set_option maxRecDepth 20000 in
theorem gX5_gather_X5_number : GoodIn wsX5_gather (wsV RX5 111 RX5 yX5_number wsX5_number) := goodIn_app (goodIn_of _ (by decide +kernel)) ggX5_gather_X5_number
set_option maxRecDepth 20000 in
theorem ggX5_gather_X5_ended : GoodIn wsX5_gather wsX5_ended := goodIn_r _ [43, 35, 44, 45, 46, 47, 11, 48, 49, 50, 51, 52, 53, 54, 55, 56, 57, 58, 59, 60, 61, 62, 63, 64, 65, 66, 67] (by decide +kernel) (by decide +kernel)
set_option maxRecDepth 20000 in
theorem gX5_gather_X5_ended : GoodIn wsX5_gather (wsV RX5 115 RX5 yX5_ended wsX5_ended) := goodIn_app (goodIn_of _ (by decide +kernel)) ggX5_gather_X5_ended
theorem dX5_gather_0 : decode cX5_gather 0 = .ok (.aload_n 0, 1) := by decide +kernel
theorem dX5_gather_1 : decode cX5_gather 1 = .ok (.iload_n 1, 1) := by decide +kernel
theorem dX5_gather_2 : decode cX5_gather 2 = .ok (.invokevirtual 60, 3) := by decide +kernel
theorem dX5_gather_5 : decode cX5_gather 5 = .ok (.ifCond .eq 15, 3) := by decide +kernel
theorem dX5_gather_8 : decode cX5_gather 8 = .ok (.iload_n 2, 1) := by decide +kernel
theorem dX5_gather_9 : decode cX5_gather 9 = .ok (.i2l, 1) := by decide +kernel
theorem dX5_gather_10 : decode cX5_gather 10 = .ok (.lconst 1, 1) := by decide +kernel
theorem dX5_gather_11 : decode cX5_gather 11 = .ok (.ldc2_w 109, 3) := by decide +kernel
theorem dX5_gather_14 : decode cX5_gather 14 = .ok (.invokestatic 39, 3) := by decide +kernel
theorem dX5_gather_17 : decode cX5_gather 17 = .ok (.ifCond .ne 6, 3) := by decide +kernel
theorem dX5_gather_20 : decode cX5_gather 20 = .ok (.ldc 48, 2) := by decide +kernel
theorem dX5_gather_22 : decode cX5_gather 22 = .ok (.ireturn, 1) := by decide +kernel
theorem dX5_gather_23 : decode cX5_gather 23 = .ok (.aload_n 0, 1) := by decide +kernel
theorem dX5_gather_24 : decode cX5_gather 24 = .ok (.iconst 0, 1) := by decide +kernel
theorem dX5_gather_25 : decode cX5_gather 25 = .ok (.putfield 52, 3) := by decide +kernel
theorem dX5_gather_28 : decode cX5_gather 28 = .ok (.aload_n 0, 1) := by decide +kernel
theorem dX5_gather_29 : decode cX5_gather 29 = .ok (.iconst 0, 1) := by decide +kernel
theorem dX5_gather_30 : decode cX5_gather 30 = .ok (.putfield 55, 3) := by decide +kernel
theorem dX5_gather_33 : decode cX5_gather 33 = .ok (.aload_n 0, 1) := by decide +kernel
theorem dX5_gather_34 : decode cX5_gather 34 = .ok (.getfield 16, 3) := by decide +kernel
theorem dX5_gather_37 : decode cX5_gather 37 = .ok (.iload_n 1, 1) := by decide +kernel
theorem dX5_gather_38 : decode cX5_gather 38 = .ok (.iaload, 1) := by decide +kernel
theorem dX5_gather_39 : decode cX5_gather 39 = .ok (.iconst (-1), 1) := by decide +kernel
theorem dX5_gather_40 : decode cX5_gather 40 = .ok (.if_icmp .ne 7, 3) := by decide +kernel
theorem dX5_gather_43 : decode cX5_gather 43 = .ok (.iconst 1, 1) := by decide +kernel
theorem dX5_gather_44 : decode cX5_gather 44 = .ok (.goto 14, 3) := by decide +kernel
theorem dX5_gather_47 : decode cX5_gather 47 = .ok (.aload_n 0, 1) := by decide +kernel
theorem dX5_gather_48 : decode cX5_gather 48 = .ok (.aload_n 0, 1) := by decide +kernel
theorem dX5_gather_49 : decode cX5_gather 49 = .ok (.getfield 16, 3) := by decide +kernel
theorem dX5_gather_52 : decode cX5_gather 52 = .ok (.iload_n 1, 1) := by decide +kernel
theorem dX5_gather_53 : decode cX5_gather 53 = .ok (.iaload, 1) := by decide +kernel
theorem dX5_gather_54 : decode cX5_gather 54 = .ok (.iload_n 2, 1) := by decide +kernel
theorem dX5_gather_55 : decode cX5_gather 55 = .ok (.invokevirtual 111, 3) := by decide +kernel
theorem dX5_gather_58 : decode cX5_gather 58 = .ok (.istore_n 3, 1) := by decide +kernel
theorem dX5_gather_59 : decode cX5_gather 59 = .ok (.aload_n 0, 1) := by decide +kernel
theorem dX5_gather_60 : decode cX5_gather 60 = .ok (.getfield 13, 3) := by decide +kernel
theorem dX5_gather_63 : decode cX5_gather 63 = .ok (.iload_n 1, 1) := by decide +kernel
theorem dX5_gather_64 : decode cX5_gather 64 = .ok (.dup2, 1) := by decide +kernel
theorem dX5_gather_65 : decode cX5_gather 65 = .ok (.iaload, 1) := by decide +kernel
theorem dX5_gather_66 : decode cX5_gather 66 = .ok (.iload_n 3, 1) := by decide +kernel
theorem dX5_gather_67 : decode cX5_gather 67 = .ok (.ifCond .ne 10, 3) := by decide +kernel
theorem dX5_gather_70 : decode cX5_gather 70 = .ok (.aload_n 0, 1) := by decide +kernel
theorem dX5_gather_71 : decode cX5_gather 71 = .ok (.getfield 91, 3) := by decide +kernel
theorem dX5_gather_74 : decode cX5_gather 74 = .ok (.goto 4, 3) := by decide +kernel
theorem dX5_gather_77 : decode cX5_gather 77 = .ok (.iconst 0, 1) := by decide +kernel
theorem dX5_gather_78 : decode cX5_gather 78 = .ok (.iadd, 1) := by decide +kernel
theorem dX5_gather_79 : decode cX5_gather 79 = .ok (.iastore, 1) := by decide +kernel
theorem dX5_gather_80 : decode cX5_gather 80 = .ok (.aload_n 0, 1) := by decide +kernel
theorem dX5_gather_81 : decode cX5_gather 81 = .ok (.iload_n 3, 1) := by decide +kernel
theorem dX5_gather_82 : decode cX5_gather 82 = .ok (.aload_n 0, 1) := by decide +kernel
theorem dX5_gather_83 : decode cX5_gather 83 = .ok (.getfield 13, 3) := by decide +kernel
theorem dX5_gather_86 : decode cX5_gather 86 = .ok (.iload_n 1, 1) := by decide +kernel
theorem dX5_gather_87 : decode cX5_gather 87 = .ok (.iaload, 1) := by decide +kernel
theorem dX5_gather_88 : decode cX5_gather 88 = .ok (.invokevirtual 115, 3) := by decide +kernel
theorem dX5_gather_91 : decode cX5_gather 91 = .ok (.ireturn, 1) := by decide +kernel
set_option maxRecDepth 20000 in
theorem ggX5_keep_X5_isThing : GoodIn wsX5_keep wsX5_isThing := goodIn_r _ [12, 13, 14, 15, 11, 16, 55, 56, 57, 58, 59, 60, 61, 62, 63, 64, 65, 66, 67, 68, 69, 70, 71] (by decide +kernel) (by decide +kernel)
set_option maxRecDepth 20000 in
theorem gX5_keep_X5_isThing : GoodIn wsX5_keep (wsV RX5 60 RX5 yX5_isThing wsX5_isThing) := goodIn_app (goodIn_of _ (by decide +kernel)) ggX5_keep_X5_isThing
set_option maxRecDepth 20000 in
theorem ggX5_keep_X5_in : GoodIn wsX5_keep wsX5_in := goodIn_r _ [16] (by decide +kernel) (by decide +kernel)
set_option maxRecDepth 20000 in
theorem gX5_keep_X5_in : GoodIn wsX5_keep (va_wsS RX5 39 yX5_in wsX5_in) := goodIn_app (goodIn_of _ (by decide +kernel)) ggX5_keep_X5_in
set_option maxRecDepth 20000 in
theorem ggX5_keep_X5_number : GoodIn wsX5_keep wsX5_number := goodIn_r _ [20, 21, 3, 22, 7, 23, 24, 25, 26, 11, 27, 28, 4, 29, 5, 6, 30, 31, 32, 33, 34, 35, 36, 37, 38, 39, 55, 56, 57, 58, 59, 60, 61, 62, 63, 64, 65, 66, 67, 68, 69, 70, 71] (by decide +kernel) (by decide +kernel)
set_option maxRecDepth 20000 in
theorem gX5_keep_X5_number : GoodIn wsX5_keep (wsV RX5 111 RX5 yX5_number wsX5_number) := goodIn_app (goodIn_of _ (by decide +kernel)) ggX5_keep_X5_number
set_option maxRecDepth 20000 in
theorem ggX5_keep_X5_isItem : GoodIn wsX5_keep wsX5_isItem := goodIn_r _ [43, 29, 4, 14, 15, 11, 16, 55, 56, 57, 58, 59, 60, 61, 62, 63, 64, 65, 66, 67, 68, 69, 70, 71] (by decide +kernel) (by decide +kernel)
set_option maxRecDepth 20000 in
theorem gX5_keep_X5_isItem : GoodIn wsX5_keep (wsV RX5 80 RX5 yX5_isItem wsX5_isItem) := goodIn_app (goodIn_of _ (by decide +kernel)) ggX5_keep_X5_isItem
set_option maxRecDepth 20000 in
theorem ggX5_keep_X5_ended : GoodIn wsX5_keep wsX5_ended := goodIn_r _ [47, 35, 48, 49, 50, 51, 11, 52, 53, 54, 55, 56, 57, 58, 59, 60, 61, 62, 63, 64, 65, 66, 67, 68, 69, 70, 71] (by decide +kernel) (by decide +kernel)
set_option maxRecDepth 20000 in
theorem gX5_keep_X5_ended : GoodIn wsX5_keep (wsV RX5 115 RX5 yX5_ended wsX5_ended) := goodIn_app (goodIn_of _ (by decide +kernel)) ggX5_keep_X5_ended
theorem dX5_keep_0 : decode cX5_keep 0 = .ok (.aload_n 0, 1) := by decide +kernel
theorem dX5_keep_1 : decode cX5_keep 1 = .ok (.iload_n 1, 1) := by decide +kernel
theorem dX5_keep_2 : decode cX5_keep 2 = .ok (.invokevirtual 60, 3) := by decide +kernel
theorem dX5_keep_5 : decode cX5_keep 5 = .ok (.ifCond .eq 24, 3) := by decide +kernel
theorem dX5_keep_8 : decode cX5_keep 8 = .ok (.aload_n 0, 1) := by decide +kernel
theorem dX5_keep_9 : decode cX5_keep 9 = .ok (.iload_n 2, 1) := by decide +kernel
theorem dX5_keep_10 : decode cX5_keep 10 = .ok (.invokevirtual 60, 3) := by decide +kernel
theorem dX5_keep_13 : decode cX5_keep 13 = .ok (.ifCond .eq 16, 3) := by decide +kernel
theorem dX5_keep_16 : decode cX5_keep 16 = .ok (.iload 4, 2) := by decide +kernel
theorem dX5_keep_18 : decode cX5_keep 18 = .ok (.i2l, 1) := by decide +kernel
theorem dX5_keep_19 : decode cX5_keep 19 = .ok (.lconst 1, 1) := by decide +kernel
theorem dX5_keep_20 : decode cX5_keep 20 = .ok (.ldc2_w 109, 3) := by decide +kernel
theorem dX5_keep_23 : decode cX5_keep 23 = .ok (.invokestatic 39, 3) := by decide +kernel
theorem dX5_keep_26 : decode cX5_keep 26 = .ok (.ifCond .ne 6, 3) := by decide +kernel
theorem dX5_keep_29 : decode cX5_keep 29 = .ok (.ldc 48, 2) := by decide +kernel
theorem dX5_keep_31 : decode cX5_keep 31 = .ok (.ireturn, 1) := by decide +kernel
theorem dX5_keep_32 : decode cX5_keep 32 = .ok (.aload_n 0, 1) := by decide +kernel
theorem dX5_keep_33 : decode cX5_keep 33 = .ok (.iconst 0, 1) := by decide +kernel
theorem dX5_keep_34 : decode cX5_keep 34 = .ok (.putfield 52, 3) := by decide +kernel
theorem dX5_keep_37 : decode cX5_keep 37 = .ok (.aload_n 0, 1) := by decide +kernel
theorem dX5_keep_38 : decode cX5_keep 38 = .ok (.iload_n 1, 1) := by decide +kernel
theorem dX5_keep_39 : decode cX5_keep 39 = .ok (.iload 4, 2) := by decide +kernel
theorem dX5_keep_41 : decode cX5_keep 41 = .ok (.invokevirtual 111, 3) := by decide +kernel
theorem dX5_keep_44 : decode cX5_keep 44 = .ok (.istore 5, 2) := by decide +kernel
theorem dX5_keep_46 : decode cX5_keep 46 = .ok (.aload_n 0, 1) := by decide +kernel
theorem dX5_keep_47 : decode cX5_keep 47 = .ok (.getfield 19, 3) := by decide +kernel
theorem dX5_keep_50 : decode cX5_keep 50 = .ok (.iload_n 2, 1) := by decide +kernel
theorem dX5_keep_51 : decode cX5_keep 51 = .ok (.iaload, 1) := by decide +kernel
theorem dX5_keep_52 : decode cX5_keep 52 = .ok (.istore 6, 2) := by decide +kernel
theorem dX5_keep_54 : decode cX5_keep 54 = .ok (.iload 5, 2) := by decide +kernel
theorem dX5_keep_56 : decode cX5_keep 56 = .ok (.ifCond .ne 43, 3) := by decide +kernel
theorem dX5_keep_59 : decode cX5_keep 59 = .ok (.iload 6, 2) := by decide +kernel
theorem dX5_keep_61 : decode cX5_keep 61 = .ok (.iconst (-1), 1) := by decide +kernel
theorem dX5_keep_62 : decode cX5_keep 62 = .ok (.if_icmp .ne 7, 3) := by decide +kernel
theorem dX5_keep_65 : decode cX5_keep 65 = .ok (.iconst 1, 1) := by decide +kernel
theorem dX5_keep_66 : decode cX5_keep 66 = .ok (.goto 31, 3) := by decide +kernel
theorem dX5_keep_69 : decode cX5_keep 69 = .ok (.aload_n 0, 1) := by decide +kernel
theorem dX5_keep_70 : decode cX5_keep 70 = .ok (.getfield 22, 3) := by decide +kernel
theorem dX5_keep_73 : decode cX5_keep 73 = .ok (.iload 6, 2) := by decide +kernel
theorem dX5_keep_75 : decode cX5_keep 75 = .ok (.iaload, 1) := by decide +kernel
theorem dX5_keep_76 : decode cX5_keep 76 = .ok (.ifCond .eq 7, 3) := by decide +kernel
theorem dX5_keep_79 : decode cX5_keep 79 = .ok (.iconst 2, 1) := by decide +kernel
theorem dX5_keep_80 : decode cX5_keep 80 = .ok (.goto 17, 3) := by decide +kernel
