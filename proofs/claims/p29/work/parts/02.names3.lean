set_option maxRecDepth 20000 in
theorem gL_circuits_X0_coilAt : GoodIn wsL_circuits (wsV RL 65 RX0 yX0_coilAt wsX0_coilAt) := goodIn_app (goodIn_of _ (by decide +kernel)) ggL_circuits_X0_coilAt
set_option maxRecDepth 20000 in
theorem ggL_circuits_X0_circuitOf : GoodIn wsL_circuits wsX0_circuitOf := goodIn_r _ [29, 14, 15, 16, 17, 11, 18, 19, 20, 21, 22, 13, 23, 24, 25, 51, 52, 53, 54, 55, 56, 57, 58, 59, 60, 61] (by decide +kernel) (by decide +kernel)
set_option maxRecDepth 20000 in
theorem gL_circuits_X0_circuitOf : GoodIn wsL_circuits (wsV RL 68 RX0 yX0_circuitOf wsX0_circuitOf) := goodIn_app (goodIn_of _ (by decide +kernel)) ggL_circuits_X0_circuitOf
set_option maxRecDepth 20000 in
theorem ggL_circuits_X0_endBar : GoodIn wsL_circuits wsX0_endBar := goodIn_r _ [33, 14, 13, 23, 24, 11, 25, 51, 52, 53, 54, 55, 56, 57, 58, 59, 60, 61] (by decide +kernel) (by decide +kernel)
set_option maxRecDepth 20000 in
theorem gL_circuits_X0_endBar : GoodIn wsL_circuits (wsV RL 71 RX0 yX0_endBar wsX0_endBar) := goodIn_app (goodIn_of _ (by decide +kernel)) ggL_circuits_X0_endBar
set_option maxRecDepth 20000 in
theorem ggL_circuits_L_isOpen : GoodIn wsL_circuits wsL_isOpen := goodIn_r _ [36] (by decide +kernel) (by decide +kernel)
set_option maxRecDepth 20000 in
theorem gL_circuits_L_isOpen : GoodIn wsL_circuits (va_wsS RL 25 yL_isOpen wsL_isOpen) := goodIn_app (goodIn_of _ (by decide +kernel)) ggL_circuits_L_isOpen
set_option maxRecDepth 20000 in
theorem ggL_circuits_X0_circuitCount : GoodIn wsL_circuits wsX0_circuitCount := goodIn_r _ [18, 14, 19, 20, 21, 11, 22, 13, 23, 24, 25, 51, 52, 53, 54, 55, 56, 57, 58, 59, 60, 61] (by decide +kernel) (by decide +kernel)
set_option maxRecDepth 20000 in
theorem gL_circuits_X0_circuitCount : GoodIn wsL_circuits (wsV RL 74 RX0 yX0_circuitCount wsX0_circuitCount) := goodIn_app (goodIn_of _ (by decide +kernel)) ggL_circuits_X0_circuitCount
set_option maxRecDepth 20000 in
theorem ggL_circuits_X0_closedCircuits : GoodIn wsL_circuits wsX0_closedCircuits := goodIn_r _ [41, 15, 16, 17, 11, 18, 14, 19, 20, 21, 22, 13, 23, 24, 25, 42, 43, 44, 45, 46, 47, 48, 49, 50, 51, 52, 53, 54, 55, 56, 57, 58, 59, 60, 61] (by decide +kernel) (by decide +kernel)
set_option maxRecDepth 20000 in
theorem gL_circuits_X0_closedCircuits : GoodIn wsL_circuits (wsV RL 78 RX0 yX0_closedCircuits wsX0_closedCircuits) := goodIn_app (goodIn_of _ (by decide +kernel)) ggL_circuits_X0_closedCircuits
theorem dL_circuits_0 : decode cL_circuits 0 = .ok (.aload_n 1, 1) := by decide +kernel
theorem dL_circuits_1 : decode cL_circuits 1 = .ok (.bipush 7, 2) := by decide +kernel
theorem dL_circuits_3 : decode cL_circuits 3 = .ok (.iaload, 1) := by decide +kernel
theorem dL_circuits_4 : decode cL_circuits 4 = .ok (.aload_n 1, 1) := by decide +kernel
theorem dL_circuits_5 : decode cL_circuits 5 = .ok (.iconst 3, 1) := by decide +kernel
theorem dL_circuits_6 : decode cL_circuits 6 = .ok (.iaload, 1) := by decide +kernel
theorem dL_circuits_7 : decode cL_circuits 7 = .ok (.invokestatic 29, 3) := by decide +kernel
theorem dL_circuits_10 : decode cL_circuits 10 = .ok (.aload_n 1, 1) := by decide +kernel
theorem dL_circuits_11 : decode cL_circuits 11 = .ok (.iconst 3, 1) := by decide +kernel
theorem dL_circuits_12 : decode cL_circuits 12 = .ok (.iaload, 1) := by decide +kernel
theorem dL_circuits_13 : decode cL_circuits 13 = .ok (.invokestatic 62, 3) := by decide +kernel
theorem dL_circuits_16 : decode cL_circuits 16 = .ok (.istore_n 3, 1) := by decide +kernel
theorem dL_circuits_17 : decode cL_circuits 17 = .ok (.aload_n 1, 1) := by decide +kernel
theorem dL_circuits_18 : decode cL_circuits 18 = .ok (.bipush 7, 2) := by decide +kernel
theorem dL_circuits_20 : decode cL_circuits 20 = .ok (.iaload, 1) := by decide +kernel
theorem dL_circuits_21 : decode cL_circuits 21 = .ok (.aload_n 1, 1) := by decide +kernel
theorem dL_circuits_22 : decode cL_circuits 22 = .ok (.iconst 3, 1) := by decide +kernel
theorem dL_circuits_23 : decode cL_circuits 23 = .ok (.iaload, 1) := by decide +kernel
theorem dL_circuits_24 : decode cL_circuits 24 = .ok (.invokestatic 29, 3) := by decide +kernel
theorem dL_circuits_27 : decode cL_circuits 27 = .ok (.ifCond .ne 9, 3) := by decide +kernel
theorem dL_circuits_30 : decode cL_circuits 30 = .ok (.aload_n 1, 1) := by decide +kernel
theorem dL_circuits_31 : decode cL_circuits 31 = .ok (.iconst 3, 1) := by decide +kernel
theorem dL_circuits_32 : decode cL_circuits 32 = .ok (.iaload, 1) := by decide +kernel
theorem dL_circuits_33 : decode cL_circuits 33 = .ok (.goto 4, 3) := by decide +kernel
theorem dL_circuits_36 : decode cL_circuits 36 = .ok (.iload_n 3, 1) := by decide +kernel
theorem dL_circuits_37 : decode cL_circuits 37 = .ok (.istore_n 3, 1) := by decide +kernel
theorem dL_circuits_38 : decode cL_circuits 38 = .ok (.iconst 0, 1) := by decide +kernel
theorem dL_circuits_39 : decode cL_circuits 39 = .ok (.istore 4, 2) := by decide +kernel
theorem dL_circuits_41 : decode cL_circuits 41 = .ok (.iconst 0, 1) := by decide +kernel
theorem dL_circuits_42 : decode cL_circuits 42 = .ok (.istore 5, 2) := by decide +kernel
theorem dL_circuits_44 : decode cL_circuits 44 = .ok (.iconst (-1), 1) := by decide +kernel
theorem dL_circuits_45 : decode cL_circuits 45 = .ok (.istore 6, 2) := by decide +kernel
theorem dL_circuits_47 : decode cL_circuits 47 = .ok (.iconst 0, 1) := by decide +kernel
theorem dL_circuits_48 : decode cL_circuits 48 = .ok (.istore 7, 2) := by decide +kernel
theorem dL_circuits_50 : decode cL_circuits 50 = .ok (.iload 7, 2) := by decide +kernel
theorem dL_circuits_52 : decode cL_circuits 52 = .ok (.iload_n 3, 1) := by decide +kernel
theorem dL_circuits_53 : decode cL_circuits 53 = .ok (.if_icmp .ge 217, 3) := by decide +kernel
theorem dL_circuits_56 : decode cL_circuits 56 = .ok (.aload_n 1, 1) := by decide +kernel
theorem dL_circuits_57 : decode cL_circuits 57 = .ok (.iconst 3, 1) := by decide +kernel
theorem dL_circuits_58 : decode cL_circuits 58 = .ok (.iaload, 1) := by decide +kernel
theorem dL_circuits_59 : decode cL_circuits 59 = .ok (.iload_n 3, 1) := by decide +kernel
theorem dL_circuits_60 : decode cL_circuits 60 = .ok (.idiv, 1) := by decide +kernel
theorem dL_circuits_61 : decode cL_circuits 61 = .ok (.istore 8, 2) := by decide +kernel
theorem dL_circuits_63 : decode cL_circuits 63 = .ok (.iconst 1, 1) := by decide +kernel
theorem dL_circuits_64 : decode cL_circuits 64 = .ok (.istore 9, 2) := by decide +kernel
theorem dL_circuits_66 : decode cL_circuits 66 = .ok (.iconst 0, 1) := by decide +kernel
theorem dL_circuits_67 : decode cL_circuits 67 = .ok (.istore 10, 2) := by decide +kernel
theorem dL_circuits_69 : decode cL_circuits 69 = .ok (.iload 10, 2) := by decide +kernel
theorem dL_circuits_71 : decode cL_circuits 71 = .ok (.iload 8, 2) := by decide +kernel
theorem dL_circuits_73 : decode cL_circuits 73 = .ok (.if_icmp .ge 102, 3) := by decide +kernel
theorem dL_circuits_76 : decode cL_circuits 76 = .ok (.aload_n 0, 1) := by decide +kernel
theorem dL_circuits_77 : decode cL_circuits 77 = .ok (.iload 7, 2) := by decide +kernel
theorem dL_circuits_79 : decode cL_circuits 79 = .ok (.iload 10, 2) := by decide +kernel
theorem dL_circuits_81 : decode cL_circuits 81 = .ok (.invokevirtual 65, 3) := by decide +kernel
theorem dL_circuits_84 : decode cL_circuits 84 = .ok (.istore 11, 2) := by decide +kernel
theorem dL_circuits_86 : decode cL_circuits 86 = .ok (.iload 11, 2) := by decide +kernel
theorem dL_circuits_88 : decode cL_circuits 88 = .ok (.ifCond .lt 55, 3) := by decide +kernel
theorem dL_circuits_91 : decode cL_circuits 91 = .ok (.aload_n 0, 1) := by decide +kernel
theorem dL_circuits_92 : decode cL_circuits 92 = .ok (.iload 11, 2) := by decide +kernel
theorem dL_circuits_94 : decode cL_circuits 94 = .ok (.invokevirtual 68, 3) := by decide +kernel
theorem dL_circuits_97 : decode cL_circuits 97 = .ok (.iload 7, 2) := by decide +kernel
theorem dL_circuits_99 : decode cL_circuits 99 = .ok (.if_icmp .ne 44, 3) := by decide +kernel
theorem dL_circuits_102 : decode cL_circuits 102 = .ok (.iload 10, 2) := by decide +kernel
theorem dL_circuits_104 : decode cL_circuits 104 = .ok (.ifCond .le 22, 3) := by decide +kernel
theorem dL_circuits_107 : decode cL_circuits 107 = .ok (.iload 11, 2) := by decide +kernel
theorem dL_circuits_109 : decode cL_circuits 109 = .ok (.aload_n 0, 1) := by decide +kernel
theorem dL_circuits_110 : decode cL_circuits 110 = .ok (.aload_n 0, 1) := by decide +kernel
theorem dL_circuits_111 : decode cL_circuits 111 = .ok (.iload 7, 2) := by decide +kernel
theorem dL_circuits_113 : decode cL_circuits 113 = .ok (.iload 10, 2) := by decide +kernel
theorem dL_circuits_115 : decode cL_circuits 115 = .ok (.iconst 1, 1) := by decide +kernel
theorem dL_circuits_116 : decode cL_circuits 116 = .ok (.isub, 1) := by decide +kernel
theorem dL_circuits_117 : decode cL_circuits 117 = .ok (.invokevirtual 65, 3) := by decide +kernel
theorem dL_circuits_120 : decode cL_circuits 120 = .ok (.invokevirtual 71, 3) := by decide +kernel
theorem dL_circuits_123 : decode cL_circuits 123 = .ok (.if_icmp .ne 20, 3) := by decide +kernel
theorem dL_circuits_126 : decode cL_circuits 126 = .ok (.iload 10, 2) := by decide +kernel
theorem dL_circuits_128 : decode cL_circuits 128 = .ok (.ifCond .le 17, 3) := by decide +kernel
theorem dL_circuits_131 : decode cL_circuits 131 = .ok (.iload 11, 2) := by decide +kernel
theorem dL_circuits_133 : decode cL_circuits 133 = .ok (.aload_n 0, 1) := by decide +kernel
theorem dL_circuits_134 : decode cL_circuits 134 = .ok (.iload 7, 2) := by decide +kernel
theorem dL_circuits_136 : decode cL_circuits 136 = .ok (.iconst 0, 1) := by decide +kernel
theorem dL_circuits_137 : decode cL_circuits 137 = .ok (.invokevirtual 65, 3) := by decide +kernel
theorem dL_circuits_140 : decode cL_circuits 140 = .ok (.if_icmp .ge 5, 3) := by decide +kernel
theorem dL_circuits_143 : decode cL_circuits 143 = .ok (.iconst 0, 1) := by decide +kernel
theorem dL_circuits_144 : decode cL_circuits 144 = .ok (.ireturn, 1) := by decide +kernel
theorem dL_circuits_145 : decode cL_circuits 145 = .ok (.iload 9, 2) := by decide +kernel
theorem dL_circuits_147 : decode cL_circuits 147 = .ok (.ifCond .eq 16, 3) := by decide +kernel
theorem dL_circuits_150 : decode cL_circuits 150 = .ok (.aload_n 2, 1) := by decide +kernel
theorem dL_circuits_151 : decode cL_circuits 151 = .ok (.iload 11, 2) := by decide +kernel
theorem dL_circuits_153 : decode cL_circuits 153 = .ok (.invokestatic 25, 3) := by decide +kernel
theorem dL_circuits_156 : decode cL_circuits 156 = .ok (.ifCond .ne 7, 3) := by decide +kernel
theorem dL_circuits_159 : decode cL_circuits 159 = .ok (.iconst 1, 1) := by decide +kernel
theorem dL_circuits_160 : decode cL_circuits 160 = .ok (.goto 4, 3) := by decide +kernel
theorem dL_circuits_163 : decode cL_circuits 163 = .ok (.iconst 0, 1) := by decide +kernel
theorem dL_circuits_164 : decode cL_circuits 164 = .ok (.istore 9, 2) := by decide +kernel
theorem dL_circuits_166 : decode cL_circuits 166 = .ok (.iinc 4 1, 3) := by decide +kernel
theorem dL_circuits_169 : decode cL_circuits 169 = .ok (.iinc 10 1, 3) := by decide +kernel
theorem dL_circuits_172 : decode cL_circuits 172 = .ok (.goto (-103), 3) := by decide +kernel
theorem dL_circuits_175 : decode cL_circuits 175 = .ok (.aload_n 0, 1) := by decide +kernel
theorem dL_circuits_176 : decode cL_circuits 176 = .ok (.iload 7, 2) := by decide +kernel
theorem dL_circuits_178 : decode cL_circuits 178 = .ok (.iload 8, 2) := by decide +kernel
theorem dL_circuits_180 : decode cL_circuits 180 = .ok (.invokevirtual 65, 3) := by decide +kernel
theorem dL_circuits_183 : decode cL_circuits 183 = .ok (.sipush (-1004), 3) := by decide +kernel
theorem dL_circuits_186 : decode cL_circuits 186 = .ok (.if_icmp .ne 52, 3) := by decide +kernel
theorem dL_circuits_189 : decode cL_circuits 189 = .ok (.aload_n 0, 1) := by decide +kernel
theorem dL_circuits_190 : decode cL_circuits 190 = .ok (.iload 7, 2) := by decide +kernel
theorem dL_circuits_192 : decode cL_circuits 192 = .ok (.iconst (-1), 1) := by decide +kernel
theorem dL_circuits_193 : decode cL_circuits 193 = .ok (.invokevirtual 65, 3) := by decide +kernel
theorem dL_circuits_196 : decode cL_circuits 196 = .ok (.sipush (-1004), 3) := by decide +kernel
theorem dL_circuits_199 : decode cL_circuits 199 = .ok (.if_icmp .ne 39, 3) := by decide +kernel
theorem dL_circuits_202 : decode cL_circuits 202 = .ok (.aload_n 0, 1) := by decide +kernel
theorem dL_circuits_203 : decode cL_circuits 203 = .ok (.aload_n 0, 1) := by decide +kernel
theorem dL_circuits_204 : decode cL_circuits 204 = .ok (.iload 7, 2) := by decide +kernel
theorem dL_circuits_206 : decode cL_circuits 206 = .ok (.iload 8, 2) := by decide +kernel
theorem dL_circuits_208 : decode cL_circuits 208 = .ok (.iconst 1, 1) := by decide +kernel
theorem dL_circuits_209 : decode cL_circuits 209 = .ok (.isub, 1) := by decide +kernel
theorem dL_circuits_210 : decode cL_circuits 210 = .ok (.invokevirtual 65, 3) := by decide +kernel
theorem dL_circuits_213 : decode cL_circuits 213 = .ok (.invokevirtual 71, 3) := by decide +kernel
theorem dL_circuits_216 : decode cL_circuits 216 = .ok (.aload_n 0, 1) := by decide +kernel
theorem dL_circuits_217 : decode cL_circuits 217 = .ok (.iload 7, 2) := by decide +kernel
theorem dL_circuits_219 : decode cL_circuits 219 = .ok (.iconst 0, 1) := by decide +kernel
theorem dL_circuits_220 : decode cL_circuits 220 = .ok (.invokevirtual 65, 3) := by decide +kernel
theorem dL_circuits_223 : decode cL_circuits 223 = .ok (.if_icmp .ne 15, 3) := by decide +kernel
theorem dL_circuits_226 : decode cL_circuits 226 = .ok (.aload_n 0, 1) := by decide +kernel
theorem dL_circuits_227 : decode cL_circuits 227 = .ok (.iload 7, 2) := by decide +kernel
theorem dL_circuits_229 : decode cL_circuits 229 = .ok (.iconst 0, 1) := by decide +kernel
theorem dL_circuits_230 : decode cL_circuits 230 = .ok (.invokevirtual 65, 3) := by decide +kernel
theorem dL_circuits_233 : decode cL_circuits 233 = .ok (.iload 6, 2) := by decide +kernel
theorem dL_circuits_235 : decode cL_circuits 235 = .ok (.if_icmp .gt 5, 3) := by decide +kernel
theorem dL_circuits_238 : decode cL_circuits 238 = .ok (.iconst 0, 1) := by decide +kernel
theorem dL_circuits_239 : decode cL_circuits 239 = .ok (.ireturn, 1) := by decide +kernel
theorem dL_circuits_240 : decode cL_circuits 240 = .ok (.aload_n 0, 1) := by decide +kernel
theorem dL_circuits_241 : decode cL_circuits 241 = .ok (.iload 7, 2) := by decide +kernel
theorem dL_circuits_243 : decode cL_circuits 243 = .ok (.iconst 0, 1) := by decide +kernel
theorem dL_circuits_244 : decode cL_circuits 244 = .ok (.invokevirtual 65, 3) := by decide +kernel
theorem dL_circuits_247 : decode cL_circuits 247 = .ok (.istore 6, 2) := by decide +kernel
theorem dL_circuits_249 : decode cL_circuits 249 = .ok (.iload 5, 2) := by decide +kernel
theorem dL_circuits_251 : decode cL_circuits 251 = .ok (.iload 9, 2) := by decide +kernel
theorem dL_circuits_253 : decode cL_circuits 253 = .ok (.ifCond .eq 7, 3) := by decide +kernel
theorem dL_circuits_256 : decode cL_circuits 256 = .ok (.iconst 1, 1) := by decide +kernel
theorem dL_circuits_257 : decode cL_circuits 257 = .ok (.goto 4, 3) := by decide +kernel
theorem dL_circuits_260 : decode cL_circuits 260 = .ok (.iconst 0, 1) := by decide +kernel
theorem dL_circuits_261 : decode cL_circuits 261 = .ok (.iadd, 1) := by decide +kernel
theorem dL_circuits_262 : decode cL_circuits 262 = .ok (.istore 5, 2) := by decide +kernel
theorem dL_circuits_264 : decode cL_circuits 264 = .ok (.iinc 7 1, 3) := by decide +kernel
theorem dL_circuits_267 : decode cL_circuits 267 = .ok (.goto (-217), 3) := by decide +kernel
theorem dL_circuits_270 : decode cL_circuits 270 = .ok (.iload 4, 2) := by decide +kernel
theorem dL_circuits_272 : decode cL_circuits 272 = .ok (.aload_n 1, 1) := by decide +kernel
theorem dL_circuits_273 : decode cL_circuits 273 = .ok (.iconst 3, 1) := by decide +kernel
theorem dL_circuits_274 : decode cL_circuits 274 = .ok (.iaload, 1) := by decide +kernel
theorem dL_circuits_275 : decode cL_circuits 275 = .ok (.if_icmp .ne 62, 3) := by decide +kernel
theorem dL_circuits_278 : decode cL_circuits 278 = .ok (.aload_n 0, 1) := by decide +kernel
theorem dL_circuits_279 : decode cL_circuits 279 = .ok (.invokevirtual 74, 3) := by decide +kernel
theorem dL_circuits_282 : decode cL_circuits 282 = .ok (.iload_n 3, 1) := by decide +kernel
theorem dL_circuits_283 : decode cL_circuits 283 = .ok (.if_icmp .ne 54, 3) := by decide +kernel
theorem dL_circuits_286 : decode cL_circuits 286 = .ok (.aload_n 0, 1) := by decide +kernel
theorem dL_circuits_287 : decode cL_circuits 287 = .ok (.invokevirtual 78, 3) := by decide +kernel
theorem dL_circuits_290 : decode cL_circuits 290 = .ok (.iload 5, 2) := by decide +kernel
theorem dL_circuits_292 : decode cL_circuits 292 = .ok (.if_icmp .ne 45, 3) := by decide +kernel
theorem dL_circuits_295 : decode cL_circuits 295 = .ok (.aload_n 0, 1) := by decide +kernel
theorem dL_circuits_296 : decode cL_circuits 296 = .ok (.iload_n 3, 1) := by decide +kernel
theorem dL_circuits_297 : decode cL_circuits 297 = .ok (.iconst 0, 1) := by decide +kernel
theorem dL_circuits_298 : decode cL_circuits 298 = .ok (.invokevirtual 65, 3) := by decide +kernel
theorem dL_circuits_301 : decode cL_circuits 301 = .ok (.sipush (-1002), 3) := by decide +kernel
theorem dL_circuits_304 : decode cL_circuits 304 = .ok (.if_icmp .ne 33, 3) := by decide +kernel
theorem dL_circuits_307 : decode cL_circuits 307 = .ok (.aload_n 0, 1) := by decide +kernel
theorem dL_circuits_308 : decode cL_circuits 308 = .ok (.iconst (-1), 1) := by decide +kernel
theorem dL_circuits_309 : decode cL_circuits 309 = .ok (.bipush 9, 2) := by decide +kernel
theorem dL_circuits_311 : decode cL_circuits 311 = .ok (.invokevirtual 65, 3) := by decide +kernel
theorem dL_circuits_314 : decode cL_circuits 314 = .ok (.sipush (-1002), 3) := by decide +kernel
theorem dL_circuits_317 : decode cL_circuits 317 = .ok (.if_icmp .ne 20, 3) := by decide +kernel
theorem dL_circuits_320 : decode cL_circuits 320 = .ok (.aload_n 0, 1) := by decide +kernel
theorem dL_circuits_321 : decode cL_circuits 321 = .ok (.aload_n 1, 1) := by decide +kernel
theorem dL_circuits_322 : decode cL_circuits 322 = .ok (.iconst 3, 1) := by decide +kernel
theorem dL_circuits_323 : decode cL_circuits 323 = .ok (.iaload, 1) := by decide +kernel
theorem dL_circuits_324 : decode cL_circuits 324 = .ok (.invokevirtual 68, 3) := by decide +kernel
theorem dL_circuits_327 : decode cL_circuits 327 = .ok (.sipush (-1002), 3) := by decide +kernel
theorem dL_circuits_330 : decode cL_circuits 330 = .ok (.if_icmp .ne 7, 3) := by decide +kernel
theorem dL_circuits_333 : decode cL_circuits 333 = .ok (.iconst 1, 1) := by decide +kernel
theorem dL_circuits_334 : decode cL_circuits 334 = .ok (.goto 4, 3) := by decide +kernel
theorem dL_circuits_337 : decode cL_circuits 337 = .ok (.iconst 0, 1) := by decide +kernel
theorem dL_circuits_338 : decode cL_circuits 338 = .ok (.ireturn, 1) := by decide +kernel
set_option maxRecDepth 20000 in
theorem ggL_coils_X0_endBar : GoodIn wsL_coils wsX0_endBar := goodIn_r _ [5, 6, 7, 8, 9, 4, 10, 60, 61, 62, 63, 64, 65, 66, 67, 68, 69, 70] (by decide +kernel) (by decide +kernel)
set_option maxRecDepth 20000 in
theorem gL_coils_X0_endBar : GoodIn wsL_coils (wsV RL 71 RX0 yX0_endBar wsX0_endBar) := goodIn_app (goodIn_of _ (by decide +kernel)) ggL_coils_X0_endBar
set_option maxRecDepth 20000 in
theorem ggL_coils_L_mod : GoodIn wsL_coils wsL_mod := goodIn_r _ [14] (by decide +kernel) (by decide +kernel)
set_option maxRecDepth 20000 in
theorem gL_coils_L_mod : GoodIn wsL_coils (va_wsS RL 29 yL_mod wsL_mod) := goodIn_app (goodIn_of _ (by decide +kernel)) ggL_coils_L_mod
set_option maxRecDepth 20000 in
theorem ggL_coils_X0_coilEndingAt : GoodIn wsL_coils wsX0_coilEndingAt := goodIn_r _ [18, 6, 7, 8, 9, 4, 10, 60, 61, 62, 63, 64, 65, 66, 67, 68, 69, 70] (by decide +kernel) (by decide +kernel)
set_option maxRecDepth 20000 in
theorem gL_coils_X0_coilEndingAt : GoodIn wsL_coils (wsV RL 81 RX0 yX0_coilEndingAt wsX0_coilEndingAt) := goodIn_app (goodIn_of _ (by decide +kernel)) ggL_coils_X0_coilEndingAt
set_option maxRecDepth 20000 in
theorem ggL_coils_X0_upperSlot : GoodIn wsL_coils wsX0_upperSlot := goodIn_r _ [22, 6, 23, 60, 61, 62, 63, 64, 65, 66, 67, 68, 69, 70] (by decide +kernel) (by decide +kernel)
set_option maxRecDepth 20000 in
theorem gL_coils_X0_upperSlot : GoodIn wsL_coils (wsV RL 84 RX0 yX0_upperSlot wsX0_upperSlot) := goodIn_app (goodIn_of _ (by decide +kernel)) ggL_coils_X0_upperSlot
set_option maxRecDepth 20000 in
theorem ggL_coils_X0_lowerSlot : GoodIn wsL_coils wsX0_lowerSlot := goodIn_r _ [27, 6, 28, 29, 20, 21, 4, 22, 23, 30, 31, 32, 33, 34, 35, 8, 9, 10, 60, 61, 62, 63, 64, 65, 66, 67, 68, 69, 70] (by decide +kernel) (by decide +kernel)
set_option maxRecDepth 20000 in
theorem gL_coils_X0_lowerSlot : GoodIn wsL_coils (wsV RL 87 RX0 yX0_lowerSlot wsX0_lowerSlot) := goodIn_app (goodIn_of _ (by decide +kernel)) ggL_coils_X0_lowerSlot
set_option maxRecDepth 20000 in
theorem ggL_coils_L_lower : GoodIn wsL_coils wsL_lower := goodIn_r _ [38, 39, 40, 13, 41] (by decide +kernel) (by decide +kernel)
set_option maxRecDepth 20000 in
theorem gL_coils_L_lower : GoodIn wsL_coils (va_wsS RL 18 yL_lower wsL_lower) := goodIn_app (goodIn_of _ (by decide +kernel)) ggL_coils_L_lower
set_option maxRecDepth 20000 in
theorem ggL_coils_L_isOpen : GoodIn wsL_coils wsL_isOpen := goodIn_r _ [44] (by decide +kernel) (by decide +kernel)
set_option maxRecDepth 20000 in
theorem gL_coils_L_isOpen : GoodIn wsL_coils (va_wsS RL 25 yL_isOpen wsL_isOpen) := goodIn_app (goodIn_of _ (by decide +kernel)) ggL_coils_L_isOpen
set_option maxRecDepth 20000 in
theorem ggL_coils_X0_openCoilsIn : GoodIn wsL_coils wsX0_openCoilsIn := goodIn_r _ [48, 28, 6, 49, 50, 51, 4, 52, 53, 29, 20, 21, 22, 23, 54, 25, 26, 27, 30, 31, 32, 33, 34, 35, 8, 9, 10, 60, 61, 62, 63, 64, 65, 66, 67, 68, 69, 70] (by decide +kernel) (by decide +kernel)
set_option maxRecDepth 20000 in
theorem gL_coils_X0_openCoilsIn : GoodIn wsL_coils (wsV RL 90 RX0 yX0_openCoilsIn wsX0_openCoilsIn) := goodIn_app (goodIn_of _ (by decide +kernel)) ggL_coils_X0_openCoilsIn
set_option maxRecDepth 20000 in
theorem ggL_coils_X0_coilCount : GoodIn wsL_coils wsX0_coilCount := goodIn_r _ [58, 6, 60, 61, 62, 63, 64, 65, 66, 67, 68, 69, 70] (by decide +kernel) (by decide +kernel)
set_option maxRecDepth 20000 in
theorem gL_coils_X0_coilCount : GoodIn wsL_coils (wsV RL 93 RX0 yX0_coilCount wsX0_coilCount) := goodIn_app (goodIn_of _ (by decide +kernel)) ggL_coils_X0_coilCount
set_option maxRecDepth 20000 in
theorem ggL_coils_X0_slotPitch : GoodIn wsL_coils wsX0_slotPitch := goodIn_r _ [33, 34, 28, 35, 60, 61, 62, 63, 64, 65, 66, 67, 68, 69, 70] (by decide +kernel) (by decide +kernel)
set_option maxRecDepth 20000 in
theorem gL_coils_X0_slotPitch : GoodIn wsL_coils (wsV RL 96 RX0 yX0_slotPitch wsX0_slotPitch) := goodIn_app (goodIn_of _ (by decide +kernel)) ggL_coils_X0_slotPitch
set_option maxRecDepth 20000 in
theorem ggL_coils_L_slotPitch : GoodIn wsL_coils wsL_slotPitch := goodIn_r _ [41] (by decide +kernel) (by decide +kernel)
set_option maxRecDepth 20000 in
theorem gL_coils_L_slotPitch : GoodIn wsL_coils (va_wsS RL 8 yL_slotPitch wsL_slotPitch) := goodIn_app (goodIn_of _ (by decide +kernel)) ggL_coils_L_slotPitch
theorem dL_coils_0 : decode cL_coils 0 = .ok (.iconst 0, 1) := by decide +kernel
theorem dL_coils_1 : decode cL_coils 1 = .ok (.istore_n 3, 1) := by decide +kernel
theorem dL_coils_2 : decode cL_coils 2 = .ok (.iload_n 3, 1) := by decide +kernel
theorem dL_coils_3 : decode cL_coils 3 = .ok (.aload_n 1, 1) := by decide +kernel
theorem dL_coils_4 : decode cL_coils 4 = .ok (.iconst 3, 1) := by decide +kernel
theorem dL_coils_5 : decode cL_coils 5 = .ok (.iaload, 1) := by decide +kernel
theorem dL_coils_6 : decode cL_coils 6 = .ok (.if_icmp .ge 71, 3) := by decide +kernel
theorem dL_coils_9 : decode cL_coils 9 = .ok (.aload_n 0, 1) := by decide +kernel
theorem dL_coils_10 : decode cL_coils 10 = .ok (.iload_n 3, 1) := by decide +kernel
theorem dL_coils_11 : decode cL_coils 11 = .ok (.invokevirtual 71, 3) := by decide +kernel
theorem dL_coils_14 : decode cL_coils 14 = .ok (.istore 4, 2) := by decide +kernel
theorem dL_coils_16 : decode cL_coils 16 = .ok (.iload 4, 2) := by decide +kernel
theorem dL_coils_18 : decode cL_coils 18 = .ok (.iload_n 3, 1) := by decide +kernel
theorem dL_coils_19 : decode cL_coils 19 = .ok (.aload_n 1, 1) := by decide +kernel
theorem dL_coils_20 : decode cL_coils 20 = .ok (.bipush 7, 2) := by decide +kernel
theorem dL_coils_22 : decode cL_coils 22 = .ok (.iaload, 1) := by decide +kernel
theorem dL_coils_23 : decode cL_coils 23 = .ok (.iadd, 1) := by decide +kernel
theorem dL_coils_24 : decode cL_coils 24 = .ok (.aload_n 1, 1) := by decide +kernel
theorem dL_coils_25 : decode cL_coils 25 = .ok (.iconst 3, 1) := by decide +kernel
theorem dL_coils_26 : decode cL_coils 26 = .ok (.iaload, 1) := by decide +kernel
theorem dL_coils_27 : decode cL_coils 27 = .ok (.invokestatic 29, 3) := by decide +kernel
theorem dL_coils_30 : decode cL_coils 30 = .ok (.if_icmp .ne 39, 3) := by decide +kernel
theorem dL_coils_33 : decode cL_coils 33 = .ok (.aload_n 0, 1) := by decide +kernel
theorem dL_coils_34 : decode cL_coils 34 = .ok (.iload 4, 2) := by decide +kernel
theorem dL_coils_36 : decode cL_coils 36 = .ok (.invokevirtual 81, 3) := by decide +kernel
theorem dL_coils_39 : decode cL_coils 39 = .ok (.iload_n 3, 1) := by decide +kernel
theorem dL_coils_40 : decode cL_coils 40 = .ok (.if_icmp .ne 29, 3) := by decide +kernel
theorem dL_coils_43 : decode cL_coils 43 = .ok (.aload_n 0, 1) := by decide +kernel
theorem dL_coils_44 : decode cL_coils 44 = .ok (.iload_n 3, 1) := by decide +kernel
theorem dL_coils_45 : decode cL_coils 45 = .ok (.invokevirtual 84, 3) := by decide +kernel
theorem dL_coils_48 : decode cL_coils 48 = .ok (.iload_n 3, 1) := by decide +kernel
theorem dL_coils_49 : decode cL_coils 49 = .ok (.aload_n 1, 1) := by decide +kernel
theorem dL_coils_50 : decode cL_coils 50 = .ok (.iconst 2, 1) := by decide +kernel
theorem dL_coils_51 : decode cL_coils 51 = .ok (.iaload, 1) := by decide +kernel
theorem dL_coils_52 : decode cL_coils 52 = .ok (.idiv, 1) := by decide +kernel
theorem dL_coils_53 : decode cL_coils 53 = .ok (.if_icmp .ne 16, 3) := by decide +kernel
theorem dL_coils_56 : decode cL_coils 56 = .ok (.aload_n 0, 1) := by decide +kernel
theorem dL_coils_57 : decode cL_coils 57 = .ok (.iload_n 3, 1) := by decide +kernel
theorem dL_coils_58 : decode cL_coils 58 = .ok (.invokevirtual 87, 3) := by decide +kernel
theorem dL_coils_61 : decode cL_coils 61 = .ok (.aload_n 1, 1) := by decide +kernel
theorem dL_coils_62 : decode cL_coils 62 = .ok (.iload_n 3, 1) := by decide +kernel
theorem dL_coils_63 : decode cL_coils 63 = .ok (.invokestatic 18, 3) := by decide +kernel
theorem dL_coils_66 : decode cL_coils 66 = .ok (.if_icmp .eq 5, 3) := by decide +kernel
theorem dL_coils_69 : decode cL_coils 69 = .ok (.iconst 0, 1) := by decide +kernel
theorem dL_coils_70 : decode cL_coils 70 = .ok (.ireturn, 1) := by decide +kernel
theorem dL_coils_71 : decode cL_coils 71 = .ok (.iinc 3 1, 3) := by decide +kernel
theorem dL_coils_74 : decode cL_coils 74 = .ok (.goto (-72), 3) := by decide +kernel
theorem dL_coils_77 : decode cL_coils 77 = .ok (.iconst 0, 1) := by decide +kernel
theorem dL_coils_78 : decode cL_coils 78 = .ok (.istore_n 3, 1) := by decide +kernel
theorem dL_coils_79 : decode cL_coils 79 = .ok (.iload_n 3, 1) := by decide +kernel
theorem dL_coils_80 : decode cL_coils 80 = .ok (.aload_n 1, 1) := by decide +kernel
theorem dL_coils_81 : decode cL_coils 81 = .ok (.iconst 1, 1) := by decide +kernel
theorem dL_coils_82 : decode cL_coils 82 = .ok (.iaload, 1) := by decide +kernel
theorem dL_coils_83 : decode cL_coils 83 = .ok (.if_icmp .ge 80, 3) := by decide +kernel
theorem dL_coils_86 : decode cL_coils 86 = .ok (.iconst 0, 1) := by decide +kernel
theorem dL_coils_87 : decode cL_coils 87 = .ok (.istore 4, 2) := by decide +kernel
theorem dL_coils_89 : decode cL_coils 89 = .ok (.iconst 0, 1) := by decide +kernel
theorem dL_coils_90 : decode cL_coils 90 = .ok (.istore 5, 2) := by decide +kernel
theorem dL_coils_92 : decode cL_coils 92 = .ok (.iload 5, 2) := by decide +kernel
theorem dL_coils_94 : decode cL_coils 94 = .ok (.aload_n 1, 1) := by decide +kernel
theorem dL_coils_95 : decode cL_coils 95 = .ok (.iconst 3, 1) := by decide +kernel
theorem dL_coils_96 : decode cL_coils 96 = .ok (.iaload, 1) := by decide +kernel
theorem dL_coils_97 : decode cL_coils 97 = .ok (.if_icmp .ge 48, 3) := by decide +kernel
theorem dL_coils_100 : decode cL_coils 100 = .ok (.iload 4, 2) := by decide +kernel
theorem dL_coils_102 : decode cL_coils 102 = .ok (.aload_n 2, 1) := by decide +kernel
theorem dL_coils_103 : decode cL_coils 103 = .ok (.iload 5, 2) := by decide +kernel
theorem dL_coils_105 : decode cL_coils 105 = .ok (.invokestatic 25, 3) := by decide +kernel
theorem dL_coils_108 : decode cL_coils 108 = .ok (.ifCond .eq 27, 3) := by decide +kernel
theorem dL_coils_111 : decode cL_coils 111 = .ok (.iload 5, 2) := by decide +kernel
theorem dL_coils_113 : decode cL_coils 113 = .ok (.aload_n 1, 1) := by decide +kernel
theorem dL_coils_114 : decode cL_coils 114 = .ok (.iconst 2, 1) := by decide +kernel
theorem dL_coils_115 : decode cL_coils 115 = .ok (.iaload, 1) := by decide +kernel
theorem dL_coils_116 : decode cL_coils 116 = .ok (.idiv, 1) := by decide +kernel
theorem dL_coils_117 : decode cL_coils 117 = .ok (.iload_n 3, 1) := by decide +kernel
theorem dL_coils_118 : decode cL_coils 118 = .ok (.if_icmp .eq 13, 3) := by decide +kernel
theorem dL_coils_121 : decode cL_coils 121 = .ok (.aload_n 1, 1) := by decide +kernel
theorem dL_coils_122 : decode cL_coils 122 = .ok (.iload 5, 2) := by decide +kernel
theorem dL_coils_124 : decode cL_coils 124 = .ok (.invokestatic 18, 3) := by decide +kernel
theorem dL_coils_127 : decode cL_coils 127 = .ok (.iload_n 3, 1) := by decide +kernel
theorem dL_coils_128 : decode cL_coils 128 = .ok (.if_icmp .ne 7, 3) := by decide +kernel
theorem dL_coils_131 : decode cL_coils 131 = .ok (.iconst 1, 1) := by decide +kernel
theorem dL_coils_132 : decode cL_coils 132 = .ok (.goto 4, 3) := by decide +kernel
theorem dL_coils_135 : decode cL_coils 135 = .ok (.iconst 0, 1) := by decide +kernel
theorem dL_coils_136 : decode cL_coils 136 = .ok (.iadd, 1) := by decide +kernel
theorem dL_coils_137 : decode cL_coils 137 = .ok (.istore 4, 2) := by decide +kernel
theorem dL_coils_139 : decode cL_coils 139 = .ok (.iinc 5 1, 3) := by decide +kernel
theorem dL_coils_142 : decode cL_coils 142 = .ok (.goto (-50), 3) := by decide +kernel
theorem dL_coils_145 : decode cL_coils 145 = .ok (.aload_n 0, 1) := by decide +kernel
theorem dL_coils_146 : decode cL_coils 146 = .ok (.iload_n 3, 1) := by decide +kernel
theorem dL_coils_147 : decode cL_coils 147 = .ok (.invokevirtual 90, 3) := by decide +kernel
theorem dL_coils_150 : decode cL_coils 150 = .ok (.iload 4, 2) := by decide +kernel
theorem dL_coils_152 : decode cL_coils 152 = .ok (.if_icmp .eq 5, 3) := by decide +kernel
theorem dL_coils_155 : decode cL_coils 155 = .ok (.iconst 0, 1) := by decide +kernel
theorem dL_coils_156 : decode cL_coils 156 = .ok (.ireturn, 1) := by decide +kernel
theorem dL_coils_157 : decode cL_coils 157 = .ok (.iinc 3 1, 3) := by decide +kernel
theorem dL_coils_160 : decode cL_coils 160 = .ok (.goto (-81), 3) := by decide +kernel
theorem dL_coils_163 : decode cL_coils 163 = .ok (.aload_n 0, 1) := by decide +kernel
theorem dL_coils_164 : decode cL_coils 164 = .ok (.invokevirtual 93, 3) := by decide +kernel
theorem dL_coils_167 : decode cL_coils 167 = .ok (.aload_n 1, 1) := by decide +kernel
theorem dL_coils_168 : decode cL_coils 168 = .ok (.iconst 3, 1) := by decide +kernel
theorem dL_coils_169 : decode cL_coils 169 = .ok (.iaload, 1) := by decide +kernel
theorem dL_coils_170 : decode cL_coils 170 = .ok (.if_icmp .ne 79, 3) := by decide +kernel
theorem dL_coils_173 : decode cL_coils 173 = .ok (.aload_n 0, 1) := by decide +kernel
theorem dL_coils_174 : decode cL_coils 174 = .ok (.invokevirtual 96, 3) := by decide +kernel
theorem dL_coils_177 : decode cL_coils 177 = .ok (.aload_n 1, 1) := by decide +kernel
theorem dL_coils_178 : decode cL_coils 178 = .ok (.invokestatic 8, 3) := by decide +kernel
theorem dL_coils_181 : decode cL_coils 181 = .ok (.if_icmp .ne 68, 3) := by decide +kernel
theorem dL_coils_184 : decode cL_coils 184 = .ok (.aload_n 0, 1) := by decide +kernel
theorem dL_coils_185 : decode cL_coils 185 = .ok (.iconst (-1), 1) := by decide +kernel
theorem dL_coils_186 : decode cL_coils 186 = .ok (.invokevirtual 71, 3) := by decide +kernel
theorem dL_coils_189 : decode cL_coils 189 = .ok (.sipush (-1002), 3) := by decide +kernel
theorem dL_coils_192 : decode cL_coils 192 = .ok (.if_icmp .ne 57, 3) := by decide +kernel
theorem dL_coils_195 : decode cL_coils 195 = .ok (.aload_n 0, 1) := by decide +kernel
theorem dL_coils_196 : decode cL_coils 196 = .ok (.aload_n 1, 1) := by decide +kernel
theorem dL_coils_197 : decode cL_coils 197 = .ok (.iconst 3, 1) := by decide +kernel
theorem dL_coils_198 : decode cL_coils 198 = .ok (.iaload, 1) := by decide +kernel
theorem dL_coils_199 : decode cL_coils 199 = .ok (.invokevirtual 81, 3) := by decide +kernel
theorem dL_coils_202 : decode cL_coils 202 = .ok (.sipush (-1002), 3) := by decide +kernel
theorem dL_coils_205 : decode cL_coils 205 = .ok (.if_icmp .ne 44, 3) := by decide +kernel
theorem dL_coils_208 : decode cL_coils 208 = .ok (.aload_n 0, 1) := by decide +kernel
theorem dL_coils_209 : decode cL_coils 209 = .ok (.aload_n 1, 1) := by decide +kernel
theorem dL_coils_210 : decode cL_coils 210 = .ok (.iconst 3, 1) := by decide +kernel
theorem dL_coils_211 : decode cL_coils 211 = .ok (.iaload, 1) := by decide +kernel
theorem dL_coils_212 : decode cL_coils 212 = .ok (.invokevirtual 84, 3) := by decide +kernel
theorem dL_coils_215 : decode cL_coils 215 = .ok (.sipush (-1002), 3) := by decide +kernel
theorem dL_coils_218 : decode cL_coils 218 = .ok (.if_icmp .ne 31, 3) := by decide +kernel
theorem dL_coils_221 : decode cL_coils 221 = .ok (.aload_n 0, 1) := by decide +kernel
theorem dL_coils_222 : decode cL_coils 222 = .ok (.iconst (-1), 1) := by decide +kernel
theorem dL_coils_223 : decode cL_coils 223 = .ok (.invokevirtual 87, 3) := by decide +kernel
theorem dL_coils_226 : decode cL_coils 226 = .ok (.sipush (-1002), 3) := by decide +kernel
theorem dL_coils_229 : decode cL_coils 229 = .ok (.if_icmp .ne 20, 3) := by decide +kernel
theorem dL_coils_232 : decode cL_coils 232 = .ok (.aload_n 0, 1) := by decide +kernel
theorem dL_coils_233 : decode cL_coils 233 = .ok (.aload_n 1, 1) := by decide +kernel
theorem dL_coils_234 : decode cL_coils 234 = .ok (.iconst 1, 1) := by decide +kernel
theorem dL_coils_235 : decode cL_coils 235 = .ok (.iaload, 1) := by decide +kernel
theorem dL_coils_236 : decode cL_coils 236 = .ok (.invokevirtual 90, 3) := by decide +kernel
theorem dL_coils_239 : decode cL_coils 239 = .ok (.sipush (-1002), 3) := by decide +kernel
theorem dL_coils_242 : decode cL_coils 242 = .ok (.if_icmp .ne 7, 3) := by decide +kernel
theorem dL_coils_245 : decode cL_coils 245 = .ok (.iconst 1, 1) := by decide +kernel
theorem dL_coils_246 : decode cL_coils 246 = .ok (.goto 4, 3) := by decide +kernel
theorem dL_coils_249 : decode cL_coils 249 = .ok (.iconst 0, 1) := by decide +kernel
theorem dL_coils_250 : decode cL_coils 250 = .ok (.ireturn, 1) := by decide +kernel
set_option maxRecDepth 20000 in
theorem ggL_sums_X0_coilVoltage : GoodIn wsL_sums wsX0_coilVoltage := goodIn_r _ [5, 6, 7, 8, 9, 4, 10, 11, 12, 13, 14, 15, 16, 17, 18, 19, 20, 21, 22, 23, 24, 25, 26, 27, 28, 29, 43, 44, 45, 46, 47, 48, 49, 50, 51, 52, 53] (by decide +kernel) (by decide +kernel)
set_option maxRecDepth 20000 in
theorem gL_sums_X0_coilVoltage : GoodIn wsL_sums (wsV RL 98 RX0 yX0_coilVoltage wsX0_coilVoltage) := goodIn_app (goodIn_of _ (by decide +kernel)) ggL_sums_X0_coilVoltage
set_option maxRecDepth 20000 in
theorem ggL_sums_L_voltage : GoodIn wsL_sums wsL_voltage := goodIn_r _ [33, 34, 35, 32, 36, 37, 38, 39, 40, 41, 42] (by decide +kernel) (by decide +kernel)
set_option maxRecDepth 20000 in
theorem gL_sums_L_voltage : GoodIn wsL_sums (va_wsS RL 22 yL_voltage wsL_voltage) := goodIn_app (goodIn_of _ (by decide +kernel)) ggL_sums_L_voltage
theorem dL_sums_0 : decode cL_sums 0 = .ok (.iconst 0, 1) := by decide +kernel
theorem dL_sums_1 : decode cL_sums 1 = .ok (.istore_n 3, 1) := by decide +kernel
theorem dL_sums_2 : decode cL_sums 2 = .ok (.iconst 0, 1) := by decide +kernel
theorem dL_sums_3 : decode cL_sums 3 = .ok (.istore 4, 2) := by decide +kernel
theorem dL_sums_5 : decode cL_sums 5 = .ok (.iload 4, 2) := by decide +kernel
theorem dL_sums_7 : decode cL_sums 7 = .ok (.aload_n 2, 1) := by decide +kernel
theorem dL_sums_8 : decode cL_sums 8 = .ok (.iconst 3, 1) := by decide +kernel
theorem dL_sums_9 : decode cL_sums 9 = .ok (.iaload, 1) := by decide +kernel
theorem dL_sums_10 : decode cL_sums 10 = .ok (.if_icmp .ge 53, 3) := by decide +kernel
theorem dL_sums_13 : decode cL_sums 13 = .ok (.aload_n 0, 1) := by decide +kernel
theorem dL_sums_14 : decode cL_sums 14 = .ok (.iload 4, 2) := by decide +kernel
theorem dL_sums_16 : decode cL_sums 16 = .ok (.iload_n 1, 1) := by decide +kernel
theorem dL_sums_17 : decode cL_sums 17 = .ok (.invokevirtual 98, 3) := by decide +kernel
theorem dL_sums_20 : decode cL_sums 20 = .ok (.istore 5, 2) := by decide +kernel
theorem dL_sums_22 : decode cL_sums 22 = .ok (.iload 5, 2) := by decide +kernel
theorem dL_sums_24 : decode cL_sums 24 = .ok (.aload_n 2, 1) := by decide +kernel
theorem dL_sums_25 : decode cL_sums 25 = .ok (.iload 4, 2) := by decide +kernel
theorem dL_sums_27 : decode cL_sums 27 = .ok (.iload_n 1, 1) := by decide +kernel
theorem dL_sums_28 : decode cL_sums 28 = .ok (.invokestatic 22, 3) := by decide +kernel
theorem dL_sums_31 : decode cL_sums 31 = .ok (.if_icmp .ne 19, 3) := by decide +kernel
theorem dL_sums_34 : decode cL_sums 34 = .ok (.iload 5, 2) := by decide +kernel
theorem dL_sums_36 : decode cL_sums 36 = .ok (.aload_n 0, 1) := by decide +kernel
theorem dL_sums_37 : decode cL_sums 37 = .ok (.iload 4, 2) := by decide +kernel
theorem dL_sums_39 : decode cL_sums 39 = .ok (.iload_n 1, 1) := by decide +kernel
theorem dL_sums_40 : decode cL_sums 40 = .ok (.aload_n 2, 1) := by decide +kernel
theorem dL_sums_41 : decode cL_sums 41 = .ok (.iconst 1, 1) := by decide +kernel
theorem dL_sums_42 : decode cL_sums 42 = .ok (.iaload, 1) := by decide +kernel
theorem dL_sums_43 : decode cL_sums 43 = .ok (.iadd, 1) := by decide +kernel
theorem dL_sums_44 : decode cL_sums 44 = .ok (.invokevirtual 98, 3) := by decide +kernel
theorem dL_sums_47 : decode cL_sums 47 = .ok (.if_icmp .eq 5, 3) := by decide +kernel
theorem dL_sums_50 : decode cL_sums 50 = .ok (.iconst 0, 1) := by decide +kernel
theorem dL_sums_51 : decode cL_sums 51 = .ok (.ireturn, 1) := by decide +kernel
theorem dL_sums_52 : decode cL_sums 52 = .ok (.iload_n 3, 1) := by decide +kernel
theorem dL_sums_53 : decode cL_sums 53 = .ok (.iload 5, 2) := by decide +kernel
theorem dL_sums_55 : decode cL_sums 55 = .ok (.iadd, 1) := by decide +kernel
theorem dL_sums_56 : decode cL_sums 56 = .ok (.istore_n 3, 1) := by decide +kernel
theorem dL_sums_57 : decode cL_sums 57 = .ok (.iinc 4 1, 3) := by decide +kernel
theorem dL_sums_60 : decode cL_sums 60 = .ok (.goto (-55), 3) := by decide +kernel
theorem dL_sums_63 : decode cL_sums 63 = .ok (.iload_n 3, 1) := by decide +kernel
theorem dL_sums_64 : decode cL_sums 64 = .ok (.ifCond .ne 47, 3) := by decide +kernel
theorem dL_sums_67 : decode cL_sums 67 = .ok (.aload_n 0, 1) := by decide +kernel
theorem dL_sums_68 : decode cL_sums 68 = .ok (.iconst 0, 1) := by decide +kernel
theorem dL_sums_69 : decode cL_sums 69 = .ok (.bipush 101, 2) := by decide +kernel
theorem dL_sums_71 : decode cL_sums 71 = .ok (.invokevirtual 98, 3) := by decide +kernel
theorem dL_sums_74 : decode cL_sums 74 = .ok (.sipush (-1001), 3) := by decide +kernel
theorem dL_sums_77 : decode cL_sums 77 = .ok (.if_icmp .ne 34, 3) := by decide +kernel
theorem dL_sums_80 : decode cL_sums 80 = .ok (.aload_n 0, 1) := by decide +kernel
theorem dL_sums_81 : decode cL_sums 81 = .ok (.iconst 0, 1) := by decide +kernel
theorem dL_sums_82 : decode cL_sums 82 = .ok (.iconst (-1), 1) := by decide +kernel
theorem dL_sums_83 : decode cL_sums 83 = .ok (.invokevirtual 98, 3) := by decide +kernel
theorem dL_sums_86 : decode cL_sums 86 = .ok (.sipush (-1001), 3) := by decide +kernel
theorem dL_sums_89 : decode cL_sums 89 = .ok (.if_icmp .ne 22, 3) := by decide +kernel
theorem dL_sums_92 : decode cL_sums 92 = .ok (.aload_n 0, 1) := by decide +kernel
theorem dL_sums_93 : decode cL_sums 93 = .ok (.aload_n 2, 1) := by decide +kernel
theorem dL_sums_94 : decode cL_sums 94 = .ok (.iconst 3, 1) := by decide +kernel
theorem dL_sums_95 : decode cL_sums 95 = .ok (.iaload, 1) := by decide +kernel
theorem dL_sums_96 : decode cL_sums 96 = .ok (.bipush 101, 2) := by decide +kernel
theorem dL_sums_98 : decode cL_sums 98 = .ok (.invokevirtual 98, 3) := by decide +kernel
theorem dL_sums_101 : decode cL_sums 101 = .ok (.sipush (-1002), 3) := by decide +kernel
theorem dL_sums_104 : decode cL_sums 104 = .ok (.if_icmp .ne 7, 3) := by decide +kernel
theorem dL_sums_107 : decode cL_sums 107 = .ok (.iconst 1, 1) := by decide +kernel
theorem dL_sums_108 : decode cL_sums 108 = .ok (.goto 4, 3) := by decide +kernel
theorem dL_sums_111 : decode cL_sums 111 = .ok (.iconst 0, 1) := by decide +kernel
theorem dL_sums_112 : decode cL_sums 112 = .ok (.ireturn, 1) := by decide +kernel
set_option maxRecDepth 20000 in
theorem ggL_law_X0_init : GoodIn wsL_law wsX0_init := goodIn_r _ [6, 7, 8, 9, 10, 11, 3, 12, 13, 14, 15, 2, 16, 17, 18, 19, 20, 21, 22, 23, 24, 25, 26, 27, 28, 29, 30, 31, 32, 33, 34, 35, 36, 37, 184, 185, 186, 187, 188, 189, 190, 191, 192, 193, 194] (by decide +kernel) (by decide +kernel)
set_option maxRecDepth 20000 in
theorem gL_law_X0_init : GoodIn wsL_law (wsX0_init) := ggL_law_X0_init
set_option maxRecDepth 20000 in
theorem ggL_law_L_begin : GoodIn wsL_law wsL_begin := goodIn_r _ [41] (by decide +kernel) (by decide +kernel)
set_option maxRecDepth 20000 in
theorem gL_law_L_begin : GoodIn wsL_law (va_wsS RL 102 yL_begin wsL_begin) := goodIn_app (goodIn_of _ (by decide +kernel)) ggL_law_L_begin
set_option maxRecDepth 20000 in
theorem ggL_law_L_cell : GoodIn wsL_law wsL_cell := goodIn_r _ [44, 45] (by decide +kernel) (by decide +kernel)
set_option maxRecDepth 20000 in
theorem gL_law_L_cell : GoodIn wsL_law (va_wsS RL 106 yL_cell wsL_cell) := goodIn_app (goodIn_of _ (by decide +kernel)) ggL_law_L_cell
set_option maxRecDepth 20000 in
theorem ggL_law_L_circuits : GoodIn wsL_law wsL_circuits := goodIn_r _ [48, 49, 50, 40, 51, 52, 53, 54, 55, 56, 57, 2, 58, 37, 20, 59, 60, 61, 62, 63, 64, 65, 66, 67, 68, 69, 70, 71, 72, 73, 74, 75, 76, 77, 78, 79, 80, 81, 82, 83, 84, 85, 86, 87, 88, 89, 90, 91, 92, 93, 11, 184, 185, 186, 187, 188, 189, 190, 191, 192, 193, 194] (by decide +kernel) (by decide +kernel)
set_option maxRecDepth 20000 in
theorem gL_law_L_circuits : GoodIn wsL_law (va_wsS RL 109 yL_circuits wsL_circuits) := goodIn_app (goodIn_of _ (by decide +kernel)) ggL_law_L_circuits
set_option maxRecDepth 20000 in
theorem ggL_law_L_coils : GoodIn wsL_law wsL_coils := goodIn_r _ [96, 74, 75, 76, 2, 77, 20, 37, 67, 68, 69, 49, 50, 40, 51, 97, 98, 99, 100, 101, 102, 103, 104, 19, 105, 106, 107, 108, 18, 109, 110, 111, 112, 113, 17, 21, 114, 115, 116, 117, 118, 119, 78, 79, 80, 120, 121, 122, 123, 90, 91, 92, 93, 11, 124, 125, 126, 127, 128, 129, 184, 185, 186, 187, 188, 189, 190, 191, 192, 193, 194] (by decide +kernel) (by decide +kernel)
set_option maxRecDepth 20000 in
theorem gL_law_L_coils : GoodIn wsL_law (va_wsS RL 113 yL_coils wsL_coils) := goodIn_app (goodIn_of _ (by decide +kernel)) ggL_law_L_coils
set_option maxRecDepth 20000 in
theorem ggL_law_L_sums : GoodIn wsL_law wsL_sums := goodIn_r _ [132, 133, 134, 135, 2, 136, 20, 109, 102, 103, 104, 19, 137, 138, 139, 140, 18, 17, 67, 68, 69, 124, 106, 107, 108, 110, 111, 112, 113, 21, 141, 142, 40, 143, 144, 145, 146, 114, 115, 116, 117, 118, 119, 184, 185, 186, 187, 188, 189, 190, 191, 192, 193, 194] (by decide +kernel) (by decide +kernel)
set_option maxRecDepth 20000 in
theorem gL_law_L_sums : GoodIn wsL_law (va_wsS RL 116 yL_sums wsL_sums) := goodIn_app (goodIn_of _ (by decide +kernel)) ggL_law_L_sums
set_option maxRecDepth 20000 in
theorem ggL_law_L_changes : GoodIn wsL_law wsL_changes := goodIn_r _ [149, 150, 151, 40, 152, 153, 154, 155, 2, 156, 20, 13, 14, 15, 16, 17, 18, 19, 21, 11, 22, 23, 24, 25, 12, 26, 27, 28, 29, 30, 31, 32, 33, 34, 35, 36, 37, 157, 158, 159, 160, 161, 162, 163, 164, 165, 166, 167, 168, 169, 170, 171, 172, 173, 174, 175, 78, 79, 80, 176, 177, 178, 179, 180, 181, 182, 183, 90, 91, 92, 93, 184, 185, 186, 187, 188, 189, 190, 191, 192, 193, 194] (by decide +kernel) (by decide +kernel)
set_option maxRecDepth 20000 in
theorem gL_law_L_changes : GoodIn wsL_law (va_wsS RL 119 yL_changes wsL_changes) := goodIn_app (goodIn_of _ (by decide +kernel)) ggL_law_L_changes
theorem dL_law_0 : decode cL_law 0 = .ok (.new 37, 3) := by decide +kernel
theorem dL_law_3 : decode cL_law 3 = .ok (.dup, 1) := by decide +kernel
theorem dL_law_4 : decode cL_law 4 = .ok (.invokespecial 101, 3) := by decide +kernel
theorem dL_law_7 : decode cL_law 7 = .ok (.astore_n 1, 1) := by decide +kernel
theorem dL_law_8 : decode cL_law 8 = .ok (.bipush 9, 2) := by decide +kernel
theorem dL_law_10 : decode cL_law 10 = .ok (.newarray .int, 2) := by decide +kernel
theorem dL_law_12 : decode cL_law 12 = .ok (.astore_n 2, 1) := by decide +kernel
theorem dL_law_13 : decode cL_law 13 = .ok (.iconst 3, 1) := by decide +kernel
theorem dL_law_14 : decode cL_law 14 = .ok (.newarray .int, 2) := by decide +kernel
theorem dL_law_16 : decode cL_law 16 = .ok (.astore_n 3, 1) := by decide +kernel
theorem dL_law_17 : decode cL_law 17 = .ok (.aload_n 2, 1) := by decide +kernel
theorem dL_law_18 : decode cL_law 18 = .ok (.invokestatic 102, 3) := by decide +kernel
theorem dL_law_21 : decode cL_law 21 = .ok (.iconst 0, 1) := by decide +kernel
theorem dL_law_22 : decode cL_law 22 = .ok (.istore 4, 2) := by decide +kernel
theorem dL_law_24 : decode cL_law 24 = .ok (.iload 4, 2) := by decide +kernel
theorem dL_law_26 : decode cL_law 26 = .ok (.bipush 30, 2) := by decide +kernel
theorem dL_law_28 : decode cL_law 28 = .ok (.if_icmp .ge 77, 3) := by decide +kernel
theorem dL_law_31 : decode cL_law 31 = .ok (.aload_n 0, 1) := by decide +kernel
theorem dL_law_32 : decode cL_law 32 = .ok (.iconst 2, 1) := by decide +kernel
theorem dL_law_33 : decode cL_law 33 = .ok (.iload 4, 2) := by decide +kernel
theorem dL_law_35 : decode cL_law 35 = .ok (.imul, 1) := by decide +kernel
theorem dL_law_36 : decode cL_law 36 = .ok (.invokestatic 106, 3) := by decide +kernel
theorem dL_law_39 : decode cL_law 39 = .ok (.istore 5, 2) := by decide +kernel
theorem dL_law_41 : decode cL_law 41 = .ok (.aload_n 0, 1) := by decide +kernel
theorem dL_law_42 : decode cL_law 42 = .ok (.iconst 2, 1) := by decide +kernel
theorem dL_law_43 : decode cL_law 43 = .ok (.iload 4, 2) := by decide +kernel
theorem dL_law_45 : decode cL_law 45 = .ok (.imul, 1) := by decide +kernel
theorem dL_law_46 : decode cL_law 46 = .ok (.iconst 1, 1) := by decide +kernel
theorem dL_law_47 : decode cL_law 47 = .ok (.iadd, 1) := by decide +kernel
theorem dL_law_48 : decode cL_law 48 = .ok (.invokestatic 106, 3) := by decide +kernel
theorem dL_law_51 : decode cL_law 51 = .ok (.istore 6, 2) := by decide +kernel
theorem dL_law_53 : decode cL_law 53 = .ok (.aload_n 1, 1) := by decide +kernel
theorem dL_law_54 : decode cL_law 54 = .ok (.aload_n 2, 1) := by decide +kernel
theorem dL_law_55 : decode cL_law 55 = .ok (.aload_n 3, 1) := by decide +kernel
theorem dL_law_56 : decode cL_law 56 = .ok (.invokestatic 109, 3) := by decide +kernel
theorem dL_law_59 : decode cL_law 59 = .ok (.ifCond .eq 38, 3) := by decide +kernel
theorem dL_law_62 : decode cL_law 62 = .ok (.aload_n 1, 1) := by decide +kernel
theorem dL_law_63 : decode cL_law 63 = .ok (.aload_n 2, 1) := by decide +kernel
theorem dL_law_64 : decode cL_law 64 = .ok (.aload_n 3, 1) := by decide +kernel
theorem dL_law_65 : decode cL_law 65 = .ok (.invokestatic 113, 3) := by decide +kernel
theorem dL_law_68 : decode cL_law 68 = .ok (.ifCond .eq 29, 3) := by decide +kernel
theorem dL_law_71 : decode cL_law 71 = .ok (.aload_n 1, 1) := by decide +kernel
theorem dL_law_72 : decode cL_law 72 = .ok (.iload 6, 2) := by decide +kernel
theorem dL_law_74 : decode cL_law 74 = .ok (.bipush 70, 2) := by decide +kernel
theorem dL_law_76 : decode cL_law 76 = .ok (.irem, 1) := by decide +kernel
theorem dL_law_77 : decode cL_law 77 = .ok (.aload_n 2, 1) := by decide +kernel
theorem dL_law_78 : decode cL_law 78 = .ok (.invokestatic 116, 3) := by decide +kernel
theorem dL_law_81 : decode cL_law 81 = .ok (.ifCond .eq 16, 3) := by decide +kernel
theorem dL_law_84 : decode cL_law 84 = .ok (.aload_n 1, 1) := by decide +kernel
theorem dL_law_85 : decode cL_law 85 = .ok (.iload 5, 2) := by decide +kernel
theorem dL_law_87 : decode cL_law 87 = .ok (.iload 6, 2) := by decide +kernel
theorem dL_law_89 : decode cL_law 89 = .ok (.aload_n 2, 1) := by decide +kernel
theorem dL_law_90 : decode cL_law 90 = .ok (.aload_n 3, 1) := by decide +kernel
theorem dL_law_91 : decode cL_law 91 = .ok (.invokestatic 119, 3) := by decide +kernel
theorem dL_law_94 : decode cL_law 94 = .ok (.ifCond .ne 5, 3) := by decide +kernel
theorem dL_law_97 : decode cL_law 97 = .ok (.iconst 0, 1) := by decide +kernel
theorem dL_law_98 : decode cL_law 98 = .ok (.ireturn, 1) := by decide +kernel
theorem dL_law_99 : decode cL_law 99 = .ok (.iinc 4 1, 3) := by decide +kernel
theorem dL_law_102 : decode cL_law 102 = .ok (.goto (-78), 3) := by decide +kernel
theorem dL_law_105 : decode cL_law 105 = .ok (.aload_n 1, 1) := by decide +kernel
theorem dL_law_106 : decode cL_law 106 = .ok (.aload_n 2, 1) := by decide +kernel
theorem dL_law_107 : decode cL_law 107 = .ok (.aload_n 3, 1) := by decide +kernel
theorem dL_law_108 : decode cL_law 108 = .ok (.invokestatic 109, 3) := by decide +kernel
theorem dL_law_111 : decode cL_law 111 = .ok (.ifCond .eq 16, 3) := by decide +kernel
theorem dL_law_114 : decode cL_law 114 = .ok (.aload_n 1, 1) := by decide +kernel
theorem dL_law_115 : decode cL_law 115 = .ok (.aload_n 2, 1) := by decide +kernel
theorem dL_law_116 : decode cL_law 116 = .ok (.aload_n 3, 1) := by decide +kernel
theorem dL_law_117 : decode cL_law 117 = .ok (.invokestatic 113, 3) := by decide +kernel
theorem dL_law_120 : decode cL_law 120 = .ok (.ifCond .eq 7, 3) := by decide +kernel
theorem dL_law_123 : decode cL_law 123 = .ok (.iconst 1, 1) := by decide +kernel
theorem dL_law_124 : decode cL_law 124 = .ok (.goto 4, 3) := by decide +kernel
theorem dL_law_127 : decode cL_law 127 = .ok (.iconst 0, 1) := by decide +kernel
theorem dL_law_128 : decode cL_law 128 = .ok (.ireturn, 1) := by decide +kernel
abbrev vwCl : List vw_C := [(RX0, TX0, 11)]

