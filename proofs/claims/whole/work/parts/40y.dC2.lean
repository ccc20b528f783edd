theorem dX6_bare_41 : decode cX6_bare 41 = .ok (.lreturn, 1) := by decide +kernel
set_option maxRecDepth 20000 in
theorem ggX6_share_X6_many : GoodIn wsX6_share wsX6_many := goodIn_r _ [8, 9, 10, 11, 12, 7, 13, 14, 15, 16, 17, 18, 19, 20, 21, 22, 23, 24, 25, 26, 27, 28, 29, 30, 31, 32, 33, 34, 35, 36, 37, 38] (by decide +kernel) (by decide +kernel)
set_option maxRecDepth 20000 in
theorem gX6_share_X6_many : GoodIn wsX6_share (wsV RX6 124 RX6 yX6_many wsX6_many) := goodIn_app (goodIn_of _ (by decide +kernel)) ggX6_share_X6_many
theorem dX6_share_0 : decode cX6_share 0 = .ok (.aload_n 0, 1) := by decide +kernel
theorem dX6_share_1 : decode cX6_share 1 = .ok (.getfield 35, 3) := by decide +kernel
theorem dX6_share_4 : decode cX6_share 4 = .ok (.i2l, 1) := by decide +kernel
theorem dX6_share_5 : decode cX6_share 5 = .ok (.aload_n 0, 1) := by decide +kernel
theorem dX6_share_6 : decode cX6_share 6 = .ok (.getfield 25, 3) := by decide +kernel
theorem dX6_share_9 : decode cX6_share 9 = .ok (.iload_n 1, 1) := by decide +kernel
theorem dX6_share_10 : decode cX6_share 10 = .ok (.laload, 1) := by decide +kernel
theorem dX6_share_11 : decode cX6_share 11 = .ok (.lmul, 1) := by decide +kernel
theorem dX6_share_12 : decode cX6_share 12 = .ok (.aload_n 0, 1) := by decide +kernel
theorem dX6_share_13 : decode cX6_share 13 = .ok (.getfield 38, 3) := by decide +kernel
theorem dX6_share_16 : decode cX6_share 16 = .ok (.i2l, 1) := by decide +kernel
theorem dX6_share_17 : decode cX6_share 17 = .ok (.aload_n 0, 1) := by decide +kernel
theorem dX6_share_18 : decode cX6_share 18 = .ok (.iload_n 1, 1) := by decide +kernel
theorem dX6_share_19 : decode cX6_share 19 = .ok (.iconst 0, 1) := by decide +kernel
theorem dX6_share_20 : decode cX6_share 20 = .ok (.invokevirtual 124, 3) := by decide +kernel
theorem dX6_share_23 : decode cX6_share 23 = .ok (.i2l, 1) := by decide +kernel
theorem dX6_share_24 : decode cX6_share 24 = .ok (.lmul, 1) := by decide +kernel
theorem dX6_share_25 : decode cX6_share 25 = .ok (.ldiv, 1) := by decide +kernel
theorem dX6_share_26 : decode cX6_share 26 = .ok (.lreturn, 1) := by decide +kernel
set_option maxRecDepth 20000 in
theorem ggX6_step_X6_bare : GoodIn wsX6_step wsX6_bare := goodIn_r _ [15, 4, 8, 16, 17, 18, 14, 19, 20, 21, 22, 23, 24, 33, 34, 35, 36, 37, 38, 39, 40, 41, 42, 43, 44, 45, 46, 47, 48, 49, 50, 51, 52, 53, 54, 55, 56] (by decide +kernel) (by decide +kernel)
set_option maxRecDepth 20000 in
theorem gX6_step_X6_bare : GoodIn wsX6_step (wsV RX6 131 RX6 yX6_bare wsX6_bare) := goodIn_app (goodIn_of _ (by decide +kernel)) ggX6_step_X6_bare
set_option maxRecDepth 20000 in
theorem ggX6_step_X6_whole : GoodIn wsX6_step wsX6_whole := goodIn_r _ [28, 4, 6, 33, 34, 35, 36, 37, 38, 39, 40, 41, 42, 43, 44, 45, 46, 47, 48, 49, 50, 51, 52, 53, 54, 55, 56] (by decide +kernel) (by decide +kernel)
set_option maxRecDepth 20000 in
theorem gX6_step_X6_whole : GoodIn wsX6_step (wsV RX6 127 RX6 yX6_whole wsX6_whole) := goodIn_app (goodIn_of _ (by decide +kernel)) ggX6_step_X6_whole
set_option maxRecDepth 20000 in
theorem ggX6_step_X6_many : GoodIn wsX6_step wsX6_many := goodIn_r _ [19, 4, 20, 21, 22, 14, 23, 24, 33, 34, 35, 36, 37, 38, 39, 40, 41, 42, 43, 44, 45, 46, 47, 48, 49, 50, 51, 52, 53, 54, 55, 56] (by decide +kernel) (by decide +kernel)
set_option maxRecDepth 20000 in
theorem gX6_step_X6_many : GoodIn wsX6_step (wsV RX6 124 RX6 yX6_many wsX6_many) := goodIn_app (goodIn_of _ (by decide +kernel)) ggX6_step_X6_many
set_option maxRecDepth 20000 in
theorem ggX6_step_X6_share : GoodIn wsX6_step wsX6_share := goodIn_r _ [32, 2, 8, 1, 16, 17, 18, 14, 19, 4, 20, 21, 22, 23, 24, 33, 34, 35, 36, 37, 38, 39, 40, 41, 42, 43, 44, 45, 46, 47, 48, 49, 50, 51, 52, 53, 54, 55, 56] (by decide +kernel) (by decide +kernel)
set_option maxRecDepth 20000 in
theorem gX6_step_X6_share : GoodIn wsX6_step (wsV RX6 135 RX6 yX6_share wsX6_share) := goodIn_app (goodIn_of _ (by decide +kernel)) ggX6_step_X6_share
set_option maxRecDepth 20000 in
theorem ggX6_step_X6_goes : GoodIn wsX6_step wsX6_goes := goodIn_r _ [23, 24, 33, 34, 35, 36, 37, 38, 39, 40, 41, 42, 43, 44, 45, 46, 47, 48, 49, 50, 51, 52, 53, 54, 55, 56] (by decide +kernel) (by decide +kernel)
set_option maxRecDepth 20000 in
theorem gX6_step_X6_goes : GoodIn wsX6_step (wsV RX6 117 RX6 yX6_goes wsX6_goes) := goodIn_app (goodIn_of _ (by decide +kernel)) ggX6_step_X6_goes
theorem dX6_step_0 : decode cX6_step 0 = .ok (.aload_n 0, 1) := by decide +kernel
theorem dX6_step_1 : decode cX6_step 1 = .ok (.getfield 38, 3) := by decide +kernel
theorem dX6_step_4 : decode cX6_step 4 = .ok (.aload_n 0, 1) := by decide +kernel
theorem dX6_step_5 : decode cX6_step 5 = .ok (.getfield 35, 3) := by decide +kernel
theorem dX6_step_8 : decode cX6_step 8 = .ok (.isub, 1) := by decide +kernel
theorem dX6_step_9 : decode cX6_step 9 = .ok (.i2l, 1) := by decide +kernel
theorem dX6_step_10 : decode cX6_step 10 = .ok (.ldc2_w 51, 3) := by decide +kernel
theorem dX6_step_13 : decode cX6_step 13 = .ok (.lmul, 1) := by decide +kernel
theorem dX6_step_14 : decode cX6_step 14 = .ok (.aload_n 0, 1) := by decide +kernel
theorem dX6_step_15 : decode cX6_step 15 = .ok (.getfield 35, 3) := by decide +kernel
theorem dX6_step_18 : decode cX6_step 18 = .ok (.i2l, 1) := by decide +kernel
theorem dX6_step_19 : decode cX6_step 19 = .ok (.aload_n 0, 1) := by decide +kernel
theorem dX6_step_20 : decode cX6_step 20 = .ok (.invokevirtual 131, 3) := by decide +kernel
theorem dX6_step_23 : decode cX6_step 23 = .ok (.lmul, 1) := by decide +kernel
theorem dX6_step_24 : decode cX6_step 24 = .ok (.ladd, 1) := by decide +kernel
theorem dX6_step_25 : decode cX6_step 25 = .ok (.aload_n 0, 1) := by decide +kernel
theorem dX6_step_26 : decode cX6_step 26 = .ok (.getfield 38, 3) := by decide +kernel
theorem dX6_step_29 : decode cX6_step 29 = .ok (.i2l, 1) := by decide +kernel
theorem dX6_step_30 : decode cX6_step 30 = .ok (.ldiv, 1) := by decide +kernel
theorem dX6_step_31 : decode cX6_step 31 = .ok (.lstore_n 1, 1) := by decide +kernel
theorem dX6_step_32 : decode cX6_step 32 = .ok (.aload_n 0, 1) := by decide +kernel
theorem dX6_step_33 : decode cX6_step 33 = .ok (.invokevirtual 127, 3) := by decide +kernel
theorem dX6_step_36 : decode cX6_step 36 = .ok (.istore_n 3, 1) := by decide +kernel
theorem dX6_step_37 : decode cX6_step 37 = .ok (.iconst 0, 1) := by decide +kernel
theorem dX6_step_38 : decode cX6_step 38 = .ok (.istore 4, 2) := by decide +kernel
theorem dX6_step_40 : decode cX6_step 40 = .ok (.iload 4, 2) := by decide +kernel
theorem dX6_step_42 : decode cX6_step 42 = .ok (.aload_n 0, 1) := by decide +kernel
theorem dX6_step_43 : decode cX6_step 43 = .ok (.getfield 32, 3) := by decide +kernel
theorem dX6_step_46 : decode cX6_step 46 = .ok (.if_icmp .ge 29, 3) := by decide +kernel
theorem dX6_step_49 : decode cX6_step 49 = .ok (.aload_n 0, 1) := by decide +kernel
theorem dX6_step_50 : decode cX6_step 50 = .ok (.getfield 29, 3) := by decide +kernel
theorem dX6_step_53 : decode cX6_step 53 = .ok (.iload 4, 2) := by decide +kernel
theorem dX6_step_55 : decode cX6_step 55 = .ok (.lload_n 1, 1) := by decide +kernel
theorem dX6_step_56 : decode cX6_step 56 = .ok (.aload_n 0, 1) := by decide +kernel
theorem dX6_step_57 : decode cX6_step 57 = .ok (.getfield 21, 3) := by decide +kernel
theorem dX6_step_60 : decode cX6_step 60 = .ok (.iload 4, 2) := by decide +kernel
theorem dX6_step_62 : decode cX6_step 62 = .ok (.iaload, 1) := by decide +kernel
theorem dX6_step_63 : decode cX6_step 63 = .ok (.i2l, 1) := by decide +kernel
theorem dX6_step_64 : decode cX6_step 64 = .ok (.lmul, 1) := by decide +kernel
theorem dX6_step_65 : decode cX6_step 65 = .ok (.iload_n 3, 1) := by decide +kernel
theorem dX6_step_66 : decode cX6_step 66 = .ok (.i2l, 1) := by decide +kernel
theorem dX6_step_67 : decode cX6_step 67 = .ok (.ldiv, 1) := by decide +kernel
theorem dX6_step_68 : decode cX6_step 68 = .ok (.lastore, 1) := by decide +kernel
theorem dX6_step_69 : decode cX6_step 69 = .ok (.iinc 4 1, 3) := by decide +kernel
theorem dX6_step_72 : decode cX6_step 72 = .ok (.goto (-32), 3) := by decide +kernel
theorem dX6_step_75 : decode cX6_step 75 = .ok (.iconst 0, 1) := by decide +kernel
theorem dX6_step_76 : decode cX6_step 76 = .ok (.istore 4, 2) := by decide +kernel
theorem dX6_step_78 : decode cX6_step 78 = .ok (.iload 4, 2) := by decide +kernel
theorem dX6_step_80 : decode cX6_step 80 = .ok (.aload_n 0, 1) := by decide +kernel
theorem dX6_step_81 : decode cX6_step 81 = .ok (.getfield 32, 3) := by decide +kernel
theorem dX6_step_84 : decode cX6_step 84 = .ok (.if_icmp .ge 75, 3) := by decide +kernel
theorem dX6_step_87 : decode cX6_step 87 = .ok (.aload_n 0, 1) := by decide +kernel
theorem dX6_step_88 : decode cX6_step 88 = .ok (.iload 4, 2) := by decide +kernel
theorem dX6_step_90 : decode cX6_step 90 = .ok (.iconst 0, 1) := by decide +kernel
theorem dX6_step_91 : decode cX6_step 91 = .ok (.invokevirtual 124, 3) := by decide +kernel
theorem dX6_step_94 : decode cX6_step 94 = .ok (.ifCond .ne 6, 3) := by decide +kernel
theorem dX6_step_97 : decode cX6_step 97 = .ok (.goto 56, 3) := by decide +kernel
theorem dX6_step_100 : decode cX6_step 100 = .ok (.aload_n 0, 1) := by decide +kernel
theorem dX6_step_101 : decode cX6_step 101 = .ok (.iload 4, 2) := by decide +kernel
theorem dX6_step_103 : decode cX6_step 103 = .ok (.invokevirtual 135, 3) := by decide +kernel
theorem dX6_step_106 : decode cX6_step 106 = .ok (.lstore 5, 2) := by decide +kernel
theorem dX6_step_108 : decode cX6_step 108 = .ok (.iconst 0, 1) := by decide +kernel
theorem dX6_step_109 : decode cX6_step 109 = .ok (.istore 7, 2) := by decide +kernel
theorem dX6_step_111 : decode cX6_step 111 = .ok (.iload 7, 2) := by decide +kernel
theorem dX6_step_113 : decode cX6_step 113 = .ok (.aload_n 0, 1) := by decide +kernel
theorem dX6_step_114 : decode cX6_step 114 = .ok (.getfield 32, 3) := by decide +kernel
theorem dX6_step_117 : decode cX6_step 117 = .ok (.if_icmp .ge 36, 3) := by decide +kernel
theorem dX6_step_120 : decode cX6_step 120 = .ok (.aload_n 0, 1) := by decide +kernel
theorem dX6_step_121 : decode cX6_step 121 = .ok (.getfield 29, 3) := by decide +kernel
theorem dX6_step_124 : decode cX6_step 124 = .ok (.iload 7, 2) := by decide +kernel
theorem dX6_step_126 : decode cX6_step 126 = .ok (.dup2, 1) := by decide +kernel
theorem dX6_step_127 : decode cX6_step 127 = .ok (.laload, 1) := by decide +kernel
theorem dX6_step_128 : decode cX6_step 128 = .ok (.aload_n 0, 1) := by decide +kernel
theorem dX6_step_129 : decode cX6_step 129 = .ok (.iload 4, 2) := by decide +kernel
theorem dX6_step_131 : decode cX6_step 131 = .ok (.iload 7, 2) := by decide +kernel
theorem dX6_step_133 : decode cX6_step 133 = .ok (.invokevirtual 117, 3) := by decide +kernel
theorem dX6_step_136 : decode cX6_step 136 = .ok (.ifCond .eq 8, 3) := by decide +kernel
theorem dX6_step_139 : decode cX6_step 139 = .ok (.lload 5, 2) := by decide +kernel
theorem dX6_step_141 : decode cX6_step 141 = .ok (.goto 4, 3) := by decide +kernel
theorem dX6_step_144 : decode cX6_step 144 = .ok (.lconst 0, 1) := by decide +kernel
theorem dX6_step_145 : decode cX6_step 145 = .ok (.ladd, 1) := by decide +kernel
theorem dX6_step_146 : decode cX6_step 146 = .ok (.lastore, 1) := by decide +kernel
theorem dX6_step_147 : decode cX6_step 147 = .ok (.iinc 7 1, 3) := by decide +kernel
theorem dX6_step_150 : decode cX6_step 150 = .ok (.goto (-39), 3) := by decide +kernel
theorem dX6_step_153 : decode cX6_step 153 = .ok (.iinc 4 1, 3) := by decide +kernel
theorem dX6_step_156 : decode cX6_step 156 = .ok (.goto (-78), 3) := by decide +kernel
theorem dX6_step_159 : decode cX6_step 159 = .ok (.aload_n 0, 1) := by decide +kernel
theorem dX6_step_160 : decode cX6_step 160 = .ok (.lconst 0, 1) := by decide +kernel
theorem dX6_step_161 : decode cX6_step 161 = .ok (.putfield 58, 3) := by decide +kernel
theorem dX6_step_164 : decode cX6_step 164 = .ok (.iconst 0, 1) := by decide +kernel
theorem dX6_step_165 : decode cX6_step 165 = .ok (.istore 4, 2) := by decide +kernel
theorem dX6_step_167 : decode cX6_step 167 = .ok (.iload 4, 2) := by decide +kernel
theorem dX6_step_169 : decode cX6_step 169 = .ok (.aload_n 0, 1) := by decide +kernel
theorem dX6_step_170 : decode cX6_step 170 = .ok (.getfield 32, 3) := by decide +kernel
theorem dX6_step_173 : decode cX6_step 173 = .ok (.if_icmp .ge 83, 3) := by decide +kernel
theorem dX6_step_176 : decode cX6_step 176 = .ok (.aload_n 0, 1) := by decide +kernel
theorem dX6_step_177 : decode cX6_step 177 = .ok (.dup, 1) := by decide +kernel
theorem dX6_step_178 : decode cX6_step 178 = .ok (.getfield 58, 3) := by decide +kernel
theorem dX6_step_181 : decode cX6_step 181 = .ok (.aload_n 0, 1) := by decide +kernel
theorem dX6_step_182 : decode cX6_step 182 = .ok (.getfield 29, 3) := by decide +kernel
theorem dX6_step_185 : decode cX6_step 185 = .ok (.iload 4, 2) := by decide +kernel
theorem dX6_step_187 : decode cX6_step 187 = .ok (.laload, 1) := by decide +kernel
theorem dX6_step_188 : decode cX6_step 188 = .ok (.aload_n 0, 1) := by decide +kernel
theorem dX6_step_189 : decode cX6_step 189 = .ok (.getfield 25, 3) := by decide +kernel
theorem dX6_step_192 : decode cX6_step 192 = .ok (.iload 4, 2) := by decide +kernel
theorem dX6_step_194 : decode cX6_step 194 = .ok (.laload, 1) := by decide +kernel
theorem dX6_step_195 : decode cX6_step 195 = .ok (.lcmp, 1) := by decide +kernel
theorem dX6_step_196 : decode cX6_step 196 = .ok (.ifCond .le 21, 3) := by decide +kernel
theorem dX6_step_199 : decode cX6_step 199 = .ok (.aload_n 0, 1) := by decide +kernel
theorem dX6_step_200 : decode cX6_step 200 = .ok (.getfield 29, 3) := by decide +kernel
theorem dX6_step_203 : decode cX6_step 203 = .ok (.iload 4, 2) := by decide +kernel
theorem dX6_step_205 : decode cX6_step 205 = .ok (.laload, 1) := by decide +kernel
theorem dX6_step_206 : decode cX6_step 206 = .ok (.aload_n 0, 1) := by decide +kernel
theorem dX6_step_207 : decode cX6_step 207 = .ok (.getfield 25, 3) := by decide +kernel
theorem dX6_step_210 : decode cX6_step 210 = .ok (.iload 4, 2) := by decide +kernel
theorem dX6_step_212 : decode cX6_step 212 = .ok (.laload, 1) := by decide +kernel
theorem dX6_step_213 : decode cX6_step 213 = .ok (.lsub, 1) := by decide +kernel
theorem dX6_step_214 : decode cX6_step 214 = .ok (.goto 18, 3) := by decide +kernel
theorem dX6_step_217 : decode cX6_step 217 = .ok (.aload_n 0, 1) := by decide +kernel
theorem dX6_step_218 : decode cX6_step 218 = .ok (.getfield 25, 3) := by decide +kernel
theorem dX6_step_221 : decode cX6_step 221 = .ok (.iload 4, 2) := by decide +kernel
theorem dX6_step_223 : decode cX6_step 223 = .ok (.laload, 1) := by decide +kernel
theorem dX6_step_224 : decode cX6_step 224 = .ok (.aload_n 0, 1) := by decide +kernel
theorem dX6_step_225 : decode cX6_step 225 = .ok (.getfield 29, 3) := by decide +kernel
theorem dX6_step_228 : decode cX6_step 228 = .ok (.iload 4, 2) := by decide +kernel
theorem dX6_step_230 : decode cX6_step 230 = .ok (.laload, 1) := by decide +kernel
theorem dX6_step_231 : decode cX6_step 231 = .ok (.lsub, 1) := by decide +kernel
theorem dX6_step_232 : decode cX6_step 232 = .ok (.ladd, 1) := by decide +kernel
theorem dX6_step_233 : decode cX6_step 233 = .ok (.putfield 58, 3) := by decide +kernel
theorem dX6_step_236 : decode cX6_step 236 = .ok (.aload_n 0, 1) := by decide +kernel
theorem dX6_step_237 : decode cX6_step 237 = .ok (.getfield 25, 3) := by decide +kernel
theorem dX6_step_240 : decode cX6_step 240 = .ok (.iload 4, 2) := by decide +kernel
theorem dX6_step_242 : decode cX6_step 242 = .ok (.aload_n 0, 1) := by decide +kernel
theorem dX6_step_243 : decode cX6_step 243 = .ok (.getfield 29, 3) := by decide +kernel
theorem dX6_step_246 : decode cX6_step 246 = .ok (.iload 4, 2) := by decide +kernel
theorem dX6_step_248 : decode cX6_step 248 = .ok (.laload, 1) := by decide +kernel
theorem dX6_step_249 : decode cX6_step 249 = .ok (.lastore, 1) := by decide +kernel
theorem dX6_step_250 : decode cX6_step 250 = .ok (.iinc 4 1, 3) := by decide +kernel
theorem dX6_step_253 : decode cX6_step 253 = .ok (.goto (-86), 3) := by decide +kernel
theorem dX6_step_256 : decode cX6_step 256 = .ok (.aload_n 0, 1) := by decide +kernel
theorem dX6_step_257 : decode cX6_step 257 = .ok (.aload_n 0, 1) := by decide +kernel
theorem dX6_step_258 : decode cX6_step 258 = .ok (.getfield 62, 3) := by decide +kernel
theorem dX6_step_261 : decode cX6_step 261 = .ok (.aload_n 0, 1) := by decide +kernel
theorem dX6_step_262 : decode cX6_step 262 = .ok (.getfield 35, 3) := by decide +kernel
theorem dX6_step_265 : decode cX6_step 265 = .ok (.i2l, 1) := by decide +kernel
theorem dX6_step_266 : decode cX6_step 266 = .ok (.lmul, 1) := by decide +kernel
theorem dX6_step_267 : decode cX6_step 267 = .ok (.aload_n 0, 1) := by decide +kernel
theorem dX6_step_268 : decode cX6_step 268 = .ok (.getfield 38, 3) := by decide +kernel
theorem dX6_step_271 : decode cX6_step 271 = .ok (.i2l, 1) := by decide +kernel
theorem dX6_step_272 : decode cX6_step 272 = .ok (.ldiv, 1) := by decide +kernel
theorem dX6_step_273 : decode cX6_step 273 = .ok (.lconst 1, 1) := by decide +kernel
theorem dX6_step_274 : decode cX6_step 274 = .ok (.ladd, 1) := by decide +kernel
theorem dX6_step_275 : decode cX6_step 275 = .ok (.putfield 62, 3) := by decide +kernel
theorem dX6_step_278 : decode cX6_step 278 = .ok (.aload_n 0, 1) := by decide +kernel
theorem dX6_step_279 : decode cX6_step 279 = .ok (.dup, 1) := by decide +kernel
theorem dX6_step_280 : decode cX6_step 280 = .ok (.getfield 53, 3) := by decide +kernel
theorem dX6_step_283 : decode cX6_step 283 = .ok (.iconst 1, 1) := by decide +kernel
theorem dX6_step_284 : decode cX6_step 284 = .ok (.iadd, 1) := by decide +kernel
theorem dX6_step_285 : decode cX6_step 285 = .ok (.putfield 53, 3) := by decide +kernel
theorem dX6_step_288 : decode cX6_step 288 = .ok (.return_, 1) := by decide +kernel
set_option maxRecDepth 20000 in
theorem ggX6_run_X6_throwsIf : GoodIn wsX6_run wsX6_throwsIf := goodIn_r _ [7, 8, 42, 43, 44, 45, 46, 47, 48, 49, 50, 51, 52, 53, 54, 55, 56, 57, 58, 59, 60, 61, 62, 63, 64, 65] (by decide +kernel) (by decide +kernel)
set_option maxRecDepth 20000 in
theorem gX6_run_X6_throwsIf : GoodIn wsX6_run (wsV RX6 120 RX6 yX6_throwsIf wsX6_throwsIf) := goodIn_app (goodIn_of _ (by decide +kernel)) ggX6_run_X6_throwsIf
set_option maxRecDepth 20000 in
theorem ggX6_run_X6_step : GoodIn wsX6_run wsX6_step := goodIn_r _ [12, 13, 14, 15, 16, 17, 18, 2, 19, 20, 1, 21, 22, 23, 6, 24, 25, 26, 27, 28, 29, 30, 31, 32, 33, 34, 35, 36, 37, 38, 39, 40, 41, 42, 43, 44, 45, 46, 47, 48, 49, 50, 51, 52, 53, 54, 55, 56, 57, 58, 59, 60, 61, 62, 63, 64, 65] (by decide +kernel) (by decide +kernel)
set_option maxRecDepth 20000 in
theorem gX6_run_X6_step : GoodIn wsX6_run (wsV RX6 139 RX6 yX6_step wsX6_step) := goodIn_app (goodIn_of _ (by decide +kernel)) ggX6_run_X6_step
theorem dX6_run_0 : decode cX6_run 0 = .ok (.aload_n 0, 1) := by decide +kernel
theorem dX6_run_1 : decode cX6_run 1 = .ok (.iload_n 1, 1) := by decide +kernel
theorem dX6_run_2 : decode cX6_run 2 = .ok (.ifCond .lt 15, 3) := by decide +kernel
theorem dX6_run_5 : decode cX6_run 5 = .ok (.iload_n 1, 1) := by decide +kernel
theorem dX6_run_6 : decode cX6_run 6 = .ok (.bipush 100, 2) := by decide +kernel
theorem dX6_run_8 : decode cX6_run 8 = .ok (.if_icmp .gt 9, 3) := by decide +kernel
theorem dX6_run_11 : decode cX6_run 11 = .ok (.lload_n 2, 1) := by decide +kernel
theorem dX6_run_12 : decode cX6_run 12 = .ok (.lconst 0, 1) := by decide +kernel
theorem dX6_run_13 : decode cX6_run 13 = .ok (.lcmp, 1) := by decide +kernel
theorem dX6_run_14 : decode cX6_run 14 = .ok (.ifCond .ge 7, 3) := by decide +kernel
theorem dX6_run_17 : decode cX6_run 17 = .ok (.iconst 1, 1) := by decide +kernel
theorem dX6_run_18 : decode cX6_run 18 = .ok (.goto 4, 3) := by decide +kernel
theorem dX6_run_21 : decode cX6_run 21 = .ok (.iconst 0, 1) := by decide +kernel
theorem dX6_run_22 : decode cX6_run 22 = .ok (.invokevirtual 120, 3) := by decide +kernel
theorem dX6_run_25 : decode cX6_run 25 = .ok (.ifCond .eq 5, 3) := by decide +kernel
theorem dX6_run_28 : decode cX6_run 28 = .ok (.iconst 0, 1) := by decide +kernel
theorem dX6_run_29 : decode cX6_run 29 = .ok (.ireturn, 1) := by decide +kernel
theorem dX6_run_30 : decode cX6_run 30 = .ok (.iconst 0, 1) := by decide +kernel
theorem dX6_run_31 : decode cX6_run 31 = .ok (.istore 4, 2) := by decide +kernel
theorem dX6_run_33 : decode cX6_run 33 = .ok (.iload 4, 2) := by decide +kernel
theorem dX6_run_35 : decode cX6_run 35 = .ok (.iload_n 1, 1) := by decide +kernel
theorem dX6_run_36 : decode cX6_run 36 = .ok (.if_icmp .ge 29, 3) := by decide +kernel
theorem dX6_run_39 : decode cX6_run 39 = .ok (.aload_n 0, 1) := by decide +kernel
theorem dX6_run_40 : decode cX6_run 40 = .ok (.getfield 53, 3) := by decide +kernel
theorem dX6_run_43 : decode cX6_run 43 = .ok (.ifCond .eq 12, 3) := by decide +kernel
theorem dX6_run_46 : decode cX6_run 46 = .ok (.aload_n 0, 1) := by decide +kernel
theorem dX6_run_47 : decode cX6_run 47 = .ok (.getfield 58, 3) := by decide +kernel
theorem dX6_run_50 : decode cX6_run 50 = .ok (.lload_n 2, 1) := by decide +kernel
theorem dX6_run_51 : decode cX6_run 51 = .ok (.lcmp, 1) := by decide +kernel
theorem dX6_run_52 : decode cX6_run 52 = .ok (.ifCond .le 13, 3) := by decide +kernel
theorem dX6_run_55 : decode cX6_run 55 = .ok (.aload_n 0, 1) := by decide +kernel
theorem dX6_run_56 : decode cX6_run 56 = .ok (.invokevirtual 139, 3) := by decide +kernel
theorem dX6_run_59 : decode cX6_run 59 = .ok (.iinc 4 1, 3) := by decide +kernel
theorem dX6_run_62 : decode cX6_run 62 = .ok (.goto (-29), 3) := by decide +kernel
theorem dX6_run_65 : decode cX6_run 65 = .ok (.iload 4, 2) := by decide +kernel
theorem dX6_run_67 : decode cX6_run 67 = .ok (.ireturn, 1) := by decide +kernel
set_option maxRecDepth 20000 in
theorem ggX6_again_X6_begin : GoodIn wsX6_again wsX6_begin := goodIn_r _ [6, 7, 8, 9, 10, 11, 12, 13, 14, 15, 16, 17, 18, 19, 20, 21, 22, 23, 24, 25, 26, 27, 28, 29, 30, 31, 32, 33, 34, 35, 36, 37] (by decide +kernel) (by decide +kernel)
set_option maxRecDepth 20000 in
theorem gX6_again_X6_begin : GoodIn wsX6_again (wsV RX6 48 RX6 yX6_begin wsX6_begin) := goodIn_app (goodIn_of _ (by decide +kernel)) ggX6_again_X6_begin
theorem dX6_again_0 : decode cX6_again 0 = .ok (.aload_n 0, 1) := by decide +kernel
theorem dX6_again_1 : decode cX6_again 1 = .ok (.iconst 0, 1) := by decide +kernel
theorem dX6_again_2 : decode cX6_again 2 = .ok (.putfield 1, 3) := by decide +kernel
theorem dX6_again_5 : decode cX6_again 5 = .ok (.aload_n 0, 1) := by decide +kernel
theorem dX6_again_6 : decode cX6_again 6 = .ok (.invokevirtual 48, 3) := by decide +kernel
theorem dX6_again_9 : decode cX6_again 9 = .ok (.return_, 1) := by decide +kernel
set_option maxRecDepth 20000 in
theorem ggX6_rank_X6_no : GoodIn wsX6_rank wsX6_no := goodIn_r _ [6, 7, 13, 14, 15, 16, 17, 18, 19, 20, 21, 22, 23, 24, 25, 26, 27, 28, 29, 30, 31, 32, 33, 34, 35, 36] (by decide +kernel) (by decide +kernel)
set_option maxRecDepth 20000 in
theorem gX6_rank_X6_no : GoodIn wsX6_rank (wsV RX6 113 RX6 yX6_no wsX6_no) := goodIn_app (goodIn_of _ (by decide +kernel)) ggX6_rank_X6_no
set_option maxRecDepth 20000 in
theorem ggX6_rank_X6_throwsIf : GoodIn wsX6_rank wsX6_throwsIf := goodIn_r _ [11, 12, 13, 14, 15, 16, 17, 18, 19, 20, 21, 22, 23, 24, 25, 26, 27, 28, 29, 30, 31, 32, 33, 34, 35, 36] (by decide +kernel) (by decide +kernel)
set_option maxRecDepth 20000 in
theorem gX6_rank_X6_throwsIf : GoodIn wsX6_rank (wsV RX6 120 RX6 yX6_throwsIf wsX6_throwsIf) := goodIn_app (goodIn_of _ (by decide +kernel)) ggX6_rank_X6_throwsIf
theorem dX6_rank_0 : decode cX6_rank 0 = .ok (.aload_n 0, 1) := by decide +kernel
theorem dX6_rank_1 : decode cX6_rank 1 = .ok (.aload_n 0, 1) := by decide +kernel
theorem dX6_rank_2 : decode cX6_rank 2 = .ok (.iload_n 1, 1) := by decide +kernel
theorem dX6_rank_3 : decode cX6_rank 3 = .ok (.invokevirtual 113, 3) := by decide +kernel
theorem dX6_rank_6 : decode cX6_rank 6 = .ok (.invokevirtual 120, 3) := by decide +kernel
theorem dX6_rank_9 : decode cX6_rank 9 = .ok (.ifCond .eq 7, 3) := by decide +kernel
theorem dX6_rank_12 : decode cX6_rank 12 = .ok (.lconst 0, 1) := by decide +kernel
theorem dX6_rank_13 : decode cX6_rank 13 = .ok (.goto 9, 3) := by decide +kernel
theorem dX6_rank_16 : decode cX6_rank 16 = .ok (.aload_n 0, 1) := by decide +kernel
theorem dX6_rank_17 : decode cX6_rank 17 = .ok (.getfield 25, 3) := by decide +kernel
theorem dX6_rank_20 : decode cX6_rank 20 = .ok (.iload_n 1, 1) := by decide +kernel
theorem dX6_rank_21 : decode cX6_rank 21 = .ok (.laload, 1) := by decide +kernel
theorem dX6_rank_22 : decode cX6_rank 22 = .ok (.lreturn, 1) := by decide +kernel
set_option maxRecDepth 20000 in
theorem ggX6_look_X6_bare : GoodIn wsX6_look wsX6_bare := goodIn_r _ [16, 2, 3, 17, 18, 19, 15, 20, 21, 22, 23, 24, 25, 26, 27, 28, 29, 30, 31, 32, 33, 34, 35, 36, 37, 38, 39, 40, 41, 42, 43, 44, 45, 46, 47, 48, 49] (by decide +kernel) (by decide +kernel)
set_option maxRecDepth 20000 in
theorem gX6_look_X6_bare : GoodIn wsX6_look (wsV RX6 131 RX6 yX6_bare wsX6_bare) := goodIn_app (goodIn_of _ (by decide +kernel)) ggX6_look_X6_bare
theorem dX6_look_0 : decode cX6_look 0 = .ok (.aload_n 0, 1) := by decide +kernel
theorem dX6_look_1 : decode cX6_look 1 = .ok (.iconst 0, 1) := by decide +kernel
theorem dX6_look_2 : decode cX6_look 2 = .ok (.putfield 1, 3) := by decide +kernel
theorem dX6_look_5 : decode cX6_look 5 = .ok (.lconst 0, 1) := by decide +kernel
theorem dX6_look_6 : decode cX6_look 6 = .ok (.lstore_n 2, 1) := by decide +kernel
theorem dX6_look_7 : decode cX6_look 7 = .ok (.iload_n 1, 1) := by decide +kernel
theorem dX6_look_8 : decode cX6_look 8 = .ok (.tableswitch 122 0 4 #[36, 66, 71, 111, 117], 36) := by decide +kernel
theorem dX6_look_44 : decode cX6_look 44 = .ok (.iconst 0, 1) := by decide +kernel
theorem dX6_look_45 : decode cX6_look 45 = .ok (.istore 4, 2) := by decide +kernel
theorem dX6_look_47 : decode cX6_look 47 = .ok (.iload 4, 2) := by decide +kernel
theorem dX6_look_49 : decode cX6_look 49 = .ok (.aload_n 0, 1) := by decide +kernel
theorem dX6_look_50 : decode cX6_look 50 = .ok (.getfield 32, 3) := by decide +kernel
theorem dX6_look_53 : decode cX6_look 53 = .ok (.if_icmp .ge 19, 3) := by decide +kernel
theorem dX6_look_56 : decode cX6_look 56 = .ok (.lload_n 2, 1) := by decide +kernel
theorem dX6_look_57 : decode cX6_look 57 = .ok (.aload_n 0, 1) := by decide +kernel
theorem dX6_look_58 : decode cX6_look 58 = .ok (.getfield 25, 3) := by decide +kernel
theorem dX6_look_61 : decode cX6_look 61 = .ok (.iload 4, 2) := by decide +kernel
theorem dX6_look_63 : decode cX6_look 63 = .ok (.laload, 1) := by decide +kernel
theorem dX6_look_64 : decode cX6_look 64 = .ok (.ladd, 1) := by decide +kernel
theorem dX6_look_65 : decode cX6_look 65 = .ok (.lstore_n 2, 1) := by decide +kernel
theorem dX6_look_66 : decode cX6_look 66 = .ok (.iinc 4 1, 3) := by decide +kernel
theorem dX6_look_69 : decode cX6_look 69 = .ok (.goto (-22), 3) := by decide +kernel
theorem dX6_look_72 : decode cX6_look 72 = .ok (.lload_n 2, 1) := by decide +kernel
theorem dX6_look_73 : decode cX6_look 73 = .ok (.lreturn, 1) := by decide +kernel
theorem dX6_look_74 : decode cX6_look 74 = .ok (.aload_n 0, 1) := by decide +kernel
theorem dX6_look_75 : decode cX6_look 75 = .ok (.getfield 58, 3) := by decide +kernel
theorem dX6_look_78 : decode cX6_look 78 = .ok (.lreturn, 1) := by decide +kernel
theorem dX6_look_79 : decode cX6_look 79 = .ok (.aload_n 0, 1) := by decide +kernel
theorem dX6_look_80 : decode cX6_look 80 = .ok (.getfield 62, 3) := by decide +kernel
theorem dX6_look_83 : decode cX6_look 83 = .ok (.aload_n 0, 1) := by decide +kernel
theorem dX6_look_84 : decode cX6_look 84 = .ok (.getfield 102, 3) := by decide +kernel
theorem dX6_look_87 : decode cX6_look 87 = .ok (.i2l, 1) := by decide +kernel
theorem dX6_look_88 : decode cX6_look 88 = .ok (.ldc2_w 142, 3) := by decide +kernel
theorem dX6_look_91 : decode cX6_look 91 = .ok (.aload_n 0, 1) := by decide +kernel
theorem dX6_look_92 : decode cX6_look 92 = .ok (.getfield 32, 3) := by decide +kernel
theorem dX6_look_95 : decode cX6_look 95 = .ok (.i2l, 1) := by decide +kernel
theorem dX6_look_96 : decode cX6_look 96 = .ok (.lmul, 1) := by decide +kernel
theorem dX6_look_97 : decode cX6_look 97 = .ok (.ladd, 1) := by decide +kernel
theorem dX6_look_98 : decode cX6_look 98 = .ok (.aload_n 0, 1) := by decide +kernel
theorem dX6_look_99 : decode cX6_look 99 = .ok (.getfield 38, 3) := by decide +kernel
theorem dX6_look_102 : decode cX6_look 102 = .ok (.i2l, 1) := by decide +kernel
theorem dX6_look_103 : decode cX6_look 103 = .ok (.lmul, 1) := by decide +kernel
theorem dX6_look_104 : decode cX6_look 104 = .ok (.aload_n 0, 1) := by decide +kernel
theorem dX6_look_105 : decode cX6_look 105 = .ok (.getfield 38, 3) := by decide +kernel
theorem dX6_look_108 : decode cX6_look 108 = .ok (.aload_n 0, 1) := by decide +kernel
theorem dX6_look_109 : decode cX6_look 109 = .ok (.getfield 35, 3) := by decide +kernel
theorem dX6_look_112 : decode cX6_look 112 = .ok (.isub, 1) := by decide +kernel
theorem dX6_look_113 : decode cX6_look 113 = .ok (.i2l, 1) := by decide +kernel
theorem dX6_look_114 : decode cX6_look 114 = .ok (.ldiv, 1) := by decide +kernel
theorem dX6_look_115 : decode cX6_look 115 = .ok (.ladd, 1) := by decide +kernel
theorem dX6_look_116 : decode cX6_look 116 = .ok (.lconst 1, 1) := by decide +kernel
theorem dX6_look_117 : decode cX6_look 117 = .ok (.ladd, 1) := by decide +kernel
theorem dX6_look_118 : decode cX6_look 118 = .ok (.lreturn, 1) := by decide +kernel
theorem dX6_look_119 : decode cX6_look 119 = .ok (.aload_n 0, 1) := by decide +kernel
theorem dX6_look_120 : decode cX6_look 120 = .ok (.getfield 53, 3) := by decide +kernel
theorem dX6_look_123 : decode cX6_look 123 = .ok (.i2l, 1) := by decide +kernel
theorem dX6_look_124 : decode cX6_look 124 = .ok (.lreturn, 1) := by decide +kernel
theorem dX6_look_125 : decode cX6_look 125 = .ok (.aload_n 0, 1) := by decide +kernel
theorem dX6_look_126 : decode cX6_look 126 = .ok (.invokevirtual 131, 3) := by decide +kernel
theorem dX6_look_129 : decode cX6_look 129 = .ok (.lreturn, 1) := by decide +kernel
theorem dX6_look_130 : decode cX6_look 130 = .ok (.ldc2_w 144, 3) := by decide +kernel
theorem dX6_look_133 : decode cX6_look 133 = .ok (.lreturn, 1) := by decide +kernel
theorem dX6_top_0 : decode cX6_top 0 = .ok (.aload_n 0, 1) := by decide +kernel
theorem dX6_top_1 : decode cX6_top 1 = .ok (.iconst 0, 1) := by decide +kernel
theorem dX6_top_2 : decode cX6_top 2 = .ok (.putfield 1, 3) := by decide +kernel
theorem dX6_top_5 : decode cX6_top 5 = .ok (.iconst 0, 1) := by decide +kernel
theorem dX6_top_6 : decode cX6_top 6 = .ok (.istore_n 2, 1) := by decide +kernel
theorem dX6_top_7 : decode cX6_top 7 = .ok (.iload_n 2, 1) := by decide +kernel
theorem dX6_top_8 : decode cX6_top 8 = .ok (.aload_n 0, 1) := by decide +kernel
theorem dX6_top_9 : decode cX6_top 9 = .ok (.getfield 32, 3) := by decide +kernel
theorem dX6_top_12 : decode cX6_top 12 = .ok (.if_icmp .ge 84, 3) := by decide +kernel
theorem dX6_top_15 : decode cX6_top 15 = .ok (.iconst 0, 1) := by decide +kernel
theorem dX6_top_16 : decode cX6_top 16 = .ok (.istore_n 3, 1) := by decide +kernel
theorem dX6_top_17 : decode cX6_top 17 = .ok (.iconst 0, 1) := by decide +kernel
theorem dX6_top_18 : decode cX6_top 18 = .ok (.istore 4, 2) := by decide +kernel
theorem dX6_top_20 : decode cX6_top 20 = .ok (.iload 4, 2) := by decide +kernel
theorem dX6_top_22 : decode cX6_top 22 = .ok (.aload_n 0, 1) := by decide +kernel
theorem dX6_top_23 : decode cX6_top 23 = .ok (.getfield 32, 3) := by decide +kernel
theorem dX6_top_26 : decode cX6_top 26 = .ok (.if_icmp .ge 57, 3) := by decide +kernel
theorem dX6_top_29 : decode cX6_top 29 = .ok (.iload_n 3, 1) := by decide +kernel
theorem dX6_top_30 : decode cX6_top 30 = .ok (.aload_n 0, 1) := by decide +kernel
theorem dX6_top_31 : decode cX6_top 31 = .ok (.getfield 25, 3) := by decide +kernel
theorem dX6_top_34 : decode cX6_top 34 = .ok (.iload 4, 2) := by decide +kernel
theorem dX6_top_36 : decode cX6_top 36 = .ok (.laload, 1) := by decide +kernel
theorem dX6_top_37 : decode cX6_top 37 = .ok (.aload_n 0, 1) := by decide +kernel
theorem dX6_top_38 : decode cX6_top 38 = .ok (.getfield 25, 3) := by decide +kernel
theorem dX6_top_41 : decode cX6_top 41 = .ok (.iload_n 2, 1) := by decide +kernel
theorem dX6_top_42 : decode cX6_top 42 = .ok (.laload, 1) := by decide +kernel
theorem dX6_top_43 : decode cX6_top 43 = .ok (.lcmp, 1) := by decide +kernel
theorem dX6_top_44 : decode cX6_top 44 = .ok (.ifCond .gt 26, 3) := by decide +kernel
theorem dX6_top_47 : decode cX6_top 47 = .ok (.aload_n 0, 1) := by decide +kernel
theorem dX6_top_48 : decode cX6_top 48 = .ok (.getfield 25, 3) := by decide +kernel
theorem dX6_top_51 : decode cX6_top 51 = .ok (.iload 4, 2) := by decide +kernel
theorem dX6_top_53 : decode cX6_top 53 = .ok (.laload, 1) := by decide +kernel
theorem dX6_top_54 : decode cX6_top 54 = .ok (.aload_n 0, 1) := by decide +kernel
theorem dX6_top_55 : decode cX6_top 55 = .ok (.getfield 25, 3) := by decide +kernel
theorem dX6_top_58 : decode cX6_top 58 = .ok (.iload_n 2, 1) := by decide +kernel
theorem dX6_top_59 : decode cX6_top 59 = .ok (.laload, 1) := by decide +kernel
theorem dX6_top_60 : decode cX6_top 60 = .ok (.lcmp, 1) := by decide +kernel
theorem dX6_top_61 : decode cX6_top 61 = .ok (.ifCond .ne 13, 3) := by decide +kernel
theorem dX6_top_64 : decode cX6_top 64 = .ok (.iload 4, 2) := by decide +kernel
theorem dX6_top_66 : decode cX6_top 66 = .ok (.iload_n 2, 1) := by decide +kernel
theorem dX6_top_67 : decode cX6_top 67 = .ok (.if_icmp .ge 7, 3) := by decide +kernel
theorem dX6_top_70 : decode cX6_top 70 = .ok (.iconst 1, 1) := by decide +kernel
theorem dX6_top_71 : decode cX6_top 71 = .ok (.goto 4, 3) := by decide +kernel
theorem dX6_top_74 : decode cX6_top 74 = .ok (.iconst 0, 1) := by decide +kernel
theorem dX6_top_75 : decode cX6_top 75 = .ok (.iadd, 1) := by decide +kernel
theorem dX6_top_76 : decode cX6_top 76 = .ok (.istore_n 3, 1) := by decide +kernel
theorem dX6_top_77 : decode cX6_top 77 = .ok (.iinc 4 1, 3) := by decide +kernel
theorem dX6_top_80 : decode cX6_top 80 = .ok (.goto (-60), 3) := by decide +kernel
theorem dX6_top_83 : decode cX6_top 83 = .ok (.iload_n 3, 1) := by decide +kernel
theorem dX6_top_84 : decode cX6_top 84 = .ok (.iload_n 1, 1) := by decide +kernel
theorem dX6_top_85 : decode cX6_top 85 = .ok (.if_icmp .ne 5, 3) := by decide +kernel
theorem dX6_top_88 : decode cX6_top 88 = .ok (.iload_n 2, 1) := by decide +kernel
theorem dX6_top_89 : decode cX6_top 89 = .ok (.ireturn, 1) := by decide +kernel
theorem dX6_top_90 : decode cX6_top 90 = .ok (.iinc 2 1, 3) := by decide +kernel
theorem dX6_top_93 : decode cX6_top 93 = .ok (.goto (-86), 3) := by decide +kernel
theorem dX6_top_96 : decode cX6_top 96 = .ok (.iconst (-1), 1) := by decide +kernel
theorem dX6_top_97 : decode cX6_top 97 = .ok (.ireturn, 1) := by decide +kernel
set_option maxRecDepth 20000 in
theorem ggX6_gives_X6_no : GoodIn wsX6_gives wsX6_no := goodIn_r _ [7, 8, 25, 26, 27, 28, 29, 30, 31, 32, 33, 34, 35, 36, 37, 38, 39, 40, 41, 42, 43, 44, 45, 46, 47, 48] (by decide +kernel) (by decide +kernel)
set_option maxRecDepth 20000 in
theorem gX6_gives_X6_no : GoodIn wsX6_gives (wsV RX6 113 RX6 yX6_no wsX6_no) := goodIn_app (goodIn_of _ (by decide +kernel)) ggX6_gives_X6_no
set_option maxRecDepth 20000 in
theorem ggX6_gives_X6_goes : GoodIn wsX6_gives wsX6_goes := goodIn_r _ [12, 13, 25, 26, 27, 28, 29, 30, 31, 32, 33, 34, 35, 36, 37, 38, 39, 40, 41, 42, 43, 44, 45, 46, 47, 48] (by decide +kernel) (by decide +kernel)
set_option maxRecDepth 20000 in
theorem gX6_gives_X6_goes : GoodIn wsX6_gives (wsV RX6 117 RX6 yX6_goes wsX6_goes) := goodIn_app (goodIn_of _ (by decide +kernel)) ggX6_gives_X6_goes
set_option maxRecDepth 20000 in
theorem ggX6_gives_X6_share : GoodIn wsX6_gives wsX6_share := goodIn_r _ [17, 18, 19, 20, 21, 22, 23, 6, 24, 8, 9, 10, 11, 12, 13, 25, 26, 27, 28, 29, 30, 31, 32, 33, 34, 35, 36, 37, 38, 39, 40, 41, 42, 43, 44, 45, 46, 47, 48] (by decide +kernel) (by decide +kernel)
set_option maxRecDepth 20000 in
theorem gX6_gives_X6_share : GoodIn wsX6_gives (wsV RX6 135 RX6 yX6_share wsX6_share) := goodIn_app (goodIn_of _ (by decide +kernel)) ggX6_gives_X6_share
theorem dX6_gives_0 : decode cX6_gives 0 = .ok (.aload_n 0, 1) := by decide +kernel
theorem dX6_gives_1 : decode cX6_gives 1 = .ok (.iconst 0, 1) := by decide +kernel
theorem dX6_gives_2 : decode cX6_gives 2 = .ok (.putfield 1, 3) := by decide +kernel
theorem dX6_gives_5 : decode cX6_gives 5 = .ok (.aload_n 0, 1) := by decide +kernel
theorem dX6_gives_6 : decode cX6_gives 6 = .ok (.iload_n 1, 1) := by decide +kernel
theorem dX6_gives_7 : decode cX6_gives 7 = .ok (.invokevirtual 113, 3) := by decide +kernel
theorem dX6_gives_10 : decode cX6_gives 10 = .ok (.ifCond .ne 20, 3) := by decide +kernel
theorem dX6_gives_13 : decode cX6_gives 13 = .ok (.aload_n 0, 1) := by decide +kernel
theorem dX6_gives_14 : decode cX6_gives 14 = .ok (.iload_n 2, 1) := by decide +kernel
theorem dX6_gives_15 : decode cX6_gives 15 = .ok (.invokevirtual 113, 3) := by decide +kernel
theorem dX6_gives_18 : decode cX6_gives 18 = .ok (.ifCond .ne 12, 3) := by decide +kernel
theorem dX6_gives_21 : decode cX6_gives 21 = .ok (.aload_n 0, 1) := by decide +kernel
theorem dX6_gives_22 : decode cX6_gives 22 = .ok (.iload_n 1, 1) := by decide +kernel
theorem dX6_gives_23 : decode cX6_gives 23 = .ok (.iload_n 2, 1) := by decide +kernel
theorem dX6_gives_24 : decode cX6_gives 24 = .ok (.invokevirtual 117, 3) := by decide +kernel
theorem dX6_gives_27 : decode cX6_gives 27 = .ok (.ifCond .ne 9, 3) := by decide +kernel
theorem dX6_gives_30 : decode cX6_gives 30 = .ok (.ldc2_w 144, 3) := by decide +kernel
theorem dX6_gives_33 : decode cX6_gives 33 = .ok (.goto 8, 3) := by decide +kernel
theorem dX6_gives_36 : decode cX6_gives 36 = .ok (.aload_n 0, 1) := by decide +kernel
theorem dX6_gives_37 : decode cX6_gives 37 = .ok (.iload_n 1, 1) := by decide +kernel
theorem dX6_gives_38 : decode cX6_gives 38 = .ok (.invokevirtual 135, 3) := by decide +kernel
theorem dX6_gives_41 : decode cX6_gives 41 = .ok (.lreturn, 1) := by decide +kernel
set_option maxRecDepth 20000 in
theorem ggX6_giver_X6_no : GoodIn wsX6_giver wsX6_no := goodIn_r _ [9, 2, 26, 27, 28, 29, 30, 31, 32, 33, 34, 35, 36, 37, 38, 39, 40, 41, 42, 43, 44, 45, 46, 47, 48, 49] (by decide +kernel) (by decide +kernel)
set_option maxRecDepth 20000 in
theorem gX6_giver_X6_no : GoodIn wsX6_giver (wsV RX6 113 RX6 yX6_no wsX6_no) := goodIn_app (goodIn_of _ (by decide +kernel)) ggX6_giver_X6_no
set_option maxRecDepth 20000 in
theorem ggX6_giver_X6_goes : GoodIn wsX6_giver wsX6_goes := goodIn_r _ [13, 14, 26, 27, 28, 29, 30, 31, 32, 33, 34, 35, 36, 37, 38, 39, 40, 41, 42, 43, 44, 45, 46, 47, 48, 49] (by decide +kernel) (by decide +kernel)
set_option maxRecDepth 20000 in
theorem gX6_giver_X6_goes : GoodIn wsX6_giver (wsV RX6 117 RX6 yX6_goes wsX6_goes) := goodIn_app (goodIn_of _ (by decide +kernel)) ggX6_giver_X6_goes
set_option maxRecDepth 20000 in
theorem ggX6_giver_X6_share : GoodIn wsX6_giver wsX6_share := goodIn_r _ [18, 19, 20, 21, 22, 23, 24, 8, 25, 2, 10, 11, 12, 13, 14, 26, 27, 28, 29, 30, 31, 32, 33, 34, 35, 36, 37, 38, 39, 40, 41, 42, 43, 44, 45, 46, 47, 48, 49] (by decide +kernel) (by decide +kernel)
set_option maxRecDepth 20000 in
theorem gX6_giver_X6_share : GoodIn wsX6_giver (wsV RX6 135 RX6 yX6_share wsX6_share) := goodIn_app (goodIn_of _ (by decide +kernel)) ggX6_giver_X6_share
theorem dX6_giver_0 : decode cX6_giver 0 = .ok (.aload_n 0, 1) := by decide +kernel
theorem dX6_giver_1 : decode cX6_giver 1 = .ok (.iconst 0, 1) := by decide +kernel
theorem dX6_giver_2 : decode cX6_giver 2 = .ok (.putfield 1, 3) := by decide +kernel
theorem dX6_giver_5 : decode cX6_giver 5 = .ok (.aload_n 0, 1) := by decide +kernel
theorem dX6_giver_6 : decode cX6_giver 6 = .ok (.iload_n 1, 1) := by decide +kernel
theorem dX6_giver_7 : decode cX6_giver 7 = .ok (.invokevirtual 113, 3) := by decide +kernel
theorem dX6_giver_10 : decode cX6_giver 10 = .ok (.ifCond .eq 5, 3) := by decide +kernel
theorem dX6_giver_13 : decode cX6_giver 13 = .ok (.iconst (-1), 1) := by decide +kernel
theorem dX6_giver_14 : decode cX6_giver 14 = .ok (.ireturn, 1) := by decide +kernel
theorem dX6_giver_15 : decode cX6_giver 15 = .ok (.iconst 0, 1) := by decide +kernel
theorem dX6_giver_16 : decode cX6_giver 16 = .ok (.istore_n 3, 1) := by decide +kernel
theorem dX6_giver_17 : decode cX6_giver 17 = .ok (.iload_n 3, 1) := by decide +kernel
theorem dX6_giver_18 : decode cX6_giver 18 = .ok (.aload_n 0, 1) := by decide +kernel
theorem dX6_giver_19 : decode cX6_giver 19 = .ok (.getfield 32, 3) := by decide +kernel
theorem dX6_giver_22 : decode cX6_giver 22 = .ok (.if_icmp .ge 35, 3) := by decide +kernel
theorem dX6_giver_25 : decode cX6_giver 25 = .ok (.aload_n 0, 1) := by decide +kernel
theorem dX6_giver_26 : decode cX6_giver 26 = .ok (.getfield 29, 3) := by decide +kernel
theorem dX6_giver_29 : decode cX6_giver 29 = .ok (.iload_n 3, 1) := by decide +kernel
theorem dX6_giver_30 : decode cX6_giver 30 = .ok (.aload_n 0, 1) := by decide +kernel
theorem dX6_giver_31 : decode cX6_giver 31 = .ok (.iload_n 3, 1) := by decide +kernel
theorem dX6_giver_32 : decode cX6_giver 32 = .ok (.iload_n 1, 1) := by decide +kernel
theorem dX6_giver_33 : decode cX6_giver 33 = .ok (.invokevirtual 117, 3) := by decide +kernel
theorem dX6_giver_36 : decode cX6_giver 36 = .ok (.ifCond .eq 11, 3) := by decide +kernel
theorem dX6_giver_39 : decode cX6_giver 39 = .ok (.aload_n 0, 1) := by decide +kernel
theorem dX6_giver_40 : decode cX6_giver 40 = .ok (.iload_n 3, 1) := by decide +kernel
theorem dX6_giver_41 : decode cX6_giver 41 = .ok (.invokevirtual 135, 3) := by decide +kernel
theorem dX6_giver_44 : decode cX6_giver 44 = .ok (.goto 6, 3) := by decide +kernel
theorem dX6_giver_47 : decode cX6_giver 47 = .ok (.ldc2_w 144, 3) := by decide +kernel
theorem dX6_giver_50 : decode cX6_giver 50 = .ok (.lastore, 1) := by decide +kernel
theorem dX6_giver_51 : decode cX6_giver 51 = .ok (.iinc 3 1, 3) := by decide +kernel
theorem dX6_giver_54 : decode cX6_giver 54 = .ok (.goto (-37), 3) := by decide +kernel
theorem dX6_giver_57 : decode cX6_giver 57 = .ok (.iconst 0, 1) := by decide +kernel
theorem dX6_giver_58 : decode cX6_giver 58 = .ok (.istore_n 3, 1) := by decide +kernel
theorem dX6_giver_59 : decode cX6_giver 59 = .ok (.iload_n 3, 1) := by decide +kernel
theorem dX6_giver_60 : decode cX6_giver 60 = .ok (.aload_n 0, 1) := by decide +kernel
theorem dX6_giver_61 : decode cX6_giver 61 = .ok (.getfield 32, 3) := by decide +kernel
theorem dX6_giver_64 : decode cX6_giver 64 = .ok (.if_icmp .ge 102, 3) := by decide +kernel
theorem dX6_giver_67 : decode cX6_giver 67 = .ok (.aload_n 0, 1) := by decide +kernel
theorem dX6_giver_68 : decode cX6_giver 68 = .ok (.getfield 29, 3) := by decide +kernel
theorem dX6_giver_71 : decode cX6_giver 71 = .ok (.iload_n 3, 1) := by decide +kernel
theorem dX6_giver_72 : decode cX6_giver 72 = .ok (.laload, 1) := by decide +kernel
theorem dX6_giver_73 : decode cX6_giver 73 = .ok (.lconst 0, 1) := by decide +kernel
theorem dX6_giver_74 : decode cX6_giver 74 = .ok (.lcmp, 1) := by decide +kernel
theorem dX6_giver_75 : decode cX6_giver 75 = .ok (.ifCond .ge 6, 3) := by decide +kernel
theorem dX6_giver_78 : decode cX6_giver 78 = .ok (.goto 82, 3) := by decide +kernel
theorem dX6_giver_81 : decode cX6_giver 81 = .ok (.iconst 0, 1) := by decide +kernel
theorem dX6_giver_82 : decode cX6_giver 82 = .ok (.istore 4, 2) := by decide +kernel
theorem dX6_giver_84 : decode cX6_giver 84 = .ok (.iconst 0, 1) := by decide +kernel
theorem dX6_giver_85 : decode cX6_giver 85 = .ok (.istore 5, 2) := by decide +kernel
theorem dX6_giver_87 : decode cX6_giver 87 = .ok (.iload 5, 2) := by decide +kernel
theorem dX6_giver_89 : decode cX6_giver 89 = .ok (.aload_n 0, 1) := by decide +kernel
theorem dX6_giver_90 : decode cX6_giver 90 = .ok (.getfield 32, 3) := by decide +kernel
theorem dX6_giver_93 : decode cX6_giver 93 = .ok (.if_icmp .ge 59, 3) := by decide +kernel
theorem dX6_giver_96 : decode cX6_giver 96 = .ok (.iload 4, 2) := by decide +kernel
theorem dX6_giver_98 : decode cX6_giver 98 = .ok (.aload_n 0, 1) := by decide +kernel
theorem dX6_giver_99 : decode cX6_giver 99 = .ok (.getfield 29, 3) := by decide +kernel
theorem dX6_giver_102 : decode cX6_giver 102 = .ok (.iload 5, 2) := by decide +kernel
theorem dX6_giver_104 : decode cX6_giver 104 = .ok (.laload, 1) := by decide +kernel
theorem dX6_giver_105 : decode cX6_giver 105 = .ok (.aload_n 0, 1) := by decide +kernel
theorem dX6_giver_106 : decode cX6_giver 106 = .ok (.getfield 29, 3) := by decide +kernel
theorem dX6_giver_109 : decode cX6_giver 109 = .ok (.iload_n 3, 1) := by decide +kernel
theorem dX6_giver_110 : decode cX6_giver 110 = .ok (.laload, 1) := by decide +kernel
theorem dX6_giver_111 : decode cX6_giver 111 = .ok (.lcmp, 1) := by decide +kernel
theorem dX6_giver_112 : decode cX6_giver 112 = .ok (.ifCond .gt 26, 3) := by decide +kernel
theorem dX6_giver_115 : decode cX6_giver 115 = .ok (.aload_n 0, 1) := by decide +kernel
theorem dX6_giver_116 : decode cX6_giver 116 = .ok (.getfield 29, 3) := by decide +kernel
theorem dX6_giver_119 : decode cX6_giver 119 = .ok (.iload 5, 2) := by decide +kernel
theorem dX6_giver_121 : decode cX6_giver 121 = .ok (.laload, 1) := by decide +kernel
theorem dX6_giver_122 : decode cX6_giver 122 = .ok (.aload_n 0, 1) := by decide +kernel
theorem dX6_giver_123 : decode cX6_giver 123 = .ok (.getfield 29, 3) := by decide +kernel
theorem dX6_giver_126 : decode cX6_giver 126 = .ok (.iload_n 3, 1) := by decide +kernel
theorem dX6_giver_127 : decode cX6_giver 127 = .ok (.laload, 1) := by decide +kernel
theorem dX6_giver_128 : decode cX6_giver 128 = .ok (.lcmp, 1) := by decide +kernel
theorem dX6_giver_129 : decode cX6_giver 129 = .ok (.ifCond .ne 13, 3) := by decide +kernel
theorem dX6_giver_132 : decode cX6_giver 132 = .ok (.iload 5, 2) := by decide +kernel
theorem dX6_giver_134 : decode cX6_giver 134 = .ok (.iload_n 3, 1) := by decide +kernel
theorem dX6_giver_135 : decode cX6_giver 135 = .ok (.if_icmp .ge 7, 3) := by decide +kernel
theorem dX6_giver_138 : decode cX6_giver 138 = .ok (.iconst 1, 1) := by decide +kernel
theorem dX6_giver_139 : decode cX6_giver 139 = .ok (.goto 4, 3) := by decide +kernel
theorem dX6_giver_142 : decode cX6_giver 142 = .ok (.iconst 0, 1) := by decide +kernel
theorem dX6_giver_143 : decode cX6_giver 143 = .ok (.iadd, 1) := by decide +kernel
theorem dX6_giver_144 : decode cX6_giver 144 = .ok (.istore 4, 2) := by decide +kernel
theorem dX6_giver_146 : decode cX6_giver 146 = .ok (.iinc 5 1, 3) := by decide +kernel
theorem dX6_giver_149 : decode cX6_giver 149 = .ok (.goto (-62), 3) := by decide +kernel
theorem dX6_giver_152 : decode cX6_giver 152 = .ok (.iload 4, 2) := by decide +kernel
theorem dX6_giver_154 : decode cX6_giver 154 = .ok (.iload_n 2, 1) := by decide +kernel
theorem dX6_giver_155 : decode cX6_giver 155 = .ok (.if_icmp .ne 5, 3) := by decide +kernel
theorem dX6_giver_158 : decode cX6_giver 158 = .ok (.iload_n 3, 1) := by decide +kernel
theorem dX6_giver_159 : decode cX6_giver 159 = .ok (.ireturn, 1) := by decide +kernel
theorem dX6_giver_160 : decode cX6_giver 160 = .ok (.iinc 3 1, 3) := by decide +kernel
theorem dX6_giver_163 : decode cX6_giver 163 = .ok (.goto (-104), 3) := by decide +kernel
theorem dX6_giver_166 : decode cX6_giver 166 = .ok (.iconst (-1), 1) := by decide +kernel
theorem dX6_giver_167 : decode cX6_giver 167 = .ok (.ireturn, 1) := by decide +kernel
theorem dX6_put_0 : decode cX6_put 0 = .ok (.iload_n 1, 1) := by decide +kernel
theorem dX6_put_1 : decode cX6_put 1 = .ok (.istore_n 2, 1) := by decide +kernel
theorem dX6_put_2 : decode cX6_put 2 = .ok (.iload_n 2, 1) := by decide +kernel
theorem dX6_put_3 : decode cX6_put 3 = .ok (.bipush 127, 2) := by decide +kernel
theorem dX6_put_5 : decode cX6_put 5 = .ok (.if_icmp .le 39, 3) := by decide +kernel
theorem dX6_put_8 : decode cX6_put 8 = .ok (.aload_n 0, 1) := by decide +kernel
theorem dX6_put_9 : decode cX6_put 9 = .ok (.getfield 45, 3) := by decide +kernel
theorem dX6_put_12 : decode cX6_put 12 = .ok (.aload_n 0, 1) := by decide +kernel
theorem dX6_put_13 : decode cX6_put 13 = .ok (.getfield 146, 3) := by decide +kernel
theorem dX6_put_16 : decode cX6_put 16 = .ok (.iload_n 2, 1) := by decide +kernel
theorem dX6_put_17 : decode cX6_put 17 = .ok (.bipush 127, 2) := by decide +kernel
theorem dX6_put_19 : decode cX6_put 19 = .ok (.iand, 1) := by decide +kernel
theorem dX6_put_20 : decode cX6_put 20 = .ok (.sipush 128, 3) := by decide +kernel
theorem dX6_put_23 : decode cX6_put 23 = .ok (.ior, 1) := by decide +kernel
theorem dX6_put_24 : decode cX6_put 24 = .ok (.i2b, 1) := by decide +kernel
theorem dX6_put_25 : decode cX6_put 25 = .ok (.bastore, 1) := by decide +kernel
theorem dX6_put_26 : decode cX6_put 26 = .ok (.aload_n 0, 1) := by decide +kernel
theorem dX6_put_27 : decode cX6_put 27 = .ok (.dup, 1) := by decide +kernel
theorem dX6_put_28 : decode cX6_put 28 = .ok (.getfield 146, 3) := by decide +kernel
theorem dX6_put_31 : decode cX6_put 31 = .ok (.iconst 1, 1) := by decide +kernel
theorem dX6_put_32 : decode cX6_put 32 = .ok (.iadd, 1) := by decide +kernel
theorem dX6_put_33 : decode cX6_put 33 = .ok (.putfield 146, 3) := by decide +kernel
theorem dX6_put_36 : decode cX6_put 36 = .ok (.iload_n 2, 1) := by decide +kernel
theorem dX6_put_37 : decode cX6_put 37 = .ok (.bipush 7, 2) := by decide +kernel
theorem dX6_put_39 : decode cX6_put 39 = .ok (.ishr, 1) := by decide +kernel
theorem dX6_put_40 : decode cX6_put 40 = .ok (.istore_n 2, 1) := by decide +kernel
theorem dX6_put_41 : decode cX6_put 41 = .ok (.goto (-39), 3) := by decide +kernel
theorem dX6_put_44 : decode cX6_put 44 = .ok (.aload_n 0, 1) := by decide +kernel
theorem dX6_put_45 : decode cX6_put 45 = .ok (.getfield 45, 3) := by decide +kernel
theorem dX6_put_48 : decode cX6_put 48 = .ok (.aload_n 0, 1) := by decide +kernel
theorem dX6_put_49 : decode cX6_put 49 = .ok (.getfield 146, 3) := by decide +kernel
theorem dX6_put_52 : decode cX6_put 52 = .ok (.iload_n 2, 1) := by decide +kernel
theorem dX6_put_53 : decode cX6_put 53 = .ok (.i2b, 1) := by decide +kernel
theorem dX6_put_54 : decode cX6_put 54 = .ok (.bastore, 1) := by decide +kernel
theorem dX6_put_55 : decode cX6_put 55 = .ok (.aload_n 0, 1) := by decide +kernel
theorem dX6_put_56 : decode cX6_put 56 = .ok (.dup, 1) := by decide +kernel
theorem dX6_put_57 : decode cX6_put 57 = .ok (.getfield 146, 3) := by decide +kernel
theorem dX6_put_60 : decode cX6_put 60 = .ok (.iconst 1, 1) := by decide +kernel
theorem dX6_put_61 : decode cX6_put 61 = .ok (.iadd, 1) := by decide +kernel
theorem dX6_put_62 : decode cX6_put 62 = .ok (.putfield 146, 3) := by decide +kernel
theorem dX6_put_65 : decode cX6_put 65 = .ok (.return_, 1) := by decide +kernel
set_option maxRecDepth 20000 in
theorem ggX6_write_X6_put : GoodIn wsX6_write wsX6_put := goodIn_r _ [8, 9, 2, 19, 20, 21, 22, 23, 24, 25, 26, 27, 28, 29, 30, 31, 32, 33, 34, 35, 36, 37, 38, 39, 40, 41, 42] (by decide +kernel) (by decide +kernel)
set_option maxRecDepth 20000 in
theorem gX6_write_X6_put : GoodIn wsX6_write (wsV RX6 149 RX6 yX6_put wsX6_put) := goodIn_app (goodIn_of _ (by decide +kernel)) ggX6_write_X6_put
set_option maxRecDepth 20000 in
theorem ggX6_write_X6_many : GoodIn wsX6_write wsX6_many := goodIn_r _ [13, 3, 14, 15, 16, 7, 17, 18, 19, 20, 21, 22, 23, 24, 25, 26, 27, 28, 29, 30, 31, 32, 33, 34, 35, 36, 37, 38, 39, 40, 41, 42] (by decide +kernel) (by decide +kernel)
set_option maxRecDepth 20000 in
theorem gX6_write_X6_many : GoodIn wsX6_write (wsV RX6 124 RX6 yX6_many wsX6_many) := goodIn_app (goodIn_of _ (by decide +kernel)) ggX6_write_X6_many
set_option maxRecDepth 20000 in
theorem ggX6_write_X6_goes : GoodIn wsX6_write wsX6_goes := goodIn_r _ [17, 18, 19, 20, 21, 22, 23, 24, 25, 26, 27, 28, 29, 30, 31, 32, 33, 34, 35, 36, 37, 38, 39, 40, 41, 42] (by decide +kernel) (by decide +kernel)
set_option maxRecDepth 20000 in
theorem gX6_write_X6_goes : GoodIn wsX6_write (wsV RX6 117 RX6 yX6_goes wsX6_goes) := goodIn_app (goodIn_of _ (by decide +kernel)) ggX6_write_X6_goes
theorem dX6_write_0 : decode cX6_write 0 = .ok (.aload_n 0, 1) := by decide +kernel
theorem dX6_write_1 : decode cX6_write 1 = .ok (.iconst 0, 1) := by decide +kernel
theorem dX6_write_2 : decode cX6_write 2 = .ok (.putfield 1, 3) := by decide +kernel
theorem dX6_write_5 : decode cX6_write 5 = .ok (.aload_n 0, 1) := by decide +kernel
theorem dX6_write_6 : decode cX6_write 6 = .ok (.iconst 0, 1) := by decide +kernel
theorem dX6_write_7 : decode cX6_write 7 = .ok (.putfield 146, 3) := by decide +kernel
theorem dX6_write_10 : decode cX6_write 10 = .ok (.aload_n 0, 1) := by decide +kernel
theorem dX6_write_11 : decode cX6_write 11 = .ok (.aload_n 0, 1) := by decide +kernel
theorem dX6_write_12 : decode cX6_write 12 = .ok (.getfield 32, 3) := by decide +kernel
theorem dX6_write_15 : decode cX6_write 15 = .ok (.invokevirtual 149, 3) := by decide +kernel
theorem dX6_write_18 : decode cX6_write 18 = .ok (.iconst 0, 1) := by decide +kernel
theorem dX6_write_19 : decode cX6_write 19 = .ok (.istore_n 1, 1) := by decide +kernel
theorem dX6_write_20 : decode cX6_write 20 = .ok (.iload_n 1, 1) := by decide +kernel
theorem dX6_write_21 : decode cX6_write 21 = .ok (.aload_n 0, 1) := by decide +kernel
theorem dX6_write_22 : decode cX6_write 22 = .ok (.getfield 32, 3) := by decide +kernel
theorem dX6_write_25 : decode cX6_write 25 = .ok (.if_icmp .ge 91, 3) := by decide +kernel
theorem dX6_write_28 : decode cX6_write 28 = .ok (.aload_n 0, 1) := by decide +kernel
theorem dX6_write_29 : decode cX6_write 29 = .ok (.aload_n 0, 1) := by decide +kernel
theorem dX6_write_30 : decode cX6_write 30 = .ok (.iload_n 1, 1) := by decide +kernel
theorem dX6_write_31 : decode cX6_write 31 = .ok (.iconst 0, 1) := by decide +kernel
theorem dX6_write_32 : decode cX6_write 32 = .ok (.invokevirtual 124, 3) := by decide +kernel
theorem dX6_write_35 : decode cX6_write 35 = .ok (.invokevirtual 149, 3) := by decide +kernel
theorem dX6_write_38 : decode cX6_write 38 = .ok (.iconst (-1), 1) := by decide +kernel
theorem dX6_write_39 : decode cX6_write 39 = .ok (.istore_n 2, 1) := by decide +kernel
theorem dX6_write_40 : decode cX6_write 40 = .ok (.iconst 0, 1) := by decide +kernel
theorem dX6_write_41 : decode cX6_write 41 = .ok (.istore_n 3, 1) := by decide +kernel
theorem dX6_write_42 : decode cX6_write 42 = .ok (.iload_n 3, 1) := by decide +kernel
theorem dX6_write_43 : decode cX6_write 43 = .ok (.aload_n 0, 1) := by decide +kernel
theorem dX6_write_44 : decode cX6_write 44 = .ok (.getfield 32, 3) := by decide +kernel
theorem dX6_write_47 : decode cX6_write 47 = .ok (.if_icmp .ge 63, 3) := by decide +kernel
theorem dX6_write_50 : decode cX6_write 50 = .ok (.aload_n 0, 1) := by decide +kernel
theorem dX6_write_51 : decode cX6_write 51 = .ok (.iload_n 1, 1) := by decide +kernel
theorem dX6_write_52 : decode cX6_write 52 = .ok (.iload_n 3, 1) := by decide +kernel
theorem dX6_write_53 : decode cX6_write 53 = .ok (.invokevirtual 117, 3) := by decide +kernel
theorem dX6_write_56 : decode cX6_write 56 = .ok (.ifCond .ne 6, 3) := by decide +kernel
theorem dX6_write_59 : decode cX6_write 59 = .ok (.goto 45, 3) := by decide +kernel
theorem dX6_write_62 : decode cX6_write 62 = .ok (.iload_n 2, 1) := by decide +kernel
theorem dX6_write_63 : decode cX6_write 63 = .ok (.ifCond .ge 30, 3) := by decide +kernel
theorem dX6_write_66 : decode cX6_write 66 = .ok (.aload_n 0, 1) := by decide +kernel
theorem dX6_write_67 : decode cX6_write 67 = .ok (.iload_n 3, 1) := by decide +kernel
theorem dX6_write_68 : decode cX6_write 68 = .ok (.iload_n 1, 1) := by decide +kernel
theorem dX6_write_69 : decode cX6_write 69 = .ok (.if_icmp .ge 13, 3) := by decide +kernel
theorem dX6_write_72 : decode cX6_write 72 = .ok (.iconst 2, 1) := by decide +kernel
theorem dX6_write_73 : decode cX6_write 73 = .ok (.iload_n 1, 1) := by decide +kernel
theorem dX6_write_74 : decode cX6_write 74 = .ok (.iload_n 3, 1) := by decide +kernel
theorem dX6_write_75 : decode cX6_write 75 = .ok (.isub, 1) := by decide +kernel
theorem dX6_write_76 : decode cX6_write 76 = .ok (.imul, 1) := by decide +kernel
theorem dX6_write_77 : decode cX6_write 77 = .ok (.iconst 1, 1) := by decide +kernel
theorem dX6_write_78 : decode cX6_write 78 = .ok (.isub, 1) := by decide +kernel
theorem dX6_write_79 : decode cX6_write 79 = .ok (.goto 8, 3) := by decide +kernel
theorem dX6_write_82 : decode cX6_write 82 = .ok (.iconst 2, 1) := by decide +kernel
theorem dX6_write_83 : decode cX6_write 83 = .ok (.iload_n 3, 1) := by decide +kernel
theorem dX6_write_84 : decode cX6_write 84 = .ok (.iload_n 1, 1) := by decide +kernel
theorem dX6_write_85 : decode cX6_write 85 = .ok (.isub, 1) := by decide +kernel
theorem dX6_write_86 : decode cX6_write 86 = .ok (.imul, 1) := by decide +kernel
theorem dX6_write_87 : decode cX6_write 87 = .ok (.invokevirtual 149, 3) := by decide +kernel
theorem dX6_write_90 : decode cX6_write 90 = .ok (.goto 12, 3) := by decide +kernel
theorem dX6_write_93 : decode cX6_write 93 = .ok (.aload_n 0, 1) := by decide +kernel
theorem dX6_write_94 : decode cX6_write 94 = .ok (.iload_n 3, 1) := by decide +kernel
theorem dX6_write_95 : decode cX6_write 95 = .ok (.iload_n 2, 1) := by decide +kernel
theorem dX6_write_96 : decode cX6_write 96 = .ok (.isub, 1) := by decide +kernel
theorem dX6_write_97 : decode cX6_write 97 = .ok (.iconst 1, 1) := by decide +kernel
theorem dX6_write_98 : decode cX6_write 98 = .ok (.isub, 1) := by decide +kernel
theorem dX6_write_99 : decode cX6_write 99 = .ok (.invokevirtual 149, 3) := by decide +kernel
theorem dX6_write_102 : decode cX6_write 102 = .ok (.iload_n 3, 1) := by decide +kernel
theorem dX6_write_103 : decode cX6_write 103 = .ok (.istore_n 2, 1) := by decide +kernel
theorem dX6_write_104 : decode cX6_write 104 = .ok (.iinc 3 1, 3) := by decide +kernel
theorem dX6_write_107 : decode cX6_write 107 = .ok (.goto (-65), 3) := by decide +kernel
theorem dX6_write_110 : decode cX6_write 110 = .ok (.iinc 1 1, 3) := by decide +kernel
theorem dX6_write_113 : decode cX6_write 113 = .ok (.goto (-93), 3) := by decide +kernel
theorem dX6_write_116 : decode cX6_write 116 = .ok (.aload_n 0, 1) := by decide +kernel
theorem dX6_write_117 : decode cX6_write 117 = .ok (.getfield 146, 3) := by decide +kernel
theorem dX6_write_120 : decode cX6_write 120 = .ok (.ireturn, 1) := by decide +kernel
set_option maxRecDepth 20000 in
theorem ggX6_octet_X6_throwsIf : GoodIn wsX6_octet wsX6_throwsIf := goodIn_r _ [7, 8, 9, 10, 11, 12, 13, 14, 15, 16, 17, 18, 19, 20, 21, 22, 23, 24, 25, 26, 27, 28, 29, 30, 31, 32] (by decide +kernel) (by decide +kernel)
set_option maxRecDepth 20000 in
theorem gX6_octet_X6_throwsIf : GoodIn wsX6_octet (wsV RX6 120 RX6 yX6_throwsIf wsX6_throwsIf) := goodIn_app (goodIn_of _ (by decide +kernel)) ggX6_octet_X6_throwsIf
theorem dX6_octet_0 : decode cX6_octet 0 = .ok (.aload_n 0, 1) := by decide +kernel
theorem dX6_octet_1 : decode cX6_octet 1 = .ok (.iload_n 1, 1) := by decide +kernel
theorem dX6_octet_2 : decode cX6_octet 2 = .ok (.ifCond .lt 11, 3) := by decide +kernel
theorem dX6_octet_5 : decode cX6_octet 5 = .ok (.iload_n 1, 1) := by decide +kernel
theorem dX6_octet_6 : decode cX6_octet 6 = .ok (.aload_n 0, 1) := by decide +kernel
theorem dX6_octet_7 : decode cX6_octet 7 = .ok (.getfield 146, 3) := by decide +kernel
theorem dX6_octet_10 : decode cX6_octet 10 = .ok (.if_icmp .lt 7, 3) := by decide +kernel
theorem dX6_octet_13 : decode cX6_octet 13 = .ok (.iconst 1, 1) := by decide +kernel
theorem dX6_octet_14 : decode cX6_octet 14 = .ok (.goto 4, 3) := by decide +kernel
theorem dX6_octet_17 : decode cX6_octet 17 = .ok (.iconst 0, 1) := by decide +kernel
theorem dX6_octet_18 : decode cX6_octet 18 = .ok (.invokevirtual 120, 3) := by decide +kernel
theorem dX6_octet_21 : decode cX6_octet 21 = .ok (.ifCond .eq 7, 3) := by decide +kernel
theorem dX6_octet_24 : decode cX6_octet 24 = .ok (.iconst 0, 1) := by decide +kernel
theorem dX6_octet_25 : decode cX6_octet 25 = .ok (.goto 13, 3) := by decide +kernel
theorem dX6_octet_28 : decode cX6_octet 28 = .ok (.aload_n 0, 1) := by decide +kernel
theorem dX6_octet_29 : decode cX6_octet 29 = .ok (.getfield 45, 3) := by decide +kernel
theorem dX6_octet_32 : decode cX6_octet 32 = .ok (.iload_n 1, 1) := by decide +kernel
theorem dX6_octet_33 : decode cX6_octet 33 = .ok (.baload, 1) := by decide +kernel
theorem dX6_octet_34 : decode cX6_octet 34 = .ok (.sipush 255, 3) := by decide +kernel
theorem dX6_octet_37 : decode cX6_octet 37 = .ok (.iand, 1) := by decide +kernel
theorem dX6_octet_38 : decode cX6_octet 38 = .ok (.ireturn, 1) := by decide +kernel
set_option maxRecDepth 20000 in
theorem ggX6_count_X6_many : GoodIn wsX6_count wsX6_many := goodIn_r _ [12, 2, 13, 14, 15, 11, 16, 17, 23, 24, 25, 26, 27, 28, 29, 30, 31, 32, 33, 34, 35, 36, 37, 38, 39, 40, 41, 42, 43, 44, 45, 46] (by decide +kernel) (by decide +kernel)
set_option maxRecDepth 20000 in
theorem gX6_count_X6_many : GoodIn wsX6_count (wsV RX6 124 RX6 yX6_many wsX6_many) := goodIn_app (goodIn_of _ (by decide +kernel)) ggX6_count_X6_many
set_option maxRecDepth 20000 in
theorem ggX6_count_X6_whole : GoodIn wsX6_count wsX6_whole := goodIn_r _ [21, 2, 22, 23, 24, 25, 26, 27, 28, 29, 30, 31, 32, 33, 34, 35, 36, 37, 38, 39, 40, 41, 42, 43, 44, 45, 46] (by decide +kernel) (by decide +kernel)
set_option maxRecDepth 20000 in
theorem gX6_count_X6_whole : GoodIn wsX6_count (wsV RX6 127 RX6 yX6_whole wsX6_whole) := goodIn_app (goodIn_of _ (by decide +kernel)) ggX6_count_X6_whole
theorem dX6_count_0 : decode cX6_count 0 = .ok (.aload_n 0, 1) := by decide +kernel
theorem dX6_count_1 : decode cX6_count 1 = .ok (.iconst 0, 1) := by decide +kernel
theorem dX6_count_2 : decode cX6_count 2 = .ok (.putfield 1, 3) := by decide +kernel
theorem dX6_count_5 : decode cX6_count 5 = .ok (.iload_n 1, 1) := by decide +kernel
theorem dX6_count_6 : decode cX6_count 6 = .ok (.tableswitch 118 0 7 #[46, 51, 56, 93, 98, 103, 108, 113], 46) := by decide +kernel
theorem dX6_count_52 : decode cX6_count 52 = .ok (.aload_n 0, 1) := by decide +kernel
theorem dX6_count_53 : decode cX6_count 53 = .ok (.getfield 32, 3) := by decide +kernel
theorem dX6_count_56 : decode cX6_count 56 = .ok (.ireturn, 1) := by decide +kernel
theorem dX6_count_57 : decode cX6_count 57 = .ok (.aload_n 0, 1) := by decide +kernel
theorem dX6_count_58 : decode cX6_count 58 = .ok (.getfield 102, 3) := by decide +kernel
theorem dX6_count_61 : decode cX6_count 61 = .ok (.ireturn, 1) := by decide +kernel
theorem dX6_count_62 : decode cX6_count 62 = .ok (.iconst 0, 1) := by decide +kernel
theorem dX6_count_63 : decode cX6_count 63 = .ok (.istore_n 2, 1) := by decide +kernel
theorem dX6_count_64 : decode cX6_count 64 = .ok (.iconst 0, 1) := by decide +kernel
theorem dX6_count_65 : decode cX6_count 65 = .ok (.istore_n 3, 1) := by decide +kernel
theorem dX6_count_66 : decode cX6_count 66 = .ok (.iload_n 3, 1) := by decide +kernel
theorem dX6_count_67 : decode cX6_count 67 = .ok (.aload_n 0, 1) := by decide +kernel
theorem dX6_count_68 : decode cX6_count 68 = .ok (.getfield 32, 3) := by decide +kernel
theorem dX6_count_71 : decode cX6_count 71 = .ok (.if_icmp .ge 26, 3) := by decide +kernel
theorem dX6_count_74 : decode cX6_count 74 = .ok (.iload_n 2, 1) := by decide +kernel
theorem dX6_count_75 : decode cX6_count 75 = .ok (.aload_n 0, 1) := by decide +kernel
theorem dX6_count_76 : decode cX6_count 76 = .ok (.iload_n 3, 1) := by decide +kernel
theorem dX6_count_77 : decode cX6_count 77 = .ok (.iconst 0, 1) := by decide +kernel
theorem dX6_count_78 : decode cX6_count 78 = .ok (.invokevirtual 124, 3) := by decide +kernel
theorem dX6_count_81 : decode cX6_count 81 = .ok (.ifCond .ne 7, 3) := by decide +kernel
theorem dX6_count_84 : decode cX6_count 84 = .ok (.iconst 1, 1) := by decide +kernel
theorem dX6_count_85 : decode cX6_count 85 = .ok (.goto 4, 3) := by decide +kernel
theorem dX6_count_88 : decode cX6_count 88 = .ok (.iconst 0, 1) := by decide +kernel
theorem dX6_count_89 : decode cX6_count 89 = .ok (.iadd, 1) := by decide +kernel
theorem dX6_count_90 : decode cX6_count 90 = .ok (.istore_n 2, 1) := by decide +kernel
theorem dX6_count_91 : decode cX6_count 91 = .ok (.iinc 3 1, 3) := by decide +kernel
theorem dX6_count_94 : decode cX6_count 94 = .ok (.goto (-28), 3) := by decide +kernel
theorem dX6_count_97 : decode cX6_count 97 = .ok (.iload_n 2, 1) := by decide +kernel
theorem dX6_count_98 : decode cX6_count 98 = .ok (.ireturn, 1) := by decide +kernel
theorem dX6_count_99 : decode cX6_count 99 = .ok (.aload_n 0, 1) := by decide +kernel
theorem dX6_count_100 : decode cX6_count 100 = .ok (.invokevirtual 127, 3) := by decide +kernel
theorem dX6_count_103 : decode cX6_count 103 = .ok (.ireturn, 1) := by decide +kernel
theorem dX6_count_104 : decode cX6_count 104 = .ok (.aload_n 0, 1) := by decide +kernel
theorem dX6_count_105 : decode cX6_count 105 = .ok (.getfield 65, 3) := by decide +kernel
theorem dX6_count_108 : decode cX6_count 108 = .ok (.ireturn, 1) := by decide +kernel
theorem dX6_count_109 : decode cX6_count 109 = .ok (.aload_n 0, 1) := by decide +kernel
theorem dX6_count_110 : decode cX6_count 110 = .ok (.getfield 146, 3) := by decide +kernel
theorem dX6_count_113 : decode cX6_count 113 = .ok (.ireturn, 1) := by decide +kernel
theorem dX6_count_114 : decode cX6_count 114 = .ok (.aload_n 0, 1) := by decide +kernel
theorem dX6_count_115 : decode cX6_count 115 = .ok (.getfield 35, 3) := by decide +kernel
theorem dX6_count_118 : decode cX6_count 118 = .ok (.ireturn, 1) := by decide +kernel
theorem dX6_count_119 : decode cX6_count 119 = .ok (.aload_n 0, 1) := by decide +kernel
theorem dX6_count_120 : decode cX6_count 120 = .ok (.getfield 38, 3) := by decide +kernel
theorem dX6_count_123 : decode cX6_count 123 = .ok (.ireturn, 1) := by decide +kernel
theorem dX6_count_124 : decode cX6_count 124 = .ok (.iconst (-1), 1) := by decide +kernel
theorem dX6_count_125 : decode cX6_count 125 = .ok (.ireturn, 1) := by decide +kernel
