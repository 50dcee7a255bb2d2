theorem dX7_again_176 : decode cX7_again 176 = .ok (.iload 4, 2) := by decide +kernel
theorem dX7_again_178 : decode cX7_again 178 = .ok (.iaload, 1) := by decide +kernel
theorem dX7_again_179 : decode cX7_again 179 = .ok (.aload_n 0, 1) := by decide +kernel
theorem dX7_again_180 : decode cX7_again 180 = .ok (.getfield 78, 3) := by decide +kernel
theorem dX7_again_183 : decode cX7_again 183 = .ok (.aload_n 0, 1) := by decide +kernel
theorem dX7_again_184 : decode cX7_again 184 = .ok (.getfield 13, 3) := by decide +kernel
theorem dX7_again_187 : decode cX7_again 187 = .ok (.iload 4, 2) := by decide +kernel
theorem dX7_again_189 : decode cX7_again 189 = .ok (.iaload, 1) := by decide +kernel
theorem dX7_again_190 : decode cX7_again 190 = .ok (.bipush 6, 2) := by decide +kernel
theorem dX7_again_192 : decode cX7_again 192 = .ok (.imul, 1) := by decide +kernel
theorem dX7_again_193 : decode cX7_again 193 = .ok (.iload 7, 2) := by decide +kernel
theorem dX7_again_195 : decode cX7_again 195 = .ok (.iadd, 1) := by decide +kernel
theorem dX7_again_196 : decode cX7_again 196 = .ok (.laload, 1) := by decide +kernel
theorem dX7_again_197 : decode cX7_again 197 = .ok (.lload 5, 2) := by decide +kernel
theorem dX7_again_199 : decode cX7_again 199 = .ok (.ladd, 1) := by decide +kernel
theorem dX7_again_200 : decode cX7_again 200 = .ok (.invokevirtual 152, 3) := by decide +kernel
theorem dX7_again_203 : decode cX7_again 203 = .ok (.iinc 7 1, 3) := by decide +kernel
theorem dX7_again_206 : decode cX7_again 206 = .ok (.goto (-124), 3) := by decide +kernel
theorem dX7_again_209 : decode cX7_again 209 = .ok (.iinc 4 1, 3) := by decide +kernel
theorem dX7_again_212 : decode cX7_again 212 = .ok (.goto (-172), 3) := by decide +kernel
theorem dX7_again_215 : decode cX7_again 215 = .ok (.iconst 0, 1) := by decide +kernel
theorem dX7_again_216 : decode cX7_again 216 = .ok (.istore 4, 2) := by decide +kernel
theorem dX7_again_218 : decode cX7_again 218 = .ok (.iconst 0, 1) := by decide +kernel
theorem dX7_again_219 : decode cX7_again 219 = .ok (.istore 5, 2) := by decide +kernel
theorem dX7_again_221 : decode cX7_again 221 = .ok (.iload 5, 2) := by decide +kernel
theorem dX7_again_223 : decode cX7_again 223 = .ok (.aload_n 0, 1) := by decide +kernel
theorem dX7_again_224 : decode cX7_again 224 = .ok (.getfield 91, 3) := by decide +kernel
theorem dX7_again_227 : decode cX7_again 227 = .ok (.bipush 6, 2) := by decide +kernel
theorem dX7_again_229 : decode cX7_again 229 = .ok (.imul, 1) := by decide +kernel
theorem dX7_again_230 : decode cX7_again 230 = .ok (.if_icmp .ge 53, 3) := by decide +kernel
theorem dX7_again_233 : decode cX7_again 233 = .ok (.iload 4, 2) := by decide +kernel
theorem dX7_again_235 : decode cX7_again 235 = .ok (.ifCond .ne 21, 3) := by decide +kernel
theorem dX7_again_238 : decode cX7_again 238 = .ok (.aload_n 0, 1) := by decide +kernel
theorem dX7_again_239 : decode cX7_again 239 = .ok (.getfield 81, 3) := by decide +kernel
theorem dX7_again_242 : decode cX7_again 242 = .ok (.iload 5, 2) := by decide +kernel
theorem dX7_again_244 : decode cX7_again 244 = .ok (.laload, 1) := by decide +kernel
theorem dX7_again_245 : decode cX7_again 245 = .ok (.aload_n 0, 1) := by decide +kernel
theorem dX7_again_246 : decode cX7_again 246 = .ok (.getfield 78, 3) := by decide +kernel
theorem dX7_again_249 : decode cX7_again 249 = .ok (.iload 5, 2) := by decide +kernel
theorem dX7_again_251 : decode cX7_again 251 = .ok (.laload, 1) := by decide +kernel
theorem dX7_again_252 : decode cX7_again 252 = .ok (.lcmp, 1) := by decide +kernel
theorem dX7_again_253 : decode cX7_again 253 = .ok (.ifCond .eq 7, 3) := by decide +kernel
theorem dX7_again_256 : decode cX7_again 256 = .ok (.iconst 1, 1) := by decide +kernel
theorem dX7_again_257 : decode cX7_again 257 = .ok (.goto 4, 3) := by decide +kernel
theorem dX7_again_260 : decode cX7_again 260 = .ok (.iconst 0, 1) := by decide +kernel
theorem dX7_again_261 : decode cX7_again 261 = .ok (.istore 4, 2) := by decide +kernel
theorem dX7_again_263 : decode cX7_again 263 = .ok (.aload_n 0, 1) := by decide +kernel
theorem dX7_again_264 : decode cX7_again 264 = .ok (.getfield 78, 3) := by decide +kernel
theorem dX7_again_267 : decode cX7_again 267 = .ok (.iload 5, 2) := by decide +kernel
theorem dX7_again_269 : decode cX7_again 269 = .ok (.aload_n 0, 1) := by decide +kernel
theorem dX7_again_270 : decode cX7_again 270 = .ok (.getfield 81, 3) := by decide +kernel
theorem dX7_again_273 : decode cX7_again 273 = .ok (.iload 5, 2) := by decide +kernel
theorem dX7_again_275 : decode cX7_again 275 = .ok (.laload, 1) := by decide +kernel
theorem dX7_again_276 : decode cX7_again 276 = .ok (.lastore, 1) := by decide +kernel
theorem dX7_again_277 : decode cX7_again 277 = .ok (.iinc 5 1, 3) := by decide +kernel
theorem dX7_again_280 : decode cX7_again 280 = .ok (.goto (-59), 3) := by decide +kernel
theorem dX7_again_283 : decode cX7_again 283 = .ok (.iload 4, 2) := by decide +kernel
theorem dX7_again_285 : decode cX7_again 285 = .ok (.ireturn, 1) := by decide +kernel
set_option maxRecDepth 20000 in
theorem ggX7_walk_X7_isUnit : GoodIn wsX7_walk wsX7_isUnit := goodIn_r _ [9, 10, 11, 12, 8, 13, 61, 62, 63, 64, 65, 66, 67, 68, 69, 70, 71, 72, 73, 74, 75, 76, 77, 78, 79, 80, 81, 82, 83, 84, 85, 86, 87, 88, 89, 90] (by decide +kernel) (by decide +kernel)
set_option maxRecDepth 20000 in
theorem gX7_walk_X7_isUnit : GoodIn wsX7_walk (wsV RX7 143 RX7 yX7_isUnit wsX7_isUnit) := goodIn_app (goodIn_of _ (by decide +kernel)) ggX7_walk_X7_isUnit
set_option maxRecDepth 20000 in
theorem ggX7_walk_X7_isNode : GoodIn wsX7_walk wsX7_isNode := goodIn_r _ [17, 1, 11, 12, 8, 13, 61, 62, 63, 64, 65, 66, 67, 68, 69, 70, 71, 72, 73, 74, 75, 76, 77, 78, 79, 80, 81, 82, 83, 84, 85, 86, 87, 88, 89, 90] (by decide +kernel) (by decide +kernel)
set_option maxRecDepth 20000 in
theorem gX7_walk_X7_isNode : GoodIn wsX7_walk (wsV RX7 127 RX7 yX7_isNode wsX7_isNode) := goodIn_app (goodIn_of _ (by decide +kernel)) ggX7_walk_X7_isNode
set_option maxRecDepth 20000 in
theorem ggX7_walk_X7_in : GoodIn wsX7_walk wsX7_in := goodIn_r _ [13] (by decide +kernel) (by decide +kernel)
set_option maxRecDepth 20000 in
theorem gX7_walk_X7_in : GoodIn wsX7_walk (va_wsS RX7 103 yX7_in wsX7_in) := goodIn_app (goodIn_of _ (by decide +kernel)) ggX7_walk_X7_in
set_option maxRecDepth 20000 in
theorem ggX7_walk_X7_goes : GoodIn wsX7_walk wsX7_goes := goodIn_r _ [21, 22, 61, 62, 63, 64, 65, 66, 67, 68, 69, 70, 71, 72, 73, 74, 75, 76, 77, 78, 79, 80, 81, 82, 83, 84, 85, 86, 87, 88, 89, 90] (by decide +kernel) (by decide +kernel)
set_option maxRecDepth 20000 in
theorem gX7_walk_X7_goes : GoodIn wsX7_walk (wsV RX7 132 RX7 yX7_goes wsX7_goes) := goodIn_app (goodIn_of _ (by decide +kernel)) ggX7_walk_X7_goes
set_option maxRecDepth 20000 in
theorem ggX7_walk_X7_again : GoodIn wsX7_walk wsX7_again := goodIn_r _ [26, 1, 27, 3, 28, 29, 2, 30, 31, 32, 33, 34, 8, 35, 36, 37, 38, 39, 40, 41, 42, 43, 44, 45, 46, 47, 48, 49, 50, 51, 52, 53, 54, 55, 56, 57, 58, 59, 60, 11, 12, 13, 61, 62, 63, 64, 65, 66, 67, 68, 69, 70, 71, 72, 73, 74, 75, 76, 77, 78, 79, 80, 81, 82, 83, 84, 85, 86, 87, 88, 89, 90] (by decide +kernel) (by decide +kernel)
set_option maxRecDepth 20000 in
theorem gX7_walk_X7_again : GoodIn wsX7_walk (wsV RX7 156 RX7 yX7_again wsX7_again) := goodIn_app (goodIn_of _ (by decide +kernel)) ggX7_walk_X7_again
theorem dX7_walk_0 : decode cX7_walk 0 = .ok (.aload_n 0, 1) := by decide +kernel
theorem dX7_walk_1 : decode cX7_walk 1 = .ok (.aload_n 0, 1) := by decide +kernel
theorem dX7_walk_2 : decode cX7_walk 2 = .ok (.iload_n 1, 1) := by decide +kernel
theorem dX7_walk_3 : decode cX7_walk 3 = .ok (.invokevirtual 143, 3) := by decide +kernel
theorem dX7_walk_6 : decode cX7_walk 6 = .ok (.ifCond .eq 23, 3) := by decide +kernel
theorem dX7_walk_9 : decode cX7_walk 9 = .ok (.aload_n 0, 1) := by decide +kernel
theorem dX7_walk_10 : decode cX7_walk 10 = .ok (.iload_n 2, 1) := by decide +kernel
theorem dX7_walk_11 : decode cX7_walk 11 = .ok (.invokevirtual 127, 3) := by decide +kernel
theorem dX7_walk_14 : decode cX7_walk 14 = .ok (.ifCond .eq 15, 3) := by decide +kernel
theorem dX7_walk_17 : decode cX7_walk 17 = .ok (.aload_n 0, 1) := by decide +kernel
theorem dX7_walk_18 : decode cX7_walk 18 = .ok (.iload_n 3, 1) := by decide +kernel
theorem dX7_walk_19 : decode cX7_walk 19 = .ok (.invokevirtual 127, 3) := by decide +kernel
theorem dX7_walk_22 : decode cX7_walk 22 = .ok (.ifCond .eq 7, 3) := by decide +kernel
theorem dX7_walk_25 : decode cX7_walk 25 = .ok (.iconst 1, 1) := by decide +kernel
theorem dX7_walk_26 : decode cX7_walk 26 = .ok (.goto 4, 3) := by decide +kernel
theorem dX7_walk_29 : decode cX7_walk 29 = .ok (.iconst 0, 1) := by decide +kernel
theorem dX7_walk_30 : decode cX7_walk 30 = .ok (.iload 4, 2) := by decide +kernel
theorem dX7_walk_32 : decode cX7_walk 32 = .ok (.ifCond .lt 18, 3) := by decide +kernel
theorem dX7_walk_35 : decode cX7_walk 35 = .ok (.iload 5, 2) := by decide +kernel
theorem dX7_walk_37 : decode cX7_walk 37 = .ok (.iconst 1, 1) := by decide +kernel
theorem dX7_walk_38 : decode cX7_walk 38 = .ok (.bipush 6, 2) := by decide +kernel
theorem dX7_walk_40 : decode cX7_walk 40 = .ok (.invokestatic 103, 3) := by decide +kernel
theorem dX7_walk_43 : decode cX7_walk 43 = .ok (.ifCond .eq 7, 3) := by decide +kernel
theorem dX7_walk_46 : decode cX7_walk 46 = .ok (.iconst 1, 1) := by decide +kernel
theorem dX7_walk_47 : decode cX7_walk 47 = .ok (.goto 4, 3) := by decide +kernel
theorem dX7_walk_50 : decode cX7_walk 50 = .ok (.iconst 0, 1) := by decide +kernel
theorem dX7_walk_51 : decode cX7_walk 51 = .ok (.iconst 1, 1) := by decide +kernel
theorem dX7_walk_52 : decode cX7_walk 52 = .ok (.invokevirtual 132, 3) := by decide +kernel
theorem dX7_walk_55 : decode cX7_walk 55 = .ok (.ifCond .ne 5, 3) := by decide +kernel
theorem dX7_walk_58 : decode cX7_walk 58 = .ok (.lconst 0, 1) := by decide +kernel
theorem dX7_walk_59 : decode cX7_walk 59 = .ok (.lreturn, 1) := by decide +kernel
theorem dX7_walk_60 : decode cX7_walk 60 = .ok (.iconst 0, 1) := by decide +kernel
theorem dX7_walk_61 : decode cX7_walk 61 = .ok (.istore 6, 2) := by decide +kernel
theorem dX7_walk_63 : decode cX7_walk 63 = .ok (.iload 6, 2) := by decide +kernel
theorem dX7_walk_65 : decode cX7_walk 65 = .ok (.aload_n 0, 1) := by decide +kernel
theorem dX7_walk_66 : decode cX7_walk 66 = .ok (.getfield 91, 3) := by decide +kernel
theorem dX7_walk_69 : decode cX7_walk 69 = .ok (.bipush 6, 2) := by decide +kernel
theorem dX7_walk_71 : decode cX7_walk 71 = .ok (.imul, 1) := by decide +kernel
theorem dX7_walk_72 : decode cX7_walk 72 = .ok (.if_icmp .ge 19, 3) := by decide +kernel
theorem dX7_walk_75 : decode cX7_walk 75 = .ok (.aload_n 0, 1) := by decide +kernel
theorem dX7_walk_76 : decode cX7_walk 76 = .ok (.getfield 78, 3) := by decide +kernel
theorem dX7_walk_79 : decode cX7_walk 79 = .ok (.iload 6, 2) := by decide +kernel
theorem dX7_walk_81 : decode cX7_walk 81 = .ok (.ldc2_w 113, 3) := by decide +kernel
theorem dX7_walk_84 : decode cX7_walk 84 = .ok (.lastore, 1) := by decide +kernel
theorem dX7_walk_85 : decode cX7_walk 85 = .ok (.iinc 6 1, 3) := by decide +kernel
theorem dX7_walk_88 : decode cX7_walk 88 = .ok (.goto (-25), 3) := by decide +kernel
theorem dX7_walk_91 : decode cX7_walk 91 = .ok (.iconst 1, 1) := by decide +kernel
theorem dX7_walk_92 : decode cX7_walk 92 = .ok (.istore 6, 2) := by decide +kernel
theorem dX7_walk_94 : decode cX7_walk 94 = .ok (.iload 6, 2) := by decide +kernel
theorem dX7_walk_96 : decode cX7_walk 96 = .ok (.ifCond .eq 16, 3) := by decide +kernel
theorem dX7_walk_99 : decode cX7_walk 99 = .ok (.aload_n 0, 1) := by decide +kernel
theorem dX7_walk_100 : decode cX7_walk 100 = .ok (.iload_n 1, 1) := by decide +kernel
theorem dX7_walk_101 : decode cX7_walk 101 = .ok (.iload_n 2, 1) := by decide +kernel
theorem dX7_walk_102 : decode cX7_walk 102 = .ok (.iload 4, 2) := by decide +kernel
theorem dX7_walk_104 : decode cX7_walk 104 = .ok (.invokevirtual 156, 3) := by decide +kernel
theorem dX7_walk_107 : decode cX7_walk 107 = .ok (.istore 6, 2) := by decide +kernel
theorem dX7_walk_109 : decode cX7_walk 109 = .ok (.goto (-15), 3) := by decide +kernel
theorem dX7_walk_112 : decode cX7_walk 112 = .ok (.aload_n 0, 1) := by decide +kernel
theorem dX7_walk_113 : decode cX7_walk 113 = .ok (.getfield 78, 3) := by decide +kernel
theorem dX7_walk_116 : decode cX7_walk 116 = .ok (.iload_n 3, 1) := by decide +kernel
theorem dX7_walk_117 : decode cX7_walk 117 = .ok (.bipush 6, 2) := by decide +kernel
theorem dX7_walk_119 : decode cX7_walk 119 = .ok (.imul, 1) := by decide +kernel
theorem dX7_walk_120 : decode cX7_walk 120 = .ok (.iload 5, 2) := by decide +kernel
theorem dX7_walk_122 : decode cX7_walk 122 = .ok (.iadd, 1) := by decide +kernel
theorem dX7_walk_123 : decode cX7_walk 123 = .ok (.iconst 1, 1) := by decide +kernel
theorem dX7_walk_124 : decode cX7_walk 124 = .ok (.isub, 1) := by decide +kernel
theorem dX7_walk_125 : decode cX7_walk 125 = .ok (.laload, 1) := by decide +kernel
theorem dX7_walk_126 : decode cX7_walk 126 = .ok (.lstore 7, 2) := by decide +kernel
theorem dX7_walk_128 : decode cX7_walk 128 = .ok (.lload 7, 2) := by decide +kernel
theorem dX7_walk_130 : decode cX7_walk 130 = .ok (.ldc2_w 113, 3) := by decide +kernel
theorem dX7_walk_133 : decode cX7_walk 133 = .ok (.lcmp, 1) := by decide +kernel
theorem dX7_walk_134 : decode cX7_walk 134 = .ok (.ifCond .ge 8, 3) := by decide +kernel
theorem dX7_walk_137 : decode cX7_walk 137 = .ok (.lload 7, 2) := by decide +kernel
theorem dX7_walk_139 : decode cX7_walk 139 = .ok (.goto 6, 3) := by decide +kernel
theorem dX7_walk_142 : decode cX7_walk 142 = .ok (.ldc2_w 146, 3) := by decide +kernel
theorem dX7_walk_145 : decode cX7_walk 145 = .ok (.lreturn, 1) := by decide +kernel
set_option maxRecDepth 20000 in
theorem ggX7_rest_X7_isUnit : GoodIn wsX7_rest wsX7_isUnit := goodIn_r _ [11, 12, 13, 14, 10, 15, 60, 61, 62, 63, 64, 65, 66, 67, 68, 69, 70, 71, 72, 73, 74, 75, 76, 77, 78, 79, 80, 81, 82, 83, 84, 85, 86, 87, 88, 89] (by decide +kernel) (by decide +kernel)
set_option maxRecDepth 20000 in
theorem gX7_rest_X7_isUnit : GoodIn wsX7_rest (wsV RX7 143 RX7 yX7_isUnit wsX7_isUnit) := goodIn_app (goodIn_of _ (by decide +kernel)) ggX7_rest_X7_isUnit
set_option maxRecDepth 20000 in
theorem ggX7_rest_X7_isPiece : GoodIn wsX7_rest wsX7_isPiece := goodIn_r _ [19, 20, 13, 14, 10, 15, 60, 61, 62, 63, 64, 65, 66, 67, 68, 69, 70, 71, 72, 73, 74, 75, 76, 77, 78, 79, 80, 81, 82, 83, 84, 85, 86, 87, 88, 89] (by decide +kernel) (by decide +kernel)
set_option maxRecDepth 20000 in
theorem gX7_rest_X7_isPiece : GoodIn wsX7_rest (wsV RX7 140 RX7 yX7_isPiece wsX7_isPiece) := goodIn_app (goodIn_of _ (by decide +kernel)) ggX7_rest_X7_isPiece
set_option maxRecDepth 20000 in
theorem ggX7_rest_X7_isNode : GoodIn wsX7_rest wsX7_isNode := goodIn_r _ [24, 25, 13, 14, 10, 15, 60, 61, 62, 63, 64, 65, 66, 67, 68, 69, 70, 71, 72, 73, 74, 75, 76, 77, 78, 79, 80, 81, 82, 83, 84, 85, 86, 87, 88, 89] (by decide +kernel) (by decide +kernel)
set_option maxRecDepth 20000 in
theorem gX7_rest_X7_isNode : GoodIn wsX7_rest (wsV RX7 127 RX7 yX7_isNode wsX7_isNode) := goodIn_app (goodIn_of _ (by decide +kernel)) ggX7_rest_X7_isNode
set_option maxRecDepth 20000 in
theorem ggX7_rest_X7_in : GoodIn wsX7_rest wsX7_in := goodIn_r _ [15] (by decide +kernel) (by decide +kernel)
set_option maxRecDepth 20000 in
theorem gX7_rest_X7_in : GoodIn wsX7_rest (va_wsS RX7 103 yX7_in wsX7_in) := goodIn_app (goodIn_of _ (by decide +kernel)) ggX7_rest_X7_in
set_option maxRecDepth 20000 in
theorem ggX7_rest_X7_goes : GoodIn wsX7_rest wsX7_goes := goodIn_r _ [29, 30, 60, 61, 62, 63, 64, 65, 66, 67, 68, 69, 70, 71, 72, 73, 74, 75, 76, 77, 78, 79, 80, 81, 82, 83, 84, 85, 86, 87, 88, 89] (by decide +kernel) (by decide +kernel)
set_option maxRecDepth 20000 in
theorem gX7_rest_X7_goes : GoodIn wsX7_rest (wsV RX7 132 RX7 yX7_goes wsX7_goes) := goodIn_app (goodIn_of _ (by decide +kernel)) ggX7_rest_X7_goes
set_option maxRecDepth 20000 in
theorem ggX7_rest_X7_mayGo : GoodIn wsX7_rest wsX7_mayGo := goodIn_r _ [34, 35, 36, 37, 38, 39, 40, 60, 61, 62, 63, 64, 65, 66, 67, 68, 69, 70, 71, 72, 73, 74, 75, 76, 77, 78, 79, 80, 81, 82, 83, 84, 85, 86, 87, 88, 89] (by decide +kernel) (by decide +kernel)
set_option maxRecDepth 20000 in
theorem gX7_rest_X7_mayGo : GoodIn wsX7_rest (wsV RX7 115 RX7 yX7_mayGo wsX7_mayGo) := goodIn_app (goodIn_of _ (by decide +kernel)) ggX7_rest_X7_mayGo
set_option maxRecDepth 20000 in
theorem ggX7_rest_X7_spread : GoodIn wsX7_rest wsX7_spread := goodIn_r _ [44, 25, 3, 6, 20, 1, 4, 5, 31, 32, 33, 10, 34, 35, 36, 37, 38, 39, 40, 45, 46, 47, 48, 49, 50, 51, 52, 53, 54, 55, 56, 57, 58, 59, 13, 14, 15, 60, 61, 62, 63, 64, 65, 66, 67, 68, 69, 70, 71, 72, 73, 74, 75, 76, 77, 78, 79, 80, 81, 82, 83, 84, 85, 86, 87, 88, 89] (by decide +kernel) (by decide +kernel)
set_option maxRecDepth 20000 in
theorem gX7_rest_X7_spread : GoodIn wsX7_rest (wsV RX7 123 RX7 yX7_spread wsX7_spread) := goodIn_app (goodIn_of _ (by decide +kernel)) ggX7_rest_X7_spread
set_option maxRecDepth 20000 in
theorem ggX7_rest_X7_takes : GoodIn wsX7_rest wsX7_takes := goodIn_r _ [48, 36, 49, 50, 51, 52, 53, 54, 10, 55, 56, 57, 58, 59, 13, 14, 15, 60, 61, 62, 63, 64, 65, 66, 67, 68, 69, 70, 71, 72, 73, 74, 75, 76, 77, 78, 79, 80, 81, 82, 83, 84, 85, 86, 87, 88, 89] (by decide +kernel) (by decide +kernel)
set_option maxRecDepth 20000 in
theorem gX7_rest_X7_takes : GoodIn wsX7_rest (wsV RX7 119 RX7 yX7_takes wsX7_takes) := goodIn_app (goodIn_of _ (by decide +kernel)) ggX7_rest_X7_takes
theorem dX7_rest_0 : decode cX7_rest 0 = .ok (.aload_n 0, 1) := by decide +kernel
theorem dX7_rest_1 : decode cX7_rest 1 = .ok (.aload_n 0, 1) := by decide +kernel
theorem dX7_rest_2 : decode cX7_rest 2 = .ok (.iload_n 1, 1) := by decide +kernel
theorem dX7_rest_3 : decode cX7_rest 3 = .ok (.invokevirtual 143, 3) := by decide +kernel
theorem dX7_rest_6 : decode cX7_rest 6 = .ok (.ifCond .eq 24, 3) := by decide +kernel
theorem dX7_rest_9 : decode cX7_rest 9 = .ok (.aload_n 0, 1) := by decide +kernel
theorem dX7_rest_10 : decode cX7_rest 10 = .ok (.iload_n 2, 1) := by decide +kernel
theorem dX7_rest_11 : decode cX7_rest 11 = .ok (.invokevirtual 140, 3) := by decide +kernel
theorem dX7_rest_14 : decode cX7_rest 14 = .ok (.ifCond .eq 16, 3) := by decide +kernel
theorem dX7_rest_17 : decode cX7_rest 17 = .ok (.aload_n 0, 1) := by decide +kernel
theorem dX7_rest_18 : decode cX7_rest 18 = .ok (.iload 4, 2) := by decide +kernel
theorem dX7_rest_20 : decode cX7_rest 20 = .ok (.invokevirtual 127, 3) := by decide +kernel
theorem dX7_rest_23 : decode cX7_rest 23 = .ok (.ifCond .eq 7, 3) := by decide +kernel
theorem dX7_rest_26 : decode cX7_rest 26 = .ok (.iconst 1, 1) := by decide +kernel
theorem dX7_rest_27 : decode cX7_rest 27 = .ok (.goto 4, 3) := by decide +kernel
theorem dX7_rest_30 : decode cX7_rest 30 = .ok (.iconst 0, 1) := by decide +kernel
theorem dX7_rest_31 : decode cX7_rest 31 = .ok (.iload 5, 2) := by decide +kernel
theorem dX7_rest_33 : decode cX7_rest 33 = .ok (.ifCond .lt 33, 3) := by decide +kernel
theorem dX7_rest_36 : decode cX7_rest 36 = .ok (.iload_n 3, 1) := by decide +kernel
theorem dX7_rest_37 : decode cX7_rest 37 = .ok (.iconst 0, 1) := by decide +kernel
theorem dX7_rest_38 : decode cX7_rest 38 = .ok (.aload_n 0, 1) := by decide +kernel
theorem dX7_rest_39 : decode cX7_rest 39 = .ok (.iload_n 2, 1) := by decide +kernel
theorem dX7_rest_40 : decode cX7_rest 40 = .ok (.invokevirtual 140, 3) := by decide +kernel
theorem dX7_rest_43 : decode cX7_rest 43 = .ok (.ifCond .eq 12, 3) := by decide +kernel
theorem dX7_rest_46 : decode cX7_rest 46 = .ok (.aload_n 0, 1) := by decide +kernel
theorem dX7_rest_47 : decode cX7_rest 47 = .ok (.getfield 16, 3) := by decide +kernel
theorem dX7_rest_50 : decode cX7_rest 50 = .ok (.iload_n 2, 1) := by decide +kernel
theorem dX7_rest_51 : decode cX7_rest 51 = .ok (.iaload, 1) := by decide +kernel
theorem dX7_rest_52 : decode cX7_rest 52 = .ok (.goto 4, 3) := by decide +kernel
theorem dX7_rest_55 : decode cX7_rest 55 = .ok (.iconst 0, 1) := by decide +kernel
theorem dX7_rest_56 : decode cX7_rest 56 = .ok (.invokestatic 103, 3) := by decide +kernel
theorem dX7_rest_59 : decode cX7_rest 59 = .ok (.ifCond .eq 7, 3) := by decide +kernel
theorem dX7_rest_62 : decode cX7_rest 62 = .ok (.iconst 1, 1) := by decide +kernel
theorem dX7_rest_63 : decode cX7_rest 63 = .ok (.goto 4, 3) := by decide +kernel
theorem dX7_rest_66 : decode cX7_rest 66 = .ok (.iconst 0, 1) := by decide +kernel
theorem dX7_rest_67 : decode cX7_rest 67 = .ok (.iconst 1, 1) := by decide +kernel
theorem dX7_rest_68 : decode cX7_rest 68 = .ok (.invokevirtual 132, 3) := by decide +kernel
theorem dX7_rest_71 : decode cX7_rest 71 = .ok (.ifCond .ne 5, 3) := by decide +kernel
theorem dX7_rest_74 : decode cX7_rest 74 = .ok (.lconst 0, 1) := by decide +kernel
theorem dX7_rest_75 : decode cX7_rest 75 = .ok (.lreturn, 1) := by decide +kernel
theorem dX7_rest_76 : decode cX7_rest 76 = .ok (.aload_n 0, 1) := by decide +kernel
theorem dX7_rest_77 : decode cX7_rest 77 = .ok (.iload_n 1, 1) := by decide +kernel
theorem dX7_rest_78 : decode cX7_rest 78 = .ok (.iload_n 2, 1) := by decide +kernel
theorem dX7_rest_79 : decode cX7_rest 79 = .ok (.invokevirtual 115, 3) := by decide +kernel
theorem dX7_rest_82 : decode cX7_rest 82 = .ok (.ifCond .ne 7, 3) := by decide +kernel
theorem dX7_rest_85 : decode cX7_rest 85 = .ok (.ldc2_w 146, 3) := by decide +kernel
theorem dX7_rest_88 : decode cX7_rest 88 = .ok (.lreturn, 1) := by decide +kernel
theorem dX7_rest_89 : decode cX7_rest 89 = .ok (.aload_n 0, 1) := by decide +kernel
theorem dX7_rest_90 : decode cX7_rest 90 = .ok (.iload_n 1, 1) := by decide +kernel
theorem dX7_rest_91 : decode cX7_rest 91 = .ok (.iload 4, 2) := by decide +kernel
theorem dX7_rest_93 : decode cX7_rest 93 = .ok (.iload 5, 2) := by decide +kernel
theorem dX7_rest_95 : decode cX7_rest 95 = .ok (.invokevirtual 123, 3) := by decide +kernel
theorem dX7_rest_98 : decode cX7_rest 98 = .ok (.aload_n 0, 1) := by decide +kernel
theorem dX7_rest_99 : decode cX7_rest 99 = .ok (.getfield 75, 3) := by decide +kernel
theorem dX7_rest_102 : decode cX7_rest 102 = .ok (.aload_n 0, 1) := by decide +kernel
theorem dX7_rest_103 : decode cX7_rest 103 = .ok (.getfield 7, 3) := by decide +kernel
theorem dX7_rest_106 : decode cX7_rest 106 = .ok (.iload_n 2, 1) := by decide +kernel
theorem dX7_rest_107 : decode cX7_rest 107 = .ok (.iaload, 1) := by decide +kernel
theorem dX7_rest_108 : decode cX7_rest 108 = .ok (.laload, 1) := by decide +kernel
theorem dX7_rest_109 : decode cX7_rest 109 = .ok (.aload_n 0, 1) := by decide +kernel
theorem dX7_rest_110 : decode cX7_rest 110 = .ok (.iload_n 1, 1) := by decide +kernel
theorem dX7_rest_111 : decode cX7_rest 111 = .ok (.iload_n 2, 1) := by decide +kernel
theorem dX7_rest_112 : decode cX7_rest 112 = .ok (.iload_n 3, 1) := by decide +kernel
theorem dX7_rest_113 : decode cX7_rest 113 = .ok (.iload 5, 2) := by decide +kernel
theorem dX7_rest_115 : decode cX7_rest 115 = .ok (.invokevirtual 119, 3) := by decide +kernel
theorem dX7_rest_118 : decode cX7_rest 118 = .ok (.ladd, 1) := by decide +kernel
theorem dX7_rest_119 : decode cX7_rest 119 = .ok (.lstore 6, 2) := by decide +kernel
theorem dX7_rest_121 : decode cX7_rest 121 = .ok (.aload_n 0, 1) := by decide +kernel
theorem dX7_rest_122 : decode cX7_rest 122 = .ok (.getfield 75, 3) := by decide +kernel
theorem dX7_rest_125 : decode cX7_rest 125 = .ok (.aload_n 0, 1) := by decide +kernel
theorem dX7_rest_126 : decode cX7_rest 126 = .ok (.getfield 13, 3) := by decide +kernel
theorem dX7_rest_129 : decode cX7_rest 129 = .ok (.iload_n 2, 1) := by decide +kernel
theorem dX7_rest_130 : decode cX7_rest 130 = .ok (.iaload, 1) := by decide +kernel
theorem dX7_rest_131 : decode cX7_rest 131 = .ok (.laload, 1) := by decide +kernel
theorem dX7_rest_132 : decode cX7_rest 132 = .ok (.aload_n 0, 1) := by decide +kernel
theorem dX7_rest_133 : decode cX7_rest 133 = .ok (.iload_n 1, 1) := by decide +kernel
theorem dX7_rest_134 : decode cX7_rest 134 = .ok (.iload_n 2, 1) := by decide +kernel
theorem dX7_rest_135 : decode cX7_rest 135 = .ok (.aload_n 0, 1) := by decide +kernel
theorem dX7_rest_136 : decode cX7_rest 136 = .ok (.getfield 16, 3) := by decide +kernel
theorem dX7_rest_139 : decode cX7_rest 139 = .ok (.iload_n 2, 1) := by decide +kernel
theorem dX7_rest_140 : decode cX7_rest 140 = .ok (.iaload, 1) := by decide +kernel
theorem dX7_rest_141 : decode cX7_rest 141 = .ok (.iload_n 3, 1) := by decide +kernel
theorem dX7_rest_142 : decode cX7_rest 142 = .ok (.isub, 1) := by decide +kernel
theorem dX7_rest_143 : decode cX7_rest 143 = .ok (.iload 5, 2) := by decide +kernel
theorem dX7_rest_145 : decode cX7_rest 145 = .ok (.invokevirtual 119, 3) := by decide +kernel
theorem dX7_rest_148 : decode cX7_rest 148 = .ok (.ladd, 1) := by decide +kernel
theorem dX7_rest_149 : decode cX7_rest 149 = .ok (.lstore 8, 2) := by decide +kernel
theorem dX7_rest_151 : decode cX7_rest 151 = .ok (.lload 6, 2) := by decide +kernel
theorem dX7_rest_153 : decode cX7_rest 153 = .ok (.lload 8, 2) := by decide +kernel
theorem dX7_rest_155 : decode cX7_rest 155 = .ok (.lcmp, 1) := by decide +kernel
theorem dX7_rest_156 : decode cX7_rest 156 = .ok (.ifCond .ge 8, 3) := by decide +kernel
theorem dX7_rest_159 : decode cX7_rest 159 = .ok (.lload 6, 2) := by decide +kernel
theorem dX7_rest_161 : decode cX7_rest 161 = .ok (.goto 5, 3) := by decide +kernel
theorem dX7_rest_164 : decode cX7_rest 164 = .ok (.lload 8, 2) := by decide +kernel
theorem dX7_rest_166 : decode cX7_rest 166 = .ok (.lstore 10, 2) := by decide +kernel
theorem dX7_rest_168 : decode cX7_rest 168 = .ok (.lload 10, 2) := by decide +kernel
theorem dX7_rest_170 : decode cX7_rest 170 = .ok (.ldc2_w 113, 3) := by decide +kernel
theorem dX7_rest_173 : decode cX7_rest 173 = .ok (.lcmp, 1) := by decide +kernel
theorem dX7_rest_174 : decode cX7_rest 174 = .ok (.ifCond .ge 8, 3) := by decide +kernel
theorem dX7_rest_177 : decode cX7_rest 177 = .ok (.lload 10, 2) := by decide +kernel
theorem dX7_rest_179 : decode cX7_rest 179 = .ok (.goto 6, 3) := by decide +kernel
theorem dX7_rest_182 : decode cX7_rest 182 = .ok (.ldc2_w 146, 3) := by decide +kernel
theorem dX7_rest_185 : decode cX7_rest 185 = .ok (.lreturn, 1) := by decide +kernel
set_option maxRecDepth 20000 in
theorem ggX7_nearest_X7_isNode : GoodIn wsX7_nearest wsX7_isNode := goodIn_r _ [9, 10, 11, 12, 8, 13, 52, 53, 54, 55, 56, 57, 58, 59, 60, 61, 62, 63, 64, 65, 66, 67, 68, 69, 70, 71, 72, 73, 74, 75, 76, 77, 78, 79, 80, 81] (by decide +kernel) (by decide +kernel)
set_option maxRecDepth 20000 in
theorem gX7_nearest_X7_isNode : GoodIn wsX7_nearest (wsV RX7 127 RX7 yX7_isNode wsX7_isNode) := goodIn_app (goodIn_of _ (by decide +kernel)) ggX7_nearest_X7_isNode
set_option maxRecDepth 20000 in
theorem ggX7_nearest_X7_goes : GoodIn wsX7_nearest wsX7_goes := goodIn_r _ [17, 18, 52, 53, 54, 55, 56, 57, 58, 59, 60, 61, 62, 63, 64, 65, 66, 67, 68, 69, 70, 71, 72, 73, 74, 75, 76, 77, 78, 79, 80, 81] (by decide +kernel) (by decide +kernel)
set_option maxRecDepth 20000 in
theorem gX7_nearest_X7_goes : GoodIn wsX7_nearest (wsV RX7 132 RX7 yX7_goes wsX7_goes) := goodIn_app (goodIn_of _ (by decide +kernel)) ggX7_nearest_X7_goes
set_option maxRecDepth 20000 in
theorem ggX7_nearest_X7_spread : GoodIn wsX7_nearest wsX7_spread := goodIn_r _ [22, 10, 3, 1, 23, 24, 25, 26, 27, 28, 29, 8, 30, 31, 32, 33, 34, 35, 36, 37, 38, 39, 40, 41, 42, 43, 44, 45, 46, 47, 48, 49, 50, 51, 11, 12, 13, 52, 53, 54, 55, 56, 57, 58, 59, 60, 61, 62, 63, 64, 65, 66, 67, 68, 69, 70, 71, 72, 73, 74, 75, 76, 77, 78, 79, 80, 81] (by decide +kernel) (by decide +kernel)
set_option maxRecDepth 20000 in
theorem gX7_nearest_X7_spread : GoodIn wsX7_nearest (wsV RX7 123 RX7 yX7_spread wsX7_spread) := goodIn_app (goodIn_of _ (by decide +kernel)) ggX7_nearest_X7_spread
theorem dX7_nearest_0 : decode cX7_nearest 0 = .ok (.aload_n 0, 1) := by decide +kernel
theorem dX7_nearest_1 : decode cX7_nearest 1 = .ok (.aload_n 0, 1) := by decide +kernel
theorem dX7_nearest_2 : decode cX7_nearest 2 = .ok (.iload_n 1, 1) := by decide +kernel
theorem dX7_nearest_3 : decode cX7_nearest 3 = .ok (.invokevirtual 127, 3) := by decide +kernel
theorem dX7_nearest_6 : decode cX7_nearest 6 = .ok (.iload_n 2, 1) := by decide +kernel
theorem dX7_nearest_7 : decode cX7_nearest 7 = .ok (.ifCond .lt 7, 3) := by decide +kernel
theorem dX7_nearest_10 : decode cX7_nearest 10 = .ok (.iconst 1, 1) := by decide +kernel
theorem dX7_nearest_11 : decode cX7_nearest 11 = .ok (.goto 4, 3) := by decide +kernel
theorem dX7_nearest_14 : decode cX7_nearest 14 = .ok (.iconst 0, 1) := by decide +kernel
theorem dX7_nearest_15 : decode cX7_nearest 15 = .ok (.iconst 1, 1) := by decide +kernel
theorem dX7_nearest_16 : decode cX7_nearest 16 = .ok (.invokevirtual 132, 3) := by decide +kernel
theorem dX7_nearest_19 : decode cX7_nearest 19 = .ok (.ifCond .ne 5, 3) := by decide +kernel
theorem dX7_nearest_22 : decode cX7_nearest 22 = .ok (.iconst 0, 1) := by decide +kernel
theorem dX7_nearest_23 : decode cX7_nearest 23 = .ok (.ireturn, 1) := by decide +kernel
theorem dX7_nearest_24 : decode cX7_nearest 24 = .ok (.iconst (-1), 1) := by decide +kernel
theorem dX7_nearest_25 : decode cX7_nearest 25 = .ok (.istore_n 3, 1) := by decide +kernel
theorem dX7_nearest_26 : decode cX7_nearest 26 = .ok (.ldc2_w 113, 3) := by decide +kernel
theorem dX7_nearest_29 : decode cX7_nearest 29 = .ok (.lstore 4, 2) := by decide +kernel
theorem dX7_nearest_31 : decode cX7_nearest 31 = .ok (.iconst 0, 1) := by decide +kernel
theorem dX7_nearest_32 : decode cX7_nearest 32 = .ok (.istore 6, 2) := by decide +kernel
theorem dX7_nearest_34 : decode cX7_nearest 34 = .ok (.iload 6, 2) := by decide +kernel
theorem dX7_nearest_36 : decode cX7_nearest 36 = .ok (.aload_n 0, 1) := by decide +kernel
theorem dX7_nearest_37 : decode cX7_nearest 37 = .ok (.getfield 97, 3) := by decide +kernel
theorem dX7_nearest_40 : decode cX7_nearest 40 = .ok (.if_icmp .ge 55, 3) := by decide +kernel
theorem dX7_nearest_43 : decode cX7_nearest 43 = .ok (.aload_n 0, 1) := by decide +kernel
theorem dX7_nearest_44 : decode cX7_nearest 44 = .ok (.iload 6, 2) := by decide +kernel
theorem dX7_nearest_46 : decode cX7_nearest 46 = .ok (.iload_n 1, 1) := by decide +kernel
theorem dX7_nearest_47 : decode cX7_nearest 47 = .ok (.iload_n 2, 1) := by decide +kernel
theorem dX7_nearest_48 : decode cX7_nearest 48 = .ok (.invokevirtual 123, 3) := by decide +kernel
theorem dX7_nearest_51 : decode cX7_nearest 51 = .ok (.aload_n 0, 1) := by decide +kernel
theorem dX7_nearest_52 : decode cX7_nearest 52 = .ok (.getfield 75, 3) := by decide +kernel
theorem dX7_nearest_55 : decode cX7_nearest 55 = .ok (.aload_n 0, 1) := by decide +kernel
theorem dX7_nearest_56 : decode cX7_nearest 56 = .ok (.getfield 44, 3) := by decide +kernel
theorem dX7_nearest_59 : decode cX7_nearest 59 = .ok (.iload 6, 2) := by decide +kernel
theorem dX7_nearest_61 : decode cX7_nearest 61 = .ok (.iaload, 1) := by decide +kernel
theorem dX7_nearest_62 : decode cX7_nearest 62 = .ok (.laload, 1) := by decide +kernel
theorem dX7_nearest_63 : decode cX7_nearest 63 = .ok (.lload 4, 2) := by decide +kernel
theorem dX7_nearest_65 : decode cX7_nearest 65 = .ok (.lcmp, 1) := by decide +kernel
theorem dX7_nearest_66 : decode cX7_nearest 66 = .ok (.ifCond .lt 6, 3) := by decide +kernel
theorem dX7_nearest_69 : decode cX7_nearest 69 = .ok (.goto 20, 3) := by decide +kernel
theorem dX7_nearest_72 : decode cX7_nearest 72 = .ok (.aload_n 0, 1) := by decide +kernel
theorem dX7_nearest_73 : decode cX7_nearest 73 = .ok (.getfield 75, 3) := by decide +kernel
theorem dX7_nearest_76 : decode cX7_nearest 76 = .ok (.aload_n 0, 1) := by decide +kernel
theorem dX7_nearest_77 : decode cX7_nearest 77 = .ok (.getfield 44, 3) := by decide +kernel
theorem dX7_nearest_80 : decode cX7_nearest 80 = .ok (.iload 6, 2) := by decide +kernel
theorem dX7_nearest_82 : decode cX7_nearest 82 = .ok (.iaload, 1) := by decide +kernel
theorem dX7_nearest_83 : decode cX7_nearest 83 = .ok (.laload, 1) := by decide +kernel
theorem dX7_nearest_84 : decode cX7_nearest 84 = .ok (.lstore 4, 2) := by decide +kernel
theorem dX7_nearest_86 : decode cX7_nearest 86 = .ok (.iload 6, 2) := by decide +kernel
theorem dX7_nearest_88 : decode cX7_nearest 88 = .ok (.istore_n 3, 1) := by decide +kernel
theorem dX7_nearest_89 : decode cX7_nearest 89 = .ok (.iinc 6 1, 3) := by decide +kernel
theorem dX7_nearest_92 : decode cX7_nearest 92 = .ok (.goto (-58), 3) := by decide +kernel
theorem dX7_nearest_95 : decode cX7_nearest 95 = .ok (.iload_n 3, 1) := by decide +kernel
theorem dX7_nearest_96 : decode cX7_nearest 96 = .ok (.ireturn, 1) := by decide +kernel
set_option maxRecDepth 20000 in
theorem ggX7_keep_X7_in : GoodIn wsX7_keep wsX7_in := goodIn_r _ [11] (by decide +kernel) (by decide +kernel)
set_option maxRecDepth 20000 in
theorem gX7_keep_X7_in : GoodIn wsX7_keep (va_wsS RX7 103 yX7_in wsX7_in) := goodIn_app (goodIn_of _ (by decide +kernel)) ggX7_keep_X7_in
set_option maxRecDepth 20000 in
theorem ggX7_keep_X7_isNode : GoodIn wsX7_keep wsX7_isNode := goodIn_r _ [15, 5, 8, 9, 10, 11, 60, 61, 62, 63, 64, 65, 66, 67, 68, 69, 70, 71, 72, 73, 74, 75, 76, 77, 78, 79, 80, 81, 82, 83, 84, 85, 86, 87, 88, 89] (by decide +kernel) (by decide +kernel)
set_option maxRecDepth 20000 in
theorem gX7_keep_X7_isNode : GoodIn wsX7_keep (wsV RX7 127 RX7 yX7_isNode wsX7_isNode) := goodIn_app (goodIn_of _ (by decide +kernel)) ggX7_keep_X7_isNode
set_option maxRecDepth 20000 in
theorem ggX7_keep_X7_isUnit : GoodIn wsX7_keep wsX7_isUnit := goodIn_r _ [19, 20, 8, 9, 10, 11, 60, 61, 62, 63, 64, 65, 66, 67, 68, 69, 70, 71, 72, 73, 74, 75, 76, 77, 78, 79, 80, 81, 82, 83, 84, 85, 86, 87, 88, 89] (by decide +kernel) (by decide +kernel)
set_option maxRecDepth 20000 in
theorem gX7_keep_X7_isUnit : GoodIn wsX7_keep (wsV RX7 143 RX7 yX7_isUnit wsX7_isUnit) := goodIn_app (goodIn_of _ (by decide +kernel)) ggX7_keep_X7_isUnit
set_option maxRecDepth 20000 in
theorem ggX7_keep_X7_goes : GoodIn wsX7_keep wsX7_goes := goodIn_r _ [24, 25, 60, 61, 62, 63, 64, 65, 66, 67, 68, 69, 70, 71, 72, 73, 74, 75, 76, 77, 78, 79, 80, 81, 82, 83, 84, 85, 86, 87, 88, 89] (by decide +kernel) (by decide +kernel)
set_option maxRecDepth 20000 in
theorem gX7_keep_X7_goes : GoodIn wsX7_keep (wsV RX7 132 RX7 yX7_goes wsX7_goes) := goodIn_app (goodIn_of _ (by decide +kernel)) ggX7_keep_X7_goes
set_option maxRecDepth 20000 in
theorem ggX7_keep_X7_spread : GoodIn wsX7_keep wsX7_spread := goodIn_r _ [29, 5, 7, 30, 31, 32, 33, 34, 35, 36, 37, 10, 38, 39, 40, 41, 42, 43, 44, 45, 46, 47, 48, 49, 50, 51, 52, 53, 54, 55, 56, 57, 58, 59, 8, 9, 11, 60, 61, 62, 63, 64, 65, 66, 67, 68, 69, 70, 71, 72, 73, 74, 75, 76, 77, 78, 79, 80, 81, 82, 83, 84, 85, 86, 87, 88, 89] (by decide +kernel) (by decide +kernel)
set_option maxRecDepth 20000 in
theorem gX7_keep_X7_spread : GoodIn wsX7_keep (wsV RX7 123 RX7 yX7_spread wsX7_spread) := goodIn_app (goodIn_of _ (by decide +kernel)) ggX7_keep_X7_spread
theorem dX7_keep_0 : decode cX7_keep 0 = .ok (.aload_n 0, 1) := by decide +kernel
theorem dX7_keep_1 : decode cX7_keep 1 = .ok (.iload_n 1, 1) := by decide +kernel
theorem dX7_keep_2 : decode cX7_keep 2 = .ok (.iconst 0, 1) := by decide +kernel
theorem dX7_keep_3 : decode cX7_keep 3 = .ok (.iconst 5, 1) := by decide +kernel
theorem dX7_keep_4 : decode cX7_keep 4 = .ok (.invokestatic 103, 3) := by decide +kernel
theorem dX7_keep_7 : decode cX7_keep 7 = .ok (.ifCond .eq 23, 3) := by decide +kernel
theorem dX7_keep_10 : decode cX7_keep 10 = .ok (.aload_n 0, 1) := by decide +kernel
theorem dX7_keep_11 : decode cX7_keep 11 = .ok (.iload_n 2, 1) := by decide +kernel
theorem dX7_keep_12 : decode cX7_keep 12 = .ok (.invokevirtual 127, 3) := by decide +kernel
theorem dX7_keep_15 : decode cX7_keep 15 = .ok (.ifCond .eq 15, 3) := by decide +kernel
theorem dX7_keep_18 : decode cX7_keep 18 = .ok (.aload_n 0, 1) := by decide +kernel
theorem dX7_keep_19 : decode cX7_keep 19 = .ok (.iload_n 3, 1) := by decide +kernel
theorem dX7_keep_20 : decode cX7_keep 20 = .ok (.invokevirtual 143, 3) := by decide +kernel
theorem dX7_keep_23 : decode cX7_keep 23 = .ok (.ifCond .eq 7, 3) := by decide +kernel
theorem dX7_keep_26 : decode cX7_keep 26 = .ok (.iconst 1, 1) := by decide +kernel
theorem dX7_keep_27 : decode cX7_keep 27 = .ok (.goto 4, 3) := by decide +kernel
theorem dX7_keep_30 : decode cX7_keep 30 = .ok (.iconst 0, 1) := by decide +kernel
theorem dX7_keep_31 : decode cX7_keep 31 = .ok (.iload 4, 2) := by decide +kernel
theorem dX7_keep_33 : decode cX7_keep 33 = .ok (.ifCond .lt 7, 3) := by decide +kernel
theorem dX7_keep_36 : decode cX7_keep 36 = .ok (.iconst 1, 1) := by decide +kernel
theorem dX7_keep_37 : decode cX7_keep 37 = .ok (.goto 4, 3) := by decide +kernel
theorem dX7_keep_40 : decode cX7_keep 40 = .ok (.iconst 0, 1) := by decide +kernel
theorem dX7_keep_41 : decode cX7_keep 41 = .ok (.iconst 1, 1) := by decide +kernel
theorem dX7_keep_42 : decode cX7_keep 42 = .ok (.invokevirtual 132, 3) := by decide +kernel
theorem dX7_keep_45 : decode cX7_keep 45 = .ok (.ifCond .ne 4, 3) := by decide +kernel
theorem dX7_keep_48 : decode cX7_keep 48 = .ok (.return_, 1) := by decide +kernel
theorem dX7_keep_49 : decode cX7_keep 49 = .ok (.aload_n 0, 1) := by decide +kernel
theorem dX7_keep_50 : decode cX7_keep 50 = .ok (.getfield 59, 3) := by decide +kernel
theorem dX7_keep_53 : decode cX7_keep 53 = .ok (.iload_n 1, 1) := by decide +kernel
theorem dX7_keep_54 : decode cX7_keep 54 = .ok (.iconst 1, 1) := by decide +kernel
theorem dX7_keep_55 : decode cX7_keep 55 = .ok (.bastore, 1) := by decide +kernel
theorem dX7_keep_56 : decode cX7_keep 56 = .ok (.aload_n 0, 1) := by decide +kernel
theorem dX7_keep_57 : decode cX7_keep 57 = .ok (.getfield 62, 3) := by decide +kernel
theorem dX7_keep_60 : decode cX7_keep 60 = .ok (.iload_n 1, 1) := by decide +kernel
theorem dX7_keep_61 : decode cX7_keep 61 = .ok (.iload_n 2, 1) := by decide +kernel
theorem dX7_keep_62 : decode cX7_keep 62 = .ok (.iastore, 1) := by decide +kernel
theorem dX7_keep_63 : decode cX7_keep 63 = .ok (.aload_n 0, 1) := by decide +kernel
theorem dX7_keep_64 : decode cX7_keep 64 = .ok (.getfield 65, 3) := by decide +kernel
theorem dX7_keep_67 : decode cX7_keep 67 = .ok (.iload_n 1, 1) := by decide +kernel
theorem dX7_keep_68 : decode cX7_keep 68 = .ok (.iload_n 3, 1) := by decide +kernel
theorem dX7_keep_69 : decode cX7_keep 69 = .ok (.iastore, 1) := by decide +kernel
theorem dX7_keep_70 : decode cX7_keep 70 = .ok (.aload_n 0, 1) := by decide +kernel
theorem dX7_keep_71 : decode cX7_keep 71 = .ok (.getfield 68, 3) := by decide +kernel
theorem dX7_keep_74 : decode cX7_keep 74 = .ok (.iload_n 1, 1) := by decide +kernel
theorem dX7_keep_75 : decode cX7_keep 75 = .ok (.iload 4, 2) := by decide +kernel
theorem dX7_keep_77 : decode cX7_keep 77 = .ok (.iastore, 1) := by decide +kernel
theorem dX7_keep_78 : decode cX7_keep 78 = .ok (.aload_n 0, 1) := by decide +kernel
theorem dX7_keep_79 : decode cX7_keep 79 = .ok (.iload_n 3, 1) := by decide +kernel
theorem dX7_keep_80 : decode cX7_keep 80 = .ok (.iload_n 2, 1) := by decide +kernel
theorem dX7_keep_81 : decode cX7_keep 81 = .ok (.iload 4, 2) := by decide +kernel
theorem dX7_keep_83 : decode cX7_keep 83 = .ok (.invokevirtual 123, 3) := by decide +kernel
theorem dX7_keep_86 : decode cX7_keep 86 = .ok (.iconst 0, 1) := by decide +kernel
theorem dX7_keep_87 : decode cX7_keep 87 = .ok (.istore 5, 2) := by decide +kernel
theorem dX7_keep_89 : decode cX7_keep 89 = .ok (.iload 5, 2) := by decide +kernel
theorem dX7_keep_91 : decode cX7_keep 91 = .ok (.aload_n 0, 1) := by decide +kernel
theorem dX7_keep_92 : decode cX7_keep 92 = .ok (.getfield 91, 3) := by decide +kernel
theorem dX7_keep_95 : decode cX7_keep 95 = .ok (.if_icmp .ge 29, 3) := by decide +kernel
theorem dX7_keep_98 : decode cX7_keep 98 = .ok (.aload_n 0, 1) := by decide +kernel
theorem dX7_keep_99 : decode cX7_keep 99 = .ok (.getfield 71, 3) := by decide +kernel
theorem dX7_keep_102 : decode cX7_keep 102 = .ok (.iload_n 1, 1) := by decide +kernel
theorem dX7_keep_103 : decode cX7_keep 103 = .ok (.sipush 200, 3) := by decide +kernel
theorem dX7_keep_106 : decode cX7_keep 106 = .ok (.imul, 1) := by decide +kernel
theorem dX7_keep_107 : decode cX7_keep 107 = .ok (.iload 5, 2) := by decide +kernel
theorem dX7_keep_109 : decode cX7_keep 109 = .ok (.iadd, 1) := by decide +kernel
theorem dX7_keep_110 : decode cX7_keep 110 = .ok (.aload_n 0, 1) := by decide +kernel
theorem dX7_keep_111 : decode cX7_keep 111 = .ok (.getfield 75, 3) := by decide +kernel
theorem dX7_keep_114 : decode cX7_keep 114 = .ok (.iload 5, 2) := by decide +kernel
theorem dX7_keep_116 : decode cX7_keep 116 = .ok (.laload, 1) := by decide +kernel
theorem dX7_keep_117 : decode cX7_keep 117 = .ok (.lastore, 1) := by decide +kernel
theorem dX7_keep_118 : decode cX7_keep 118 = .ok (.iinc 5 1, 3) := by decide +kernel
theorem dX7_keep_121 : decode cX7_keep 121 = .ok (.goto (-32), 3) := by decide +kernel
theorem dX7_keep_124 : decode cX7_keep 124 = .ok (.return_, 1) := by decide +kernel
set_option maxRecDepth 20000 in
theorem ggX7_kept_X7_in : GoodIn wsX7_kept wsX7_in := goodIn_r _ [8] (by decide +kernel) (by decide +kernel)
set_option maxRecDepth 20000 in
theorem gX7_kept_X7_in : GoodIn wsX7_kept (va_wsS RX7 103 yX7_in wsX7_in) := goodIn_app (goodIn_of _ (by decide +kernel)) ggX7_kept_X7_in
set_option maxRecDepth 20000 in
theorem ggX7_kept_X7_isNode : GoodIn wsX7_kept wsX7_isNode := goodIn_r _ [12, 13, 5, 6, 7, 8, 19, 20, 21, 22, 23, 24, 25, 26, 27, 28, 29, 30, 31, 32, 33, 34, 35, 36, 37, 38, 39, 40, 41, 42, 43, 44, 45, 46, 47, 48] (by decide +kernel) (by decide +kernel)
set_option maxRecDepth 20000 in
theorem gX7_kept_X7_isNode : GoodIn wsX7_kept (wsV RX7 127 RX7 yX7_isNode wsX7_isNode) := goodIn_app (goodIn_of _ (by decide +kernel)) ggX7_kept_X7_isNode
set_option maxRecDepth 20000 in
theorem ggX7_kept_X7_goes : GoodIn wsX7_kept wsX7_goes := goodIn_r _ [17, 18, 19, 20, 21, 22, 23, 24, 25, 26, 27, 28, 29, 30, 31, 32, 33, 34, 35, 36, 37, 38, 39, 40, 41, 42, 43, 44, 45, 46, 47, 48] (by decide +kernel) (by decide +kernel)
set_option maxRecDepth 20000 in
theorem gX7_kept_X7_goes : GoodIn wsX7_kept (wsV RX7 132 RX7 yX7_goes wsX7_goes) := goodIn_app (goodIn_of _ (by decide +kernel)) ggX7_kept_X7_goes
theorem dX7_kept_0 : decode cX7_kept 0 = .ok (.iload_n 1, 1) := by decide +kernel
theorem dX7_kept_1 : decode cX7_kept 1 = .ok (.iconst 0, 1) := by decide +kernel
theorem dX7_kept_2 : decode cX7_kept 2 = .ok (.iconst 5, 1) := by decide +kernel
theorem dX7_kept_3 : decode cX7_kept 3 = .ok (.invokestatic 103, 3) := by decide +kernel
theorem dX7_kept_6 : decode cX7_kept 6 = .ok (.ifCond .eq 29, 3) := by decide +kernel
theorem dX7_kept_9 : decode cX7_kept 9 = .ok (.aload_n 0, 1) := by decide +kernel
theorem dX7_kept_10 : decode cX7_kept 10 = .ok (.getfield 59, 3) := by decide +kernel
theorem dX7_kept_13 : decode cX7_kept 13 = .ok (.iload_n 1, 1) := by decide +kernel
theorem dX7_kept_14 : decode cX7_kept 14 = .ok (.iconst 0, 1) := by decide +kernel
theorem dX7_kept_15 : decode cX7_kept 15 = .ok (.iconst 5, 1) := by decide +kernel
theorem dX7_kept_16 : decode cX7_kept 16 = .ok (.invokestatic 103, 3) := by decide +kernel
theorem dX7_kept_19 : decode cX7_kept 19 = .ok (.ifCond .eq 7, 3) := by decide +kernel
theorem dX7_kept_22 : decode cX7_kept 22 = .ok (.iload_n 1, 1) := by decide +kernel
theorem dX7_kept_23 : decode cX7_kept 23 = .ok (.goto 4, 3) := by decide +kernel
theorem dX7_kept_26 : decode cX7_kept 26 = .ok (.iconst 0, 1) := by decide +kernel
theorem dX7_kept_27 : decode cX7_kept 27 = .ok (.baload, 1) := by decide +kernel
theorem dX7_kept_28 : decode cX7_kept 28 = .ok (.ifCond .eq 7, 3) := by decide +kernel
theorem dX7_kept_31 : decode cX7_kept 31 = .ok (.iconst 1, 1) := by decide +kernel
theorem dX7_kept_32 : decode cX7_kept 32 = .ok (.goto 4, 3) := by decide +kernel
theorem dX7_kept_35 : decode cX7_kept 35 = .ok (.iconst 0, 1) := by decide +kernel
theorem dX7_kept_36 : decode cX7_kept 36 = .ok (.istore_n 3, 1) := by decide +kernel
theorem dX7_kept_37 : decode cX7_kept 37 = .ok (.aload_n 0, 1) := by decide +kernel
theorem dX7_kept_38 : decode cX7_kept 38 = .ok (.iload_n 3, 1) := by decide +kernel
theorem dX7_kept_39 : decode cX7_kept 39 = .ok (.aload_n 0, 1) := by decide +kernel
theorem dX7_kept_40 : decode cX7_kept 40 = .ok (.iload_n 2, 1) := by decide +kernel
theorem dX7_kept_41 : decode cX7_kept 41 = .ok (.invokevirtual 127, 3) := by decide +kernel
theorem dX7_kept_44 : decode cX7_kept 44 = .ok (.iconst 1, 1) := by decide +kernel
theorem dX7_kept_45 : decode cX7_kept 45 = .ok (.invokevirtual 132, 3) := by decide +kernel
theorem dX7_kept_48 : decode cX7_kept 48 = .ok (.ifCond .ne 5, 3) := by decide +kernel
theorem dX7_kept_51 : decode cX7_kept 51 = .ok (.lconst 0, 1) := by decide +kernel
theorem dX7_kept_52 : decode cX7_kept 52 = .ok (.lreturn, 1) := by decide +kernel
theorem dX7_kept_53 : decode cX7_kept 53 = .ok (.aload_n 0, 1) := by decide +kernel
theorem dX7_kept_54 : decode cX7_kept 54 = .ok (.getfield 71, 3) := by decide +kernel
theorem dX7_kept_57 : decode cX7_kept 57 = .ok (.iload_n 1, 1) := by decide +kernel
theorem dX7_kept_58 : decode cX7_kept 58 = .ok (.sipush 200, 3) := by decide +kernel
theorem dX7_kept_61 : decode cX7_kept 61 = .ok (.imul, 1) := by decide +kernel
theorem dX7_kept_62 : decode cX7_kept 62 = .ok (.iload_n 2, 1) := by decide +kernel
theorem dX7_kept_63 : decode cX7_kept 63 = .ok (.iadd, 1) := by decide +kernel
theorem dX7_kept_64 : decode cX7_kept 64 = .ok (.laload, 1) := by decide +kernel
theorem dX7_kept_65 : decode cX7_kept 65 = .ok (.lstore 4, 2) := by decide +kernel
theorem dX7_kept_67 : decode cX7_kept 67 = .ok (.lload 4, 2) := by decide +kernel
theorem dX7_kept_69 : decode cX7_kept 69 = .ok (.ldc2_w 113, 3) := by decide +kernel
theorem dX7_kept_72 : decode cX7_kept 72 = .ok (.lcmp, 1) := by decide +kernel
theorem dX7_kept_73 : decode cX7_kept 73 = .ok (.ifCond .ge 8, 3) := by decide +kernel
theorem dX7_kept_76 : decode cX7_kept 76 = .ok (.lload 4, 2) := by decide +kernel
theorem dX7_kept_78 : decode cX7_kept 78 = .ok (.goto 6, 3) := by decide +kernel
theorem dX7_kept_81 : decode cX7_kept 81 = .ok (.ldc2_w 146, 3) := by decide +kernel
theorem dX7_kept_84 : decode cX7_kept 84 = .ok (.lreturn, 1) := by decide +kernel
theorem dJx00060_init_a7421_0 : decode cJx00060_init_a7421 0 = .ok (.aload_n 0, 1) := by decide +kernel
theorem dJx00060_init_a7421_1 : decode cJx00060_init_a7421 1 = .ok (.aload_n 1, 1) := by decide +kernel
theorem dJx00060_init_a7421_2 : decode cJx00060_init_a7421 2 = .ok (.invokespecial 7, 3) := by decide +kernel
theorem dJx00060_init_a7421_5 : decode cJx00060_init_a7421 5 = .ok (.return_, 1) := by decide +kernel
theorem dJ9_max_7cf53_0 : decode cJ9_max_7cf53 0 = .ok (.iload_n 0, 1) := by decide +kernel
theorem dJ9_max_7cf53_1 : decode cJ9_max_7cf53 1 = .ok (.iload_n 1, 1) := by decide +kernel
theorem dJ9_max_7cf53_2 : decode cJ9_max_7cf53 2 = .ok (.if_icmp .lt 7, 3) := by decide +kernel
theorem dJ9_max_7cf53_5 : decode cJ9_max_7cf53 5 = .ok (.iload_n 0, 1) := by decide +kernel
theorem dJ9_max_7cf53_6 : decode cJ9_max_7cf53 6 = .ok (.goto 4, 3) := by decide +kernel
theorem dJ9_max_7cf53_9 : decode cJ9_max_7cf53 9 = .ok (.iload_n 1, 1) := by decide +kernel
theorem dJ9_max_7cf53_10 : decode cJ9_max_7cf53 10 = .ok (.ireturn, 1) := by decide +kernel
theorem dJ9_min_7cf53_0 : decode cJ9_min_7cf53 0 = .ok (.iload_n 0, 1) := by decide +kernel
theorem dJ9_min_7cf53_1 : decode cJ9_min_7cf53 1 = .ok (.iload_n 1, 1) := by decide +kernel
theorem dJ9_min_7cf53_2 : decode cJ9_min_7cf53 2 = .ok (.if_icmp .gt 7, 3) := by decide +kernel
theorem dJ9_min_7cf53_5 : decode cJ9_min_7cf53 5 = .ok (.iload_n 0, 1) := by decide +kernel
theorem dJ9_min_7cf53_6 : decode cJ9_min_7cf53 6 = .ok (.goto 4, 3) := by decide +kernel
theorem dJ9_min_7cf53_9 : decode cJ9_min_7cf53 9 = .ok (.iload_n 1, 1) := by decide +kernel
theorem dJ9_min_7cf53_10 : decode cJ9_min_7cf53 10 = .ok (.ireturn, 1) := by decide +kernel
theorem dJ9_min_f86c9_0 : decode cJ9_min_f86c9 0 = .ok (.lload_n 0, 1) := by decide +kernel
theorem dJ9_min_f86c9_1 : decode cJ9_min_f86c9 1 = .ok (.lload_n 2, 1) := by decide +kernel
theorem dJ9_min_f86c9_2 : decode cJ9_min_f86c9 2 = .ok (.lcmp, 1) := by decide +kernel
theorem dJ9_min_f86c9_3 : decode cJ9_min_f86c9 3 = .ok (.ifCond .gt 7, 3) := by decide +kernel
theorem dJ9_min_f86c9_6 : decode cJ9_min_f86c9 6 = .ok (.lload_n 0, 1) := by decide +kernel
theorem dJ9_min_f86c9_7 : decode cJ9_min_f86c9 7 = .ok (.goto 4, 3) := by decide +kernel
theorem dJ9_min_f86c9_10 : decode cJ9_min_f86c9 10 = .ok (.lload_n 2, 1) := by decide +kernel
theorem dJ9_min_f86c9_11 : decode cJ9_min_f86c9 11 = .ok (.lreturn, 1) := by decide +kernel
theorem dJxde1cd_init_a7421_0 : decode cJxde1cd_init_a7421 0 = .ok (.aload_n 0, 1) := by decide +kernel
theorem dJxde1cd_init_a7421_1 : decode cJxde1cd_init_a7421 1 = .ok (.aload_n 1, 1) := by decide +kernel
theorem dJxde1cd_init_a7421_2 : decode cJxde1cd_init_a7421 2 = .ok (.invokespecial 7, 3) := by decide +kernel
theorem dJxde1cd_init_a7421_5 : decode cJxde1cd_init_a7421 5 = .ok (.return_, 1) := by decide +kernel
theorem dJxa1e45_init_da8c8_0 : decode cJxa1e45_init_da8c8 0 = .ok (.aload_n 0, 1) := by decide +kernel
theorem dJxa1e45_init_da8c8_1 : decode cJxa1e45_init_da8c8 1 = .ok (.invokespecial 1, 3) := by decide +kernel
theorem dJxa1e45_init_da8c8_4 : decode cJxa1e45_init_da8c8 4 = .ok (.return_, 1) := by decide +kernel
set_option maxRecDepth 20000 in
theorem ggJxc12de_init_da8c8_Jxa1e45_init_da8c8 : GoodIn wsJxc12de_init_da8c8 wsJxa1e45_init_da8c8 := goodIn_r _ [5, 6, 7, 8] (by decide +kernel) (by decide +kernel)
set_option maxRecDepth 20000 in
theorem gJxc12de_init_da8c8_Jxa1e45_init_da8c8 : GoodIn wsJxc12de_init_da8c8 (wsJxa1e45_init_da8c8) := ggJxc12de_init_da8c8_Jxa1e45_init_da8c8
theorem dJxc12de_init_da8c8_0 : decode cJxc12de_init_da8c8 0 = .ok (.aload_n 0, 1) := by decide +kernel
theorem dJxc12de_init_da8c8_1 : decode cJxc12de_init_da8c8 1 = .ok (.invokespecial 1, 3) := by decide +kernel
theorem dJxc12de_init_da8c8_4 : decode cJxc12de_init_da8c8 4 = .ok (.aload_n 0, 1) := by decide +kernel
theorem dJxc12de_init_da8c8_5 : decode cJxc12de_init_da8c8 5 = .ok (.iconst 0, 1) := by decide +kernel
theorem dJxc12de_init_da8c8_6 : decode cJxc12de_init_da8c8 6 = .ok (.putfield 7, 3) := by decide +kernel
theorem dJxc12de_init_da8c8_9 : decode cJxc12de_init_da8c8 9 = .ok (.return_, 1) := by decide +kernel
set_option maxRecDepth 20000 in
theorem ggJx4a65c_init_da8c8_Jxc12de_init_da8c8 : GoodIn wsJx4a65c_init_da8c8 wsJxc12de_init_da8c8 := goodIn_r _ [6, 7, 8, 9, 10, 11, 12, 13, 14, 15, 16, 17] (by decide +kernel) (by decide +kernel)
set_option maxRecDepth 20000 in
theorem gJx4a65c_init_da8c8_Jxc12de_init_da8c8 : GoodIn wsJx4a65c_init_da8c8 (wsJxc12de_init_da8c8) := ggJx4a65c_init_da8c8_Jxc12de_init_da8c8
theorem dJx4a65c_init_da8c8_0 : decode cJx4a65c_init_da8c8 0 = .ok (.aload_n 0, 1) := by decide +kernel
theorem dJx4a65c_init_da8c8_1 : decode cJx4a65c_init_da8c8 1 = .ok (.invokespecial 1, 3) := by decide +kernel
theorem dJx4a65c_init_da8c8_4 : decode cJx4a65c_init_da8c8 4 = .ok (.aload_n 0, 1) := by decide +kernel
theorem dJx4a65c_init_da8c8_5 : decode cJx4a65c_init_da8c8 5 = .ok (.getstatic 39, 3) := by decide +kernel
theorem dJx4a65c_init_da8c8_8 : decode cJx4a65c_init_da8c8 8 = .ok (.putfield 9, 3) := by decide +kernel
theorem dJx4a65c_init_da8c8_11 : decode cJx4a65c_init_da8c8 11 = .ok (.return_, 1) := by decide +kernel
set_option maxRecDepth 20000 in
theorem ggJx4a65c_grow_92f84_J8_newLength_cabcc : GoodIn wsJx4a65c_grow_92f84 wsJ8_newLength_cabcc := goodIn_r _ [11, 12, 4, 5, 6, 13, 14, 15, 10, 16] (by decide +kernel) (by decide +kernel)
set_option maxRecDepth 20000 in
theorem gJx4a65c_grow_92f84_J8_newLength_cabcc : GoodIn wsJx4a65c_grow_92f84 (va_wsS RJx4a65c 73 yJ8_newLength_cabcc wsJ8_newLength_cabcc) := goodIn_app (goodIn_of _ (by decide +kernel)) ggJx4a65c_grow_92f84_J8_newLength_cabcc
set_option maxRecDepth 20000 in
theorem ggJx4a65c_grow_92f84_J7_copyOf_1904c : GoodIn wsJx4a65c_grow_92f84 wsJ7_copyOf_1904c := goodIn_r _ [20, 21, 22, 23, 24, 25, 26, 19, 27, 28, 29, 30, 31, 5, 32, 33, 34, 35, 36] (by decide +kernel) (by decide +kernel)
set_option maxRecDepth 20000 in
theorem gJx4a65c_grow_92f84_J7_copyOf_1904c : GoodIn wsJx4a65c_grow_92f84 (va_wsS RJx4a65c 66 yJ7_copyOf_1904c wsJ7_copyOf_1904c) := goodIn_app (goodIn_of _ (by decide +kernel)) ggJx4a65c_grow_92f84_J7_copyOf_1904c
theorem dJx4a65c_grow_92f84_0 : decode cJx4a65c_grow_92f84 0 = .ok (.aload_n 0, 1) := by decide +kernel
theorem dJx4a65c_grow_92f84_1 : decode cJx4a65c_grow_92f84 1 = .ok (.getfield 9, 3) := by decide +kernel
theorem dJx4a65c_grow_92f84_4 : decode cJx4a65c_grow_92f84 4 = .ok (.arraylength, 1) := by decide +kernel
theorem dJx4a65c_grow_92f84_5 : decode cJx4a65c_grow_92f84 5 = .ok (.istore_n 2, 1) := by decide +kernel
theorem dJx4a65c_grow_92f84_6 : decode cJx4a65c_grow_92f84 6 = .ok (.iload_n 2, 1) := by decide +kernel
theorem dJx4a65c_grow_92f84_7 : decode cJx4a65c_grow_92f84 7 = .ok (.ifCond .gt 13, 3) := by decide +kernel
theorem dJx4a65c_grow_92f84_10 : decode cJx4a65c_grow_92f84 10 = .ok (.aload_n 0, 1) := by decide +kernel
theorem dJx4a65c_grow_92f84_11 : decode cJx4a65c_grow_92f84 11 = .ok (.getfield 9, 3) := by decide +kernel
theorem dJx4a65c_grow_92f84_14 : decode cJx4a65c_grow_92f84 14 = .ok (.getstatic 39, 3) := by decide +kernel
theorem dJx4a65c_grow_92f84_17 : decode cJx4a65c_grow_92f84 17 = .ok (.if_acmp .eq 28, 3) := by decide +kernel
theorem dJx4a65c_grow_92f84_20 : decode cJx4a65c_grow_92f84 20 = .ok (.iload_n 2, 1) := by decide +kernel
theorem dJx4a65c_grow_92f84_21 : decode cJx4a65c_grow_92f84 21 = .ok (.iload_n 1, 1) := by decide +kernel
theorem dJx4a65c_grow_92f84_22 : decode cJx4a65c_grow_92f84 22 = .ok (.iload_n 2, 1) := by decide +kernel
theorem dJx4a65c_grow_92f84_23 : decode cJx4a65c_grow_92f84 23 = .ok (.isub, 1) := by decide +kernel
theorem dJx4a65c_grow_92f84_24 : decode cJx4a65c_grow_92f84 24 = .ok (.iload_n 2, 1) := by decide +kernel
theorem dJx4a65c_grow_92f84_25 : decode cJx4a65c_grow_92f84 25 = .ok (.iconst 1, 1) := by decide +kernel
theorem dJx4a65c_grow_92f84_26 : decode cJx4a65c_grow_92f84 26 = .ok (.ishr, 1) := by decide +kernel
theorem dJx4a65c_grow_92f84_27 : decode cJx4a65c_grow_92f84 27 = .ok (.invokestatic 73, 3) := by decide +kernel
theorem dJx4a65c_grow_92f84_30 : decode cJx4a65c_grow_92f84 30 = .ok (.istore_n 3, 1) := by decide +kernel
theorem dJx4a65c_grow_92f84_31 : decode cJx4a65c_grow_92f84 31 = .ok (.aload_n 0, 1) := by decide +kernel
theorem dJx4a65c_grow_92f84_32 : decode cJx4a65c_grow_92f84 32 = .ok (.aload_n 0, 1) := by decide +kernel
theorem dJx4a65c_grow_92f84_33 : decode cJx4a65c_grow_92f84 33 = .ok (.getfield 9, 3) := by decide +kernel
theorem dJx4a65c_grow_92f84_36 : decode cJx4a65c_grow_92f84 36 = .ok (.iload_n 3, 1) := by decide +kernel
theorem dJx4a65c_grow_92f84_37 : decode cJx4a65c_grow_92f84 37 = .ok (.invokestatic 66, 3) := by decide +kernel
theorem dJx4a65c_grow_92f84_40 : decode cJx4a65c_grow_92f84 40 = .ok (.dup_x1, 1) := by decide +kernel
theorem dJx4a65c_grow_92f84_41 : decode cJx4a65c_grow_92f84 41 = .ok (.putfield 9, 3) := by decide +kernel
theorem dJx4a65c_grow_92f84_44 : decode cJx4a65c_grow_92f84 44 = .ok (.areturn, 1) := by decide +kernel
theorem dJx4a65c_grow_92f84_45 : decode cJx4a65c_grow_92f84 45 = .ok (.aload_n 0, 1) := by decide +kernel
theorem dJx4a65c_grow_92f84_46 : decode cJx4a65c_grow_92f84 46 = .ok (.bipush 10, 2) := by decide +kernel
theorem dJx4a65c_grow_92f84_48 : decode cJx4a65c_grow_92f84 48 = .ok (.iload_n 1, 1) := by decide +kernel
theorem dJx4a65c_grow_92f84_49 : decode cJx4a65c_grow_92f84 49 = .ok (.invokestatic 79, 3) := by decide +kernel
theorem dJx4a65c_grow_92f84_52 : decode cJx4a65c_grow_92f84 52 = .ok (.anewarray 7, 3) := by decide +kernel
theorem dJx4a65c_grow_92f84_55 : decode cJx4a65c_grow_92f84 55 = .ok (.dup_x1, 1) := by decide +kernel
theorem dJx4a65c_grow_92f84_56 : decode cJx4a65c_grow_92f84 56 = .ok (.putfield 9, 3) := by decide +kernel
theorem dJx4a65c_grow_92f84_59 : decode cJx4a65c_grow_92f84 59 = .ok (.areturn, 1) := by decide +kernel
set_option maxRecDepth 20000 in
theorem ggJx4a65c_grow_d5877_Jx4a65c_grow_92f84 : GoodIn wsJx4a65c_grow_d5877 wsJx4a65c_grow_92f84 := goodIn_r _ [6, 7, 8, 9, 10, 11, 12, 13, 14, 15, 16, 17, 18, 19, 20, 21, 22, 23, 24, 25, 26, 27, 28, 29, 30, 31, 32, 33, 34, 35, 36, 37, 38, 39, 40, 41, 42, 43, 44, 45] (by decide +kernel) (by decide +kernel)
set_option maxRecDepth 20000 in
theorem gJx4a65c_grow_d5877_Jx4a65c_grow_92f84 : GoodIn wsJx4a65c_grow_d5877 (wsV RJx4a65c 69 RJx4a65c yJx4a65c_grow_92f84 wsJx4a65c_grow_92f84) := goodIn_app (goodIn_of _ (by decide +kernel)) ggJx4a65c_grow_d5877_Jx4a65c_grow_92f84
theorem dJx4a65c_grow_d5877_0 : decode cJx4a65c_grow_d5877 0 = .ok (.aload_n 0, 1) := by decide +kernel
theorem dJx4a65c_grow_d5877_1 : decode cJx4a65c_grow_d5877 1 = .ok (.aload_n 0, 1) := by decide +kernel
theorem dJx4a65c_grow_d5877_2 : decode cJx4a65c_grow_d5877 2 = .ok (.getfield 48, 3) := by decide +kernel
theorem dJx4a65c_grow_d5877_5 : decode cJx4a65c_grow_d5877 5 = .ok (.iconst 1, 1) := by decide +kernel
theorem dJx4a65c_grow_d5877_6 : decode cJx4a65c_grow_d5877 6 = .ok (.iadd, 1) := by decide +kernel
theorem dJx4a65c_grow_d5877_7 : decode cJx4a65c_grow_d5877 7 = .ok (.invokevirtual 69, 3) := by decide +kernel
theorem dJx4a65c_grow_d5877_10 : decode cJx4a65c_grow_d5877 10 = .ok (.areturn, 1) := by decide +kernel
theorem dJx4a65c_size_8abf5_0 : decode cJx4a65c_size_8abf5 0 = .ok (.aload_n 0, 1) := by decide +kernel
theorem dJx4a65c_size_8abf5_1 : decode cJx4a65c_size_8abf5 1 = .ok (.getfield 48, 3) := by decide +kernel
theorem dJx4a65c_size_8abf5_4 : decode cJx4a65c_size_8abf5 4 = .ok (.ireturn, 1) := by decide +kernel
theorem dJx4a65c_elementData_915e3_0 : decode cJx4a65c_elementData_915e3 0 = .ok (.aload_n 0, 1) := by decide +kernel
theorem dJx4a65c_elementData_915e3_1 : decode cJx4a65c_elementData_915e3 1 = .ok (.getfield 9, 3) := by decide +kernel
theorem dJx4a65c_elementData_915e3_4 : decode cJx4a65c_elementData_915e3 4 = .ok (.iload_n 1, 1) := by decide +kernel
theorem dJx4a65c_elementData_915e3_5 : decode cJx4a65c_elementData_915e3 5 = .ok (.aaload, 1) := by decide +kernel
theorem dJx4a65c_elementData_915e3_6 : decode cJx4a65c_elementData_915e3 6 = .ok (.areturn, 1) := by decide +kernel
set_option maxRecDepth 20000 in
theorem ggJx4a65c_get_915e3_J15_checkIndex_7cf53 : GoodIn wsJx4a65c_get_915e3 wsJ15_checkIndex_7cf53 := goodIn_r _ [5, 6, 7, 8, 9] (by decide +kernel) (by decide +kernel)
set_option maxRecDepth 20000 in
theorem gJx4a65c_get_915e3_J15_checkIndex_7cf53 : GoodIn wsJx4a65c_get_915e3 (va_wsS RJx4a65c 118 yJ15_checkIndex_7cf53 wsJ15_checkIndex_7cf53) := goodIn_app (goodIn_of _ (by decide +kernel)) ggJx4a65c_get_915e3_J15_checkIndex_7cf53
set_option maxRecDepth 20000 in
theorem ggJx4a65c_get_915e3_Jx4a65c_elementData_915e3 : GoodIn wsJx4a65c_get_915e3 wsJx4a65c_elementData_915e3 := goodIn_r _ [14, 15, 16, 17, 18] (by decide +kernel) (by decide +kernel)
set_option maxRecDepth 20000 in
theorem gJx4a65c_get_915e3_Jx4a65c_elementData_915e3 : GoodIn wsJx4a65c_get_915e3 (wsV RJx4a65c 123 RJx4a65c yJx4a65c_elementData_915e3 wsJx4a65c_elementData_915e3) := goodIn_app (goodIn_of _ (by decide +kernel)) ggJx4a65c_get_915e3_Jx4a65c_elementData_915e3
theorem dJx4a65c_get_915e3_0 : decode cJx4a65c_get_915e3 0 = .ok (.iload_n 1, 1) := by decide +kernel
theorem dJx4a65c_get_915e3_1 : decode cJx4a65c_get_915e3 1 = .ok (.aload_n 0, 1) := by decide +kernel
theorem dJx4a65c_get_915e3_2 : decode cJx4a65c_get_915e3 2 = .ok (.getfield 48, 3) := by decide +kernel
theorem dJx4a65c_get_915e3_5 : decode cJx4a65c_get_915e3 5 = .ok (.invokestatic 118, 3) := by decide +kernel
theorem dJx4a65c_get_915e3_8 : decode cJx4a65c_get_915e3 8 = .ok (.pop, 1) := by decide +kernel
theorem dJx4a65c_get_915e3_9 : decode cJx4a65c_get_915e3 9 = .ok (.aload_n 0, 1) := by decide +kernel
theorem dJx4a65c_get_915e3_10 : decode cJx4a65c_get_915e3 10 = .ok (.iload_n 1, 1) := by decide +kernel
theorem dJx4a65c_get_915e3_11 : decode cJx4a65c_get_915e3 11 = .ok (.invokevirtual 123, 3) := by decide +kernel
theorem dJx4a65c_get_915e3_14 : decode cJx4a65c_get_915e3 14 = .ok (.areturn, 1) := by decide +kernel
set_option maxRecDepth 20000 in
theorem ggJx4a65c_add_72be8_Jx4a65c_grow_d5877 : GoodIn wsJx4a65c_add_72be8 wsJx4a65c_grow_d5877 := goodIn_r _ [6, 1, 7, 8, 9, 5, 10, 11, 12, 13, 14, 15, 16, 17, 18, 19, 20, 21, 22, 23, 24, 25, 26, 27, 28, 29, 30, 31, 32, 33, 34, 35, 36, 37, 38, 39, 40, 41, 42, 43, 44, 45, 46, 47, 48, 49] (by decide +kernel) (by decide +kernel)
set_option maxRecDepth 20000 in
theorem gJx4a65c_add_72be8_Jx4a65c_grow_d5877 : GoodIn wsJx4a65c_add_72be8 (wsV RJx4a65c 129 RJx4a65c yJx4a65c_grow_d5877 wsJx4a65c_grow_d5877) := goodIn_app (goodIn_of _ (by decide +kernel)) ggJx4a65c_add_72be8_Jx4a65c_grow_d5877
theorem dJx4a65c_add_72be8_0 : decode cJx4a65c_add_72be8 0 = .ok (.iload_n 3, 1) := by decide +kernel
theorem dJx4a65c_add_72be8_1 : decode cJx4a65c_add_72be8 1 = .ok (.aload_n 2, 1) := by decide +kernel
theorem dJx4a65c_add_72be8_2 : decode cJx4a65c_add_72be8 2 = .ok (.arraylength, 1) := by decide +kernel
theorem dJx4a65c_add_72be8_3 : decode cJx4a65c_add_72be8 3 = .ok (.if_icmp .ne 8, 3) := by decide +kernel
theorem dJx4a65c_add_72be8_6 : decode cJx4a65c_add_72be8 6 = .ok (.aload_n 0, 1) := by decide +kernel
theorem dJx4a65c_add_72be8_7 : decode cJx4a65c_add_72be8 7 = .ok (.invokevirtual 129, 3) := by decide +kernel
theorem dJx4a65c_add_72be8_10 : decode cJx4a65c_add_72be8 10 = .ok (.astore_n 2, 1) := by decide +kernel
theorem dJx4a65c_add_72be8_11 : decode cJx4a65c_add_72be8 11 = .ok (.aload_n 2, 1) := by decide +kernel
theorem dJx4a65c_add_72be8_12 : decode cJx4a65c_add_72be8 12 = .ok (.iload_n 3, 1) := by decide +kernel
theorem dJx4a65c_add_72be8_13 : decode cJx4a65c_add_72be8 13 = .ok (.aload_n 1, 1) := by decide +kernel
theorem dJx4a65c_add_72be8_14 : decode cJx4a65c_add_72be8 14 = .ok (.aastore, 1) := by decide +kernel
theorem dJx4a65c_add_72be8_15 : decode cJx4a65c_add_72be8 15 = .ok (.aload_n 0, 1) := by decide +kernel
theorem dJx4a65c_add_72be8_16 : decode cJx4a65c_add_72be8 16 = .ok (.iload_n 3, 1) := by decide +kernel
theorem dJx4a65c_add_72be8_17 : decode cJx4a65c_add_72be8 17 = .ok (.iconst 1, 1) := by decide +kernel
theorem dJx4a65c_add_72be8_18 : decode cJx4a65c_add_72be8 18 = .ok (.iadd, 1) := by decide +kernel
theorem dJx4a65c_add_72be8_19 : decode cJx4a65c_add_72be8 19 = .ok (.putfield 48, 3) := by decide +kernel
theorem dJx4a65c_add_72be8_22 : decode cJx4a65c_add_72be8 22 = .ok (.return_, 1) := by decide +kernel
set_option maxRecDepth 20000 in
theorem ggJx4a65c_add_9ea2d_Jx4a65c_add_72be8 : GoodIn wsJx4a65c_add_9ea2d wsJx4a65c_add_72be8 := goodIn_r _ [9, 4, 10, 11, 12, 8, 13, 14, 15, 16, 17, 3, 18, 19, 20, 21, 22, 23, 24, 25, 26, 27, 28, 29, 30, 31, 32, 33, 34, 35, 36, 37, 38, 39, 40, 41, 42, 43, 44, 45, 46, 47, 48, 49, 50, 51, 52, 53, 54, 55] (by decide +kernel) (by decide +kernel)
set_option maxRecDepth 20000 in
theorem gJx4a65c_add_9ea2d_Jx4a65c_add_72be8 : GoodIn wsJx4a65c_add_9ea2d (wsV RJx4a65c 131 RJx4a65c yJx4a65c_add_72be8 wsJx4a65c_add_72be8) := goodIn_app (goodIn_of _ (by decide +kernel)) ggJx4a65c_add_9ea2d_Jx4a65c_add_72be8
theorem dJx4a65c_add_9ea2d_0 : decode cJx4a65c_add_9ea2d 0 = .ok (.aload_n 0, 1) := by decide +kernel
theorem dJx4a65c_add_9ea2d_1 : decode cJx4a65c_add_9ea2d 1 = .ok (.dup, 1) := by decide +kernel
theorem dJx4a65c_add_9ea2d_2 : decode cJx4a65c_add_9ea2d 2 = .ok (.getfield 63, 3) := by decide +kernel
theorem dJx4a65c_add_9ea2d_5 : decode cJx4a65c_add_9ea2d 5 = .ok (.iconst 1, 1) := by decide +kernel
theorem dJx4a65c_add_9ea2d_6 : decode cJx4a65c_add_9ea2d 6 = .ok (.iadd, 1) := by decide +kernel
theorem dJx4a65c_add_9ea2d_7 : decode cJx4a65c_add_9ea2d 7 = .ok (.putfield 63, 3) := by decide +kernel
theorem dJx4a65c_add_9ea2d_10 : decode cJx4a65c_add_9ea2d 10 = .ok (.aload_n 0, 1) := by decide +kernel
theorem dJx4a65c_add_9ea2d_11 : decode cJx4a65c_add_9ea2d 11 = .ok (.aload_n 1, 1) := by decide +kernel
theorem dJx4a65c_add_9ea2d_12 : decode cJx4a65c_add_9ea2d 12 = .ok (.aload_n 0, 1) := by decide +kernel
theorem dJx4a65c_add_9ea2d_13 : decode cJx4a65c_add_9ea2d 13 = .ok (.getfield 9, 3) := by decide +kernel
theorem dJx4a65c_add_9ea2d_16 : decode cJx4a65c_add_9ea2d 16 = .ok (.aload_n 0, 1) := by decide +kernel
theorem dJx4a65c_add_9ea2d_17 : decode cJx4a65c_add_9ea2d 17 = .ok (.getfield 48, 3) := by decide +kernel
theorem dJx4a65c_add_9ea2d_20 : decode cJx4a65c_add_9ea2d 20 = .ok (.invokevirtual 131, 3) := by decide +kernel
theorem dJx4a65c_add_9ea2d_23 : decode cJx4a65c_add_9ea2d 23 = .ok (.iconst 1, 1) := by decide +kernel
theorem dJx4a65c_add_9ea2d_24 : decode cJx4a65c_add_9ea2d 24 = .ok (.ireturn, 1) := by decide +kernel
theorem dJx4a65c_clear_da8c8_0 : decode cJx4a65c_clear_da8c8 0 = .ok (.aload_n 0, 1) := by decide +kernel
theorem dJx4a65c_clear_da8c8_1 : decode cJx4a65c_clear_da8c8 1 = .ok (.dup, 1) := by decide +kernel
theorem dJx4a65c_clear_da8c8_2 : decode cJx4a65c_clear_da8c8 2 = .ok (.getfield 63, 3) := by decide +kernel
theorem dJx4a65c_clear_da8c8_5 : decode cJx4a65c_clear_da8c8 5 = .ok (.iconst 1, 1) := by decide +kernel
theorem dJx4a65c_clear_da8c8_6 : decode cJx4a65c_clear_da8c8 6 = .ok (.iadd, 1) := by decide +kernel
theorem dJx4a65c_clear_da8c8_7 : decode cJx4a65c_clear_da8c8 7 = .ok (.putfield 63, 3) := by decide +kernel
theorem dJx4a65c_clear_da8c8_10 : decode cJx4a65c_clear_da8c8 10 = .ok (.aload_n 0, 1) := by decide +kernel
theorem dJx4a65c_clear_da8c8_11 : decode cJx4a65c_clear_da8c8 11 = .ok (.getfield 9, 3) := by decide +kernel
theorem dJx4a65c_clear_da8c8_14 : decode cJx4a65c_clear_da8c8 14 = .ok (.astore_n 1, 1) := by decide +kernel
theorem dJx4a65c_clear_da8c8_15 : decode cJx4a65c_clear_da8c8 15 = .ok (.aload_n 0, 1) := by decide +kernel
theorem dJx4a65c_clear_da8c8_16 : decode cJx4a65c_clear_da8c8 16 = .ok (.getfield 48, 3) := by decide +kernel
theorem dJx4a65c_clear_da8c8_19 : decode cJx4a65c_clear_da8c8 19 = .ok (.istore_n 2, 1) := by decide +kernel
theorem dJx4a65c_clear_da8c8_20 : decode cJx4a65c_clear_da8c8 20 = .ok (.aload_n 0, 1) := by decide +kernel
theorem dJx4a65c_clear_da8c8_21 : decode cJx4a65c_clear_da8c8 21 = .ok (.iconst 0, 1) := by decide +kernel
theorem dJx4a65c_clear_da8c8_22 : decode cJx4a65c_clear_da8c8 22 = .ok (.dup_x1, 1) := by decide +kernel
theorem dJx4a65c_clear_da8c8_23 : decode cJx4a65c_clear_da8c8 23 = .ok (.putfield 48, 3) := by decide +kernel
theorem dJx4a65c_clear_da8c8_26 : decode cJx4a65c_clear_da8c8 26 = .ok (.istore_n 3, 1) := by decide +kernel
theorem dJx4a65c_clear_da8c8_27 : decode cJx4a65c_clear_da8c8 27 = .ok (.iload_n 3, 1) := by decide +kernel
theorem dJx4a65c_clear_da8c8_28 : decode cJx4a65c_clear_da8c8 28 = .ok (.iload_n 2, 1) := by decide +kernel
theorem dJx4a65c_clear_da8c8_29 : decode cJx4a65c_clear_da8c8 29 = .ok (.if_icmp .ge 13, 3) := by decide +kernel
theorem dJx4a65c_clear_da8c8_32 : decode cJx4a65c_clear_da8c8 32 = .ok (.aload_n 1, 1) := by decide +kernel
theorem dJx4a65c_clear_da8c8_33 : decode cJx4a65c_clear_da8c8 33 = .ok (.iload_n 3, 1) := by decide +kernel
theorem dJx4a65c_clear_da8c8_34 : decode cJx4a65c_clear_da8c8 34 = .ok (.aconst_null, 1) := by decide +kernel
theorem dJx4a65c_clear_da8c8_35 : decode cJx4a65c_clear_da8c8 35 = .ok (.aastore, 1) := by decide +kernel
theorem dJx4a65c_clear_da8c8_36 : decode cJx4a65c_clear_da8c8 36 = .ok (.iinc 3 1, 3) := by decide +kernel
theorem dJx4a65c_clear_da8c8_39 : decode cJx4a65c_clear_da8c8 39 = .ok (.goto (-12), 3) := by decide +kernel
theorem dJx4a65c_clear_da8c8_42 : decode cJx4a65c_clear_da8c8 42 = .ok (.return_, 1) := by decide +kernel
theorem dJ7_fill_53178_0 : decode cJ7_fill_53178 0 = .ok (.iconst 0, 1) := by decide +kernel
theorem dJ7_fill_53178_1 : decode cJ7_fill_53178 1 = .ok (.istore_n 2, 1) := by decide +kernel
theorem dJ7_fill_53178_2 : decode cJ7_fill_53178 2 = .ok (.aload_n 0, 1) := by decide +kernel
theorem dJ7_fill_53178_3 : decode cJ7_fill_53178 3 = .ok (.arraylength, 1) := by decide +kernel
theorem dJ7_fill_53178_4 : decode cJ7_fill_53178 4 = .ok (.istore_n 3, 1) := by decide +kernel
theorem dJ7_fill_53178_5 : decode cJ7_fill_53178 5 = .ok (.iload_n 2, 1) := by decide +kernel
theorem dJ7_fill_53178_6 : decode cJ7_fill_53178 6 = .ok (.iload_n 3, 1) := by decide +kernel
theorem dJ7_fill_53178_7 : decode cJ7_fill_53178 7 = .ok (.if_icmp .ge 13, 3) := by decide +kernel
theorem dJ7_fill_53178_10 : decode cJ7_fill_53178 10 = .ok (.aload_n 0, 1) := by decide +kernel
theorem dJ7_fill_53178_11 : decode cJ7_fill_53178 11 = .ok (.iload_n 2, 1) := by decide +kernel
theorem dJ7_fill_53178_12 : decode cJ7_fill_53178 12 = .ok (.iload_n 1, 1) := by decide +kernel
theorem dJ7_fill_53178_13 : decode cJ7_fill_53178 13 = .ok (.iastore, 1) := by decide +kernel
theorem dJ7_fill_53178_14 : decode cJ7_fill_53178 14 = .ok (.iinc 2 1, 3) := by decide +kernel
theorem dJ7_fill_53178_17 : decode cJ7_fill_53178 17 = .ok (.goto (-12), 3) := by decide +kernel
theorem dJ7_fill_53178_20 : decode cJ7_fill_53178 20 = .ok (.return_, 1) := by decide +kernel
set_option maxRecDepth 20000 in
theorem ggJ7_copyOf_1904c_J7_copyOf_6403c : GoodIn wsJ7_copyOf_1904c wsJ7_copyOf_6403c := goodIn_r _ [8, 9, 10, 11, 12, 13, 14, 15, 16, 17, 18] (by decide +kernel) (by decide +kernel)
set_option maxRecDepth 20000 in
theorem gJ7_copyOf_1904c_J7_copyOf_6403c : GoodIn wsJ7_copyOf_1904c (va_wsS RJ7 300 yJ7_copyOf_6403c wsJ7_copyOf_6403c) := goodIn_app (goodIn_of _ (by decide +kernel)) ggJ7_copyOf_1904c_J7_copyOf_6403c
theorem dJ7_copyOf_1904c_0 : decode cJ7_copyOf_1904c 0 = .ok (.aload_n 0, 1) := by decide +kernel
theorem dJ7_copyOf_1904c_1 : decode cJ7_copyOf_1904c 1 = .ok (.iload_n 1, 1) := by decide +kernel
theorem dJ7_copyOf_1904c_2 : decode cJ7_copyOf_1904c 2 = .ok (.aload_n 0, 1) := by decide +kernel
theorem dJ7_copyOf_1904c_3 : decode cJ7_copyOf_1904c 3 = .ok (.invokevirtual 86, 3) := by decide +kernel
theorem dJ7_copyOf_1904c_6 : decode cJ7_copyOf_1904c 6 = .ok (.invokestatic 300, 3) := by decide +kernel
theorem dJ7_copyOf_1904c_9 : decode cJ7_copyOf_1904c 9 = .ok (.areturn, 1) := by decide +kernel
theorem dJ7_copyOf_6403c_0 : decode cJ7_copyOf_6403c 0 = .ok (.aload_n 2, 1) := by decide +kernel
theorem dJ7_copyOf_6403c_1 : decode cJ7_copyOf_6403c 1 = .ok (.ldc 110, 2) := by decide +kernel
theorem dJ7_copyOf_6403c_3 : decode cJ7_copyOf_6403c 3 = .ok (.if_acmp .ne 10, 3) := by decide +kernel
theorem dJ7_copyOf_6403c_6 : decode cJ7_copyOf_6403c 6 = .ok (.iload_n 1, 1) := by decide +kernel
theorem dJ7_copyOf_6403c_7 : decode cJ7_copyOf_6403c 7 = .ok (.anewarray 2, 3) := by decide +kernel
theorem dJ7_copyOf_6403c_10 : decode cJ7_copyOf_6403c 10 = .ok (.goto 14, 3) := by decide +kernel
theorem dJ7_copyOf_6403c_13 : decode cJ7_copyOf_6403c 13 = .ok (.aload_n 2, 1) := by decide +kernel
theorem dJ7_copyOf_6403c_14 : decode cJ7_copyOf_6403c 14 = .ok (.invokevirtual 90, 3) := by decide +kernel
theorem dJ7_copyOf_6403c_17 : decode cJ7_copyOf_6403c 17 = .ok (.iload_n 1, 1) := by decide +kernel
theorem dJ7_copyOf_6403c_18 : decode cJ7_copyOf_6403c 18 = .ok (.invokestatic 95, 3) := by decide +kernel
theorem dJ7_copyOf_6403c_21 : decode cJ7_copyOf_6403c 21 = .ok (.checkcast 110, 3) := by decide +kernel
theorem dJ7_copyOf_6403c_24 : decode cJ7_copyOf_6403c 24 = .ok (.astore_n 3, 1) := by decide +kernel
theorem dJ7_copyOf_6403c_25 : decode cJ7_copyOf_6403c 25 = .ok (.aload_n 0, 1) := by decide +kernel
theorem dJ7_copyOf_6403c_26 : decode cJ7_copyOf_6403c 26 = .ok (.iconst 0, 1) := by decide +kernel
theorem dJ7_copyOf_6403c_27 : decode cJ7_copyOf_6403c 27 = .ok (.aload_n 3, 1) := by decide +kernel
theorem dJ7_copyOf_6403c_28 : decode cJ7_copyOf_6403c 28 = .ok (.iconst 0, 1) := by decide +kernel
theorem dJ7_copyOf_6403c_29 : decode cJ7_copyOf_6403c 29 = .ok (.aload_n 0, 1) := by decide +kernel
theorem dJ7_copyOf_6403c_30 : decode cJ7_copyOf_6403c 30 = .ok (.arraylength, 1) := by decide +kernel
theorem dJ7_copyOf_6403c_31 : decode cJ7_copyOf_6403c 31 = .ok (.iload_n 1, 1) := by decide +kernel
theorem dJ7_copyOf_6403c_32 : decode cJ7_copyOf_6403c 32 = .ok (.invokestatic 304, 3) := by decide +kernel
theorem dJ7_copyOf_6403c_35 : decode cJ7_copyOf_6403c 35 = .ok (.invokestatic 150, 3) := by decide +kernel
theorem dJ7_copyOf_6403c_38 : decode cJ7_copyOf_6403c 38 = .ok (.aload_n 3, 1) := by decide +kernel
theorem dJ7_copyOf_6403c_39 : decode cJ7_copyOf_6403c 39 = .ok (.areturn, 1) := by decide +kernel
set_option maxRecDepth 20000 in
theorem ggJ15_checkIndex_7cf53_J3_checkIndex_8e157 : GoodIn wsJ15_checkIndex_7cf53 wsJ3_checkIndex_8e157 := goodIn_r _ [4] (by decide +kernel) (by decide +kernel)
set_option maxRecDepth 20000 in
theorem gJ15_checkIndex_7cf53_J3_checkIndex_8e157 : GoodIn wsJ15_checkIndex_7cf53 (va_wsS RJ15 105 yJ3_checkIndex_8e157 wsJ3_checkIndex_8e157) := goodIn_app (goodIn_of _ (by decide +kernel)) ggJ15_checkIndex_7cf53_J3_checkIndex_8e157
theorem dJ15_checkIndex_7cf53_0 : decode cJ15_checkIndex_7cf53 0 = .ok (.iload_n 0, 1) := by decide +kernel
theorem dJ15_checkIndex_7cf53_1 : decode cJ15_checkIndex_7cf53 1 = .ok (.iload_n 1, 1) := by decide +kernel
theorem dJ15_checkIndex_7cf53_2 : decode cJ15_checkIndex_7cf53 2 = .ok (.aconst_null, 1) := by decide +kernel
theorem dJ15_checkIndex_7cf53_3 : decode cJ15_checkIndex_7cf53 3 = .ok (.invokestatic 105, 3) := by decide +kernel
theorem dJ15_checkIndex_7cf53_6 : decode cJ15_checkIndex_7cf53 6 = .ok (.ireturn, 1) := by decide +kernel
set_option maxRecDepth 20000 in
theorem ggJ8_newLength_cabcc_J8_hugeLength_7cf53 : GoodIn wsJ8_newLength_cabcc wsJ8_hugeLength_7cf53 := goodIn_r _ [9, 5] (by decide +kernel) (by decide +kernel)
set_option maxRecDepth 20000 in
theorem gJ8_newLength_cabcc_J8_hugeLength_7cf53 : GoodIn wsJ8_newLength_cabcc (va_wsS RJ8 201 yJ8_hugeLength_7cf53 wsJ8_hugeLength_7cf53) := goodIn_app (goodIn_of _ (by decide +kernel)) ggJ8_newLength_cabcc_J8_hugeLength_7cf53
theorem dJ8_newLength_cabcc_0 : decode cJ8_newLength_cabcc 0 = .ok (.iload_n 0, 1) := by decide +kernel
theorem dJ8_newLength_cabcc_1 : decode cJ8_newLength_cabcc 1 = .ok (.iload_n 1, 1) := by decide +kernel
theorem dJ8_newLength_cabcc_2 : decode cJ8_newLength_cabcc 2 = .ok (.iload_n 2, 1) := by decide +kernel
theorem dJ8_newLength_cabcc_3 : decode cJ8_newLength_cabcc 3 = .ok (.invokestatic 194, 3) := by decide +kernel
theorem dJ8_newLength_cabcc_6 : decode cJ8_newLength_cabcc 6 = .ok (.iadd, 1) := by decide +kernel
theorem dJ8_newLength_cabcc_7 : decode cJ8_newLength_cabcc 7 = .ok (.istore_n 3, 1) := by decide +kernel
theorem dJ8_newLength_cabcc_8 : decode cJ8_newLength_cabcc 8 = .ok (.iconst 0, 1) := by decide +kernel
theorem dJ8_newLength_cabcc_9 : decode cJ8_newLength_cabcc 9 = .ok (.iload_n 3, 1) := by decide +kernel
theorem dJ8_newLength_cabcc_10 : decode cJ8_newLength_cabcc 10 = .ok (.if_icmp .ge 11, 3) := by decide +kernel
theorem dJ8_newLength_cabcc_13 : decode cJ8_newLength_cabcc 13 = .ok (.iload_n 3, 1) := by decide +kernel
theorem dJ8_newLength_cabcc_14 : decode cJ8_newLength_cabcc 14 = .ok (.ldc 200, 2) := by decide +kernel
theorem dJ8_newLength_cabcc_16 : decode cJ8_newLength_cabcc 16 = .ok (.if_icmp .gt 5, 3) := by decide +kernel
theorem dJ8_newLength_cabcc_19 : decode cJ8_newLength_cabcc 19 = .ok (.iload_n 3, 1) := by decide +kernel
theorem dJ8_newLength_cabcc_20 : decode cJ8_newLength_cabcc 20 = .ok (.ireturn, 1) := by decide +kernel
theorem dJ8_newLength_cabcc_21 : decode cJ8_newLength_cabcc 21 = .ok (.iload_n 0, 1) := by decide +kernel
theorem dJ8_newLength_cabcc_22 : decode cJ8_newLength_cabcc 22 = .ok (.iload_n 1, 1) := by decide +kernel
theorem dJ8_newLength_cabcc_23 : decode cJ8_newLength_cabcc 23 = .ok (.invokestatic 201, 3) := by decide +kernel
theorem dJ8_newLength_cabcc_26 : decode cJ8_newLength_cabcc 26 = .ok (.ireturn, 1) := by decide +kernel
theorem dJ8_hugeLength_7cf53_0 : decode cJ8_hugeLength_7cf53 0 = .ok (.iload_n 0, 1) := by decide +kernel
theorem dJ8_hugeLength_7cf53_1 : decode cJ8_hugeLength_7cf53 1 = .ok (.iload_n 1, 1) := by decide +kernel
theorem dJ8_hugeLength_7cf53_2 : decode cJ8_hugeLength_7cf53 2 = .ok (.iadd, 1) := by decide +kernel
theorem dJ8_hugeLength_7cf53_3 : decode cJ8_hugeLength_7cf53 3 = .ok (.istore_n 2, 1) := by decide +kernel
theorem dJ8_hugeLength_7cf53_4 : decode cJ8_hugeLength_7cf53 4 = .ok (.iload_n 2, 1) := by decide +kernel
theorem dJ8_hugeLength_7cf53_5 : decode cJ8_hugeLength_7cf53 5 = .ok (.ifCond .ge 44, 3) := by decide +kernel
theorem dJ8_hugeLength_7cf53_8 : decode cJ8_hugeLength_7cf53 8 = .ok (.new 204, 3) := by decide +kernel
theorem dJ8_hugeLength_7cf53_11 : decode cJ8_hugeLength_7cf53 11 = .ok (.dup, 1) := by decide +kernel
theorem dJ8_hugeLength_7cf53_12 : decode cJ8_hugeLength_7cf53 12 = .ok (.new 89, 3) := by decide +kernel
theorem dJ8_hugeLength_7cf53_15 : decode cJ8_hugeLength_7cf53 15 = .ok (.dup, 1) := by decide +kernel
theorem dJ8_hugeLength_7cf53_16 : decode cJ8_hugeLength_7cf53 16 = .ok (.invokespecial 91, 3) := by decide +kernel
theorem dJ8_hugeLength_7cf53_19 : decode cJ8_hugeLength_7cf53 19 = .ok (.ldc 206, 2) := by decide +kernel
theorem dJ8_hugeLength_7cf53_21 : decode cJ8_hugeLength_7cf53 21 = .ok (.invokevirtual 94, 3) := by decide +kernel
theorem dJ8_hugeLength_7cf53_24 : decode cJ8_hugeLength_7cf53 24 = .ok (.iload_n 0, 1) := by decide +kernel
theorem dJ8_hugeLength_7cf53_25 : decode cJ8_hugeLength_7cf53 25 = .ok (.invokevirtual 98, 3) := by decide +kernel
theorem dJ8_hugeLength_7cf53_28 : decode cJ8_hugeLength_7cf53 28 = .ok (.ldc 208, 2) := by decide +kernel
theorem dJ8_hugeLength_7cf53_30 : decode cJ8_hugeLength_7cf53 30 = .ok (.invokevirtual 94, 3) := by decide +kernel
theorem dJ8_hugeLength_7cf53_33 : decode cJ8_hugeLength_7cf53 33 = .ok (.iload_n 1, 1) := by decide +kernel
theorem dJ8_hugeLength_7cf53_34 : decode cJ8_hugeLength_7cf53 34 = .ok (.invokevirtual 98, 3) := by decide +kernel
theorem dJ8_hugeLength_7cf53_37 : decode cJ8_hugeLength_7cf53 37 = .ok (.ldc 210, 2) := by decide +kernel
theorem dJ8_hugeLength_7cf53_39 : decode cJ8_hugeLength_7cf53 39 = .ok (.invokevirtual 94, 3) := by decide +kernel
theorem dJ8_hugeLength_7cf53_42 : decode cJ8_hugeLength_7cf53 42 = .ok (.invokevirtual 101, 3) := by decide +kernel
theorem dJ8_hugeLength_7cf53_45 : decode cJ8_hugeLength_7cf53 45 = .ok (.invokespecial 212, 3) := by decide +kernel
theorem dJ8_hugeLength_7cf53_48 : decode cJ8_hugeLength_7cf53 48 = .ok (.athrow, 1) := by decide +kernel
theorem dJ8_hugeLength_7cf53_49 : decode cJ8_hugeLength_7cf53 49 = .ok (.iload_n 2, 1) := by decide +kernel
theorem dJ8_hugeLength_7cf53_50 : decode cJ8_hugeLength_7cf53 50 = .ok (.ldc 200, 2) := by decide +kernel
theorem dJ8_hugeLength_7cf53_52 : decode cJ8_hugeLength_7cf53 52 = .ok (.if_icmp .gt 6, 3) := by decide +kernel
theorem dJ8_hugeLength_7cf53_55 : decode cJ8_hugeLength_7cf53 55 = .ok (.ldc 200, 2) := by decide +kernel
theorem dJ8_hugeLength_7cf53_57 : decode cJ8_hugeLength_7cf53 57 = .ok (.ireturn, 1) := by decide +kernel
theorem dJ8_hugeLength_7cf53_58 : decode cJ8_hugeLength_7cf53 58 = .ok (.iload_n 2, 1) := by decide +kernel
theorem dJ8_hugeLength_7cf53_59 : decode cJ8_hugeLength_7cf53 59 = .ok (.ireturn, 1) := by decide +kernel
theorem dJ3_checkIndex_8e157_0 : decode cJ3_checkIndex_8e157 0 = .ok (.iload_n 0, 1) := by decide +kernel
theorem dJ3_checkIndex_8e157_1 : decode cJ3_checkIndex_8e157 1 = .ok (.ifCond .lt 8, 3) := by decide +kernel
theorem dJ3_checkIndex_8e157_4 : decode cJ3_checkIndex_8e157 4 = .ok (.iload_n 0, 1) := by decide +kernel
theorem dJ3_checkIndex_8e157_5 : decode cJ3_checkIndex_8e157 5 = .ok (.iload_n 1, 1) := by decide +kernel
theorem dJ3_checkIndex_8e157_6 : decode cJ3_checkIndex_8e157 6 = .ok (.if_icmp .lt 10, 3) := by decide +kernel
theorem dJ3_checkIndex_8e157_9 : decode cJ3_checkIndex_8e157 9 = .ok (.aload_n 2, 1) := by decide +kernel
theorem dJ3_checkIndex_8e157_10 : decode cJ3_checkIndex_8e157 10 = .ok (.iload_n 0, 1) := by decide +kernel
theorem dJ3_checkIndex_8e157_11 : decode cJ3_checkIndex_8e157 11 = .ok (.iload_n 1, 1) := by decide +kernel
theorem dJ3_checkIndex_8e157_12 : decode cJ3_checkIndex_8e157 12 = .ok (.invokestatic 95, 3) := by decide +kernel
theorem dJ3_checkIndex_8e157_15 : decode cJ3_checkIndex_8e157 15 = .ok (.athrow, 1) := by decide +kernel
theorem dJ3_checkIndex_8e157_16 : decode cJ3_checkIndex_8e157 16 = .ok (.iload_n 0, 1) := by decide +kernel
theorem dJ3_checkIndex_8e157_17 : decode cJ3_checkIndex_8e157 17 = .ok (.ireturn, 1) := by decide +kernel
