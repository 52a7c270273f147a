theorem dL_combines_221 : decode cL_combines 221 = .ok (.if_icmp .ge 26, 3) := by decide +kernel
theorem dL_combines_224 : decode cL_combines 224 = .ok (.iload 12, 2) := by decide +kernel
theorem dL_combines_226 : decode cL_combines 226 = .ok (.aload_n 0, 1) := by decide +kernel
theorem dL_combines_227 : decode cL_combines 227 = .ok (.iload 15, 2) := by decide +kernel
theorem dL_combines_229 : decode cL_combines 229 = .ok (.iconst 3, 1) := by decide +kernel
theorem dL_combines_230 : decode cL_combines 230 = .ok (.idiv, 1) := by decide +kernel
theorem dL_combines_231 : decode cL_combines 231 = .ok (.iload 15, 2) := by decide +kernel
theorem dL_combines_233 : decode cL_combines 233 = .ok (.iconst 3, 1) := by decide +kernel
theorem dL_combines_234 : decode cL_combines 234 = .ok (.irem, 1) := by decide +kernel
theorem dL_combines_235 : decode cL_combines 235 = .ok (.invokevirtual 80, 3) := by decide +kernel
theorem dL_combines_238 : decode cL_combines 238 = .ok (.isub, 1) := by decide +kernel
theorem dL_combines_239 : decode cL_combines 239 = .ok (.istore 12, 2) := by decide +kernel
theorem dL_combines_241 : decode cL_combines 241 = .ok (.iinc 15 1, 3) := by decide +kernel
theorem dL_combines_244 : decode cL_combines 244 = .ok (.goto (-27), 3) := by decide +kernel
theorem dL_combines_247 : decode cL_combines 247 = .ok (.iload 12, 2) := by decide +kernel
theorem dL_combines_249 : decode cL_combines 249 = .ok (.iload 13, 2) := by decide +kernel
theorem dL_combines_251 : decode cL_combines 251 = .ok (.ineg, 1) := by decide +kernel
theorem dL_combines_252 : decode cL_combines 252 = .ok (.if_icmp .ne 21, 3) := by decide +kernel
theorem dL_combines_255 : decode cL_combines 255 = .ok (.iload 9, 2) := by decide +kernel
theorem dL_combines_257 : decode cL_combines 257 = .ok (.iconst 2, 1) := by decide +kernel
theorem dL_combines_258 : decode cL_combines 258 = .ok (.if_icmp .ne 17, 3) := by decide +kernel
theorem dL_combines_261 : decode cL_combines 261 = .ok (.aload_n 0, 1) := by decide +kernel
theorem dL_combines_262 : decode cL_combines 262 = .ok (.iload 10, 2) := by decide +kernel
theorem dL_combines_264 : decode cL_combines 264 = .ok (.iconst 0, 1) := by decide +kernel
theorem dL_combines_265 : decode cL_combines 265 = .ok (.invokevirtual 46, 3) := by decide +kernel
theorem dL_combines_268 : decode cL_combines 268 = .ok (.iload 14, 2) := by decide +kernel
theorem dL_combines_270 : decode cL_combines 270 = .ok (.if_icmp .eq 5, 3) := by decide +kernel
theorem dL_combines_273 : decode cL_combines 273 = .ok (.iconst 0, 1) := by decide +kernel
theorem dL_combines_274 : decode cL_combines 274 = .ok (.ireturn, 1) := by decide +kernel
theorem dL_combines_275 : decode cL_combines 275 = .ok (.iload_n 1, 1) := by decide +kernel
theorem dL_combines_276 : decode cL_combines 276 = .ok (.iconst 5, 1) := by decide +kernel
theorem dL_combines_277 : decode cL_combines 277 = .ok (.ishr, 1) := by decide +kernel
theorem dL_combines_278 : decode cL_combines 278 = .ok (.iconst 3, 1) := by decide +kernel
theorem dL_combines_279 : decode cL_combines 279 = .ok (.iand, 1) := by decide +kernel
theorem dL_combines_280 : decode cL_combines 280 = .ok (.ifCond .ne 20, 3) := by decide +kernel
theorem dL_combines_283 : decode cL_combines 283 = .ok (.aload_n 0, 1) := by decide +kernel
theorem dL_combines_284 : decode cL_combines 284 = .ok (.invokevirtual 95, 3) := by decide +kernel
theorem dL_combines_287 : decode cL_combines 287 = .ok (.ifCond .lt 17, 3) := by decide +kernel
theorem dL_combines_290 : decode cL_combines 290 = .ok (.aload_n 0, 1) := by decide +kernel
theorem dL_combines_291 : decode cL_combines 291 = .ok (.invokevirtual 9, 3) := by decide +kernel
theorem dL_combines_294 : decode cL_combines 294 = .ok (.lload 4, 2) := by decide +kernel
theorem dL_combines_296 : decode cL_combines 296 = .ok (.lcmp, 1) := by decide +kernel
theorem dL_combines_297 : decode cL_combines 297 = .ok (.ifCond .ne 7, 3) := by decide +kernel
theorem dL_combines_300 : decode cL_combines 300 = .ok (.iconst 1, 1) := by decide +kernel
theorem dL_combines_301 : decode cL_combines 301 = .ok (.goto 4, 3) := by decide +kernel
theorem dL_combines_304 : decode cL_combines 304 = .ok (.iconst 0, 1) := by decide +kernel
theorem dL_combines_305 : decode cL_combines 305 = .ok (.ireturn, 1) := by decide +kernel
set_option maxRecDepth 20000 in
theorem ggL_law_X3_init : GoodIn wsL_law wsX3_init := goodIn_r _ [5, 6, 7, 8, 9, 10, 11, 12, 13, 14, 15, 16, 17, 18, 19, 20, 21, 22, 23, 24, 25, 26, 27, 28, 29, 30, 31, 32, 33, 34, 35, 36, 37, 38, 39, 40, 352, 353, 354, 347, 348, 349, 350, 351, 355, 356, 357] (by decide +kernel) (by decide +kernel)
set_option maxRecDepth 20000 in
theorem gL_law_X3_init : GoodIn wsL_law (wsX3_init) := ggL_law_X3_init
set_option maxRecDepth 20000 in
theorem ggL_law_X3_undo : GoodIn wsL_law wsX3_undo := goodIn_r _ [44, 14, 12, 13, 347, 348, 349, 350, 351] (by decide +kernel) (by decide +kernel)
set_option maxRecDepth 20000 in
theorem gL_law_X3_undo : GoodIn wsL_law (wsV RL 95 RX3 yX3_undo wsX3_undo) := goodIn_app (goodIn_of _ (by decide +kernel)) ggL_law_X3_undo
set_option maxRecDepth 20000 in
theorem ggL_law_X3_size : GoodIn wsL_law wsX3_size := goodIn_r _ [48, 12, 49, 50, 2, 51, 52, 21, 53, 54, 55, 56, 57, 58, 59, 60, 61, 62, 35, 63, 64, 65, 66, 67, 68, 69, 347, 348, 349, 350, 351, 352, 353, 354, 357] (by decide +kernel) (by decide +kernel)
set_option maxRecDepth 20000 in
theorem gL_law_X3_size : GoodIn wsL_law (wsV RL 36 RX3 yX3_size wsX3_size) := goodIn_app (goodIn_of _ (by decide +kernel)) ggL_law_X3_size
set_option maxRecDepth 20000 in
theorem ggL_law_X3_bytes : GoodIn wsL_law wsX3_bytes := goodIn_r _ [73, 12, 49, 50, 2, 51, 74, 21, 75, 76, 77, 78, 79, 80, 55, 56, 57, 58, 59, 60, 61, 62, 35, 63, 64, 65, 66, 67, 68, 69, 81, 82, 83, 84, 85, 347, 348, 349, 350, 351, 352, 353, 354, 357] (by decide +kernel) (by decide +kernel)
set_option maxRecDepth 20000 in
theorem gL_law_X3_bytes : GoodIn wsL_law (wsV RL 62 RX3 yX3_bytes wsX3_bytes) := goodIn_app (goodIn_of _ (by decide +kernel)) ggL_law_X3_bytes
set_option maxRecDepth 20000 in
theorem ggL_law_X3_runs : GoodIn wsL_law wsX3_runs := goodIn_r _ [89, 12, 49, 50, 2, 51, 82, 21, 83, 84, 85, 59, 60, 61, 62, 35, 63, 64, 65, 66, 67, 68, 69, 347, 348, 349, 350, 351, 352, 353, 354, 357] (by decide +kernel) (by decide +kernel)
set_option maxRecDepth 20000 in
theorem gL_law_X3_runs : GoodIn wsL_law (wsV RL 53 RX3 yX3_runs wsX3_runs) := goodIn_app (goodIn_of _ (by decide +kernel)) ggL_law_X3_runs
set_option maxRecDepth 20000 in
theorem ggL_law_X3_alike : GoodIn wsL_law wsX3_alike := goodIn_r _ [93, 49, 50, 2, 51, 94, 95, 96, 97, 22, 12, 98, 21, 99, 100, 35, 101, 102, 103, 85, 52, 53, 54, 55, 56, 57, 58, 59, 60, 61, 62, 63, 64, 65, 66, 67, 68, 69, 104, 105, 106, 347, 348, 349, 350, 351, 352, 353, 354, 357] (by decide +kernel) (by decide +kernel)
set_option maxRecDepth 20000 in
theorem gL_law_X3_alike : GoodIn wsL_law (wsV RL 77 RX3 yX3_alike wsX3_alike) := goodIn_app (goodIn_of _ (by decide +kernel)) ggL_law_X3_alike
set_option maxRecDepth 20000 in
theorem ggL_law_X3_read : GoodIn wsL_law wsX3_read := goodIn_r _ [110, 18, 22, 12, 49, 50, 2, 51, 111, 17, 112, 113, 40, 39, 114, 21, 115, 116, 35, 117, 118, 119, 120, 121, 122, 123, 124, 125, 126, 127, 128, 129, 130, 131, 132, 133, 134, 135, 136, 137, 138, 139, 140, 141, 142, 143, 144, 145, 146, 147, 148, 149, 150, 151, 152, 153, 154, 155, 156, 85, 78, 79, 80, 55, 56, 57, 58, 59, 60, 61, 62, 63, 64, 65, 66, 67, 68, 69, 81, 82, 83, 84, 157, 158, 159, 160, 14, 13, 161, 11, 162, 163, 27, 29, 164, 165, 166, 167, 30, 168, 169, 170, 171, 172, 173, 174, 52, 53, 54, 347, 348, 349, 350, 351, 352, 353, 354, 355, 356, 357] (by decide +kernel) (by decide +kernel)
set_option maxRecDepth 20000 in
theorem gL_law_X3_read : GoodIn wsL_law (wsV RL 71 RX3 yX3_read wsX3_read) := goodIn_app (goodIn_of _ (by decide +kernel)) ggL_law_X3_read
set_option maxRecDepth 20000 in
theorem ggL_law_L_fails_1 : GoodIn wsL_law (.code yL_fails cL_fails 4 (some .boolean) :: wsL_fails_r1) := goodIn_r _ [178, 179, 180, 181, 2, 182, 183, 12, 184, 185, 186, 187, 52, 21, 53, 54, 55, 56, 57, 58, 59, 60, 61, 62, 35] (by decide +kernel) (by decide +kernel)
set_option maxRecDepth 20000 in
theorem ggL_law_L_fails_2 : GoodIn wsL_law (wsL_fails_r2) := goodIn_r _ [63, 64, 65, 66, 67, 68, 69, 188, 189, 190, 77, 78, 79, 80, 81, 82, 83, 84, 85, 191, 74, 75, 76, 192] (by decide +kernel) (by decide +kernel)
set_option maxRecDepth 20000 in
theorem ggL_law_L_fails_3 : GoodIn wsL_law (wsL_fails_r3) := goodIn_r _ [193, 194, 195, 196, 197, 198, 49, 50, 51, 199, 200, 201, 202, 134, 135, 157, 158, 159, 160, 14, 13, 161, 11, 162] (by decide +kernel) (by decide +kernel)
set_option maxRecDepth 20000 in
theorem ggL_law_L_fails_4 : GoodIn wsL_law (wsL_fails_r4) := goodIn_r _ [163, 27, 29, 164, 165, 166, 167, 30, 168, 169, 170, 171, 144, 145, 146, 147, 148, 149, 150, 151, 152, 153, 154, 155] (by decide +kernel) (by decide +kernel)
set_option maxRecDepth 20000 in
theorem ggL_law_L_fails_5 : GoodIn wsL_law (wsL_fails_r5) := goodIn_r _ [156, 172, 173, 174, 121, 122, 203, 204, 205, 206, 207, 208, 209, 210, 211, 212, 213, 214, 215, 216, 217, 218, 219, 220] (by decide +kernel) (by decide +kernel)
set_option maxRecDepth 20000 in
theorem ggL_law_L_fails_6 : GoodIn wsL_law (wsL_fails_r6) := goodIn_r _ [221, 222, 223, 224, 131, 132, 133, 225, 226, 227, 228, 98, 99, 100, 101, 102, 103, 229, 230, 231, 232, 233, 234, 235] (by decide +kernel) (by decide +kernel)
set_option maxRecDepth 20000 in
theorem ggL_law_L_fails_7 : GoodIn wsL_law (wsL_fails_r7) := goodIn_r _ [236, 237, 238, 45, 46, 47, 48, 239, 240, 241, 242, 243, 244, 245, 246, 247, 248, 249, 250, 251, 252, 253, 254, 255] (by decide +kernel) (by decide +kernel)
set_option maxRecDepth 20000 in
theorem ggL_law_L_fails_8 : GoodIn wsL_law (wsL_fails_r8) := goodIn_r _ [256, 257, 258, 259, 260, 261, 262, 263, 86, 87, 88, 89, 264, 265, 266, 267, 268, 269, 270, 271, 22, 272, 273, 274] (by decide +kernel) (by decide +kernel)
set_option maxRecDepth 20000 in
theorem ggL_law_L_fails_9 : GoodIn wsL_law (wsL_fails_r9) := goodIn_r _ [275, 70, 71, 72, 73, 276, 277, 278, 279, 280, 281, 282, 283, 284, 285, 286, 287, 288, 289, 290, 291, 292, 293, 294] (by decide +kernel) (by decide +kernel)
set_option maxRecDepth 20000 in
theorem ggL_law_L_fails_10 : GoodIn wsL_law (wsL_fails_r10) := goodIn_r _ [295, 296, 297, 298, 299, 300, 301, 302, 18, 303, 17, 304, 305, 40, 39, 107, 108, 109, 110, 111, 112, 113, 114, 115] (by decide +kernel) (by decide +kernel)
set_option maxRecDepth 20000 in
theorem ggL_law_L_fails_11 : GoodIn wsL_law (wsL_fails_r11) := goodIn_r _ [116, 117, 118, 119, 120, 123, 124, 125, 126, 127, 128, 129, 130, 136, 137, 138, 139, 140, 141, 142, 143, 306, 307, 308] (by decide +kernel) (by decide +kernel)
set_option maxRecDepth 20000 in
theorem ggL_law_L_fails_12 : GoodIn wsL_law (wsL_fails_r12) := goodIn_r _ [309, 94, 95, 96, 97, 310, 311, 312, 313, 90, 91, 92, 93, 104, 105, 106, 314, 315, 316, 317, 318, 319, 320, 321] (by decide +kernel) (by decide +kernel)
set_option maxRecDepth 20000 in
theorem ggL_law_L_fails_13 : GoodIn wsL_law (wsL_fails_r13) := goodIn_r _ [322] (by decide +kernel) (by decide +kernel)
set_option maxRecDepth 20000 in
theorem ggL_law_L_fails_t0 : GoodIn wsL_law (wsX30) := goodIn_r _ [347, 348, 349, 350, 351] (by decide +kernel) (by decide +kernel)
set_option maxRecDepth 20000 in
theorem ggL_law_L_fails_t1 : GoodIn wsL_law (wsX20) := goodIn_r _ [352, 353, 354] (by decide +kernel) (by decide +kernel)
set_option maxRecDepth 20000 in
theorem ggL_law_L_fails_t2 : GoodIn wsL_law (wsX10) := goodIn_r _ [357] (by decide +kernel) (by decide +kernel)
set_option maxRecDepth 20000 in
theorem ggL_law_L_fails_t3 : GoodIn wsL_law (wsX00) := goodIn_r _ [355, 356] (by decide +kernel) (by decide +kernel)
theorem ggL_law_L_fails : GoodIn wsL_law wsL_fails := goodIn_ca (goodIn_ca (goodIn_ca (goodIn_ca (goodIn_ca ggL_law_L_fails_1 (goodIn_app ggL_law_L_fails_2 (goodIn_app ggL_law_L_fails_3 (goodIn_app ggL_law_L_fails_4 (goodIn_app ggL_law_L_fails_5 (goodIn_app ggL_law_L_fails_6 (goodIn_app ggL_law_L_fails_7 (goodIn_app ggL_law_L_fails_8 (goodIn_app ggL_law_L_fails_9 (goodIn_app ggL_law_L_fails_10 (goodIn_app ggL_law_L_fails_11 (goodIn_app ggL_law_L_fails_12 (ggL_law_L_fails_13))))))))))))) ggL_law_L_fails_t0) ggL_law_L_fails_t1) ggL_law_L_fails_t2) ggL_law_L_fails_t3
set_option maxRecDepth 20000 in
theorem gL_law_L_fails : GoodIn wsL_law (va_wsS RL 99 yL_fails wsL_fails) := goodIn_app (goodIn_of _ (by decide +kernel)) ggL_law_L_fails
set_option maxRecDepth 20000 in
theorem ggL_law_L_cell : GoodIn wsL_law wsL_cell := goodIn_r _ [325, 326] (by decide +kernel) (by decide +kernel)
set_option maxRecDepth 20000 in
theorem gL_law_L_cell : GoodIn wsL_law (va_wsS RL 103 yL_cell wsL_cell) := goodIn_app (goodIn_of _ (by decide +kernel)) ggL_law_L_cell
set_option maxRecDepth 20000 in
theorem ggL_law_L_up : GoodIn wsL_law wsL_up := goodIn_r _ [329, 330] (by decide +kernel) (by decide +kernel)
set_option maxRecDepth 20000 in
theorem gL_law_L_up : GoodIn wsL_law (va_wsS RL 90 yL_up wsL_up) := goodIn_app (goodIn_of _ (by decide +kernel)) ggL_law_L_up
set_option maxRecDepth 20000 in
theorem ggL_law_X3_rank : GoodIn wsL_law wsX3_rank := goodIn_r _ [249, 12, 49, 50, 2, 51, 217, 21, 218, 219, 35, 147, 148, 149, 150, 151, 152, 153, 154, 155, 156, 85, 63, 64, 65, 66, 67, 68, 69, 347, 348, 349, 350, 351, 352, 353, 354, 357] (by decide +kernel) (by decide +kernel)
set_option maxRecDepth 20000 in
theorem gL_law_X3_rank : GoodIn wsL_law (wsV RL 43 RX3 yX3_rank wsX3_rank) := goodIn_app (goodIn_of _ (by decide +kernel)) ggL_law_X3_rank
set_option maxRecDepth 20000 in
theorem ggL_law_X3_fingerprint : GoodIn wsL_law wsX3_fingerprint := goodIn_r _ [182, 183, 12, 184, 185, 186, 2, 187, 52, 21, 53, 54, 55, 56, 57, 58, 59, 60, 61, 62, 35, 63, 64, 65, 66, 67, 68, 69, 188, 189, 190, 77, 78, 79, 80, 81, 82, 83, 84, 85, 191, 74, 75, 76, 192, 193, 194, 347, 348, 349, 350, 351, 352, 353, 354, 357] (by decide +kernel) (by decide +kernel)
set_option maxRecDepth 20000 in
theorem gL_law_X3_fingerprint : GoodIn wsL_law (wsV RL 9 RX3 yX3_fingerprint wsX3_fingerprint) := goodIn_app (goodIn_of _ (by decide +kernel)) ggL_law_X3_fingerprint
set_option maxRecDepth 20000 in
theorem ggL_law_X3_add : GoodIn wsL_law wsX3_add := goodIn_r _ [198, 12, 49, 50, 2, 51, 199, 200, 201, 202, 134, 135, 157, 158, 159, 160, 14, 13, 161, 11, 162, 163, 27, 29, 164, 165, 166, 167, 30, 168, 21, 169, 170, 35, 171, 144, 145, 146, 147, 148, 149, 150, 151, 152, 153, 154, 155, 156, 85, 172, 173, 174, 78, 79, 80, 55, 56, 57, 58, 59, 60, 61, 62, 63, 64, 65, 66, 67, 68, 69, 81, 82, 83, 84, 121, 122, 52, 53, 54, 352, 353, 354, 347, 348, 349, 350, 351, 357] (by decide +kernel) (by decide +kernel)
set_option maxRecDepth 20000 in
theorem gL_law_X3_add : GoodIn wsL_law (wsV RL 15 RX3 yX3_add wsX3_add) := goodIn_app (goodIn_of _ (by decide +kernel)) ggL_law_X3_add
set_option maxRecDepth 20000 in
theorem ggL_law_X3_remove : GoodIn wsL_law wsX3_remove := goodIn_r _ [206, 12, 49, 50, 2, 51, 199, 200, 201, 202, 134, 135, 157, 158, 159, 160, 14, 13, 161, 11, 162, 163, 27, 29, 164, 165, 166, 167, 30, 168, 21, 169, 170, 35, 171, 207, 208, 209, 85, 147, 148, 149, 150, 151, 152, 153, 154, 155, 156, 172, 173, 174, 78, 79, 80, 55, 56, 57, 58, 59, 60, 61, 62, 63, 64, 65, 66, 67, 68, 69, 81, 82, 83, 84, 121, 122, 52, 53, 54, 352, 353, 354, 347, 348, 349, 350, 351, 357] (by decide +kernel) (by decide +kernel)
set_option maxRecDepth 20000 in
theorem gL_law_X3_remove : GoodIn wsL_law (wsV RL 19 RX3 yX3_remove wsX3_remove) := goodIn_app (goodIn_of _ (by decide +kernel)) ggL_law_X3_remove
set_option maxRecDepth 20000 in
theorem ggL_law_X3_flip : GoodIn wsL_law wsX3_flip := goodIn_r _ [213, 12, 49, 50, 2, 51, 199, 200, 201, 202, 134, 135, 157, 158, 159, 160, 14, 13, 161, 11, 162, 163, 27, 29, 164, 165, 166, 167, 30, 168, 21, 169, 170, 35, 171, 214, 215, 216, 147, 148, 149, 150, 151, 152, 153, 154, 155, 156, 85, 172, 173, 174, 78, 79, 80, 55, 56, 57, 58, 59, 60, 61, 62, 63, 64, 65, 66, 67, 68, 69, 81, 82, 83, 84, 121, 122, 217, 218, 219, 352, 353, 354, 347, 348, 349, 350, 351, 357] (by decide +kernel) (by decide +kernel)
set_option maxRecDepth 20000 in
theorem gL_law_X3_flip : GoodIn wsL_law (wsV RL 22 RX3 yX3_flip wsX3_flip) := goodIn_app (goodIn_of _ (by decide +kernel)) ggL_law_X3_flip
set_option maxRecDepth 20000 in
theorem ggL_law_X3_scatter : GoodIn wsL_law wsX3_scatter := goodIn_r _ [223, 12, 224, 49, 50, 2, 51, 157, 158, 159, 160, 14, 13, 161, 11, 162, 163, 27, 29, 164, 165, 166, 167, 30, 168, 21, 169, 170, 35, 171, 131, 132, 133, 134, 135, 172, 173, 174, 78, 79, 80, 55, 56, 57, 58, 59, 60, 61, 62, 63, 64, 65, 66, 67, 68, 69, 81, 82, 83, 84, 85, 121, 122, 52, 53, 54, 352, 353, 354, 347, 348, 349, 350, 351, 357] (by decide +kernel) (by decide +kernel)
set_option maxRecDepth 20000 in
theorem gL_law_X3_scatter : GoodIn wsL_law (wsV RL 25 RX3 yX3_scatter wsX3_scatter) := goodIn_app (goodIn_of _ (by decide +kernel)) ggL_law_X3_scatter
set_option maxRecDepth 20000 in
theorem ggL_law_X3_shift : GoodIn wsL_law wsX3_shift := goodIn_r _ [235, 12, 49, 50, 2, 51, 157, 158, 159, 160, 14, 13, 161, 11, 162, 163, 27, 29, 164, 165, 166, 167, 30, 168, 21, 169, 170, 35, 171, 236, 237, 238, 59, 60, 61, 62, 172, 173, 174, 78, 79, 80, 55, 56, 57, 58, 63, 64, 65, 66, 67, 68, 69, 81, 82, 83, 84, 85, 121, 122, 52, 53, 54, 352, 353, 354, 347, 348, 349, 350, 351, 357] (by decide +kernel) (by decide +kernel)
set_option maxRecDepth 20000 in
theorem gL_law_X3_shift : GoodIn wsL_law (wsV RL 32 RX3 yX3_shift wsX3_shift) := goodIn_app (goodIn_of _ (by decide +kernel)) ggL_law_X3_shift
set_option maxRecDepth 20000 in
theorem ggL_law_L_combines_1 : GoodIn wsL_law (.code yL_combines cL_combines 16 (some .boolean) :: wsL_combines_r1) := goodIn_r _ [333, 179, 180, 181, 2, 182, 183, 12, 184, 185, 186, 187, 52, 21, 53, 54, 55, 56, 57, 58, 59, 60, 61, 62, 35] (by decide +kernel) (by decide +kernel)
set_option maxRecDepth 20000 in
theorem ggL_law_L_combines_2 : GoodIn wsL_law (wsL_combines_r2) := goodIn_r _ [63, 64, 65, 66, 67, 68, 69, 188, 189, 190, 77, 78, 79, 80, 81, 82, 83, 84, 85, 191, 74, 75, 76, 192] (by decide +kernel) (by decide +kernel)
set_option maxRecDepth 20000 in
theorem ggL_law_L_combines_3 : GoodIn wsL_law (wsL_combines_r3) := goodIn_r _ [193, 194, 306, 307, 308, 309, 22, 49, 50, 51, 94, 95, 96, 97, 98, 99, 100, 101, 102, 103, 310, 311, 312, 313] (by decide +kernel) (by decide +kernel)
set_option maxRecDepth 20000 in
theorem ggL_law_L_combines_4 : GoodIn wsL_law (wsL_combines_r4) := goodIn_r _ [254, 255, 256, 257, 258, 259, 45, 46, 47, 48, 327, 328, 177, 329, 330, 314, 315, 316, 317, 318, 121, 122, 272, 273] (by decide +kernel) (by decide +kernel)
set_option maxRecDepth 20000 in
theorem ggL_law_L_combines_5 : GoodIn wsL_law (wsL_combines_r5) := goodIn_r _ [274, 275, 225, 226, 227, 228, 157, 158, 159, 160, 14, 13, 161, 11, 162, 163, 27, 29, 164, 165, 166, 167, 30, 168] (by decide +kernel) (by decide +kernel)
set_option maxRecDepth 20000 in
theorem ggL_law_L_combines_6 : GoodIn wsL_law (wsL_combines_r6) := goodIn_r _ [169, 170, 171, 229, 230, 231, 172, 173, 174, 250, 251, 252, 253, 41, 42, 43, 44] (by decide +kernel) (by decide +kernel)
set_option maxRecDepth 20000 in
theorem ggL_law_L_combines_t0 : GoodIn wsL_law (wsX30) := goodIn_r _ [347, 348, 349, 350, 351] (by decide +kernel) (by decide +kernel)
set_option maxRecDepth 20000 in
theorem ggL_law_L_combines_t1 : GoodIn wsL_law (wsX20) := goodIn_r _ [352, 353, 354] (by decide +kernel) (by decide +kernel)
set_option maxRecDepth 20000 in
theorem ggL_law_L_combines_t2 : GoodIn wsL_law (wsX10) := goodIn_r _ [357] (by decide +kernel) (by decide +kernel)
theorem ggL_law_L_combines : GoodIn wsL_law wsL_combines := goodIn_ca (goodIn_ca (goodIn_ca (goodIn_ca ggL_law_L_combines_1 (goodIn_app ggL_law_L_combines_2 (goodIn_app ggL_law_L_combines_3 (goodIn_app ggL_law_L_combines_4 (goodIn_app ggL_law_L_combines_5 (ggL_law_L_combines_6)))))) ggL_law_L_combines_t0) ggL_law_L_combines_t1) ggL_law_L_combines_t2
set_option maxRecDepth 20000 in
theorem gL_law_L_combines : GoodIn wsL_law (va_wsS RL 107 yL_combines wsL_combines) := goodIn_app (goodIn_of _ (by decide +kernel)) ggL_law_L_combines
set_option maxRecDepth 20000 in
theorem ggL_law_L_copies_1 : GoodIn wsL_law (.code yL_copies cL_copies 5 (some .boolean) :: wsL_copies_r1) := goodIn_r _ [336, 70, 71, 72, 2, 73, 12, 49, 50, 51, 74, 21, 75, 76, 77, 78, 79, 80, 55, 56, 57, 58, 59, 60, 61] (by decide +kernel) (by decide +kernel)
set_option maxRecDepth 20000 in
theorem ggL_law_L_copies_2 : GoodIn wsL_law (wsL_copies_r2) := goodIn_r _ [62, 35, 63, 64, 65, 66, 67, 68, 69, 81, 82, 83, 84, 85, 276, 277, 278, 279, 280, 281, 282, 283, 284, 285] (by decide +kernel) (by decide +kernel)
set_option maxRecDepth 20000 in
theorem ggL_law_L_copies_3 : GoodIn wsL_law (wsL_copies_r3) := goodIn_r _ [286, 287, 288, 289, 290, 291, 292, 217, 218, 219, 147, 148, 149, 150, 151, 152, 153, 154, 155, 156, 293, 254, 255, 256] (by decide +kernel) (by decide +kernel)
set_option maxRecDepth 20000 in
theorem ggL_law_L_copies_4 : GoodIn wsL_law (wsL_copies_r4) := goodIn_r _ [257, 258, 259, 294, 295, 296, 297, 298, 243, 244, 245, 134, 135, 299, 300, 301, 302, 18, 303, 17, 304, 305, 40, 39] (by decide +kernel) (by decide +kernel)
set_option maxRecDepth 20000 in
theorem ggL_law_L_copies_5 : GoodIn wsL_law (wsL_copies_r5) := goodIn_r _ [107, 108, 109, 110, 22, 111, 112, 113, 114, 115, 116, 117, 118, 119, 120, 121, 122, 123, 124, 125, 126, 127, 128, 129] (by decide +kernel) (by decide +kernel)
set_option maxRecDepth 20000 in
theorem ggL_law_L_copies_6 : GoodIn wsL_law (wsL_copies_r6) := goodIn_r _ [130, 131, 132, 133, 136, 137, 138, 139, 140, 141, 142, 143, 144, 145, 146, 157, 158, 159, 160, 14, 13, 161, 11, 162] (by decide +kernel) (by decide +kernel)
set_option maxRecDepth 20000 in
theorem ggL_law_L_copies_7 : GoodIn wsL_law (wsL_copies_r7) := goodIn_r _ [163, 27, 29, 164, 165, 166, 167, 30, 168, 169, 170, 171, 172, 173, 174, 52, 53, 54, 45, 46, 47, 48, 337, 338] (by decide +kernel) (by decide +kernel)
set_option maxRecDepth 20000 in
theorem ggL_law_L_copies_8 : GoodIn wsL_law (wsL_copies_r8) := goodIn_r _ [339, 340, 306, 307, 308, 309, 94, 95, 96, 97, 98, 99, 100, 101, 102, 103, 310, 311, 312, 313, 90, 91, 92, 93] (by decide +kernel) (by decide +kernel)
set_option maxRecDepth 20000 in
theorem ggL_law_L_copies_9 : GoodIn wsL_law (wsL_copies_r9) := goodIn_r _ [104, 105, 106] (by decide +kernel) (by decide +kernel)
set_option maxRecDepth 20000 in
theorem ggL_law_L_copies_t0 : GoodIn wsL_law (wsX30) := goodIn_r _ [347, 348, 349, 350, 351] (by decide +kernel) (by decide +kernel)
set_option maxRecDepth 20000 in
theorem ggL_law_L_copies_t1 : GoodIn wsL_law (wsX20) := goodIn_r _ [352, 353, 354] (by decide +kernel) (by decide +kernel)
set_option maxRecDepth 20000 in
theorem ggL_law_L_copies_t2 : GoodIn wsL_law (wsX10) := goodIn_r _ [357] (by decide +kernel) (by decide +kernel)
set_option maxRecDepth 20000 in
theorem ggL_law_L_copies_t3 : GoodIn wsL_law (wsX00) := goodIn_r _ [355, 356] (by decide +kernel) (by decide +kernel)
theorem ggL_law_L_copies : GoodIn wsL_law wsL_copies := goodIn_ca (goodIn_ca (goodIn_ca (goodIn_ca (goodIn_ca ggL_law_L_copies_1 (goodIn_app ggL_law_L_copies_2 (goodIn_app ggL_law_L_copies_3 (goodIn_app ggL_law_L_copies_4 (goodIn_app ggL_law_L_copies_5 (goodIn_app ggL_law_L_copies_6 (goodIn_app ggL_law_L_copies_7 (goodIn_app ggL_law_L_copies_8 (ggL_law_L_copies_9))))))))) ggL_law_L_copies_t0) ggL_law_L_copies_t1) ggL_law_L_copies_t2) ggL_law_L_copies_t3
set_option maxRecDepth 20000 in
theorem gL_law_L_copies : GoodIn wsL_law (va_wsS RL 111 yL_copies wsL_copies) := goodIn_app (goodIn_of _ (by decide +kernel)) ggL_law_L_copies
set_option maxRecDepth 20000 in
theorem ggL_law_L_numbers : GoodIn wsL_law wsL_numbers := goodIn_r _ [343, 45, 46, 47, 2, 48, 12, 49, 50, 51, 52, 21, 53, 54, 55, 56, 57, 58, 59, 60, 61, 62, 35, 63, 64, 65, 66, 67, 68, 69, 86, 87, 88, 89, 82, 83, 84, 85, 264, 265, 266, 267, 268, 269, 270, 271, 22, 236, 237, 238, 98, 99, 100, 101, 102, 103, 254, 255, 256, 257, 258, 259, 239, 240, 241, 242, 243, 244, 245, 134, 135, 246, 247, 248, 249, 217, 218, 219, 147, 148, 149, 150, 151, 152, 153, 154, 155, 156, 250, 251, 252, 253, 260, 261, 262, 263, 347, 348, 349, 350, 351, 352, 353, 354, 357] (by decide +kernel) (by decide +kernel)
set_option maxRecDepth 20000 in
theorem gL_law_L_numbers : GoodIn wsL_law (va_wsS RL 115 yL_numbers wsL_numbers) := goodIn_app (goodIn_of _ (by decide +kernel)) ggL_law_L_numbers
set_option maxRecDepth 20000 in
theorem ggL_law_L_pieces : GoodIn wsL_law wsL_pieces := goodIn_r _ [346, 272, 273, 274, 2, 275, 12, 49, 50, 51, 188, 21, 189, 190, 77, 78, 79, 80, 55, 56, 57, 58, 59, 60, 61, 62, 35, 63, 64, 65, 66, 67, 68, 69, 81, 82, 83, 84, 85, 191, 74, 75, 76, 246, 247, 248, 249, 217, 218, 219, 147, 148, 149, 150, 151, 152, 153, 154, 155, 156, 276, 277, 278, 279, 280, 281, 282, 283, 284, 285, 286, 287, 288, 289, 290, 291, 292, 293, 254, 255, 256, 257, 258, 259, 294, 295, 296, 297, 298, 243, 244, 245, 134, 135, 45, 46, 47, 48, 52, 53, 54, 70, 71, 72, 73, 347, 348, 349, 350, 351, 352, 353, 354, 357] (by decide +kernel) (by decide +kernel)
set_option maxRecDepth 20000 in
theorem gL_law_L_pieces : GoodIn wsL_law (va_wsS RL 119 yL_pieces wsL_pieces) := goodIn_app (goodIn_of _ (by decide +kernel)) ggL_law_L_pieces
set_option maxRecDepth 20000 in
theorem ggL_law_X3_clear : GoodIn wsL_law wsX3_clear := goodIn_r _ [340, 18, 347, 348, 349, 350, 351, 355, 356] (by decide +kernel) (by decide +kernel)
set_option maxRecDepth 20000 in
theorem gL_law_X3_clear : GoodIn wsL_law (wsV RL 86 RX3 yX3_clear wsX3_clear) := goodIn_app (goodIn_of _ (by decide +kernel)) ggL_law_X3_clear
theorem dL_law_0 : decode cL_law 0 = .ok (.new 10, 3) := by decide +kernel
theorem dL_law_3 : decode cL_law 3 = .ok (.dup, 1) := by decide +kernel
theorem dL_law_4 : decode cL_law 4 = .ok (.invokespecial 98, 3) := by decide +kernel
theorem dL_law_7 : decode cL_law 7 = .ok (.astore_n 1, 1) := by decide +kernel
theorem dL_law_8 : decode cL_law 8 = .ok (.aload_n 1, 1) := by decide +kernel
theorem dL_law_9 : decode cL_law 9 = .ok (.invokevirtual 95, 3) := by decide +kernel
theorem dL_law_12 : decode cL_law 12 = .ok (.bipush (-9), 2) := by decide +kernel
theorem dL_law_14 : decode cL_law 14 = .ok (.if_icmp .ne 71, 3) := by decide +kernel
theorem dL_law_17 : decode cL_law 17 = .ok (.aload_n 1, 1) := by decide +kernel
theorem dL_law_18 : decode cL_law 18 = .ok (.iconst 0, 1) := by decide +kernel
theorem dL_law_19 : decode cL_law 19 = .ok (.invokevirtual 36, 3) := by decide +kernel
theorem dL_law_22 : decode cL_law 22 = .ok (.ifCond .ne 63, 3) := by decide +kernel
theorem dL_law_25 : decode cL_law 25 = .ok (.aload_n 1, 1) := by decide +kernel
theorem dL_law_26 : decode cL_law 26 = .ok (.iconst 5, 1) := by decide +kernel
theorem dL_law_27 : decode cL_law 27 = .ok (.invokevirtual 62, 3) := by decide +kernel
theorem dL_law_30 : decode cL_law 30 = .ok (.ifCond .ne 55, 3) := by decide +kernel
theorem dL_law_33 : decode cL_law 33 = .ok (.aload_n 1, 1) := by decide +kernel
theorem dL_law_34 : decode cL_law 34 = .ok (.iconst 1, 1) := by decide +kernel
theorem dL_law_35 : decode cL_law 35 = .ok (.invokevirtual 53, 3) := by decide +kernel
theorem dL_law_38 : decode cL_law 38 = .ok (.ifCond .ne 47, 3) := by decide +kernel
theorem dL_law_41 : decode cL_law 41 = .ok (.aload_n 1, 1) := by decide +kernel
theorem dL_law_42 : decode cL_law 42 = .ok (.iconst 0, 1) := by decide +kernel
theorem dL_law_43 : decode cL_law 43 = .ok (.iconst 1, 1) := by decide +kernel
theorem dL_law_44 : decode cL_law 44 = .ok (.iconst 0, 1) := by decide +kernel
theorem dL_law_45 : decode cL_law 45 = .ok (.invokevirtual 77, 3) := by decide +kernel
theorem dL_law_48 : decode cL_law 48 = .ok (.iconst 1, 1) := by decide +kernel
theorem dL_law_49 : decode cL_law 49 = .ok (.if_icmp .ne 36, 3) := by decide +kernel
theorem dL_law_52 : decode cL_law 52 = .ok (.aload_n 1, 1) := by decide +kernel
theorem dL_law_53 : decode cL_law 53 = .ok (.iconst 0, 1) := by decide +kernel
theorem dL_law_54 : decode cL_law 54 = .ok (.iconst 1, 1) := by decide +kernel
theorem dL_law_55 : decode cL_law 55 = .ok (.iconst 1, 1) := by decide +kernel
theorem dL_law_56 : decode cL_law 56 = .ok (.invokevirtual 77, 3) := by decide +kernel
theorem dL_law_59 : decode cL_law 59 = .ok (.iconst 1, 1) := by decide +kernel
theorem dL_law_60 : decode cL_law 60 = .ok (.if_icmp .ne 25, 3) := by decide +kernel
theorem dL_law_63 : decode cL_law 63 = .ok (.aload_n 1, 1) := by decide +kernel
theorem dL_law_64 : decode cL_law 64 = .ok (.iconst 2, 1) := by decide +kernel
theorem dL_law_65 : decode cL_law 65 = .ok (.invokevirtual 71, 3) := by decide +kernel
theorem dL_law_68 : decode cL_law 68 = .ok (.ifCond .ne 17, 3) := by decide +kernel
theorem dL_law_71 : decode cL_law 71 = .ok (.aload_n 1, 1) := by decide +kernel
theorem dL_law_72 : decode cL_law 72 = .ok (.invokevirtual 95, 3) := by decide +kernel
theorem dL_law_75 : decode cL_law 75 = .ok (.ifCond .ne 10, 3) := by decide +kernel
theorem dL_law_78 : decode cL_law 78 = .ok (.aload_n 1, 1) := by decide +kernel
theorem dL_law_79 : decode cL_law 79 = .ok (.invokestatic 99, 3) := by decide +kernel
theorem dL_law_82 : decode cL_law 82 = .ok (.ifCond .ne 5, 3) := by decide +kernel
theorem dL_law_85 : decode cL_law 85 = .ok (.iconst 0, 1) := by decide +kernel
theorem dL_law_86 : decode cL_law 86 = .ok (.ireturn, 1) := by decide +kernel
theorem dL_law_87 : decode cL_law 87 = .ok (.iconst 0, 1) := by decide +kernel
theorem dL_law_88 : decode cL_law 88 = .ok (.istore_n 2, 1) := by decide +kernel
theorem dL_law_89 : decode cL_law 89 = .ok (.iload_n 2, 1) := by decide +kernel
theorem dL_law_90 : decode cL_law 90 = .ok (.bipush 18, 2) := by decide +kernel
theorem dL_law_92 : decode cL_law 92 = .ok (.if_icmp .ge 609, 3) := by decide +kernel
theorem dL_law_95 : decode cL_law 95 = .ok (.aload_n 0, 1) := by decide +kernel
theorem dL_law_96 : decode cL_law 96 = .ok (.iconst 2, 1) := by decide +kernel
theorem dL_law_97 : decode cL_law 97 = .ok (.iload_n 2, 1) := by decide +kernel
theorem dL_law_98 : decode cL_law 98 = .ok (.imul, 1) := by decide +kernel
theorem dL_law_99 : decode cL_law 99 = .ok (.invokestatic 103, 3) := by decide +kernel
theorem dL_law_102 : decode cL_law 102 = .ok (.istore_n 3, 1) := by decide +kernel
theorem dL_law_103 : decode cL_law 103 = .ok (.aload_n 0, 1) := by decide +kernel
theorem dL_law_104 : decode cL_law 104 = .ok (.iconst 2, 1) := by decide +kernel
theorem dL_law_105 : decode cL_law 105 = .ok (.iload_n 2, 1) := by decide +kernel
theorem dL_law_106 : decode cL_law 106 = .ok (.imul, 1) := by decide +kernel
theorem dL_law_107 : decode cL_law 107 = .ok (.iconst 1, 1) := by decide +kernel
theorem dL_law_108 : decode cL_law 108 = .ok (.iadd, 1) := by decide +kernel
theorem dL_law_109 : decode cL_law 109 = .ok (.invokestatic 103, 3) := by decide +kernel
theorem dL_law_112 : decode cL_law 112 = .ok (.istore 4, 2) := by decide +kernel
theorem dL_law_114 : decode cL_law 114 = .ok (.iload_n 3, 1) := by decide +kernel
theorem dL_law_115 : decode cL_law 115 = .ok (.iconst 4, 1) := by decide +kernel
theorem dL_law_116 : decode cL_law 116 = .ok (.ishr, 1) := by decide +kernel
theorem dL_law_117 : decode cL_law 117 = .ok (.bipush 6, 2) := by decide +kernel
theorem dL_law_119 : decode cL_law 119 = .ok (.invokestatic 90, 3) := by decide +kernel
theorem dL_law_122 : decode cL_law 122 = .ok (.istore 5, 2) := by decide +kernel
theorem dL_law_124 : decode cL_law 124 = .ok (.iload_n 3, 1) := by decide +kernel
theorem dL_law_125 : decode cL_law 125 = .ok (.bipush 8, 2) := by decide +kernel
theorem dL_law_127 : decode cL_law 127 = .ok (.ishr, 1) := by decide +kernel
theorem dL_law_128 : decode cL_law 128 = .ok (.bipush 6, 2) := by decide +kernel
theorem dL_law_130 : decode cL_law 130 = .ok (.invokestatic 90, 3) := by decide +kernel
theorem dL_law_133 : decode cL_law 133 = .ok (.istore 6, 2) := by decide +kernel
theorem dL_law_135 : decode cL_law 135 = .ok (.iload 4, 2) := by decide +kernel
theorem dL_law_137 : decode cL_law 137 = .ok (.sipush 4096, 3) := by decide +kernel
theorem dL_law_140 : decode cL_law 140 = .ok (.invokestatic 90, 3) := by decide +kernel
theorem dL_law_143 : decode cL_law 143 = .ok (.istore 7, 2) := by decide +kernel
theorem dL_law_145 : decode cL_law 145 = .ok (.iload 7, 2) := by decide +kernel
theorem dL_law_147 : decode cL_law 147 = .ok (.iload 4, 2) := by decide +kernel
theorem dL_law_149 : decode cL_law 149 = .ok (.bipush 12, 2) := by decide +kernel
theorem dL_law_151 : decode cL_law 151 = .ok (.ishr, 1) := by decide +kernel
theorem dL_law_152 : decode cL_law 152 = .ok (.iload 4, 2) := by decide +kernel
theorem dL_law_154 : decode cL_law 154 = .ok (.iconst 1, 1) := by decide +kernel
theorem dL_law_155 : decode cL_law 155 = .ok (.iand, 1) := by decide +kernel
theorem dL_law_156 : decode cL_law 156 = .ok (.ifCond .ne 8, 3) := by decide +kernel
theorem dL_law_159 : decode cL_law 159 = .ok (.bipush 40, 2) := by decide +kernel
theorem dL_law_161 : decode cL_law 161 = .ok (.goto 6, 3) := by decide +kernel
theorem dL_law_164 : decode cL_law 164 = .ok (.sipush 700, 3) := by decide +kernel
theorem dL_law_167 : decode cL_law 167 = .ok (.invokestatic 90, 3) := by decide +kernel
theorem dL_law_170 : decode cL_law 170 = .ok (.iadd, 1) := by decide +kernel
theorem dL_law_171 : decode cL_law 171 = .ok (.istore 8, 2) := by decide +kernel
theorem dL_law_173 : decode cL_law 173 = .ok (.iload 8, 2) := by decide +kernel
theorem dL_law_175 : decode cL_law 175 = .ok (.sipush 4095, 3) := by decide +kernel
theorem dL_law_178 : decode cL_law 178 = .ok (.if_icmp .le 9, 3) := by decide +kernel
theorem dL_law_181 : decode cL_law 181 = .ok (.sipush 4095, 3) := by decide +kernel
theorem dL_law_184 : decode cL_law 184 = .ok (.goto 5, 3) := by decide +kernel
theorem dL_law_187 : decode cL_law 187 = .ok (.iload 8, 2) := by decide +kernel
theorem dL_law_189 : decode cL_law 189 = .ok (.istore 8, 2) := by decide +kernel
theorem dL_law_191 : decode cL_law 191 = .ok (.aload_n 1, 1) := by decide +kernel
theorem dL_law_192 : decode cL_law 192 = .ok (.iload 5, 2) := by decide +kernel
theorem dL_law_194 : decode cL_law 194 = .ok (.iload 8, 2) := by decide +kernel
theorem dL_law_196 : decode cL_law 196 = .ok (.invokevirtual 43, 3) := by decide +kernel
theorem dL_law_199 : decode cL_law 199 = .ok (.aload_n 1, 1) := by decide +kernel
theorem dL_law_200 : decode cL_law 200 = .ok (.iload 5, 2) := by decide +kernel
theorem dL_law_202 : decode cL_law 202 = .ok (.iload 7, 2) := by decide +kernel
theorem dL_law_204 : decode cL_law 204 = .ok (.iconst 1, 1) := by decide +kernel
theorem dL_law_205 : decode cL_law 205 = .ok (.isub, 1) := by decide +kernel
theorem dL_law_206 : decode cL_law 206 = .ok (.invokevirtual 43, 3) := by decide +kernel
theorem dL_law_209 : decode cL_law 209 = .ok (.isub, 1) := by decide +kernel
theorem dL_law_210 : decode cL_law 210 = .ok (.istore 9, 2) := by decide +kernel
theorem dL_law_212 : decode cL_law 212 = .ok (.aload_n 1, 1) := by decide +kernel
theorem dL_law_213 : decode cL_law 213 = .ok (.iload 5, 2) := by decide +kernel
theorem dL_law_215 : decode cL_law 215 = .ok (.invokevirtual 36, 3) := by decide +kernel
theorem dL_law_218 : decode cL_law 218 = .ok (.istore 10, 2) := by decide +kernel
theorem dL_law_220 : decode cL_law 220 = .ok (.iconst 1, 1) := by decide +kernel
theorem dL_law_221 : decode cL_law 221 = .ok (.istore 11, 2) := by decide +kernel
theorem dL_law_223 : decode cL_law 223 = .ok (.iload_n 3, 1) := by decide +kernel
theorem dL_law_224 : decode cL_law 224 = .ok (.bipush 8, 2) := by decide +kernel
theorem dL_law_226 : decode cL_law 226 = .ok (.invokestatic 90, 3) := by decide +kernel
theorem dL_law_229 : decode cL_law 229 = .ok (.istore 12, 2) := by decide +kernel
theorem dL_law_231 : decode cL_law 231 = .ok (.aload_n 1, 1) := by decide +kernel
theorem dL_law_232 : decode cL_law 232 = .ok (.invokevirtual 9, 3) := by decide +kernel
theorem dL_law_235 : decode cL_law 235 = .ok (.lstore 13, 2) := by decide +kernel
theorem dL_law_237 : decode cL_law 237 = .ok (.iload 12, 2) := by decide +kernel
theorem dL_law_239 : decode cL_law 239 = .ok (.ifCond .ne 58, 3) := by decide +kernel
theorem dL_law_242 : decode cL_law 242 = .ok (.aload_n 1, 1) := by decide +kernel
theorem dL_law_243 : decode cL_law 243 = .ok (.iload 5, 2) := by decide +kernel
theorem dL_law_245 : decode cL_law 245 = .ok (.iload 7, 2) := by decide +kernel
theorem dL_law_247 : decode cL_law 247 = .ok (.iload 8, 2) := by decide +kernel
theorem dL_law_249 : decode cL_law 249 = .ok (.invokevirtual 15, 3) := by decide +kernel
theorem dL_law_252 : decode cL_law 252 = .ok (.iload 8, 2) := by decide +kernel
theorem dL_law_254 : decode cL_law 254 = .ok (.iload 7, 2) := by decide +kernel
theorem dL_law_256 : decode cL_law 256 = .ok (.isub, 1) := by decide +kernel
theorem dL_law_257 : decode cL_law 257 = .ok (.iconst 1, 1) := by decide +kernel
theorem dL_law_258 : decode cL_law 258 = .ok (.iadd, 1) := by decide +kernel
theorem dL_law_259 : decode cL_law 259 = .ok (.iload 9, 2) := by decide +kernel
theorem dL_law_261 : decode cL_law 261 = .ok (.isub, 1) := by decide +kernel
theorem dL_law_262 : decode cL_law 262 = .ok (.if_icmp .ne 29, 3) := by decide +kernel
theorem dL_law_265 : decode cL_law 265 = .ok (.aload_n 1, 1) := by decide +kernel
theorem dL_law_266 : decode cL_law 266 = .ok (.iload 5, 2) := by decide +kernel
theorem dL_law_268 : decode cL_law 268 = .ok (.invokevirtual 36, 3) := by decide +kernel
theorem dL_law_271 : decode cL_law 271 = .ok (.iload 10, 2) := by decide +kernel
theorem dL_law_273 : decode cL_law 273 = .ok (.iload 8, 2) := by decide +kernel
theorem dL_law_275 : decode cL_law 275 = .ok (.iadd, 1) := by decide +kernel
theorem dL_law_276 : decode cL_law 276 = .ok (.iload 7, 2) := by decide +kernel
theorem dL_law_278 : decode cL_law 278 = .ok (.isub, 1) := by decide +kernel
theorem dL_law_279 : decode cL_law 279 = .ok (.iconst 1, 1) := by decide +kernel
theorem dL_law_280 : decode cL_law 280 = .ok (.iadd, 1) := by decide +kernel
theorem dL_law_281 : decode cL_law 281 = .ok (.iload 9, 2) := by decide +kernel
theorem dL_law_283 : decode cL_law 283 = .ok (.isub, 1) := by decide +kernel
theorem dL_law_284 : decode cL_law 284 = .ok (.if_icmp .ne 7, 3) := by decide +kernel
theorem dL_law_287 : decode cL_law 287 = .ok (.iconst 1, 1) := by decide +kernel
theorem dL_law_288 : decode cL_law 288 = .ok (.goto 4, 3) := by decide +kernel
theorem dL_law_291 : decode cL_law 291 = .ok (.iconst 0, 1) := by decide +kernel
theorem dL_law_292 : decode cL_law 292 = .ok (.istore 11, 2) := by decide +kernel
theorem dL_law_294 : decode cL_law 294 = .ok (.goto 369, 3) := by decide +kernel
theorem dL_law_297 : decode cL_law 297 = .ok (.iload 12, 2) := by decide +kernel
theorem dL_law_299 : decode cL_law 299 = .ok (.iconst 1, 1) := by decide +kernel
theorem dL_law_300 : decode cL_law 300 = .ok (.if_icmp .ne 42, 3) := by decide +kernel
theorem dL_law_303 : decode cL_law 303 = .ok (.aload_n 1, 1) := by decide +kernel
theorem dL_law_304 : decode cL_law 304 = .ok (.iload 5, 2) := by decide +kernel
theorem dL_law_306 : decode cL_law 306 = .ok (.iload 7, 2) := by decide +kernel
theorem dL_law_308 : decode cL_law 308 = .ok (.iload 8, 2) := by decide +kernel
theorem dL_law_310 : decode cL_law 310 = .ok (.invokevirtual 19, 3) := by decide +kernel
theorem dL_law_313 : decode cL_law 313 = .ok (.iload 9, 2) := by decide +kernel
theorem dL_law_315 : decode cL_law 315 = .ok (.if_icmp .ne 21, 3) := by decide +kernel
theorem dL_law_318 : decode cL_law 318 = .ok (.aload_n 1, 1) := by decide +kernel
theorem dL_law_319 : decode cL_law 319 = .ok (.iload 5, 2) := by decide +kernel
theorem dL_law_321 : decode cL_law 321 = .ok (.invokevirtual 36, 3) := by decide +kernel
theorem dL_law_324 : decode cL_law 324 = .ok (.iload 10, 2) := by decide +kernel
theorem dL_law_326 : decode cL_law 326 = .ok (.iload 9, 2) := by decide +kernel
theorem dL_law_328 : decode cL_law 328 = .ok (.isub, 1) := by decide +kernel
theorem dL_law_329 : decode cL_law 329 = .ok (.if_icmp .ne 7, 3) := by decide +kernel
theorem dL_law_332 : decode cL_law 332 = .ok (.iconst 1, 1) := by decide +kernel
theorem dL_law_333 : decode cL_law 333 = .ok (.goto 4, 3) := by decide +kernel
theorem dL_law_336 : decode cL_law 336 = .ok (.iconst 0, 1) := by decide +kernel
theorem dL_law_337 : decode cL_law 337 = .ok (.istore 11, 2) := by decide +kernel
theorem dL_law_339 : decode cL_law 339 = .ok (.goto 324, 3) := by decide +kernel
theorem dL_law_342 : decode cL_law 342 = .ok (.iload 12, 2) := by decide +kernel
theorem dL_law_344 : decode cL_law 344 = .ok (.iconst 2, 1) := by decide +kernel
theorem dL_law_345 : decode cL_law 345 = .ok (.if_icmp .ne 109, 3) := by decide +kernel
theorem dL_law_348 : decode cL_law 348 = .ok (.aload_n 1, 1) := by decide +kernel
theorem dL_law_349 : decode cL_law 349 = .ok (.iload 5, 2) := by decide +kernel
theorem dL_law_351 : decode cL_law 351 = .ok (.iload 7, 2) := by decide +kernel
theorem dL_law_353 : decode cL_law 353 = .ok (.iload 8, 2) := by decide +kernel
theorem dL_law_355 : decode cL_law 355 = .ok (.invokevirtual 22, 3) := by decide +kernel
theorem dL_law_358 : decode cL_law 358 = .ok (.iload 8, 2) := by decide +kernel
theorem dL_law_360 : decode cL_law 360 = .ok (.iload 7, 2) := by decide +kernel
theorem dL_law_362 : decode cL_law 362 = .ok (.isub, 1) := by decide +kernel
theorem dL_law_363 : decode cL_law 363 = .ok (.iconst 1, 1) := by decide +kernel
theorem dL_law_364 : decode cL_law 364 = .ok (.iadd, 1) := by decide +kernel
theorem dL_law_365 : decode cL_law 365 = .ok (.iload 9, 2) := by decide +kernel
theorem dL_law_367 : decode cL_law 367 = .ok (.isub, 1) := by decide +kernel
theorem dL_law_368 : decode cL_law 368 = .ok (.if_icmp .ne 80, 3) := by decide +kernel
theorem dL_law_371 : decode cL_law 371 = .ok (.aload_n 1, 1) := by decide +kernel
theorem dL_law_372 : decode cL_law 372 = .ok (.iload 5, 2) := by decide +kernel
theorem dL_law_374 : decode cL_law 374 = .ok (.iload 7, 2) := by decide +kernel
theorem dL_law_376 : decode cL_law 376 = .ok (.iload 8, 2) := by decide +kernel
theorem dL_law_378 : decode cL_law 378 = .ok (.invokevirtual 22, 3) := by decide +kernel
theorem dL_law_381 : decode cL_law 381 = .ok (.iload 9, 2) := by decide +kernel
theorem dL_law_383 : decode cL_law 383 = .ok (.if_icmp .ne 65, 3) := by decide +kernel
theorem dL_law_386 : decode cL_law 386 = .ok (.aload_n 1, 1) := by decide +kernel
theorem dL_law_387 : decode cL_law 387 = .ok (.iload 5, 2) := by decide +kernel
theorem dL_law_389 : decode cL_law 389 = .ok (.invokevirtual 36, 3) := by decide +kernel
theorem dL_law_392 : decode cL_law 392 = .ok (.iload 10, 2) := by decide +kernel
theorem dL_law_394 : decode cL_law 394 = .ok (.if_icmp .ne 54, 3) := by decide +kernel
theorem dL_law_397 : decode cL_law 397 = .ok (.aload_n 1, 1) := by decide +kernel
theorem dL_law_398 : decode cL_law 398 = .ok (.invokevirtual 95, 3) := by decide +kernel
theorem dL_law_401 : decode cL_law 401 = .ok (.ifCond .lt 47, 3) := by decide +kernel
theorem dL_law_404 : decode cL_law 404 = .ok (.aload_n 1, 1) := by decide +kernel
theorem dL_law_405 : decode cL_law 405 = .ok (.invokevirtual 95, 3) := by decide +kernel
theorem dL_law_408 : decode cL_law 408 = .ok (.ifCond .lt 40, 3) := by decide +kernel
theorem dL_law_411 : decode cL_law 411 = .ok (.aload_n 1, 1) := by decide +kernel
theorem dL_law_412 : decode cL_law 412 = .ok (.invokevirtual 9, 3) := by decide +kernel
theorem dL_law_415 : decode cL_law 415 = .ok (.lload 13, 2) := by decide +kernel
theorem dL_law_417 : decode cL_law 417 = .ok (.lcmp, 1) := by decide +kernel
theorem dL_law_418 : decode cL_law 418 = .ok (.ifCond .ne 30, 3) := by decide +kernel
theorem dL_law_421 : decode cL_law 421 = .ok (.aload_n 1, 1) := by decide +kernel
theorem dL_law_422 : decode cL_law 422 = .ok (.iload 5, 2) := by decide +kernel
theorem dL_law_424 : decode cL_law 424 = .ok (.iload 7, 2) := by decide +kernel
theorem dL_law_426 : decode cL_law 426 = .ok (.iload 8, 2) := by decide +kernel
theorem dL_law_428 : decode cL_law 428 = .ok (.invokevirtual 22, 3) := by decide +kernel
theorem dL_law_431 : decode cL_law 431 = .ok (.iload 8, 2) := by decide +kernel
theorem dL_law_433 : decode cL_law 433 = .ok (.iload 7, 2) := by decide +kernel
theorem dL_law_435 : decode cL_law 435 = .ok (.isub, 1) := by decide +kernel
theorem dL_law_436 : decode cL_law 436 = .ok (.iconst 1, 1) := by decide +kernel
theorem dL_law_437 : decode cL_law 437 = .ok (.iadd, 1) := by decide +kernel
theorem dL_law_438 : decode cL_law 438 = .ok (.iload 9, 2) := by decide +kernel
theorem dL_law_440 : decode cL_law 440 = .ok (.isub, 1) := by decide +kernel
theorem dL_law_441 : decode cL_law 441 = .ok (.if_icmp .ne 7, 3) := by decide +kernel
theorem dL_law_444 : decode cL_law 444 = .ok (.iconst 1, 1) := by decide +kernel
theorem dL_law_445 : decode cL_law 445 = .ok (.goto 4, 3) := by decide +kernel
theorem dL_law_448 : decode cL_law 448 = .ok (.iconst 0, 1) := by decide +kernel
theorem dL_law_449 : decode cL_law 449 = .ok (.istore 11, 2) := by decide +kernel
theorem dL_law_451 : decode cL_law 451 = .ok (.goto 212, 3) := by decide +kernel
theorem dL_law_454 : decode cL_law 454 = .ok (.iload 12, 2) := by decide +kernel
theorem dL_law_456 : decode cL_law 456 = .ok (.iconst 5, 1) := by decide +kernel
theorem dL_law_457 : decode cL_law 457 = .ok (.if_icmp .ge 81, 3) := by decide +kernel
theorem dL_law_460 : decode cL_law 460 = .ok (.iconst 1, 1) := by decide +kernel
theorem dL_law_461 : decode cL_law 461 = .ok (.iload_n 3, 1) := by decide +kernel
theorem dL_law_462 : decode cL_law 462 = .ok (.bipush 12, 2) := by decide +kernel
theorem dL_law_464 : decode cL_law 464 = .ok (.ishr, 1) := by decide +kernel
theorem dL_law_465 : decode cL_law 465 = .ok (.bipush 90, 2) := by decide +kernel
theorem dL_law_467 : decode cL_law 467 = .ok (.invokestatic 90, 3) := by decide +kernel
theorem dL_law_470 : decode cL_law 470 = .ok (.iadd, 1) := by decide +kernel
theorem dL_law_471 : decode cL_law 471 = .ok (.istore 15, 2) := by decide +kernel
theorem dL_law_473 : decode cL_law 473 = .ok (.aload_n 1, 1) := by decide +kernel
theorem dL_law_474 : decode cL_law 474 = .ok (.iload 5, 2) := by decide +kernel
theorem dL_law_476 : decode cL_law 476 = .ok (.iload 4, 2) := by decide +kernel
theorem dL_law_478 : decode cL_law 478 = .ok (.iload 15, 2) := by decide +kernel
theorem dL_law_480 : decode cL_law 480 = .ok (.invokevirtual 25, 3) := by decide +kernel
theorem dL_law_483 : decode cL_law 483 = .ok (.istore 16, 2) := by decide +kernel
theorem dL_law_485 : decode cL_law 485 = .ok (.iload 16, 2) := by decide +kernel
theorem dL_law_487 : decode cL_law 487 = .ok (.aload_n 1, 1) := by decide +kernel
theorem dL_law_488 : decode cL_law 488 = .ok (.iload 5, 2) := by decide +kernel
theorem dL_law_490 : decode cL_law 490 = .ok (.invokevirtual 36, 3) := by decide +kernel
theorem dL_law_493 : decode cL_law 493 = .ok (.if_icmp .ne 39, 3) := by decide +kernel
theorem dL_law_496 : decode cL_law 496 = .ok (.iload 16, 2) := by decide +kernel
theorem dL_law_498 : decode cL_law 498 = .ok (.iload 10, 2) := by decide +kernel
theorem dL_law_500 : decode cL_law 500 = .ok (.if_icmp .lt 32, 3) := by decide +kernel
theorem dL_law_503 : decode cL_law 503 = .ok (.iload 16, 2) := by decide +kernel
theorem dL_law_505 : decode cL_law 505 = .ok (.iload 10, 2) := by decide +kernel
theorem dL_law_507 : decode cL_law 507 = .ok (.iload 15, 2) := by decide +kernel
theorem dL_law_509 : decode cL_law 509 = .ok (.iadd, 1) := by decide +kernel
theorem dL_law_510 : decode cL_law 510 = .ok (.if_icmp .gt 22, 3) := by decide +kernel
theorem dL_law_513 : decode cL_law 513 = .ok (.aload_n 1, 1) := by decide +kernel
theorem dL_law_514 : decode cL_law 514 = .ok (.iload 5, 2) := by decide +kernel
theorem dL_law_516 : decode cL_law 516 = .ok (.iload 4, 2) := by decide +kernel
theorem dL_law_518 : decode cL_law 518 = .ok (.iload 15, 2) := by decide +kernel
theorem dL_law_520 : decode cL_law 520 = .ok (.invokevirtual 25, 3) := by decide +kernel
theorem dL_law_523 : decode cL_law 523 = .ok (.iload 16, 2) := by decide +kernel
theorem dL_law_525 : decode cL_law 525 = .ok (.if_icmp .ne 7, 3) := by decide +kernel
theorem dL_law_528 : decode cL_law 528 = .ok (.iconst 1, 1) := by decide +kernel
theorem dL_law_529 : decode cL_law 529 = .ok (.goto 4, 3) := by decide +kernel
theorem dL_law_532 : decode cL_law 532 = .ok (.iconst 0, 1) := by decide +kernel
theorem dL_law_533 : decode cL_law 533 = .ok (.istore 11, 2) := by decide +kernel
theorem dL_law_535 : decode cL_law 535 = .ok (.goto 128, 3) := by decide +kernel
theorem dL_law_538 : decode cL_law 538 = .ok (.iload 12, 2) := by decide +kernel
theorem dL_law_540 : decode cL_law 540 = .ok (.iconst 5, 1) := by decide +kernel
theorem dL_law_541 : decode cL_law 541 = .ok (.if_icmp .ne 90, 3) := by decide +kernel
theorem dL_law_544 : decode cL_law 544 = .ok (.iload 4, 2) := by decide +kernel
theorem dL_law_546 : decode cL_law 546 = .ok (.sipush 1201, 3) := by decide +kernel
theorem dL_law_549 : decode cL_law 549 = .ok (.invokestatic 90, 3) := by decide +kernel
theorem dL_law_552 : decode cL_law 552 = .ok (.sipush 600, 3) := by decide +kernel
theorem dL_law_555 : decode cL_law 555 = .ok (.isub, 1) := by decide +kernel
theorem dL_law_556 : decode cL_law 556 = .ok (.istore 15, 2) := by decide +kernel
theorem dL_law_558 : decode cL_law 558 = .ok (.iload 15, 2) := by decide +kernel
theorem dL_law_560 : decode cL_law 560 = .ok (.ifCond .ge 17, 3) := by decide +kernel
theorem dL_law_563 : decode cL_law 563 = .ok (.aload_n 1, 1) := by decide +kernel
theorem dL_law_564 : decode cL_law 564 = .ok (.iload 5, 2) := by decide +kernel
theorem dL_law_566 : decode cL_law 566 = .ok (.iload 15, 2) := by decide +kernel
theorem dL_law_568 : decode cL_law 568 = .ok (.ineg, 1) := by decide +kernel
theorem dL_law_569 : decode cL_law 569 = .ok (.iconst 1, 1) := by decide +kernel
theorem dL_law_570 : decode cL_law 570 = .ok (.isub, 1) := by decide +kernel
theorem dL_law_571 : decode cL_law 571 = .ok (.invokevirtual 43, 3) := by decide +kernel
theorem dL_law_574 : decode cL_law 574 = .ok (.goto 18, 3) := by decide +kernel
theorem dL_law_577 : decode cL_law 577 = .ok (.iload 10, 2) := by decide +kernel
theorem dL_law_579 : decode cL_law 579 = .ok (.aload_n 1, 1) := by decide +kernel
theorem dL_law_580 : decode cL_law 580 = .ok (.iload 5, 2) := by decide +kernel
theorem dL_law_582 : decode cL_law 582 = .ok (.sipush 4095, 3) := by decide +kernel
theorem dL_law_585 : decode cL_law 585 = .ok (.iload 15, 2) := by decide +kernel
theorem dL_law_587 : decode cL_law 587 = .ok (.isub, 1) := by decide +kernel
theorem dL_law_588 : decode cL_law 588 = .ok (.invokevirtual 43, 3) := by decide +kernel
theorem dL_law_591 : decode cL_law 591 = .ok (.isub, 1) := by decide +kernel
theorem dL_law_592 : decode cL_law 592 = .ok (.istore 16, 2) := by decide +kernel
theorem dL_law_594 : decode cL_law 594 = .ok (.aload_n 1, 1) := by decide +kernel
theorem dL_law_595 : decode cL_law 595 = .ok (.iload 5, 2) := by decide +kernel
theorem dL_law_597 : decode cL_law 597 = .ok (.iload 15, 2) := by decide +kernel
theorem dL_law_599 : decode cL_law 599 = .ok (.invokevirtual 32, 3) := by decide +kernel
theorem dL_law_602 : decode cL_law 602 = .ok (.iload 16, 2) := by decide +kernel
theorem dL_law_604 : decode cL_law 604 = .ok (.if_icmp .ne 21, 3) := by decide +kernel
theorem dL_law_607 : decode cL_law 607 = .ok (.aload_n 1, 1) := by decide +kernel
theorem dL_law_608 : decode cL_law 608 = .ok (.iload 5, 2) := by decide +kernel
theorem dL_law_610 : decode cL_law 610 = .ok (.invokevirtual 36, 3) := by decide +kernel
theorem dL_law_613 : decode cL_law 613 = .ok (.iload 10, 2) := by decide +kernel
theorem dL_law_615 : decode cL_law 615 = .ok (.iload 16, 2) := by decide +kernel
theorem dL_law_617 : decode cL_law 617 = .ok (.isub, 1) := by decide +kernel
theorem dL_law_618 : decode cL_law 618 = .ok (.if_icmp .ne 7, 3) := by decide +kernel
theorem dL_law_621 : decode cL_law 621 = .ok (.iconst 1, 1) := by decide +kernel
theorem dL_law_622 : decode cL_law 622 = .ok (.goto 4, 3) := by decide +kernel
theorem dL_law_625 : decode cL_law 625 = .ok (.iconst 0, 1) := by decide +kernel
theorem dL_law_626 : decode cL_law 626 = .ok (.istore 11, 2) := by decide +kernel
theorem dL_law_628 : decode cL_law 628 = .ok (.goto 35, 3) := by decide +kernel
theorem dL_law_631 : decode cL_law 631 = .ok (.iload 12, 2) := by decide +kernel
theorem dL_law_633 : decode cL_law 633 = .ok (.bipush 6, 2) := by decide +kernel
theorem dL_law_635 : decode cL_law 635 = .ok (.if_icmp .ne 18, 3) := by decide +kernel
theorem dL_law_638 : decode cL_law 638 = .ok (.aload_n 1, 1) := by decide +kernel
theorem dL_law_639 : decode cL_law 639 = .ok (.iload 4, 2) := by decide +kernel
theorem dL_law_641 : decode cL_law 641 = .ok (.iload 5, 2) := by decide +kernel
theorem dL_law_643 : decode cL_law 643 = .ok (.iload 6, 2) := by decide +kernel
theorem dL_law_645 : decode cL_law 645 = .ok (.invokestatic 107, 3) := by decide +kernel
theorem dL_law_648 : decode cL_law 648 = .ok (.istore 11, 2) := by decide +kernel
theorem dL_law_650 : decode cL_law 650 = .ok (.goto 13, 3) := by decide +kernel
theorem dL_law_653 : decode cL_law 653 = .ok (.aload_n 1, 1) := by decide +kernel
theorem dL_law_654 : decode cL_law 654 = .ok (.iload 5, 2) := by decide +kernel
theorem dL_law_656 : decode cL_law 656 = .ok (.iload 6, 2) := by decide +kernel
theorem dL_law_658 : decode cL_law 658 = .ok (.invokestatic 111, 3) := by decide +kernel
theorem dL_law_661 : decode cL_law 661 = .ok (.istore 11, 2) := by decide +kernel
theorem dL_law_663 : decode cL_law 663 = .ok (.iload 11, 2) := by decide +kernel
theorem dL_law_665 : decode cL_law 665 = .ok (.ifCond .eq 28, 3) := by decide +kernel
theorem dL_law_668 : decode cL_law 668 = .ok (.iload_n 2, 1) := by decide +kernel
theorem dL_law_669 : decode cL_law 669 = .ok (.iconst 3, 1) := by decide +kernel
theorem dL_law_670 : decode cL_law 670 = .ok (.irem, 1) := by decide +kernel
theorem dL_law_671 : decode cL_law 671 = .ok (.iconst 2, 1) := by decide +kernel
theorem dL_law_672 : decode cL_law 672 = .ok (.if_icmp .ne 23, 3) := by decide +kernel
theorem dL_law_675 : decode cL_law 675 = .ok (.aload_n 1, 1) := by decide +kernel
