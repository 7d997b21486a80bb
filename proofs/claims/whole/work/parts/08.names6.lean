theorem dX4_digest_201 : decode cX4_digest 201 = .ok (.getfield 26, 3) := by decide +kernel
theorem dX4_digest_204 : decode cX4_digest 204 = .ok (.bipush 18, 2) := by decide +kernel
theorem dX4_digest_206 : decode cX4_digest 206 = .ok (.iload 4, 2) := by decide +kernel
theorem dX4_digest_208 : decode cX4_digest 208 = .ok (.iadd, 1) := by decide +kernel
theorem dX4_digest_209 : decode cX4_digest 209 = .ok (.iaload, 1) := by decide +kernel
theorem dX4_digest_210 : decode cX4_digest 210 = .ok (.i2l, 1) := by decide +kernel
theorem dX4_digest_211 : decode cX4_digest 211 = .ok (.ladd, 1) := by decide +kernel
theorem dX4_digest_212 : decode cX4_digest 212 = .ok (.lstore_n 2, 1) := by decide +kernel
theorem dX4_digest_213 : decode cX4_digest 213 = .ok (.iinc 4 1, 3) := by decide +kernel
theorem dX4_digest_216 : decode cX4_digest 216 = .ok (.goto (-48), 3) := by decide +kernel
theorem dX4_digest_219 : decode cX4_digest 219 = .ok (.iconst 0, 1) := by decide +kernel
theorem dX4_digest_220 : decode cX4_digest 220 = .ok (.istore 4, 2) := by decide +kernel
theorem dX4_digest_222 : decode cX4_digest 222 = .ok (.iload 4, 2) := by decide +kernel
theorem dX4_digest_224 : decode cX4_digest 224 = .ok (.aload_n 0, 1) := by decide +kernel
theorem dX4_digest_225 : decode cX4_digest 225 = .ok (.getfield 39, 3) := by decide +kernel
theorem dX4_digest_228 : decode cX4_digest 228 = .ok (.if_icmp .ge 63, 3) := by decide +kernel
theorem dX4_digest_231 : decode cX4_digest 231 = .ok (.lload_n 2, 1) := by decide +kernel
theorem dX4_digest_232 : decode cX4_digest 232 = .ok (.ldc2_w 123, 3) := by decide +kernel
theorem dX4_digest_235 : decode cX4_digest 235 = .ok (.lmul, 1) := by decide +kernel
theorem dX4_digest_236 : decode cX4_digest 236 = .ok (.aload_n 0, 1) := by decide +kernel
theorem dX4_digest_237 : decode cX4_digest 237 = .ok (.iload 4, 2) := by decide +kernel
theorem dX4_digest_239 : decode cX4_digest 239 = .ok (.invokevirtual 52, 3) := by decide +kernel
theorem dX4_digest_242 : decode cX4_digest 242 = .ok (.ifCond .eq 7, 3) := by decide +kernel
theorem dX4_digest_245 : decode cX4_digest 245 = .ok (.iconst 1, 1) := by decide +kernel
theorem dX4_digest_246 : decode cX4_digest 246 = .ok (.goto 4, 3) := by decide +kernel
theorem dX4_digest_249 : decode cX4_digest 249 = .ok (.iconst 0, 1) := by decide +kernel
theorem dX4_digest_250 : decode cX4_digest 250 = .ok (.i2l, 1) := by decide +kernel
theorem dX4_digest_251 : decode cX4_digest 251 = .ok (.ladd, 1) := by decide +kernel
theorem dX4_digest_252 : decode cX4_digest 252 = .ok (.ldc2_w 123, 3) := by decide +kernel
theorem dX4_digest_255 : decode cX4_digest 255 = .ok (.lmul, 1) := by decide +kernel
theorem dX4_digest_256 : decode cX4_digest 256 = .ok (.aload_n 0, 1) := by decide +kernel
theorem dX4_digest_257 : decode cX4_digest 257 = .ok (.getfield 26, 3) := by decide +kernel
theorem dX4_digest_260 : decode cX4_digest 260 = .ok (.bipush 30, 2) := by decide +kernel
theorem dX4_digest_262 : decode cX4_digest 262 = .ok (.iload 4, 2) := by decide +kernel
theorem dX4_digest_264 : decode cX4_digest 264 = .ok (.iadd, 1) := by decide +kernel
theorem dX4_digest_265 : decode cX4_digest 265 = .ok (.iaload, 1) := by decide +kernel
theorem dX4_digest_266 : decode cX4_digest 266 = .ok (.i2l, 1) := by decide +kernel
theorem dX4_digest_267 : decode cX4_digest 267 = .ok (.ladd, 1) := by decide +kernel
theorem dX4_digest_268 : decode cX4_digest 268 = .ok (.ldc2_w 123, 3) := by decide +kernel
theorem dX4_digest_271 : decode cX4_digest 271 = .ok (.lmul, 1) := by decide +kernel
theorem dX4_digest_272 : decode cX4_digest 272 = .ok (.aload_n 0, 1) := by decide +kernel
theorem dX4_digest_273 : decode cX4_digest 273 = .ok (.getfield 26, 3) := by decide +kernel
theorem dX4_digest_276 : decode cX4_digest 276 = .ok (.bipush 36, 2) := by decide +kernel
theorem dX4_digest_278 : decode cX4_digest 278 = .ok (.iload 4, 2) := by decide +kernel
theorem dX4_digest_280 : decode cX4_digest 280 = .ok (.iadd, 1) := by decide +kernel
theorem dX4_digest_281 : decode cX4_digest 281 = .ok (.iaload, 1) := by decide +kernel
theorem dX4_digest_282 : decode cX4_digest 282 = .ok (.i2l, 1) := by decide +kernel
theorem dX4_digest_283 : decode cX4_digest 283 = .ok (.ladd, 1) := by decide +kernel
theorem dX4_digest_284 : decode cX4_digest 284 = .ok (.lstore_n 2, 1) := by decide +kernel
theorem dX4_digest_285 : decode cX4_digest 285 = .ok (.iinc 4 1, 3) := by decide +kernel
theorem dX4_digest_288 : decode cX4_digest 288 = .ok (.goto (-66), 3) := by decide +kernel
theorem dX4_digest_291 : decode cX4_digest 291 = .ok (.lload_n 2, 1) := by decide +kernel
theorem dX4_digest_292 : decode cX4_digest 292 = .ok (.lreturn, 1) := by decide +kernel
theorem dJ9_max_7cf53_0 : decode cJ9_max_7cf53 0 = .ok (.iload_n 0, 1) := by decide +kernel
theorem dJ9_max_7cf53_1 : decode cJ9_max_7cf53 1 = .ok (.iload_n 1, 1) := by decide +kernel
theorem dJ9_max_7cf53_2 : decode cJ9_max_7cf53 2 = .ok (.if_icmp .lt 7, 3) := by decide +kernel
theorem dJ9_max_7cf53_5 : decode cJ9_max_7cf53 5 = .ok (.iload_n 0, 1) := by decide +kernel
theorem dJ9_max_7cf53_6 : decode cJ9_max_7cf53 6 = .ok (.goto 4, 3) := by decide +kernel
theorem dJ9_max_7cf53_9 : decode cJ9_max_7cf53 9 = .ok (.iload_n 1, 1) := by decide +kernel
theorem dJ9_max_7cf53_10 : decode cJ9_max_7cf53 10 = .ok (.ireturn, 1) := by decide +kernel
theorem dJ9_min_7cf53_0 : decode cJ9_min_7cf53 0 = .ok (.iload_n 0, 1) := by decide +kernel
theorem dJ9_min_7cf53_1 : decode cJ9_min_7cf53 1 = .ok (.iload_n 1, 1) := by decide +kernel
theorem dJ9_min_7cf53_2 : decode cJ9_min_7cf53 2 = .ok (.if_icmp .gt 7, 3) := by decide +kernel
theorem dJ9_min_7cf53_5 : decode cJ9_min_7cf53 5 = .ok (.iload_n 0, 1) := by decide +kernel
theorem dJ9_min_7cf53_6 : decode cJ9_min_7cf53 6 = .ok (.goto 4, 3) := by decide +kernel
theorem dJ9_min_7cf53_9 : decode cJ9_min_7cf53 9 = .ok (.iload_n 1, 1) := by decide +kernel
theorem dJ9_min_7cf53_10 : decode cJ9_min_7cf53 10 = .ok (.ireturn, 1) := by decide +kernel
set_option maxRecDepth 20000 in
theorem ggL_put_X3_put : GoodIn wsL_put wsX3_put := goodIn_ca (goodIn_ca (goodIn_r _ [7, 8, 9, 10, 11, 12, 13, 14, 6, 15, 16, 17, 18, 19, 20, 21, 22, 23, 24, 25, 26, 27, 28, 29, 30, 31, 32, 33, 34, 35, 36, 37, 38, 39, 40, 41, 42, 43, 44, 45, 46, 47] (by decide +kernel) (by decide +kernel)) (goodIn_sub (fun _ h => List.mem_cons_of_mem _ (List.mem_append_left _ (List.mem_append_right _ h))) (by decide +kernel))) (goodIn_sub (fun _ h => List.mem_cons_of_mem _ (List.mem_append_right _ h)) (by decide +kernel))
set_option maxRecDepth 20000 in
theorem gL_put_X3_put : GoodIn wsL_put (wsV RL 7 RX3 yX3_put wsX3_put) := goodIn_app (goodIn_of _ (by decide +kernel)) ggL_put_X3_put
theorem dL_put_0 : decode cL_put 0 = .ok (.aload_n 3, 1) := by decide +kernel
theorem dL_put_1 : decode cL_put 1 = .ok (.iconst 0, 1) := by decide +kernel
theorem dL_put_2 : decode cL_put 2 = .ok (.aload_n 0, 1) := by decide +kernel
theorem dL_put_3 : decode cL_put 3 = .ok (.iload_n 1, 1) := by decide +kernel
theorem dL_put_4 : decode cL_put 4 = .ok (.iload_n 2, 1) := by decide +kernel
theorem dL_put_5 : decode cL_put 5 = .ok (.invokevirtual 7, 3) := by decide +kernel
theorem dL_put_8 : decode cL_put 8 = .ok (.i2l, 1) := by decide +kernel
theorem dL_put_9 : decode cL_put 9 = .ok (.lastore, 1) := by decide +kernel
theorem dL_put_10 : decode cL_put 10 = .ok (.goto 11, 3) := by decide +kernel
theorem dL_put_13 : decode cL_put 13 = .ok (.astore 4, 2) := by decide +kernel
theorem dL_put_15 : decode cL_put 15 = .ok (.iconst 1, 1) := by decide +kernel
theorem dL_put_16 : decode cL_put 16 = .ok (.ireturn, 1) := by decide +kernel
theorem dL_put_17 : decode cL_put 17 = .ok (.astore 4, 2) := by decide +kernel
theorem dL_put_19 : decode cL_put 19 = .ok (.iconst 2, 1) := by decide +kernel
theorem dL_put_20 : decode cL_put 20 = .ok (.ireturn, 1) := by decide +kernel
theorem dL_put_21 : decode cL_put 21 = .ok (.iconst 0, 1) := by decide +kernel
theorem dL_put_22 : decode cL_put 22 = .ok (.ireturn, 1) := by decide +kernel
set_option maxRecDepth 20000 in
theorem ggL_pushToFront_X3_pushToFront : GoodIn wsL_pushToFront wsX3_pushToFront := goodIn_ca (goodIn_r _ [6, 7, 8, 9, 10, 11, 12, 5, 13, 14, 15, 16, 17, 18, 19, 20, 21, 22, 23, 24, 25, 26, 27, 28, 29, 30, 31, 32, 33, 34, 35, 36, 37, 38, 39, 40, 41, 42] (by decide +kernel) (by decide +kernel)) (goodIn_sub (fun _ h => List.mem_cons_of_mem _ (List.mem_append_right _ h)) (by decide +kernel))
set_option maxRecDepth 20000 in
theorem gL_pushToFront_X3_pushToFront : GoodIn wsL_pushToFront (wsV RL 17 RX3 yX3_pushToFront wsX3_pushToFront) := goodIn_app (goodIn_of _ (by decide +kernel)) ggL_pushToFront_X3_pushToFront
theorem dL_pushToFront_0 : decode cL_pushToFront 0 = .ok (.aload_n 2, 1) := by decide +kernel
theorem dL_pushToFront_1 : decode cL_pushToFront 1 = .ok (.iconst 0, 1) := by decide +kernel
theorem dL_pushToFront_2 : decode cL_pushToFront 2 = .ok (.aload_n 0, 1) := by decide +kernel
theorem dL_pushToFront_3 : decode cL_pushToFront 3 = .ok (.iload_n 1, 1) := by decide +kernel
theorem dL_pushToFront_4 : decode cL_pushToFront 4 = .ok (.invokevirtual 17, 3) := by decide +kernel
theorem dL_pushToFront_7 : decode cL_pushToFront 7 = .ok (.i2l, 1) := by decide +kernel
theorem dL_pushToFront_8 : decode cL_pushToFront 8 = .ok (.lastore, 1) := by decide +kernel
theorem dL_pushToFront_9 : decode cL_pushToFront 9 = .ok (.goto 6, 3) := by decide +kernel
theorem dL_pushToFront_12 : decode cL_pushToFront 12 = .ok (.astore_n 3, 1) := by decide +kernel
theorem dL_pushToFront_13 : decode cL_pushToFront 13 = .ok (.iconst 1, 1) := by decide +kernel
theorem dL_pushToFront_14 : decode cL_pushToFront 14 = .ok (.ireturn, 1) := by decide +kernel
theorem dL_pushToFront_15 : decode cL_pushToFront 15 = .ok (.iconst 0, 1) := by decide +kernel
theorem dL_pushToFront_16 : decode cL_pushToFront 16 = .ok (.ireturn, 1) := by decide +kernel
set_option maxRecDepth 20000 in
theorem ggL_drop_X3_drop : GoodIn wsL_drop wsX3_drop := goodIn_ca (goodIn_r _ [6, 7, 8, 9, 10, 11, 12, 5, 13, 14, 15, 16, 17, 18, 19, 20, 21, 22, 23, 24, 25, 26, 27, 28, 29, 30, 31, 32, 33, 34, 35, 36, 37, 38, 39, 40, 41, 42] (by decide +kernel) (by decide +kernel)) (goodIn_sub (fun _ h => List.mem_cons_of_mem _ (List.mem_append_right _ h)) (by decide +kernel))
set_option maxRecDepth 20000 in
theorem gL_drop_X3_drop : GoodIn wsL_drop (wsV RL 23 RX3 yX3_drop wsX3_drop) := goodIn_app (goodIn_of _ (by decide +kernel)) ggL_drop_X3_drop
theorem dL_drop_0 : decode cL_drop 0 = .ok (.aload_n 2, 1) := by decide +kernel
theorem dL_drop_1 : decode cL_drop 1 = .ok (.iconst 0, 1) := by decide +kernel
theorem dL_drop_2 : decode cL_drop 2 = .ok (.aload_n 0, 1) := by decide +kernel
theorem dL_drop_3 : decode cL_drop 3 = .ok (.iload_n 1, 1) := by decide +kernel
theorem dL_drop_4 : decode cL_drop 4 = .ok (.invokevirtual 23, 3) := by decide +kernel
theorem dL_drop_7 : decode cL_drop 7 = .ok (.i2l, 1) := by decide +kernel
theorem dL_drop_8 : decode cL_drop 8 = .ok (.lastore, 1) := by decide +kernel
theorem dL_drop_9 : decode cL_drop 9 = .ok (.goto 6, 3) := by decide +kernel
theorem dL_drop_12 : decode cL_drop 12 = .ok (.astore_n 3, 1) := by decide +kernel
theorem dL_drop_13 : decode cL_drop 13 = .ok (.iconst 1, 1) := by decide +kernel
theorem dL_drop_14 : decode cL_drop 14 = .ok (.ireturn, 1) := by decide +kernel
theorem dL_drop_15 : decode cL_drop 15 = .ok (.iconst 0, 1) := by decide +kernel
theorem dL_drop_16 : decode cL_drop 16 = .ok (.ireturn, 1) := by decide +kernel
set_option maxRecDepth 20000 in
theorem ggL_setGear_X3_setGear : GoodIn wsL_setGear wsX3_setGear := goodIn_ca (goodIn_r _ [6, 7, 8, 9, 10, 11, 12, 13, 14, 15, 16, 17, 18, 19, 20, 21] (by decide +kernel) (by decide +kernel)) (goodIn_sub (fun _ h => List.mem_cons_of_mem _ (List.mem_append_right _ h)) (by decide +kernel))
set_option maxRecDepth 20000 in
theorem gL_setGear_X3_setGear : GoodIn wsL_setGear (wsV RL 26 RX3 yX3_setGear wsX3_setGear) := goodIn_app (goodIn_of _ (by decide +kernel)) ggL_setGear_X3_setGear
theorem dL_setGear_0 : decode cL_setGear 0 = .ok (.aload_n 2, 1) := by decide +kernel
theorem dL_setGear_1 : decode cL_setGear 1 = .ok (.iconst 0, 1) := by decide +kernel
theorem dL_setGear_2 : decode cL_setGear 2 = .ok (.aload_n 0, 1) := by decide +kernel
theorem dL_setGear_3 : decode cL_setGear 3 = .ok (.iload_n 1, 1) := by decide +kernel
theorem dL_setGear_4 : decode cL_setGear 4 = .ok (.invokevirtual 26, 3) := by decide +kernel
theorem dL_setGear_7 : decode cL_setGear 7 = .ok (.i2l, 1) := by decide +kernel
theorem dL_setGear_8 : decode cL_setGear 8 = .ok (.lastore, 1) := by decide +kernel
theorem dL_setGear_9 : decode cL_setGear 9 = .ok (.goto 6, 3) := by decide +kernel
theorem dL_setGear_12 : decode cL_setGear 12 = .ok (.astore_n 3, 1) := by decide +kernel
theorem dL_setGear_13 : decode cL_setGear 13 = .ok (.iconst 1, 1) := by decide +kernel
theorem dL_setGear_14 : decode cL_setGear 14 = .ok (.ireturn, 1) := by decide +kernel
theorem dL_setGear_15 : decode cL_setGear 15 = .ok (.iconst 0, 1) := by decide +kernel
theorem dL_setGear_16 : decode cL_setGear 16 = .ok (.ireturn, 1) := by decide +kernel
set_option maxRecDepth 20000 in
theorem ggL_setStones_X3_setStones : GoodIn wsL_setStones wsX3_setStones := goodIn_ca (goodIn_r _ [6, 7, 8, 9, 10, 11, 12, 13, 14, 15, 16, 17, 18, 19, 20, 21] (by decide +kernel) (by decide +kernel)) (goodIn_sub (fun _ h => List.mem_cons_of_mem _ (List.mem_append_right _ h)) (by decide +kernel))
set_option maxRecDepth 20000 in
theorem gL_setStones_X3_setStones : GoodIn wsL_setStones (wsV RL 29 RX3 yX3_setStones wsX3_setStones) := goodIn_app (goodIn_of _ (by decide +kernel)) ggL_setStones_X3_setStones
theorem dL_setStones_0 : decode cL_setStones 0 = .ok (.aload_n 2, 1) := by decide +kernel
theorem dL_setStones_1 : decode cL_setStones 1 = .ok (.iconst 0, 1) := by decide +kernel
theorem dL_setStones_2 : decode cL_setStones 2 = .ok (.aload_n 0, 1) := by decide +kernel
theorem dL_setStones_3 : decode cL_setStones 3 = .ok (.iload_n 1, 1) := by decide +kernel
theorem dL_setStones_4 : decode cL_setStones 4 = .ok (.invokevirtual 29, 3) := by decide +kernel
theorem dL_setStones_7 : decode cL_setStones 7 = .ok (.i2l, 1) := by decide +kernel
theorem dL_setStones_8 : decode cL_setStones 8 = .ok (.lastore, 1) := by decide +kernel
theorem dL_setStones_9 : decode cL_setStones 9 = .ok (.goto 6, 3) := by decide +kernel
theorem dL_setStones_12 : decode cL_setStones 12 = .ok (.astore_n 3, 1) := by decide +kernel
theorem dL_setStones_13 : decode cL_setStones 13 = .ok (.iconst 1, 1) := by decide +kernel
theorem dL_setStones_14 : decode cL_setStones 14 = .ok (.ireturn, 1) := by decide +kernel
theorem dL_setStones_15 : decode cL_setStones 15 = .ok (.iconst 0, 1) := by decide +kernel
theorem dL_setStones_16 : decode cL_setStones 16 = .ok (.ireturn, 1) := by decide +kernel
set_option maxRecDepth 20000 in
theorem ggL_setMesh_X3_setMesh : GoodIn wsL_setMesh wsX3_setMesh := goodIn_ca (goodIn_r _ [6, 7, 8, 9, 10, 11, 12, 13, 14, 15, 16, 17, 18, 19, 20, 21] (by decide +kernel) (by decide +kernel)) (goodIn_sub (fun _ h => List.mem_cons_of_mem _ (List.mem_append_right _ h)) (by decide +kernel))
set_option maxRecDepth 20000 in
theorem gL_setMesh_X3_setMesh : GoodIn wsL_setMesh (wsV RL 32 RX3 yX3_setMesh wsX3_setMesh) := goodIn_app (goodIn_of _ (by decide +kernel)) ggL_setMesh_X3_setMesh
theorem dL_setMesh_0 : decode cL_setMesh 0 = .ok (.aload_n 2, 1) := by decide +kernel
theorem dL_setMesh_1 : decode cL_setMesh 1 = .ok (.iconst 0, 1) := by decide +kernel
theorem dL_setMesh_2 : decode cL_setMesh 2 = .ok (.aload_n 0, 1) := by decide +kernel
theorem dL_setMesh_3 : decode cL_setMesh 3 = .ok (.iload_n 1, 1) := by decide +kernel
theorem dL_setMesh_4 : decode cL_setMesh 4 = .ok (.invokevirtual 32, 3) := by decide +kernel
theorem dL_setMesh_7 : decode cL_setMesh 7 = .ok (.i2l, 1) := by decide +kernel
theorem dL_setMesh_8 : decode cL_setMesh 8 = .ok (.lastore, 1) := by decide +kernel
theorem dL_setMesh_9 : decode cL_setMesh 9 = .ok (.goto 6, 3) := by decide +kernel
theorem dL_setMesh_12 : decode cL_setMesh 12 = .ok (.astore_n 3, 1) := by decide +kernel
theorem dL_setMesh_13 : decode cL_setMesh 13 = .ok (.iconst 1, 1) := by decide +kernel
theorem dL_setMesh_14 : decode cL_setMesh 14 = .ok (.ireturn, 1) := by decide +kernel
theorem dL_setMesh_15 : decode cL_setMesh 15 = .ok (.iconst 0, 1) := by decide +kernel
theorem dL_setMesh_16 : decode cL_setMesh 16 = .ok (.ireturn, 1) := by decide +kernel
set_option maxRecDepth 20000 in
theorem ggL_addTalker_X3_addTalker : GoodIn wsL_addTalker wsX3_addTalker := goodIn_ca (goodIn_ca (goodIn_r _ [7, 8, 9, 10, 11, 12, 13, 14, 15, 16, 6, 17, 18, 19, 20, 21, 22, 23, 24, 25, 26, 27, 28, 29, 30, 31, 32, 33, 34, 35, 36, 37, 38, 39, 40, 41, 42, 43, 44, 45, 46, 47, 48, 49, 50, 51, 52, 53] (by decide +kernel) (by decide +kernel)) (goodIn_sub (fun _ h => List.mem_cons_of_mem _ (List.mem_append_left _ (List.mem_append_right _ h))) (by decide +kernel))) (goodIn_sub (fun _ h => List.mem_cons_of_mem _ (List.mem_append_right _ h)) (by decide +kernel))
set_option maxRecDepth 20000 in
theorem gL_addTalker_X3_addTalker : GoodIn wsL_addTalker (wsV RL 35 RX3 yX3_addTalker wsX3_addTalker) := goodIn_app (goodIn_of _ (by decide +kernel)) ggL_addTalker_X3_addTalker
theorem dL_addTalker_0 : decode cL_addTalker 0 = .ok (.aload 4, 2) := by decide +kernel
theorem dL_addTalker_2 : decode cL_addTalker 2 = .ok (.iconst 0, 1) := by decide +kernel
theorem dL_addTalker_3 : decode cL_addTalker 3 = .ok (.aload_n 0, 1) := by decide +kernel
theorem dL_addTalker_4 : decode cL_addTalker 4 = .ok (.iload_n 1, 1) := by decide +kernel
theorem dL_addTalker_5 : decode cL_addTalker 5 = .ok (.iload_n 2, 1) := by decide +kernel
theorem dL_addTalker_6 : decode cL_addTalker 6 = .ok (.iload_n 3, 1) := by decide +kernel
theorem dL_addTalker_7 : decode cL_addTalker 7 = .ok (.invokevirtual 35, 3) := by decide +kernel
theorem dL_addTalker_10 : decode cL_addTalker 10 = .ok (.i2l, 1) := by decide +kernel
theorem dL_addTalker_11 : decode cL_addTalker 11 = .ok (.lastore, 1) := by decide +kernel
theorem dL_addTalker_12 : decode cL_addTalker 12 = .ok (.goto 11, 3) := by decide +kernel
theorem dL_addTalker_15 : decode cL_addTalker 15 = .ok (.astore 5, 2) := by decide +kernel
theorem dL_addTalker_17 : decode cL_addTalker 17 = .ok (.iconst 1, 1) := by decide +kernel
theorem dL_addTalker_18 : decode cL_addTalker 18 = .ok (.ireturn, 1) := by decide +kernel
theorem dL_addTalker_19 : decode cL_addTalker 19 = .ok (.astore 5, 2) := by decide +kernel
theorem dL_addTalker_21 : decode cL_addTalker 21 = .ok (.iconst 2, 1) := by decide +kernel
theorem dL_addTalker_22 : decode cL_addTalker 22 = .ok (.ireturn, 1) := by decide +kernel
theorem dL_addTalker_23 : decode cL_addTalker 23 = .ok (.iconst 0, 1) := by decide +kernel
theorem dL_addTalker_24 : decode cL_addTalker 24 = .ok (.ireturn, 1) := by decide +kernel
set_option maxRecDepth 20000 in
theorem ggL_pass_X3_pass : GoodIn wsL_pass wsX3_pass := goodIn_ca (goodIn_r _ [6, 7, 8, 9, 10, 5, 11, 12, 13, 14, 15, 16, 17, 18, 19, 20, 21, 22, 23, 24, 25, 26, 27, 28, 29, 30, 31, 32, 33, 34, 35, 36, 37, 38, 39, 40, 41, 42, 43, 44, 45, 46, 47, 48, 49, 50, 51, 52, 53, 54, 55, 56, 57, 58, 59, 60, 61, 62, 63, 64, 65, 66, 67, 68, 69, 70, 71, 72, 73, 74, 75, 76, 77, 78, 79, 80, 81, 82, 83, 84, 85, 86, 87, 88, 89, 90, 91, 92, 93, 94, 95, 96, 97, 98, 99, 100, 101, 102, 103, 104, 105] (by decide +kernel) (by decide +kernel)) (goodIn_sub (fun _ h => List.mem_cons_of_mem _ (List.mem_append_right _ h)) (by decide +kernel))
set_option maxRecDepth 20000 in
theorem gL_pass_X3_pass : GoodIn wsL_pass (wsV RL 39 RX3 yX3_pass wsX3_pass) := goodIn_app (goodIn_of _ (by decide +kernel)) ggL_pass_X3_pass
theorem dL_pass_0 : decode cL_pass 0 = .ok (.aload_n 2, 1) := by decide +kernel
theorem dL_pass_1 : decode cL_pass 1 = .ok (.iconst 0, 1) := by decide +kernel
theorem dL_pass_2 : decode cL_pass 2 = .ok (.aload_n 0, 1) := by decide +kernel
theorem dL_pass_3 : decode cL_pass 3 = .ok (.iload_n 1, 1) := by decide +kernel
theorem dL_pass_4 : decode cL_pass 4 = .ok (.invokevirtual 39, 3) := by decide +kernel
theorem dL_pass_7 : decode cL_pass 7 = .ok (.i2l, 1) := by decide +kernel
theorem dL_pass_8 : decode cL_pass 8 = .ok (.lastore, 1) := by decide +kernel
theorem dL_pass_9 : decode cL_pass 9 = .ok (.goto 6, 3) := by decide +kernel
theorem dL_pass_12 : decode cL_pass 12 = .ok (.astore_n 3, 1) := by decide +kernel
theorem dL_pass_13 : decode cL_pass 13 = .ok (.iconst 1, 1) := by decide +kernel
theorem dL_pass_14 : decode cL_pass 14 = .ok (.ireturn, 1) := by decide +kernel
theorem dL_pass_15 : decode cL_pass 15 = .ok (.iconst 0, 1) := by decide +kernel
theorem dL_pass_16 : decode cL_pass 16 = .ok (.ireturn, 1) := by decide +kernel
set_option maxRecDepth 20000 in
theorem ggL_sizeAt_X3_sizeAt : GoodIn wsL_sizeAt wsX3_sizeAt := goodIn_ca (goodIn_r _ [6, 7, 8, 9, 10, 11, 12, 5, 13, 14, 15, 16, 17, 18, 19, 20, 21, 22, 23, 24, 25, 26, 27, 28, 29, 30, 31, 32, 33, 34, 35] (by decide +kernel) (by decide +kernel)) (goodIn_sub (fun _ h => List.mem_cons_of_mem _ (List.mem_append_right _ h)) (by decide +kernel))
set_option maxRecDepth 20000 in
theorem gL_sizeAt_X3_sizeAt : GoodIn wsL_sizeAt (wsV RL 42 RX3 yX3_sizeAt wsX3_sizeAt) := goodIn_app (goodIn_of _ (by decide +kernel)) ggL_sizeAt_X3_sizeAt
theorem dL_sizeAt_0 : decode cL_sizeAt 0 = .ok (.aload_n 2, 1) := by decide +kernel
theorem dL_sizeAt_1 : decode cL_sizeAt 1 = .ok (.iconst 0, 1) := by decide +kernel
theorem dL_sizeAt_2 : decode cL_sizeAt 2 = .ok (.aload_n 0, 1) := by decide +kernel
theorem dL_sizeAt_3 : decode cL_sizeAt 3 = .ok (.iload_n 1, 1) := by decide +kernel
theorem dL_sizeAt_4 : decode cL_sizeAt 4 = .ok (.invokevirtual 42, 3) := by decide +kernel
theorem dL_sizeAt_7 : decode cL_sizeAt 7 = .ok (.i2l, 1) := by decide +kernel
theorem dL_sizeAt_8 : decode cL_sizeAt 8 = .ok (.lastore, 1) := by decide +kernel
theorem dL_sizeAt_9 : decode cL_sizeAt 9 = .ok (.goto 6, 3) := by decide +kernel
theorem dL_sizeAt_12 : decode cL_sizeAt 12 = .ok (.astore_n 3, 1) := by decide +kernel
theorem dL_sizeAt_13 : decode cL_sizeAt 13 = .ok (.iconst 1, 1) := by decide +kernel
theorem dL_sizeAt_14 : decode cL_sizeAt 14 = .ok (.ireturn, 1) := by decide +kernel
theorem dL_sizeAt_15 : decode cL_sizeAt 15 = .ok (.iconst 0, 1) := by decide +kernel
theorem dL_sizeAt_16 : decode cL_sizeAt 16 = .ok (.ireturn, 1) := by decide +kernel
set_option maxRecDepth 20000 in
theorem ggL_kindAt_X3_kindAt : GoodIn wsL_kindAt wsX3_kindAt := goodIn_ca (goodIn_r _ [6, 7, 8, 9, 10, 11, 12, 5, 13, 14, 15, 16, 17, 18, 19, 20, 21, 22, 23, 24, 25, 26, 27, 28, 29, 30, 31, 32, 33, 34, 35] (by decide +kernel) (by decide +kernel)) (goodIn_sub (fun _ h => List.mem_cons_of_mem _ (List.mem_append_right _ h)) (by decide +kernel))
set_option maxRecDepth 20000 in
theorem gL_kindAt_X3_kindAt : GoodIn wsL_kindAt (wsV RL 45 RX3 yX3_kindAt wsX3_kindAt) := goodIn_app (goodIn_of _ (by decide +kernel)) ggL_kindAt_X3_kindAt
theorem dL_kindAt_0 : decode cL_kindAt 0 = .ok (.aload_n 2, 1) := by decide +kernel
theorem dL_kindAt_1 : decode cL_kindAt 1 = .ok (.iconst 0, 1) := by decide +kernel
theorem dL_kindAt_2 : decode cL_kindAt 2 = .ok (.aload_n 0, 1) := by decide +kernel
theorem dL_kindAt_3 : decode cL_kindAt 3 = .ok (.iload_n 1, 1) := by decide +kernel
theorem dL_kindAt_4 : decode cL_kindAt 4 = .ok (.invokevirtual 45, 3) := by decide +kernel
theorem dL_kindAt_7 : decode cL_kindAt 7 = .ok (.i2l, 1) := by decide +kernel
theorem dL_kindAt_8 : decode cL_kindAt 8 = .ok (.lastore, 1) := by decide +kernel
theorem dL_kindAt_9 : decode cL_kindAt 9 = .ok (.goto 6, 3) := by decide +kernel
theorem dL_kindAt_12 : decode cL_kindAt 12 = .ok (.astore_n 3, 1) := by decide +kernel
theorem dL_kindAt_13 : decode cL_kindAt 13 = .ok (.iconst 1, 1) := by decide +kernel
theorem dL_kindAt_14 : decode cL_kindAt 14 = .ok (.ireturn, 1) := by decide +kernel
theorem dL_kindAt_15 : decode cL_kindAt 15 = .ok (.iconst 0, 1) := by decide +kernel
theorem dL_kindAt_16 : decode cL_kindAt 16 = .ok (.ireturn, 1) := by decide +kernel
set_option maxRecDepth 20000 in
theorem ggL_topicsOf_X3_topicsOf : GoodIn wsL_topicsOf wsX3_topicsOf := goodIn_ca (goodIn_r _ [6, 7, 8, 9, 10, 11, 12, 5, 13, 14, 15, 16, 17, 18, 19, 20, 21, 22, 23, 24, 25, 26, 27, 28, 29, 30, 31, 32, 33, 34] (by decide +kernel) (by decide +kernel)) (goodIn_sub (fun _ h => List.mem_cons_of_mem _ (List.mem_append_right _ h)) (by decide +kernel))
set_option maxRecDepth 20000 in
theorem gL_topicsOf_X3_topicsOf : GoodIn wsL_topicsOf (wsV RL 48 RX3 yX3_topicsOf wsX3_topicsOf) := goodIn_app (goodIn_of _ (by decide +kernel)) ggL_topicsOf_X3_topicsOf
theorem dL_topicsOf_0 : decode cL_topicsOf 0 = .ok (.aload_n 2, 1) := by decide +kernel
theorem dL_topicsOf_1 : decode cL_topicsOf 1 = .ok (.iconst 0, 1) := by decide +kernel
theorem dL_topicsOf_2 : decode cL_topicsOf 2 = .ok (.aload_n 0, 1) := by decide +kernel
theorem dL_topicsOf_3 : decode cL_topicsOf 3 = .ok (.iload_n 1, 1) := by decide +kernel
theorem dL_topicsOf_4 : decode cL_topicsOf 4 = .ok (.invokevirtual 48, 3) := by decide +kernel
theorem dL_topicsOf_7 : decode cL_topicsOf 7 = .ok (.i2l, 1) := by decide +kernel
theorem dL_topicsOf_8 : decode cL_topicsOf 8 = .ok (.lastore, 1) := by decide +kernel
theorem dL_topicsOf_9 : decode cL_topicsOf 9 = .ok (.goto 6, 3) := by decide +kernel
theorem dL_topicsOf_12 : decode cL_topicsOf 12 = .ok (.astore_n 3, 1) := by decide +kernel
theorem dL_topicsOf_13 : decode cL_topicsOf 13 = .ok (.iconst 1, 1) := by decide +kernel
theorem dL_topicsOf_14 : decode cL_topicsOf 14 = .ok (.ireturn, 1) := by decide +kernel
theorem dL_topicsOf_15 : decode cL_topicsOf 15 = .ok (.iconst 0, 1) := by decide +kernel
theorem dL_topicsOf_16 : decode cL_topicsOf 16 = .ok (.ireturn, 1) := by decide +kernel
set_option maxRecDepth 20000 in
theorem ggL_turnsToNod_X3_turnsToNod : GoodIn wsL_turnsToNod wsX3_turnsToNod := goodIn_ca (goodIn_r _ [6, 7, 8, 9, 10, 11, 12, 13, 5, 14, 15, 16, 17, 18, 19, 20, 21, 22, 23, 24, 25, 26, 27, 28, 29, 30, 31, 32, 33, 34, 35, 36, 37, 38, 39] (by decide +kernel) (by decide +kernel)) (goodIn_sub (fun _ h => List.mem_cons_of_mem _ (List.mem_append_right _ h)) (by decide +kernel))
set_option maxRecDepth 20000 in
theorem gL_turnsToNod_X3_turnsToNod : GoodIn wsL_turnsToNod (wsV RL 51 RX3 yX3_turnsToNod wsX3_turnsToNod) := goodIn_app (goodIn_of _ (by decide +kernel)) ggL_turnsToNod_X3_turnsToNod
theorem dL_turnsToNod_0 : decode cL_turnsToNod 0 = .ok (.aload_n 2, 1) := by decide +kernel
theorem dL_turnsToNod_1 : decode cL_turnsToNod 1 = .ok (.iconst 0, 1) := by decide +kernel
theorem dL_turnsToNod_2 : decode cL_turnsToNod 2 = .ok (.aload_n 0, 1) := by decide +kernel
theorem dL_turnsToNod_3 : decode cL_turnsToNod 3 = .ok (.iload_n 1, 1) := by decide +kernel
theorem dL_turnsToNod_4 : decode cL_turnsToNod 4 = .ok (.invokevirtual 51, 3) := by decide +kernel
theorem dL_turnsToNod_7 : decode cL_turnsToNod 7 = .ok (.i2l, 1) := by decide +kernel
theorem dL_turnsToNod_8 : decode cL_turnsToNod 8 = .ok (.lastore, 1) := by decide +kernel
theorem dL_turnsToNod_9 : decode cL_turnsToNod 9 = .ok (.goto 6, 3) := by decide +kernel
theorem dL_turnsToNod_12 : decode cL_turnsToNod 12 = .ok (.astore_n 3, 1) := by decide +kernel
theorem dL_turnsToNod_13 : decode cL_turnsToNod 13 = .ok (.iconst 1, 1) := by decide +kernel
theorem dL_turnsToNod_14 : decode cL_turnsToNod 14 = .ok (.ireturn, 1) := by decide +kernel
theorem dL_turnsToNod_15 : decode cL_turnsToNod 15 = .ok (.iconst 0, 1) := by decide +kernel
theorem dL_turnsToNod_16 : decode cL_turnsToNod 16 = .ok (.ireturn, 1) := by decide +kernel
set_option maxRecDepth 20000 in
theorem ggL_isPresent_X3_isPresent : GoodIn wsL_isPresent wsX3_isPresent := goodIn_ca (goodIn_r _ [6, 7, 8, 9, 10, 11, 5, 12, 13, 14, 15, 16, 17, 18, 19, 20, 21, 22, 23, 24, 25, 26, 27, 28, 29, 30, 31, 32, 33, 34, 35, 36, 37, 38, 39, 40, 41, 42, 43] (by decide +kernel) (by decide +kernel)) (goodIn_sub (fun _ h => List.mem_cons_of_mem _ (List.mem_append_right _ h)) (by decide +kernel))
set_option maxRecDepth 20000 in
theorem gL_isPresent_X3_isPresent : GoodIn wsL_isPresent (wsV RL 54 RX3 yX3_isPresent wsX3_isPresent) := goodIn_app (goodIn_of _ (by decide +kernel)) ggL_isPresent_X3_isPresent
theorem dL_isPresent_0 : decode cL_isPresent 0 = .ok (.aload_n 2, 1) := by decide +kernel
theorem dL_isPresent_1 : decode cL_isPresent 1 = .ok (.iconst 0, 1) := by decide +kernel
theorem dL_isPresent_2 : decode cL_isPresent 2 = .ok (.aload_n 0, 1) := by decide +kernel
theorem dL_isPresent_3 : decode cL_isPresent 3 = .ok (.iload_n 1, 1) := by decide +kernel
theorem dL_isPresent_4 : decode cL_isPresent 4 = .ok (.invokevirtual 54, 3) := by decide +kernel
theorem dL_isPresent_7 : decode cL_isPresent 7 = .ok (.ifCond .eq 7, 3) := by decide +kernel
theorem dL_isPresent_10 : decode cL_isPresent 10 = .ok (.lconst 1, 1) := by decide +kernel
theorem dL_isPresent_11 : decode cL_isPresent 11 = .ok (.goto 4, 3) := by decide +kernel
theorem dL_isPresent_14 : decode cL_isPresent 14 = .ok (.lconst 0, 1) := by decide +kernel
theorem dL_isPresent_15 : decode cL_isPresent 15 = .ok (.lastore, 1) := by decide +kernel
theorem dL_isPresent_16 : decode cL_isPresent 16 = .ok (.goto 6, 3) := by decide +kernel
theorem dL_isPresent_19 : decode cL_isPresent 19 = .ok (.astore_n 3, 1) := by decide +kernel
theorem dL_isPresent_20 : decode cL_isPresent 20 = .ok (.iconst 1, 1) := by decide +kernel
theorem dL_isPresent_21 : decode cL_isPresent 21 = .ok (.ireturn, 1) := by decide +kernel
theorem dL_isPresent_22 : decode cL_isPresent 22 = .ok (.iconst 0, 1) := by decide +kernel
theorem dL_isPresent_23 : decode cL_isPresent 23 = .ok (.ireturn, 1) := by decide +kernel
set_option maxRecDepth 20000 in
theorem ggL_patienceOf_X3_patienceOf : GoodIn wsL_patienceOf wsX3_patienceOf := goodIn_ca (goodIn_r _ [6, 7, 8, 9, 10, 11, 12, 5, 13, 14, 15, 16, 17, 18, 19, 20, 21, 22, 23, 24, 25, 26, 27, 28, 29, 30, 31, 32, 33, 34, 35, 36, 37, 38] (by decide +kernel) (by decide +kernel)) (goodIn_sub (fun _ h => List.mem_cons_of_mem _ (List.mem_append_right _ h)) (by decide +kernel))
set_option maxRecDepth 20000 in
theorem gL_patienceOf_X3_patienceOf : GoodIn wsL_patienceOf (wsV RL 58 RX3 yX3_patienceOf wsX3_patienceOf) := goodIn_app (goodIn_of _ (by decide +kernel)) ggL_patienceOf_X3_patienceOf
theorem dL_patienceOf_0 : decode cL_patienceOf 0 = .ok (.aload_n 2, 1) := by decide +kernel
theorem dL_patienceOf_1 : decode cL_patienceOf 1 = .ok (.iconst 0, 1) := by decide +kernel
theorem dL_patienceOf_2 : decode cL_patienceOf 2 = .ok (.aload_n 0, 1) := by decide +kernel
theorem dL_patienceOf_3 : decode cL_patienceOf 3 = .ok (.iload_n 1, 1) := by decide +kernel
theorem dL_patienceOf_4 : decode cL_patienceOf 4 = .ok (.invokevirtual 58, 3) := by decide +kernel
theorem dL_patienceOf_7 : decode cL_patienceOf 7 = .ok (.i2l, 1) := by decide +kernel
theorem dL_patienceOf_8 : decode cL_patienceOf 8 = .ok (.lastore, 1) := by decide +kernel
theorem dL_patienceOf_9 : decode cL_patienceOf 9 = .ok (.goto 6, 3) := by decide +kernel
theorem dL_patienceOf_12 : decode cL_patienceOf 12 = .ok (.astore_n 3, 1) := by decide +kernel
theorem dL_patienceOf_13 : decode cL_patienceOf 13 = .ok (.iconst 1, 1) := by decide +kernel
theorem dL_patienceOf_14 : decode cL_patienceOf 14 = .ok (.ireturn, 1) := by decide +kernel
theorem dL_patienceOf_15 : decode cL_patienceOf 15 = .ok (.iconst 0, 1) := by decide +kernel
theorem dL_patienceOf_16 : decode cL_patienceOf 16 = .ok (.ireturn, 1) := by decide +kernel
set_option maxRecDepth 20000 in
theorem ggL_exitOf_X3_exitOf : GoodIn wsL_exitOf wsX3_exitOf := goodIn_ca (goodIn_r _ [6, 7, 8, 9, 10, 11, 12, 5, 13, 14, 15, 16, 17, 18, 19, 20, 21, 22, 23, 24, 25, 26, 27, 28, 29, 30, 31, 32, 33, 34, 35, 36, 37, 38] (by decide +kernel) (by decide +kernel)) (goodIn_sub (fun _ h => List.mem_cons_of_mem _ (List.mem_append_right _ h)) (by decide +kernel))
set_option maxRecDepth 20000 in
theorem gL_exitOf_X3_exitOf : GoodIn wsL_exitOf (wsV RL 61 RX3 yX3_exitOf wsX3_exitOf) := goodIn_app (goodIn_of _ (by decide +kernel)) ggL_exitOf_X3_exitOf
theorem dL_exitOf_0 : decode cL_exitOf 0 = .ok (.aload_n 2, 1) := by decide +kernel
theorem dL_exitOf_1 : decode cL_exitOf 1 = .ok (.iconst 0, 1) := by decide +kernel
theorem dL_exitOf_2 : decode cL_exitOf 2 = .ok (.aload_n 0, 1) := by decide +kernel
theorem dL_exitOf_3 : decode cL_exitOf 3 = .ok (.iload_n 1, 1) := by decide +kernel
theorem dL_exitOf_4 : decode cL_exitOf 4 = .ok (.invokevirtual 61, 3) := by decide +kernel
theorem dL_exitOf_7 : decode cL_exitOf 7 = .ok (.i2l, 1) := by decide +kernel
theorem dL_exitOf_8 : decode cL_exitOf 8 = .ok (.lastore, 1) := by decide +kernel
theorem dL_exitOf_9 : decode cL_exitOf 9 = .ok (.goto 6, 3) := by decide +kernel
theorem dL_exitOf_12 : decode cL_exitOf 12 = .ok (.astore_n 3, 1) := by decide +kernel
theorem dL_exitOf_13 : decode cL_exitOf 13 = .ok (.iconst 1, 1) := by decide +kernel
theorem dL_exitOf_14 : decode cL_exitOf 14 = .ok (.ireturn, 1) := by decide +kernel
theorem dL_exitOf_15 : decode cL_exitOf 15 = .ok (.iconst 0, 1) := by decide +kernel
theorem dL_exitOf_16 : decode cL_exitOf 16 = .ok (.ireturn, 1) := by decide +kernel
set_option maxRecDepth 20000 in
theorem ggL_noiseIn_X3_noiseIn : GoodIn wsL_noiseIn wsX3_noiseIn := goodIn_ca (goodIn_r _ [6, 7, 8, 9, 10, 11, 5, 12, 13, 14, 15, 16, 17, 18, 19, 20, 21, 22, 23, 24, 25, 26, 27, 28, 29, 30, 31, 32, 33, 34, 35, 36, 37, 38, 39, 40, 41, 42, 43, 44, 45, 46, 47, 48, 49, 50, 51, 52, 53, 54, 55, 56, 57, 58, 59, 60, 61, 62, 63, 64, 65, 66, 67, 68, 69, 70, 71, 72, 73, 74, 75, 76, 77, 78, 79, 80, 81, 82, 83, 84, 85, 86, 87, 88, 89, 90, 91, 92, 93, 94, 95, 96, 97, 98, 99, 100, 101, 102, 103, 104, 105, 106, 107, 108, 109, 110, 111, 112, 113, 114, 115] (by decide +kernel) (by decide +kernel)) (goodIn_sub (fun _ h => List.mem_cons_of_mem _ (List.mem_append_right _ h)) (by decide +kernel))
set_option maxRecDepth 20000 in
theorem gL_noiseIn_X3_noiseIn : GoodIn wsL_noiseIn (wsV RL 64 RX3 yX3_noiseIn wsX3_noiseIn) := goodIn_app (goodIn_of _ (by decide +kernel)) ggL_noiseIn_X3_noiseIn
theorem dL_noiseIn_0 : decode cL_noiseIn 0 = .ok (.aload_n 2, 1) := by decide +kernel
theorem dL_noiseIn_1 : decode cL_noiseIn 1 = .ok (.iconst 0, 1) := by decide +kernel
theorem dL_noiseIn_2 : decode cL_noiseIn 2 = .ok (.aload_n 0, 1) := by decide +kernel
theorem dL_noiseIn_3 : decode cL_noiseIn 3 = .ok (.iload_n 1, 1) := by decide +kernel
theorem dL_noiseIn_4 : decode cL_noiseIn 4 = .ok (.invokevirtual 64, 3) := by decide +kernel
theorem dL_noiseIn_7 : decode cL_noiseIn 7 = .ok (.i2l, 1) := by decide +kernel
theorem dL_noiseIn_8 : decode cL_noiseIn 8 = .ok (.lastore, 1) := by decide +kernel
theorem dL_noiseIn_9 : decode cL_noiseIn 9 = .ok (.goto 6, 3) := by decide +kernel
theorem dL_noiseIn_12 : decode cL_noiseIn 12 = .ok (.astore_n 3, 1) := by decide +kernel
theorem dL_noiseIn_13 : decode cL_noiseIn 13 = .ok (.iconst 1, 1) := by decide +kernel
theorem dL_noiseIn_14 : decode cL_noiseIn 14 = .ok (.ireturn, 1) := by decide +kernel
theorem dL_noiseIn_15 : decode cL_noiseIn 15 = .ok (.iconst 0, 1) := by decide +kernel
theorem dL_noiseIn_16 : decode cL_noiseIn 16 = .ok (.ireturn, 1) := by decide +kernel
set_option maxRecDepth 20000 in
theorem ggL_minutesUntilExit_X3_minutesUntilExit : GoodIn wsL_minutesUntilExit wsX3_minutesUntilExit := goodIn_ca (goodIn_r _ [6, 7, 8, 9, 10, 11, 12, 5, 13, 14, 15, 16, 17, 18, 19, 20, 21, 22, 23, 24, 25, 26, 27, 28, 29, 30, 31, 32, 33, 34, 35, 36, 37, 38, 39, 40, 41, 42, 43, 44, 45, 46, 47, 48, 49, 50, 51, 52, 53, 54, 55, 56, 57, 58, 59, 60, 61, 62, 63, 64, 65, 66, 67, 68, 69, 70, 71, 72, 73, 74, 75, 76, 77, 78, 79, 80, 81, 82, 83, 84, 85, 86, 87, 88, 89, 90, 91, 92, 93, 94, 95, 96, 97, 98, 99, 100, 101, 102, 103, 104, 105, 106, 107, 108, 109, 110, 111, 112, 113, 114, 115, 116, 117, 118, 119, 120] (by decide +kernel) (by decide +kernel)) (goodIn_sub (fun _ h => List.mem_cons_of_mem _ (List.mem_append_right _ h)) (by decide +kernel))
set_option maxRecDepth 20000 in
theorem gL_minutesUntilExit_X3_minutesUntilExit : GoodIn wsL_minutesUntilExit (wsV RL 67 RX3 yX3_minutesUntilExit wsX3_minutesUntilExit) := goodIn_app (goodIn_of _ (by decide +kernel)) ggL_minutesUntilExit_X3_minutesUntilExit
theorem dL_minutesUntilExit_0 : decode cL_minutesUntilExit 0 = .ok (.aload_n 2, 1) := by decide +kernel
theorem dL_minutesUntilExit_1 : decode cL_minutesUntilExit 1 = .ok (.iconst 0, 1) := by decide +kernel
theorem dL_minutesUntilExit_2 : decode cL_minutesUntilExit 2 = .ok (.aload_n 0, 1) := by decide +kernel
theorem dL_minutesUntilExit_3 : decode cL_minutesUntilExit 3 = .ok (.iload_n 1, 1) := by decide +kernel
theorem dL_minutesUntilExit_4 : decode cL_minutesUntilExit 4 = .ok (.invokevirtual 67, 3) := by decide +kernel
theorem dL_minutesUntilExit_7 : decode cL_minutesUntilExit 7 = .ok (.i2l, 1) := by decide +kernel
theorem dL_minutesUntilExit_8 : decode cL_minutesUntilExit 8 = .ok (.lastore, 1) := by decide +kernel
theorem dL_minutesUntilExit_9 : decode cL_minutesUntilExit 9 = .ok (.goto 6, 3) := by decide +kernel
theorem dL_minutesUntilExit_12 : decode cL_minutesUntilExit 12 = .ok (.astore_n 3, 1) := by decide +kernel
theorem dL_minutesUntilExit_13 : decode cL_minutesUntilExit 13 = .ok (.iconst 1, 1) := by decide +kernel
theorem dL_minutesUntilExit_14 : decode cL_minutesUntilExit 14 = .ok (.ireturn, 1) := by decide +kernel
theorem dL_minutesUntilExit_15 : decode cL_minutesUntilExit 15 = .ok (.iconst 0, 1) := by decide +kernel
theorem dL_minutesUntilExit_16 : decode cL_minutesUntilExit 16 = .ok (.ireturn, 1) := by decide +kernel
set_option maxRecDepth 20000 in
theorem ggL_bottlesIn_X3_bottlesIn : GoodIn wsL_bottlesIn wsX3_bottlesIn := goodIn_ca (goodIn_r _ [6, 7, 8, 9, 10, 11, 5, 12, 13, 14, 15, 16, 17, 18, 19, 20, 21, 22, 23, 24, 25, 26, 27, 28, 29, 30, 31, 32, 33, 34, 35, 36, 37, 38, 39, 40, 41, 42, 43, 44, 45, 46, 47, 48, 49, 50, 51, 52, 53, 54, 55, 56, 57, 58, 59, 60, 61, 62, 63, 64, 65, 66, 67, 68, 69, 70, 71, 72, 73, 74, 75, 76, 77, 78, 79, 80, 81, 82, 83, 84, 85, 86, 87, 88, 89, 90, 91, 92, 93, 94, 95, 96, 97, 98, 99, 100, 101, 102, 103, 104, 105, 106, 107, 108, 109, 110, 111, 112, 113, 114] (by decide +kernel) (by decide +kernel)) (goodIn_sub (fun _ h => List.mem_cons_of_mem _ (List.mem_append_right _ h)) (by decide +kernel))
set_option maxRecDepth 20000 in
theorem gL_bottlesIn_X3_bottlesIn : GoodIn wsL_bottlesIn (wsV RL 70 RX3 yX3_bottlesIn wsX3_bottlesIn) := goodIn_app (goodIn_of _ (by decide +kernel)) ggL_bottlesIn_X3_bottlesIn
theorem dL_bottlesIn_0 : decode cL_bottlesIn 0 = .ok (.aload_n 2, 1) := by decide +kernel
theorem dL_bottlesIn_1 : decode cL_bottlesIn 1 = .ok (.iconst 0, 1) := by decide +kernel
theorem dL_bottlesIn_2 : decode cL_bottlesIn 2 = .ok (.aload_n 0, 1) := by decide +kernel
theorem dL_bottlesIn_3 : decode cL_bottlesIn 3 = .ok (.iload_n 1, 1) := by decide +kernel
theorem dL_bottlesIn_4 : decode cL_bottlesIn 4 = .ok (.invokevirtual 70, 3) := by decide +kernel
theorem dL_bottlesIn_7 : decode cL_bottlesIn 7 = .ok (.i2l, 1) := by decide +kernel
theorem dL_bottlesIn_8 : decode cL_bottlesIn 8 = .ok (.lastore, 1) := by decide +kernel
theorem dL_bottlesIn_9 : decode cL_bottlesIn 9 = .ok (.goto 6, 3) := by decide +kernel
theorem dL_bottlesIn_12 : decode cL_bottlesIn 12 = .ok (.astore_n 3, 1) := by decide +kernel
theorem dL_bottlesIn_13 : decode cL_bottlesIn 13 = .ok (.iconst 1, 1) := by decide +kernel
theorem dL_bottlesIn_14 : decode cL_bottlesIn 14 = .ok (.ireturn, 1) := by decide +kernel
theorem dL_bottlesIn_15 : decode cL_bottlesIn 15 = .ok (.iconst 0, 1) := by decide +kernel
theorem dL_bottlesIn_16 : decode cL_bottlesIn 16 = .ok (.ireturn, 1) := by decide +kernel
set_option maxRecDepth 20000 in
theorem ggL_law_X3_init : GoodIn wsL_law wsX3_init := goodIn_r _ [9, 10, 11, 12, 13, 14, 15, 16, 17, 18, 19, 20, 21, 22, 23, 24, 25, 26, 27, 28, 29, 30, 31, 32, 33, 34, 35, 36, 37, 38, 39, 40, 41, 42, 43, 44, 45, 46, 47, 48, 49, 50, 51, 52, 53, 54, 694, 695, 696, 697, 698, 699, 700, 701, 702, 683, 684, 703, 704, 705, 706, 707, 708, 709, 710, 711] (by decide +kernel) (by decide +kernel)
set_option maxRecDepth 20000 in
theorem gL_law_X3_init : GoodIn wsL_law (wsX3_init) := ggL_law_X3_init
set_option maxRecDepth 20000 in
theorem ggL_law_X4_init : GoodIn wsL_law wsX4_init := goodIn_r _ [57, 58, 11, 12, 59, 60, 41, 61, 62, 63, 64, 65, 685, 686, 687, 688, 689, 690, 691, 692, 693] (by decide +kernel) (by decide +kernel)
set_option maxRecDepth 20000 in
theorem gL_law_X4_init : GoodIn wsL_law (wsX4_init) := ggL_law_X4_init
set_option maxRecDepth 20000 in
theorem ggL_law_L_put : GoodIn wsL_law wsL_put := goodIn_ca (goodIn_ca (goodIn_r _ [69, 70, 71, 72, 73, 74, 2, 75, 76, 77, 16, 78, 79, 80, 81, 82, 83, 84, 85, 86, 87, 88, 89, 90, 24, 91, 44, 92, 93, 94, 95, 42, 43, 96, 683, 684, 694, 695, 696, 697, 698, 699, 700, 701, 702, 703, 704, 705] (by decide +kernel) (by decide +kernel)) (goodIn_sub (fun _ h => List.mem_append_left _ (List.mem_append_left _ (List.mem_append_right _ h))) (by decide +kernel))) (goodIn_sub (fun _ h => List.mem_append_left _ (List.mem_append_right _ h)) (by decide +kernel))
set_option maxRecDepth 20000 in
theorem gL_law_L_put : GoodIn wsL_law (va_wsS RL 77 yL_put wsL_put) := goodIn_app (goodIn_of _ (by decide +kernel)) ggL_law_L_put
set_option maxRecDepth 20000 in
theorem ggL_law_X4_put : GoodIn wsL_law wsX4_put := goodIn_r _ [100, 101, 64, 102, 103, 5, 104, 105, 106, 107, 108, 109, 110, 111, 112, 113, 114, 115, 685, 686, 687, 688, 689, 690, 691, 692, 693] (by decide +kernel) (by decide +kernel)
set_option maxRecDepth 20000 in
theorem gL_law_X4_put : GoodIn wsL_law (wsV RL 82 RX4 yX4_put wsX4_put) := goodIn_app (goodIn_of _ (by decide +kernel)) ggL_law_X4_put
set_option maxRecDepth 20000 in
theorem ggL_law_X4_thrown : GoodIn wsL_law wsX4_thrown := goodIn_r _ [119, 101, 685, 686, 687, 688, 689, 690, 691, 692, 693] (by decide +kernel) (by decide +kernel)
set_option maxRecDepth 20000 in
theorem gL_law_X4_thrown : GoodIn wsL_law (wsV RL 83 RX4 yX4_thrown wsX4_thrown) := goodIn_app (goodIn_of _ (by decide +kernel)) ggL_law_X4_thrown
set_option maxRecDepth 20000 in
theorem ggL_law_L_pushToFront : GoodIn wsL_law wsL_pushToFront := goodIn_ca (goodIn_r _ [122, 123, 124, 125, 126, 2, 127, 16, 78, 128, 129, 130, 131, 132, 133, 134, 135, 136, 137, 24, 138, 44, 139, 140, 141, 142, 42, 43, 143, 683, 684, 694, 695, 696, 697, 698, 699, 700, 701, 702, 703, 704, 705] (by decide +kernel) (by decide +kernel)) (goodIn_sub (fun _ h => List.mem_append_right _ h) (by decide +kernel))
set_option maxRecDepth 20000 in
theorem gL_law_L_pushToFront : GoodIn wsL_law (va_wsS RL 87 yL_pushToFront wsL_pushToFront) := goodIn_app (goodIn_of _ (by decide +kernel)) ggL_law_L_pushToFront
set_option maxRecDepth 20000 in
theorem ggL_law_X4_pushToFront : GoodIn wsL_law wsX4_pushToFront := goodIn_r _ [147, 101, 64, 148, 149, 150, 5, 151, 105, 106, 107, 108, 109, 110, 111, 152, 153, 154, 155, 685, 686, 687, 688, 689, 690, 691, 692, 693] (by decide +kernel) (by decide +kernel)
set_option maxRecDepth 20000 in
theorem gL_law_X4_pushToFront : GoodIn wsL_law (wsV RL 90 RX4 yX4_pushToFront wsX4_pushToFront) := goodIn_app (goodIn_of _ (by decide +kernel)) ggL_law_X4_pushToFront
set_option maxRecDepth 20000 in
theorem ggL_law_L_drop : GoodIn wsL_law wsL_drop := goodIn_ca (goodIn_r _ [158, 123, 159, 160, 161, 2, 162, 16, 78, 79, 129, 130, 131, 132, 133, 134, 135, 136, 137, 24, 138, 44, 163, 164, 165, 166, 42, 43, 143, 683, 684, 694, 695, 696, 697, 698, 699, 700, 701, 702, 703, 704, 705] (by decide +kernel) (by decide +kernel)) (goodIn_sub (fun _ h => List.mem_append_right _ h) (by decide +kernel))
set_option maxRecDepth 20000 in
theorem gL_law_L_drop : GoodIn wsL_law (va_wsS RL 91 yL_drop wsL_drop) := goodIn_app (goodIn_of _ (by decide +kernel)) ggL_law_L_drop
set_option maxRecDepth 20000 in
theorem ggL_law_X4_drop : GoodIn wsL_law wsX4_drop := goodIn_r _ [170, 101, 64, 148, 149, 150, 5, 151, 105, 106, 107, 108, 109, 110, 111, 685, 686, 687, 688, 689, 690, 691, 692, 693] (by decide +kernel) (by decide +kernel)
set_option maxRecDepth 20000 in
theorem gL_law_X4_drop : GoodIn wsL_law (wsV RL 93 RX4 yX4_drop wsX4_drop) := goodIn_app (goodIn_of _ (by decide +kernel)) ggL_law_X4_drop
set_option maxRecDepth 20000 in
theorem ggL_law_L_setGear : GoodIn wsL_law wsL_setGear := goodIn_ca (goodIn_r _ [173, 70, 174, 175, 176, 2, 177, 83, 84, 16, 178, 683, 684, 694, 695, 696, 697, 698, 699, 700, 701, 702] (by decide +kernel) (by decide +kernel)) (goodIn_sub (fun _ h => List.mem_append_left _ (List.mem_append_right _ h)) (by decide +kernel))
set_option maxRecDepth 20000 in
theorem gL_law_L_setGear : GoodIn wsL_law (va_wsS RL 94 yL_setGear wsL_setGear) := goodIn_app (goodIn_of _ (by decide +kernel)) ggL_law_L_setGear
set_option maxRecDepth 20000 in
theorem ggL_law_X4_setGear : GoodIn wsL_law wsX4_setGear := goodIn_r _ [182, 101, 64, 105, 106, 5, 107, 108, 109, 110, 111, 685, 686, 687, 688, 689, 690, 691, 692, 693] (by decide +kernel) (by decide +kernel)
set_option maxRecDepth 20000 in
theorem gL_law_X4_setGear : GoodIn wsL_law (wsV RL 96 RX4 yX4_setGear wsX4_setGear) := goodIn_app (goodIn_of _ (by decide +kernel)) ggL_law_X4_setGear
set_option maxRecDepth 20000 in
theorem ggL_law_L_setStones : GoodIn wsL_law wsL_setStones := goodIn_ca (goodIn_r _ [185, 70, 186, 187, 188, 2, 189, 83, 84, 16, 190, 683, 684, 694, 695, 696, 697, 698, 699, 700, 701, 702] (by decide +kernel) (by decide +kernel)) (goodIn_sub (fun _ h => List.mem_append_left _ (List.mem_append_right _ h)) (by decide +kernel))
set_option maxRecDepth 20000 in
theorem gL_law_L_setStones : GoodIn wsL_law (va_wsS RL 97 yL_setStones wsL_setStones) := goodIn_app (goodIn_of _ (by decide +kernel)) ggL_law_L_setStones
set_option maxRecDepth 20000 in
theorem ggL_law_X4_setStones : GoodIn wsL_law wsX4_setStones := goodIn_r _ [194, 101, 59, 105, 106, 5, 107, 108, 109, 110, 111, 685, 686, 687, 688, 689, 690, 691, 692, 693] (by decide +kernel) (by decide +kernel)
set_option maxRecDepth 20000 in
theorem gL_law_X4_setStones : GoodIn wsL_law (wsV RL 99 RX4 yX4_setStones wsX4_setStones) := goodIn_app (goodIn_of _ (by decide +kernel)) ggL_law_X4_setStones
set_option maxRecDepth 20000 in
theorem ggL_law_L_setMesh : GoodIn wsL_law wsL_setMesh := goodIn_ca (goodIn_r _ [197, 70, 198, 199, 200, 2, 201, 83, 84, 16, 202, 683, 684, 694, 695, 696, 697, 698, 699, 700, 701, 702] (by decide +kernel) (by decide +kernel)) (goodIn_sub (fun _ h => List.mem_append_left _ (List.mem_append_right _ h)) (by decide +kernel))
set_option maxRecDepth 20000 in
theorem gL_law_L_setMesh : GoodIn wsL_law (va_wsS RL 100 yL_setMesh wsL_setMesh) := goodIn_app (goodIn_of _ (by decide +kernel)) ggL_law_L_setMesh
set_option maxRecDepth 20000 in
theorem ggL_law_X4_setMesh : GoodIn wsL_law wsX4_setMesh := goodIn_r _ [206, 101, 60, 105, 106, 5, 107, 108, 109, 110, 111, 685, 686, 687, 688, 689, 690, 691, 692, 693] (by decide +kernel) (by decide +kernel)
set_option maxRecDepth 20000 in
theorem gL_law_X4_setMesh : GoodIn wsL_law (wsV RL 102 RX4 yX4_setMesh wsX4_setMesh) := goodIn_app (goodIn_of _ (by decide +kernel)) ggL_law_X4_setMesh
set_option maxRecDepth 20000 in
theorem ggL_law_L_addTalker : GoodIn wsL_law wsL_addTalker := goodIn_ca (goodIn_ca (goodIn_r _ [209, 70, 71, 210, 211, 212, 2, 213, 83, 84, 76, 77, 16, 214, 215, 80, 81, 82, 85, 86, 87, 216, 217, 218, 28, 219, 54, 220, 221, 222, 223, 49, 50, 51, 52, 53, 224, 683, 684, 694, 695, 696, 697, 698, 699, 700, 701, 702, 706, 707, 708, 709, 710, 711] (by decide +kernel) (by decide +kernel)) (goodIn_sub (fun _ h => List.mem_append_left _ (List.mem_append_right _ h)) (by decide +kernel))) (goodIn_sub (fun _ h => List.mem_append_left _ (List.mem_append_left _ (List.mem_append_right _ h))) (by decide +kernel))
set_option maxRecDepth 20000 in
theorem gL_law_L_addTalker : GoodIn wsL_law (va_wsS RL 103 yL_addTalker wsL_addTalker) := goodIn_app (goodIn_of _ (by decide +kernel)) ggL_law_L_addTalker
set_option maxRecDepth 20000 in
theorem ggL_law_X4_addTalker : GoodIn wsL_law wsX4_addTalker := goodIn_r _ [228, 101, 229, 61, 62, 63, 64, 102, 103, 5, 104, 105, 106, 107, 108, 109, 110, 111, 685, 686, 687, 688, 689, 690, 691, 692, 693] (by decide +kernel) (by decide +kernel)
set_option maxRecDepth 20000 in
theorem gL_law_X4_addTalker : GoodIn wsL_law (wsV RL 106 RX4 yX4_addTalker wsX4_addTalker) := goodIn_app (goodIn_of _ (by decide +kernel)) ggL_law_X4_addTalker
set_option maxRecDepth 20000 in
theorem ggL_law_L_pass : GoodIn wsL_law wsL_pass := goodIn_ca (goodIn_r _ [232, 70, 233, 234, 235, 2, 236, 16, 214, 237, 238, 239, 83, 84, 240, 241, 242, 28, 243, 54, 53, 244, 245, 246, 15, 247, 248, 249, 250, 251, 33, 25, 31, 30, 35, 32, 34, 29, 36, 252, 253, 254, 24, 255, 44, 43, 42, 256, 257, 258, 259, 260, 261, 262, 263, 264, 265, 266, 267, 268, 269, 52, 270, 271, 272, 273, 274, 275, 276, 277, 278, 279, 280, 51, 49, 50, 281, 282, 283, 93, 94, 95, 96, 89, 90, 91, 683, 684, 694, 695, 696, 697, 698, 699, 700, 701, 702, 706, 707, 708, 709, 710, 711, 703, 704, 705] (by decide +kernel) (by decide +kernel)) (goodIn_sub (fun _ h => List.mem_append_left _ (List.mem_append_right _ h)) (by decide +kernel))
set_option maxRecDepth 20000 in
theorem gL_law_L_pass : GoodIn wsL_law (va_wsS RL 107 yL_pass wsL_pass) := goodIn_app (goodIn_of _ (by decide +kernel)) ggL_law_L_pass
set_option maxRecDepth 20000 in
theorem ggL_law_X4_pass_ : GoodIn wsL_law wsX4_pass_ := goodIn_r _ [287, 101, 105, 106, 5, 107, 288, 289, 290, 291, 292, 293, 294, 295, 59, 64, 296, 271, 272, 273, 229, 63, 61, 62, 297, 298, 299, 300, 60, 301, 302, 303, 304, 305, 275, 276, 306, 307, 308, 309, 310, 311, 312, 313, 112, 113, 114, 115, 108, 109, 110, 111, 685, 686, 687, 688, 689, 690, 691, 692, 693] (by decide +kernel) (by decide +kernel)
set_option maxRecDepth 20000 in
theorem gL_law_X4_pass_ : GoodIn wsL_law (wsV RL 109 RX4 yX4_pass_ wsX4_pass_) := goodIn_app (goodIn_of _ (by decide +kernel)) ggL_law_X4_pass_
set_option maxRecDepth 20000 in
theorem ggL_law_X3_minute : GoodIn wsL_law wsX3_minute := goodIn_r _ [317, 16, 318, 683, 684, 694, 695, 696, 697, 698, 699, 700, 701, 702] (by decide +kernel) (by decide +kernel)
set_option maxRecDepth 20000 in
theorem gL_law_X3_minute : GoodIn wsL_law (wsV RL 110 RX3 yX3_minute wsX3_minute) := goodIn_app (goodIn_of _ (by decide +kernel)) ggL_law_X3_minute
set_option maxRecDepth 20000 in
theorem ggL_law_X4_minute : GoodIn wsL_law wsX4_minute := goodIn_r _ [322, 64, 323, 324, 325, 5, 326, 101, 685, 686, 687, 688, 689, 690, 691, 692, 693] (by decide +kernel) (by decide +kernel)
set_option maxRecDepth 20000 in
theorem gL_law_X4_minute : GoodIn wsL_law (wsV RL 113 RX4 yX4_minute wsX4_minute) := goodIn_app (goodIn_of _ (by decide +kernel)) ggL_law_X4_minute
set_option maxRecDepth 20000 in
theorem ggL_law_X3_topics : GoodIn wsL_law wsX3_topics := goodIn_r _ [330, 16, 78, 79, 683, 684, 694, 695, 696, 697, 698, 699, 700, 701, 702, 703, 704, 705] (by decide +kernel) (by decide +kernel)
set_option maxRecDepth 20000 in
theorem gL_law_X3_topics : GoodIn wsL_law (wsV RL 114 RX3 yX3_topics wsX3_topics) := goodIn_app (goodIn_of _ (by decide +kernel)) ggL_law_X3_topics
set_option maxRecDepth 20000 in
theorem ggL_law_X4_topics : GoodIn wsL_law wsX4_topics := goodIn_r _ [334, 64, 323, 324, 325, 5, 326, 101, 685, 686, 687, 688, 689, 690, 691, 692, 693] (by decide +kernel) (by decide +kernel)
set_option maxRecDepth 20000 in
theorem gL_law_X4_topics : GoodIn wsL_law (wsV RL 117 RX4 yX4_topics wsX4_topics) := goodIn_app (goodIn_of _ (by decide +kernel)) ggL_law_X4_topics
set_option maxRecDepth 20000 in
theorem ggL_law_L_sizeAt : GoodIn wsL_law wsL_sizeAt := goodIn_ca (goodIn_r _ [337, 123, 338, 339, 340, 2, 341, 16, 78, 128, 129, 130, 131, 132, 133, 134, 135, 136, 137, 24, 138, 44, 683, 684, 694, 695, 696, 697, 698, 699, 700, 701, 702, 703, 704, 705] (by decide +kernel) (by decide +kernel)) (goodIn_sub (fun _ h => List.mem_append_right _ h) (by decide +kernel))
set_option maxRecDepth 20000 in
theorem gL_law_L_sizeAt : GoodIn wsL_law (va_wsS RL 118 yL_sizeAt wsL_sizeAt) := goodIn_app (goodIn_of _ (by decide +kernel)) ggL_law_L_sizeAt
set_option maxRecDepth 20000 in
theorem ggL_law_X4_sizeAt : GoodIn wsL_law wsX4_sizeAt := goodIn_r _ [345, 101, 64, 148, 149, 150, 5, 151, 105, 106, 107, 108, 109, 110, 111, 685, 686, 687, 688, 689, 690, 691, 692, 693] (by decide +kernel) (by decide +kernel)
set_option maxRecDepth 20000 in
theorem gL_law_X4_sizeAt : GoodIn wsL_law (wsV RL 120 RX4 yX4_sizeAt wsX4_sizeAt) := goodIn_app (goodIn_of _ (by decide +kernel)) ggL_law_X4_sizeAt
set_option maxRecDepth 20000 in
theorem ggL_law_L_kindAt : GoodIn wsL_law wsL_kindAt := goodIn_ca (goodIn_r _ [348, 123, 349, 350, 351, 2, 352, 16, 78, 353, 129, 130, 131, 132, 133, 134, 135, 136, 137, 24, 138, 44, 683, 684, 694, 695, 696, 697, 698, 699, 700, 701, 702, 703, 704, 705] (by decide +kernel) (by decide +kernel)) (goodIn_sub (fun _ h => List.mem_append_right _ h) (by decide +kernel))
set_option maxRecDepth 20000 in
theorem gL_law_L_kindAt : GoodIn wsL_law (va_wsS RL 121 yL_kindAt wsL_kindAt) := goodIn_app (goodIn_of _ (by decide +kernel)) ggL_law_L_kindAt
set_option maxRecDepth 20000 in
theorem ggL_law_X4_kindAt : GoodIn wsL_law wsX4_kindAt := goodIn_r _ [357, 101, 64, 148, 149, 150, 5, 151, 105, 106, 107, 108, 109, 110, 111, 685, 686, 687, 688, 689, 690, 691, 692, 693] (by decide +kernel) (by decide +kernel)
set_option maxRecDepth 20000 in
theorem gL_law_X4_kindAt : GoodIn wsL_law (wsV RL 123 RX4 yX4_kindAt wsX4_kindAt) := goodIn_app (goodIn_of _ (by decide +kernel)) ggL_law_X4_kindAt
set_option maxRecDepth 20000 in
theorem ggL_law_X3_largest : GoodIn wsL_law wsX3_largest := goodIn_r _ [361, 16, 78, 362, 363, 364, 24, 365, 44, 43, 683, 684, 694, 695, 696, 697, 698, 699, 700, 701, 702, 703, 704, 705] (by decide +kernel) (by decide +kernel)
set_option maxRecDepth 20000 in
theorem gL_law_X3_largest : GoodIn wsL_law (wsV RL 124 RX3 yX3_largest wsX3_largest) := goodIn_app (goodIn_of _ (by decide +kernel)) ggL_law_X3_largest
set_option maxRecDepth 20000 in
theorem ggL_law_X4_largest : GoodIn wsL_law wsX4_largest := goodIn_r _ [369, 101, 64, 685, 686, 687, 688, 689, 690, 691, 692, 693] (by decide +kernel) (by decide +kernel)
set_option maxRecDepth 20000 in
theorem gL_law_X4_largest : GoodIn wsL_law (wsV RL 127 RX4 yX4_largest wsX4_largest) := goodIn_app (goodIn_of _ (by decide +kernel)) ggL_law_X4_largest
set_option maxRecDepth 20000 in
theorem ggL_law_X3_noise : GoodIn wsL_law wsX3_noise := goodIn_r _ [373, 16, 78, 374, 263, 264, 24, 265, 44, 43, 683, 684, 694, 695, 696, 697, 698, 699, 700, 701, 702, 703, 704, 705] (by decide +kernel) (by decide +kernel)
set_option maxRecDepth 20000 in
theorem gL_law_X3_noise : GoodIn wsL_law (wsV RL 128 RX3 yX3_noise wsX3_noise) := goodIn_app (goodIn_of _ (by decide +kernel)) ggL_law_X3_noise
set_option maxRecDepth 20000 in
theorem ggL_law_X4_noise : GoodIn wsL_law wsX4_noise := goodIn_r _ [378, 306, 307, 308, 5, 309, 64, 323, 324, 325, 326, 101, 685, 686, 687, 688, 689, 690, 691, 692, 693] (by decide +kernel) (by decide +kernel)
set_option maxRecDepth 20000 in
theorem gL_law_X4_noise : GoodIn wsL_law (wsV RL 131 RX4 yX4_noise wsX4_noise) := goodIn_app (goodIn_of _ (by decide +kernel)) ggL_law_X4_noise
set_option maxRecDepth 20000 in
theorem ggL_law_L_topicsOf : GoodIn wsL_law wsL_topicsOf := goodIn_ca (goodIn_r _ [381, 123, 382, 383, 384, 2, 385, 133, 134, 16, 78, 85, 86, 87, 386, 387, 388, 24, 389, 44, 42, 683, 684, 694, 695, 696, 697, 698, 699, 700, 701, 702, 703, 704, 705] (by decide +kernel) (by decide +kernel)) (goodIn_sub (fun _ h => List.mem_append_right _ h) (by decide +kernel))
set_option maxRecDepth 20000 in
theorem gL_law_L_topicsOf : GoodIn wsL_law (va_wsS RL 132 yL_topicsOf wsL_topicsOf) := goodIn_app (goodIn_of _ (by decide +kernel)) ggL_law_L_topicsOf
set_option maxRecDepth 20000 in
theorem ggL_law_X4_topicsOf : GoodIn wsL_law wsX4_topicsOf := goodIn_r _ [393, 101, 64, 105, 106, 5, 107, 108, 109, 110, 111, 685, 686, 687, 688, 689, 690, 691, 692, 693] (by decide +kernel) (by decide +kernel)
set_option maxRecDepth 20000 in
theorem gL_law_X4_topicsOf : GoodIn wsL_law (wsV RL 134 RX4 yX4_topicsOf wsX4_topicsOf) := goodIn_app (goodIn_of _ (by decide +kernel)) ggL_law_X4_topicsOf
set_option maxRecDepth 20000 in
theorem ggL_law_L_turnsToNod : GoodIn wsL_law wsL_turnsToNod := goodIn_ca (goodIn_r _ [396, 123, 397, 398, 399, 2, 400, 16, 78, 128, 178, 129, 130, 131, 132, 133, 134, 135, 136, 137, 24, 138, 44, 401, 256, 257, 683, 684, 694, 695, 696, 697, 698, 699, 700, 701, 702, 703, 704, 705] (by decide +kernel) (by decide +kernel)) (goodIn_sub (fun _ h => List.mem_append_right _ h) (by decide +kernel))
set_option maxRecDepth 20000 in
theorem gL_law_L_turnsToNod : GoodIn wsL_law (va_wsS RL 135 yL_turnsToNod wsL_turnsToNod) := goodIn_app (goodIn_of _ (by decide +kernel)) ggL_law_L_turnsToNod
set_option maxRecDepth 20000 in
theorem ggL_law_X4_turnsToNod : GoodIn wsL_law wsX4_turnsToNod := goodIn_r _ [405, 101, 64, 148, 149, 150, 5, 151, 105, 106, 107, 108, 109, 110, 111, 685, 686, 687, 688, 689, 690, 691, 692, 693] (by decide +kernel) (by decide +kernel)
set_option maxRecDepth 20000 in
theorem gL_law_X4_turnsToNod : GoodIn wsL_law (wsV RL 137 RX4 yX4_turnsToNod wsX4_turnsToNod) := goodIn_app (goodIn_of _ (by decide +kernel)) ggL_law_X4_turnsToNod
set_option maxRecDepth 20000 in
theorem ggL_law_X3_nods : GoodIn wsL_law wsX3_nods := goodIn_r _ [409, 16, 410, 683, 684, 694, 695, 696, 697, 698, 699, 700, 701, 702] (by decide +kernel) (by decide +kernel)
set_option maxRecDepth 20000 in
theorem gL_law_X3_nods : GoodIn wsL_law (wsV RL 138 RX3 yX3_nods wsX3_nods) := goodIn_app (goodIn_of _ (by decide +kernel)) ggL_law_X3_nods
set_option maxRecDepth 20000 in
theorem ggL_law_X4_nods : GoodIn wsL_law wsX4_nods := goodIn_r _ [414, 64, 323, 324, 325, 5, 326, 101, 685, 686, 687, 688, 689, 690, 691, 692, 693] (by decide +kernel) (by decide +kernel)
set_option maxRecDepth 20000 in
theorem gL_law_X4_nods : GoodIn wsL_law (wsV RL 141 RX4 yX4_nods wsX4_nods) := goodIn_app (goodIn_of _ (by decide +kernel)) ggL_law_X4_nods
set_option maxRecDepth 20000 in
theorem ggL_law_X3_bottles : GoodIn wsL_law wsX3_bottles := goodIn_r _ [418, 16, 419, 683, 684, 694, 695, 696, 697, 698, 699, 700, 701, 702] (by decide +kernel) (by decide +kernel)
set_option maxRecDepth 20000 in
theorem gL_law_X3_bottles : GoodIn wsL_law (wsV RL 142 RX3 yX3_bottles wsX3_bottles) := goodIn_app (goodIn_of _ (by decide +kernel)) ggL_law_X3_bottles
set_option maxRecDepth 20000 in
theorem ggL_law_X4_bottles : GoodIn wsL_law wsX4_bottles := goodIn_r _ [423, 64, 323, 324, 325, 5, 326, 101, 685, 686, 687, 688, 689, 690, 691, 692, 693] (by decide +kernel) (by decide +kernel)
set_option maxRecDepth 20000 in
theorem gL_law_X4_bottles : GoodIn wsL_law (wsV RL 145 RX4 yX4_bottles wsX4_bottles) := goodIn_app (goodIn_of _ (by decide +kernel)) ggL_law_X4_bottles
set_option maxRecDepth 20000 in
theorem ggL_law_X3_sieved : GoodIn wsL_law wsX3_sieved := goodIn_r _ [427, 16, 428, 683, 684, 694, 695, 696, 697, 698, 699, 700, 701, 702] (by decide +kernel) (by decide +kernel)
set_option maxRecDepth 20000 in
theorem gL_law_X3_sieved : GoodIn wsL_law (wsV RL 146 RX3 yX3_sieved wsX3_sieved) := goodIn_app (goodIn_of _ (by decide +kernel)) ggL_law_X3_sieved
set_option maxRecDepth 20000 in
theorem ggL_law_X4_sieved : GoodIn wsL_law wsX4_sieved := goodIn_r _ [432, 64, 323, 324, 325, 5, 326, 101, 685, 686, 687, 688, 689, 690, 691, 692, 693] (by decide +kernel) (by decide +kernel)
set_option maxRecDepth 20000 in
theorem gL_law_X4_sieved : GoodIn wsL_law (wsV RL 149 RX4 yX4_sieved wsX4_sieved) := goodIn_app (goodIn_of _ (by decide +kernel)) ggL_law_X4_sieved
set_option maxRecDepth 20000 in
theorem ggL_law_X3_gear : GoodIn wsL_law wsX3_gear := goodIn_r _ [436, 16, 178, 683, 684, 694, 695, 696, 697, 698, 699, 700, 701, 702] (by decide +kernel) (by decide +kernel)
set_option maxRecDepth 20000 in
theorem gL_law_X3_gear : GoodIn wsL_law (wsV RL 150 RX3 yX3_gear wsX3_gear) := goodIn_app (goodIn_of _ (by decide +kernel)) ggL_law_X3_gear
set_option maxRecDepth 20000 in
theorem ggL_law_X4_gear : GoodIn wsL_law wsX4_gear := goodIn_r _ [440, 64, 323, 324, 325, 5, 326, 101, 685, 686, 687, 688, 689, 690, 691, 692, 693] (by decide +kernel) (by decide +kernel)
set_option maxRecDepth 20000 in
theorem gL_law_X4_gear : GoodIn wsL_law (wsV RL 153 RX4 yX4_gear wsX4_gear) := goodIn_app (goodIn_of _ (by decide +kernel)) ggL_law_X4_gear
set_option maxRecDepth 20000 in
theorem ggL_law_X3_stones : GoodIn wsL_law wsX3_stones := goodIn_r _ [444, 16, 190, 683, 684, 694, 695, 696, 697, 698, 699, 700, 701, 702] (by decide +kernel) (by decide +kernel)
set_option maxRecDepth 20000 in
theorem gL_law_X3_stones : GoodIn wsL_law (wsV RL 154 RX3 yX3_stones wsX3_stones) := goodIn_app (goodIn_of _ (by decide +kernel)) ggL_law_X3_stones
set_option maxRecDepth 20000 in
theorem ggL_law_X4_stones : GoodIn wsL_law wsX4_stones := goodIn_r _ [448, 59, 323, 324, 325, 5, 326, 101, 685, 686, 687, 688, 689, 690, 691, 692, 693] (by decide +kernel) (by decide +kernel)
set_option maxRecDepth 20000 in
theorem gL_law_X4_stones : GoodIn wsL_law (wsV RL 157 RX4 yX4_stones wsX4_stones) := goodIn_app (goodIn_of _ (by decide +kernel)) ggL_law_X4_stones
set_option maxRecDepth 20000 in
theorem ggL_law_X3_mesh : GoodIn wsL_law wsX3_mesh := goodIn_r _ [452, 16, 202, 683, 684, 694, 695, 696, 697, 698, 699, 700, 701, 702] (by decide +kernel) (by decide +kernel)
set_option maxRecDepth 20000 in
theorem gL_law_X3_mesh : GoodIn wsL_law (wsV RL 158 RX3 yX3_mesh wsX3_mesh) := goodIn_app (goodIn_of _ (by decide +kernel)) ggL_law_X3_mesh
set_option maxRecDepth 20000 in
theorem ggL_law_X4_mesh : GoodIn wsL_law wsX4_mesh := goodIn_r _ [456, 60, 323, 324, 325, 5, 326, 101, 685, 686, 687, 688, 689, 690, 691, 692, 693] (by decide +kernel) (by decide +kernel)
set_option maxRecDepth 20000 in
theorem gL_law_X4_mesh : GoodIn wsL_law (wsV RL 161 RX4 yX4_mesh wsX4_mesh) := goodIn_app (goodIn_of _ (by decide +kernel)) ggL_law_X4_mesh
set_option maxRecDepth 20000 in
theorem ggL_law_X3_talkers : GoodIn wsL_law wsX3_talkers := goodIn_r _ [460, 16, 214, 215, 683, 684, 694, 695, 696, 697, 698, 699, 700, 701, 702, 706, 707, 708, 709, 710, 711] (by decide +kernel) (by decide +kernel)
set_option maxRecDepth 20000 in
theorem gL_law_X3_talkers : GoodIn wsL_law (wsV RL 162 RX3 yX3_talkers wsX3_talkers) := goodIn_app (goodIn_of _ (by decide +kernel)) ggL_law_X3_talkers
set_option maxRecDepth 20000 in
theorem ggL_law_X4_talkers : GoodIn wsL_law wsX4_talkers := goodIn_r _ [464, 229, 323, 324, 325, 5, 326, 101, 685, 686, 687, 688, 689, 690, 691, 692, 693] (by decide +kernel) (by decide +kernel)
set_option maxRecDepth 20000 in
theorem gL_law_X4_talkers : GoodIn wsL_law (wsV RL 165 RX4 yX4_talkers wsX4_talkers) := goodIn_app (goodIn_of _ (by decide +kernel)) ggL_law_X4_talkers
set_option maxRecDepth 20000 in
theorem ggL_law_X3_present : GoodIn wsL_law wsX3_present := goodIn_r _ [468, 16, 214, 240, 241, 242, 28, 243, 54, 53, 683, 684, 694, 695, 696, 697, 698, 699, 700, 701, 702, 706, 707, 708, 709, 710, 711] (by decide +kernel) (by decide +kernel)
set_option maxRecDepth 20000 in
theorem gL_law_X3_present : GoodIn wsL_law (wsV RL 166 RX3 yX3_present wsX3_present) := goodIn_app (goodIn_of _ (by decide +kernel)) ggL_law_X3_present
set_option maxRecDepth 20000 in
theorem ggL_law_X4_present : GoodIn wsL_law wsX4_present := goodIn_r _ [472, 473, 474, 475, 5, 476, 229, 310, 311, 312, 313, 64, 323, 324, 325, 326, 101, 685, 686, 687, 688, 689, 690, 691, 692, 693] (by decide +kernel) (by decide +kernel)
set_option maxRecDepth 20000 in
theorem gL_law_X4_present : GoodIn wsL_law (wsV RL 169 RX4 yX4_present wsX4_present) := goodIn_app (goodIn_of _ (by decide +kernel)) ggL_law_X4_present
set_option maxRecDepth 20000 in
theorem ggL_law_L_isPresent : GoodIn wsL_law wsL_isPresent := goodIn_ca (goodIn_r _ [479, 123, 480, 481, 482, 2, 483, 16, 214, 484, 485, 486, 487, 133, 134, 488, 489, 490, 28, 491, 54, 492, 493, 494, 495, 53, 496, 683, 684, 694, 695, 696, 697, 698, 699, 700, 701, 702, 706, 707, 708, 709, 710, 711] (by decide +kernel) (by decide +kernel)) (goodIn_sub (fun _ h => List.mem_append_right _ h) (by decide +kernel))
set_option maxRecDepth 20000 in
theorem gL_law_L_isPresent : GoodIn wsL_law (va_wsS RL 170 yL_isPresent wsL_isPresent) := goodIn_app (goodIn_of _ (by decide +kernel)) ggL_law_L_isPresent
set_option maxRecDepth 20000 in
theorem ggL_law_X4_isPresent : GoodIn wsL_law wsX4_isPresent := goodIn_r _ [500, 101, 501, 502, 503, 5, 504, 229, 105, 106, 107, 310, 311, 312, 313, 64, 685, 686, 687, 688, 689, 690, 691, 692, 693] (by decide +kernel) (by decide +kernel)
set_option maxRecDepth 20000 in
theorem gL_law_X4_isPresent : GoodIn wsL_law (wsV RL 172 RX4 yX4_isPresent wsX4_isPresent) := goodIn_app (goodIn_of _ (by decide +kernel)) ggL_law_X4_isPresent
set_option maxRecDepth 20000 in
theorem ggL_law_L_patienceOf : GoodIn wsL_law wsL_patienceOf := goodIn_ca (goodIn_r _ [507, 123, 508, 509, 510, 2, 511, 16, 214, 512, 484, 485, 486, 487, 133, 134, 488, 489, 490, 28, 491, 54, 683, 684, 694, 695, 696, 697, 698, 699, 700, 701, 702, 706, 707, 708, 709, 710, 711] (by decide +kernel) (by decide +kernel)) (goodIn_sub (fun _ h => List.mem_append_right _ h) (by decide +kernel))
set_option maxRecDepth 20000 in
theorem gL_law_L_patienceOf : GoodIn wsL_law (va_wsS RL 173 yL_patienceOf wsL_patienceOf) := goodIn_app (goodIn_of _ (by decide +kernel)) ggL_law_L_patienceOf
set_option maxRecDepth 20000 in
theorem ggL_law_X4_patienceOf : GoodIn wsL_law wsX4_patienceOf := goodIn_r _ [516, 101, 64, 501, 502, 503, 5, 504, 229, 105, 106, 107, 108, 109, 110, 111, 685, 686, 687, 688, 689, 690, 691, 692, 693] (by decide +kernel) (by decide +kernel)
set_option maxRecDepth 20000 in
theorem gL_law_X4_patienceOf : GoodIn wsL_law (wsV RL 175 RX4 yX4_patienceOf wsX4_patienceOf) := goodIn_app (goodIn_of _ (by decide +kernel)) ggL_law_X4_patienceOf
set_option maxRecDepth 20000 in
theorem ggL_law_L_exitOf : GoodIn wsL_law wsL_exitOf := goodIn_ca (goodIn_r _ [519, 123, 520, 521, 522, 2, 523, 16, 214, 524, 484, 485, 486, 487, 133, 134, 488, 489, 490, 28, 491, 54, 683, 684, 694, 695, 696, 697, 698, 699, 700, 701, 702, 706, 707, 708, 709, 710, 711] (by decide +kernel) (by decide +kernel)) (goodIn_sub (fun _ h => List.mem_append_right _ h) (by decide +kernel))
set_option maxRecDepth 20000 in
theorem gL_law_L_exitOf : GoodIn wsL_law (va_wsS RL 176 yL_exitOf wsL_exitOf) := goodIn_app (goodIn_of _ (by decide +kernel)) ggL_law_L_exitOf
set_option maxRecDepth 20000 in
theorem ggL_law_X4_exitOf : GoodIn wsL_law wsX4_exitOf := goodIn_r _ [528, 101, 64, 501, 502, 503, 5, 504, 229, 105, 106, 107, 108, 109, 110, 111, 685, 686, 687, 688, 689, 690, 691, 692, 693] (by decide +kernel) (by decide +kernel)
set_option maxRecDepth 20000 in
theorem gL_law_X4_exitOf : GoodIn wsL_law (wsV RL 178 RX4 yX4_exitOf wsX4_exitOf) := goodIn_app (goodIn_of _ (by decide +kernel)) ggL_law_X4_exitOf
set_option maxRecDepth 20000 in
theorem ggL_law_X3_nextToGo : GoodIn wsL_law wsX3_nextToGo := goodIn_r _ [532, 16, 214, 533, 534, 535, 28, 536, 54, 53, 52, 683, 684, 694, 695, 696, 697, 698, 699, 700, 701, 702, 706, 707, 708, 709, 710, 711] (by decide +kernel) (by decide +kernel)
set_option maxRecDepth 20000 in
theorem gL_law_X3_nextToGo : GoodIn wsL_law (wsV RL 179 RX3 yX3_nextToGo wsX3_nextToGo) := goodIn_app (goodIn_of _ (by decide +kernel)) ggL_law_X3_nextToGo
set_option maxRecDepth 20000 in
theorem ggL_law_X4_nextToGo : GoodIn wsL_law wsX4_nextToGo := goodIn_r _ [540, 101, 229, 64, 310, 311, 312, 5, 313, 685, 686, 687, 688, 689, 690, 691, 692, 693] (by decide +kernel) (by decide +kernel)
set_option maxRecDepth 20000 in
theorem gL_law_X4_nextToGo : GoodIn wsL_law (wsV RL 182 RX4 yX4_nextToGo wsX4_nextToGo) := goodIn_app (goodIn_of _ (by decide +kernel)) ggL_law_X4_nextToGo
set_option maxRecDepth 20000 in
theorem ggL_law_L_noiseIn : GoodIn wsL_law wsL_noiseIn := goodIn_ca (goodIn_r _ [543, 70, 544, 545, 546, 2, 547, 17, 16, 78, 237, 238, 239, 83, 84, 548, 549, 550, 15, 551, 25, 29, 30, 31, 32, 33, 34, 35, 36, 552, 553, 554, 24, 555, 44, 42, 43, 556, 557, 558, 28, 559, 54, 49, 50, 51, 52, 53, 244, 245, 246, 247, 248, 249, 250, 251, 252, 253, 254, 255, 256, 257, 258, 259, 260, 261, 262, 263, 264, 265, 266, 267, 268, 269, 270, 271, 272, 273, 274, 275, 276, 277, 278, 279, 280, 281, 282, 283, 93, 94, 95, 96, 89, 90, 91, 374, 683, 684, 694, 695, 696, 697, 698, 699, 700, 701, 702, 703, 704, 705, 706, 707, 708, 709, 710, 711] (by decide +kernel) (by decide +kernel)) (goodIn_sub (fun _ h => List.mem_append_left _ (List.mem_append_right _ h)) (by decide +kernel))
set_option maxRecDepth 20000 in
theorem gL_law_L_noiseIn : GoodIn wsL_law (va_wsS RL 183 yL_noiseIn wsL_noiseIn) := goodIn_app (goodIn_of _ (by decide +kernel)) ggL_law_L_noiseIn
set_option maxRecDepth 20000 in
theorem ggL_law_X4_noiseIn : GoodIn wsL_law wsX4_noiseIn := goodIn_r _ [563, 101, 105, 106, 5, 107, 108, 109, 110, 111, 564, 565, 566, 567, 64, 65, 568, 569, 570, 571, 572, 573, 574, 575, 288, 289, 290, 291, 292, 293, 294, 295, 59, 296, 271, 272, 273, 229, 63, 61, 62, 297, 298, 299, 300, 60, 301, 302, 303, 304, 305, 275, 276, 306, 307, 308, 309, 310, 311, 312, 313, 112, 113, 114, 115, 576, 577, 578, 579, 685, 686, 687, 688, 689, 690, 691, 692, 693] (by decide +kernel) (by decide +kernel)
set_option maxRecDepth 20000 in
theorem gL_law_X4_noiseIn : GoodIn wsL_law (wsV RL 185 RX4 yX4_noiseIn wsX4_noiseIn) := goodIn_app (goodIn_of _ (by decide +kernel)) ggL_law_X4_noiseIn
set_option maxRecDepth 20000 in
theorem ggL_law_X3_minutesUntilQuiet : GoodIn wsL_law wsX3_minutesUntilQuiet := goodIn_r _ [583, 17, 16, 78, 79, 548, 549, 550, 15, 551, 25, 29, 30, 31, 32, 33, 34, 35, 36, 552, 553, 554, 24, 555, 44, 42, 43, 556, 557, 558, 28, 559, 54, 49, 50, 51, 52, 53, 584, 249, 250, 251, 252, 253, 254, 255, 256, 2, 257, 258, 259, 260, 261, 262, 263, 264, 265, 266, 267, 268, 269, 270, 271, 272, 273, 274, 275, 276, 277, 278, 279, 280, 281, 282, 283, 93, 94, 95, 96, 89, 90, 91, 683, 684, 694, 695, 696, 697, 698, 699, 700, 701, 702, 703, 704, 705, 706, 707, 708, 709, 710, 711] (by decide +kernel) (by decide +kernel)
set_option maxRecDepth 20000 in
theorem gL_law_X3_minutesUntilQuiet : GoodIn wsL_law (wsV RL 186 RX3 yX3_minutesUntilQuiet wsX3_minutesUntilQuiet) := goodIn_app (goodIn_of _ (by decide +kernel)) ggL_law_X3_minutesUntilQuiet
set_option maxRecDepth 20000 in
theorem ggL_law_X4_minutesUntilQuiet : GoodIn wsL_law wsX4_minutesUntilQuiet := goodIn_r _ [588, 101, 64, 564, 565, 566, 5, 567, 65, 568, 569, 570, 571, 292, 293, 294, 295, 59, 296, 271, 272, 273, 229, 63, 61, 62, 297, 298, 299, 300, 60, 301, 302, 303, 304, 305, 275, 276, 306, 307, 308, 309, 310, 311, 312, 313, 112, 113, 114, 115, 576, 577, 578, 579, 685, 686, 687, 688, 689, 690, 691, 692, 693] (by decide +kernel) (by decide +kernel)
set_option maxRecDepth 20000 in
theorem gL_law_X4_minutesUntilQuiet : GoodIn wsL_law (wsV RL 189 RX4 yX4_minutesUntilQuiet wsX4_minutesUntilQuiet) := goodIn_app (goodIn_of _ (by decide +kernel)) ggL_law_X4_minutesUntilQuiet
set_option maxRecDepth 20000 in
theorem ggL_law_L_minutesUntilExit : GoodIn wsL_law wsL_minutesUntilExit := goodIn_ca (goodIn_r _ [591, 123, 592, 593, 594, 2, 595, 17, 16, 214, 484, 485, 486, 487, 133, 134, 488, 489, 490, 28, 491, 54, 548, 549, 550, 15, 551, 25, 29, 30, 31, 32, 33, 34, 35, 36, 552, 553, 554, 24, 555, 44, 42, 43, 556, 557, 558, 559, 49, 50, 51, 52, 53, 492, 493, 494, 495, 496, 584, 249, 250, 251, 252, 253, 254, 255, 256, 257, 258, 259, 260, 261, 262, 263, 264, 265, 266, 267, 268, 269, 270, 271, 272, 273, 274, 275, 276, 277, 278, 279, 280, 281, 282, 283, 93, 94, 95, 96, 89, 90, 91, 683, 684, 694, 695, 696, 697, 698, 699, 700, 701, 702, 706, 707, 708, 709, 710, 711, 703, 704, 705] (by decide +kernel) (by decide +kernel)) (goodIn_sub (fun _ h => List.mem_append_right _ h) (by decide +kernel))
set_option maxRecDepth 20000 in
theorem gL_law_L_minutesUntilExit : GoodIn wsL_law (va_wsS RL 190 yL_minutesUntilExit wsL_minutesUntilExit) := goodIn_app (goodIn_of _ (by decide +kernel)) ggL_law_L_minutesUntilExit
set_option maxRecDepth 20000 in
theorem ggL_law_X4_minutesUntilExit : GoodIn wsL_law wsX4_minutesUntilExit := goodIn_r _ [599, 101, 501, 502, 503, 5, 504, 229, 105, 106, 107, 108, 109, 110, 111, 564, 565, 566, 567, 64, 65, 568, 569, 570, 571, 310, 311, 312, 313, 292, 293, 294, 295, 59, 296, 271, 272, 273, 63, 61, 62, 297, 298, 299, 300, 60, 301, 302, 303, 304, 305, 275, 276, 306, 307, 308, 309, 112, 113, 114, 115, 576, 577, 578, 579, 685, 686, 687, 688, 689, 690, 691, 692, 693] (by decide +kernel) (by decide +kernel)
set_option maxRecDepth 20000 in
theorem gL_law_X4_minutesUntilExit : GoodIn wsL_law (wsV RL 192 RX4 yX4_minutesUntilExit wsX4_minutesUntilExit) := goodIn_app (goodIn_of _ (by decide +kernel)) ggL_law_X4_minutesUntilExit
set_option maxRecDepth 20000 in
theorem ggL_law_X3_bestGear : GoodIn wsL_law wsX3_bestGear := goodIn_r _ [603, 17, 16, 178, 78, 548, 549, 550, 15, 551, 25, 29, 30, 31, 32, 33, 34, 35, 36, 552, 553, 554, 24, 555, 44, 42, 43, 556, 557, 558, 28, 559, 54, 49, 50, 51, 52, 53, 244, 245, 246, 247, 248, 249, 250, 251, 252, 253, 254, 255, 256, 2, 257, 258, 259, 260, 261, 262, 263, 264, 265, 266, 267, 268, 269, 270, 271, 272, 273, 274, 275, 276, 277, 278, 279, 280, 281, 282, 283, 93, 94, 95, 96, 89, 90, 91, 374, 683, 684, 694, 695, 696, 697, 698, 699, 700, 701, 702, 703, 704, 705, 706, 707, 708, 709, 710, 711] (by decide +kernel) (by decide +kernel)
set_option maxRecDepth 20000 in
theorem gL_law_X3_bestGear : GoodIn wsL_law (wsV RL 193 RX3 yX3_bestGear wsX3_bestGear) := goodIn_app (goodIn_of _ (by decide +kernel)) ggL_law_X3_bestGear
set_option maxRecDepth 20000 in
theorem ggL_law_X4_bestGear : GoodIn wsL_law wsX4_bestGear := goodIn_r _ [607, 608, 609, 610, 5, 611, 64, 564, 565, 566, 567, 65, 568, 569, 570, 571, 572, 573, 574, 575, 288, 289, 290, 291, 292, 293, 294, 295, 59, 296, 271, 272, 273, 229, 63, 61, 62, 297, 298, 299, 300, 60, 301, 302, 303, 304, 305, 275, 276, 306, 307, 308, 309, 310, 311, 312, 313, 112, 113, 114, 115, 576, 577, 578, 579, 323, 324, 325, 326, 101, 685, 686, 687, 688, 689, 690, 691, 692, 693] (by decide +kernel) (by decide +kernel)
set_option maxRecDepth 20000 in
theorem gL_law_X4_bestGear : GoodIn wsL_law (wsV RL 196 RX4 yX4_bestGear wsX4_bestGear) := goodIn_app (goodIn_of _ (by decide +kernel)) ggL_law_X4_bestGear
set_option maxRecDepth 20000 in
theorem ggL_law_X3_bestPush : GoodIn wsL_law wsX3_bestPush := goodIn_r _ [615, 16, 78, 79, 17, 548, 549, 550, 15, 551, 25, 29, 30, 31, 32, 33, 34, 35, 36, 552, 553, 554, 24, 555, 44, 42, 43, 556, 557, 558, 28, 559, 54, 49, 50, 51, 52, 53, 139, 140, 141, 142, 143, 136, 137, 138, 244, 245, 246, 247, 248, 249, 250, 251, 252, 253, 254, 255, 256, 2, 257, 258, 259, 260, 261, 262, 263, 264, 265, 266, 267, 268, 269, 270, 271, 272, 273, 274, 275, 276, 277, 278, 279, 280, 281, 282, 283, 93, 94, 95, 96, 89, 90, 91, 374, 683, 684, 694, 695, 696, 697, 698, 699, 700, 701, 702, 703, 704, 705, 706, 707, 708, 709, 710, 711] (by decide +kernel) (by decide +kernel)
set_option maxRecDepth 20000 in
theorem gL_law_X3_bestPush : GoodIn wsL_law (wsV RL 197 RX3 yX3_bestPush wsX3_bestPush) := goodIn_app (goodIn_of _ (by decide +kernel)) ggL_law_X3_bestPush
set_option maxRecDepth 20000 in
theorem ggL_law_X4_bestPush : GoodIn wsL_law wsX4_bestPush := goodIn_r _ [619, 620, 621, 622, 5, 623, 64, 564, 565, 566, 567, 65, 568, 569, 570, 571, 152, 153, 154, 155, 572, 573, 574, 575, 288, 289, 290, 291, 292, 293, 294, 295, 59, 296, 271, 272, 273, 229, 63, 61, 62, 297, 298, 299, 300, 60, 301, 302, 303, 304, 305, 275, 276, 306, 307, 308, 309, 310, 311, 312, 313, 112, 113, 114, 115, 576, 577, 578, 579, 323, 324, 325, 326, 101, 685, 686, 687, 688, 689, 690, 691, 692, 693] (by decide +kernel) (by decide +kernel)
set_option maxRecDepth 20000 in
theorem gL_law_X4_bestPush : GoodIn wsL_law (wsV RL 200 RX4 yX4_bestPush wsX4_bestPush) := goodIn_app (goodIn_of _ (by decide +kernel)) ggL_law_X4_bestPush
set_option maxRecDepth 20000 in
theorem ggL_law_L_bottlesIn : GoodIn wsL_law wsL_bottlesIn := goodIn_ca (goodIn_r _ [626, 70, 627, 628, 629, 2, 630, 17, 16, 419, 237, 238, 239, 83, 84, 548, 549, 550, 15, 551, 25, 29, 30, 31, 32, 33, 34, 35, 36, 552, 553, 554, 24, 555, 44, 42, 43, 556, 557, 558, 28, 559, 54, 49, 50, 51, 52, 53, 244, 245, 246, 247, 248, 249, 250, 251, 252, 253, 254, 255, 256, 257, 258, 259, 260, 261, 262, 263, 264, 265, 266, 267, 268, 269, 270, 271, 272, 273, 274, 275, 276, 277, 278, 279, 280, 281, 282, 283, 93, 94, 95, 96, 89, 90, 91, 683, 684, 694, 695, 696, 697, 698, 699, 700, 701, 702, 703, 704, 705, 706, 707, 708, 709, 710, 711] (by decide +kernel) (by decide +kernel)) (goodIn_sub (fun _ h => List.mem_append_left _ (List.mem_append_right _ h)) (by decide +kernel))
set_option maxRecDepth 20000 in
theorem gL_law_L_bottlesIn : GoodIn wsL_law (va_wsS RL 201 yL_bottlesIn wsL_bottlesIn) := goodIn_app (goodIn_of _ (by decide +kernel)) ggL_law_L_bottlesIn
set_option maxRecDepth 20000 in
theorem ggL_law_X4_bottlesIn : GoodIn wsL_law wsX4_bottlesIn := goodIn_r _ [634, 101, 64, 105, 106, 5, 107, 108, 109, 110, 111, 564, 565, 566, 567, 65, 568, 569, 570, 571, 288, 289, 290, 291, 292, 293, 294, 295, 59, 296, 271, 272, 273, 229, 63, 61, 62, 297, 298, 299, 300, 60, 301, 302, 303, 304, 305, 275, 276, 306, 307, 308, 309, 310, 311, 312, 313, 112, 113, 114, 115, 576, 577, 578, 579, 685, 686, 687, 688, 689, 690, 691, 692, 693] (by decide +kernel) (by decide +kernel)
set_option maxRecDepth 20000 in
theorem gL_law_X4_bottlesIn : GoodIn wsL_law (wsV RL 203 RX4 yX4_bottlesIn wsX4_bottlesIn) := goodIn_app (goodIn_of _ (by decide +kernel)) ggL_law_X4_bottlesIn
set_option maxRecDepth 20000 in
theorem ggL_law_X3_meanPatience : GoodIn wsL_law wsX3_meanPatience := goodIn_r _ [638, 16, 214, 240, 241, 242, 28, 243, 54, 53, 639, 640, 641, 642, 52, 683, 684, 694, 695, 696, 697, 698, 699, 700, 701, 702, 706, 707, 708, 709, 710, 711] (by decide +kernel) (by decide +kernel)
set_option maxRecDepth 20000 in
theorem gL_law_X3_meanPatience : GoodIn wsL_law (wsV RL 204 RX3 yX3_meanPatience wsX3_meanPatience) := goodIn_app (goodIn_of _ (by decide +kernel)) ggL_law_X3_meanPatience
set_option maxRecDepth 20000 in
theorem ggL_law_X4_meanPatience : GoodIn wsL_law wsX4_meanPatience := goodIn_r _ [646, 101, 229, 64, 310, 311, 312, 5, 313, 473, 474, 475, 476, 685, 686, 687, 688, 689, 690, 691, 692, 693] (by decide +kernel) (by decide +kernel)
set_option maxRecDepth 20000 in
theorem gL_law_X4_meanPatience : GoodIn wsL_law (wsV RL 208 RX4 yX4_meanPatience wsX4_meanPatience) := goodIn_app (goodIn_of _ (by decide +kernel)) ggL_law_X4_meanPatience
set_option maxRecDepth 20000 in
theorem ggL_law_X3_digest : GoodIn wsL_law wsX3_digest := goodIn_r _ [650, 651, 652, 315, 316, 2, 317, 16, 318, 653, 654, 655, 656, 657, 328, 329, 330, 78, 79, 658, 371, 372, 373, 374, 263, 264, 24, 265, 44, 43, 659, 407, 408, 409, 410, 660, 416, 417, 418, 419, 661, 425, 426, 427, 428, 662, 434, 435, 436, 178, 663, 442, 443, 444, 190, 664, 450, 451, 452, 202, 665, 458, 459, 460, 214, 215, 666, 466, 467, 468, 240, 241, 242, 28, 243, 54, 53, 667, 601, 602, 603, 17, 548, 549, 550, 15, 551, 25, 29, 30, 31, 32, 33, 34, 35, 36, 552, 553, 554, 555, 42, 556, 557, 558, 559, 49, 50, 51, 52, 244, 245, 246, 247, 248, 249, 250, 251, 252, 253, 254, 255, 256, 257, 258, 259, 260, 261, 262, 266, 267, 268, 269, 270, 271, 272, 273, 274, 275, 276, 277, 278, 279, 280, 281, 282, 283, 93, 94, 95, 96, 89, 90, 91, 668, 613, 614, 615, 139, 140, 141, 142, 143, 136, 137, 138, 669, 670, 671, 672, 128, 353, 673, 674, 675, 676, 512, 524, 492, 493, 494, 495, 496, 489, 490, 491, 683, 684, 694, 695, 696, 697, 698, 699, 700, 701, 702, 703, 704, 705, 706, 707, 708, 709, 710, 711] (by decide +kernel) (by decide +kernel)
set_option maxRecDepth 20000 in
theorem gL_law_X3_digest : GoodIn wsL_law (wsV RL 209 RX3 yX3_digest wsX3_digest) := goodIn_app (goodIn_of _ (by decide +kernel)) ggL_law_X3_digest
set_option maxRecDepth 20000 in
theorem ggL_law_X4_digest : GoodIn wsL_law wsX4_digest := goodIn_r _ [680, 101, 41, 64, 59, 60, 229, 681, 682, 306, 307, 308, 5, 309, 473, 474, 475, 476, 310, 311, 312, 313, 608, 609, 610, 611, 564, 565, 566, 567, 65, 568, 569, 570, 571, 572, 573, 574, 575, 288, 289, 290, 291, 292, 293, 294, 295, 296, 271, 272, 273, 63, 61, 62, 297, 298, 299, 300, 301, 302, 303, 304, 305, 275, 276, 112, 113, 114, 115, 576, 577, 578, 579, 620, 621, 622, 623, 152, 153, 154, 155, 685, 686, 687, 688, 689, 690, 691, 692, 693] (by decide +kernel) (by decide +kernel)
set_option maxRecDepth 20000 in
theorem gL_law_X4_digest : GoodIn wsL_law (wsV RL 213 RX4 yX4_digest wsX4_digest) := goodIn_app (goodIn_of _ (by decide +kernel)) ggL_law_X4_digest
theorem dL_law_0 : decode cL_law 0 = .ok (.new 8, 3) := by decide +kernel
theorem dL_law_3 : decode cL_law 3 = .ok (.dup, 1) := by decide +kernel
theorem dL_law_4 : decode cL_law 4 = .ok (.invokespecial 73, 3) := by decide +kernel
theorem dL_law_7 : decode cL_law 7 = .ok (.astore_n 1, 1) := by decide +kernel
theorem dL_law_8 : decode cL_law 8 = .ok (.new 74, 3) := by decide +kernel
theorem dL_law_11 : decode cL_law 11 = .ok (.dup, 1) := by decide +kernel
theorem dL_law_12 : decode cL_law 12 = .ok (.invokespecial 76, 3) := by decide +kernel
theorem dL_law_15 : decode cL_law 15 = .ok (.astore_n 2, 1) := by decide +kernel
theorem dL_law_16 : decode cL_law 16 = .ok (.iconst 1, 1) := by decide +kernel
theorem dL_law_17 : decode cL_law 17 = .ok (.newarray .long, 2) := by decide +kernel
theorem dL_law_19 : decode cL_law 19 = .ok (.astore_n 3, 1) := by decide +kernel
theorem dL_law_20 : decode cL_law 20 = .ok (.iconst 0, 1) := by decide +kernel
theorem dL_law_21 : decode cL_law 21 = .ok (.istore 4, 2) := by decide +kernel
theorem dL_law_23 : decode cL_law 23 = .ok (.iload 4, 2) := by decide +kernel
theorem dL_law_25 : decode cL_law 25 = .ok (.aload_n 0, 1) := by decide +kernel
theorem dL_law_26 : decode cL_law 26 = .ok (.arraylength, 1) := by decide +kernel
theorem dL_law_27 : decode cL_law 27 = .ok (.iconst 4, 1) := by decide +kernel
theorem dL_law_28 : decode cL_law 28 = .ok (.isub, 1) := by decide +kernel
theorem dL_law_29 : decode cL_law 29 = .ok (.if_icmp .gt 1487, 3) := by decide +kernel
theorem dL_law_32 : decode cL_law 32 = .ok (.aload_n 0, 1) := by decide +kernel
theorem dL_law_33 : decode cL_law 33 = .ok (.iload 4, 2) := by decide +kernel
theorem dL_law_35 : decode cL_law 35 = .ok (.iaload, 1) := by decide +kernel
theorem dL_law_36 : decode cL_law 36 = .ok (.bipush 63, 2) := by decide +kernel
theorem dL_law_38 : decode cL_law 38 = .ok (.iand, 1) := by decide +kernel
theorem dL_law_39 : decode cL_law 39 = .ok (.tableswitch 1471 0 35 #[157, 225, 281, 337, 393, 449, 505, 585, 641, 654, 667, 723, 779, 792, 805, 861, 917, 930, 943, 956, 969, 982, 995, 1008, 1021, 1084, 1140, 1196, 1209, 1265, 1278, 1334, 1347, 1360, 1416, 1457], 157) := by decide +kernel
theorem dL_law_196 : decode cL_law 196 = .ok (.aload_n 1, 1) := by decide +kernel
theorem dL_law_197 : decode cL_law 197 = .ok (.aload_n 0, 1) := by decide +kernel
theorem dL_law_198 : decode cL_law 198 = .ok (.iload 4, 2) := by decide +kernel
theorem dL_law_200 : decode cL_law 200 = .ok (.iconst 1, 1) := by decide +kernel
theorem dL_law_201 : decode cL_law 201 = .ok (.iadd, 1) := by decide +kernel
theorem dL_law_202 : decode cL_law 202 = .ok (.iaload, 1) := by decide +kernel
theorem dL_law_203 : decode cL_law 203 = .ok (.aload_n 0, 1) := by decide +kernel
theorem dL_law_204 : decode cL_law 204 = .ok (.iload 4, 2) := by decide +kernel
theorem dL_law_206 : decode cL_law 206 = .ok (.iconst 2, 1) := by decide +kernel
theorem dL_law_207 : decode cL_law 207 = .ok (.iadd, 1) := by decide +kernel
theorem dL_law_208 : decode cL_law 208 = .ok (.iaload, 1) := by decide +kernel
theorem dL_law_209 : decode cL_law 209 = .ok (.aload_n 3, 1) := by decide +kernel
theorem dL_law_210 : decode cL_law 210 = .ok (.invokestatic 77, 3) := by decide +kernel
theorem dL_law_213 : decode cL_law 213 = .ok (.istore 5, 2) := by decide +kernel
theorem dL_law_215 : decode cL_law 215 = .ok (.aload_n 2, 1) := by decide +kernel
theorem dL_law_216 : decode cL_law 216 = .ok (.aload_n 0, 1) := by decide +kernel
theorem dL_law_217 : decode cL_law 217 = .ok (.iload 4, 2) := by decide +kernel
theorem dL_law_219 : decode cL_law 219 = .ok (.iconst 1, 1) := by decide +kernel
theorem dL_law_220 : decode cL_law 220 = .ok (.iadd, 1) := by decide +kernel
theorem dL_law_221 : decode cL_law 221 = .ok (.iaload, 1) := by decide +kernel
theorem dL_law_222 : decode cL_law 222 = .ok (.aload_n 0, 1) := by decide +kernel
theorem dL_law_223 : decode cL_law 223 = .ok (.iload 4, 2) := by decide +kernel
theorem dL_law_225 : decode cL_law 225 = .ok (.iconst 2, 1) := by decide +kernel
theorem dL_law_226 : decode cL_law 226 = .ok (.iadd, 1) := by decide +kernel
theorem dL_law_227 : decode cL_law 227 = .ok (.iaload, 1) := by decide +kernel
theorem dL_law_228 : decode cL_law 228 = .ok (.invokevirtual 82, 3) := by decide +kernel
theorem dL_law_231 : decode cL_law 231 = .ok (.istore 6, 2) := by decide +kernel
theorem dL_law_233 : decode cL_law 233 = .ok (.aload_n 2, 1) := by decide +kernel
theorem dL_law_234 : decode cL_law 234 = .ok (.invokevirtual 83, 3) := by decide +kernel
theorem dL_law_237 : decode cL_law 237 = .ok (.iload 5, 2) := by decide +kernel
theorem dL_law_239 : decode cL_law 239 = .ok (.if_icmp .eq 5, 3) := by decide +kernel
theorem dL_law_242 : decode cL_law 242 = .ok (.iconst 0, 1) := by decide +kernel
theorem dL_law_243 : decode cL_law 243 = .ok (.ireturn, 1) := by decide +kernel
theorem dL_law_244 : decode cL_law 244 = .ok (.iload 5, 2) := by decide +kernel
theorem dL_law_246 : decode cL_law 246 = .ok (.ifCond .ne 15, 3) := by decide +kernel
theorem dL_law_249 : decode cL_law 249 = .ok (.aload_n 3, 1) := by decide +kernel
theorem dL_law_250 : decode cL_law 250 = .ok (.iconst 0, 1) := by decide +kernel
theorem dL_law_251 : decode cL_law 251 = .ok (.laload, 1) := by decide +kernel
theorem dL_law_252 : decode cL_law 252 = .ok (.iload 6, 2) := by decide +kernel
theorem dL_law_254 : decode cL_law 254 = .ok (.i2l, 1) := by decide +kernel
theorem dL_law_255 : decode cL_law 255 = .ok (.lcmp, 1) := by decide +kernel
theorem dL_law_256 : decode cL_law 256 = .ok (.ifCond .eq 5, 3) := by decide +kernel
theorem dL_law_259 : decode cL_law 259 = .ok (.iconst 0, 1) := by decide +kernel
theorem dL_law_260 : decode cL_law 260 = .ok (.ireturn, 1) := by decide +kernel
theorem dL_law_261 : decode cL_law 261 = .ok (.goto 1249, 3) := by decide +kernel
theorem dL_law_264 : decode cL_law 264 = .ok (.aload_n 1, 1) := by decide +kernel
theorem dL_law_265 : decode cL_law 265 = .ok (.aload_n 0, 1) := by decide +kernel
theorem dL_law_266 : decode cL_law 266 = .ok (.iload 4, 2) := by decide +kernel
theorem dL_law_268 : decode cL_law 268 = .ok (.iconst 1, 1) := by decide +kernel
