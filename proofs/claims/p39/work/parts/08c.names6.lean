set_option maxRecDepth 20000 in
theorem gk_wsX3_digest_0 : GoodIn wsL_law [.code yX3_digest cX3_digest 3 (some .long)] := goodIn_r _ [252] (by decide +kernel) (by decide +kernel)
set_option maxRecDepth 20000 in
theorem gk_wsX3_digest_r1 : GoodIn wsL_law wsX3_digest_r1 := goodIn_r _ [253, 254, 255, 256, 2, 257, 21, 258, 259, 260, 261, 262, 263, 264, 265, 266, 114, 115, 267, 268, 269, 270, 271, 217] (by decide +kernel) (by decide +kernel)
set_option maxRecDepth 20000 in
theorem gk_wsX3_digest_r2 : GoodIn wsL_law wsX3_digest_r2 := goodIn_r _ [218, 29, 219, 48, 47, 272, 273, 274, 275, 276, 277, 278, 279, 280, 281, 282, 283, 284, 285, 286, 287, 288, 289, 290] (by decide +kernel) (by decide +kernel)
set_option maxRecDepth 20000 in
theorem gk_wsX3_digest_r3 : GoodIn wsL_law wsX3_digest_r3 := goodIn_r _ [94, 291, 292, 293, 294, 99, 295, 296, 297, 298, 104, 299, 300, 301, 302, 135, 136, 303, 304, 305, 306, 194, 195, 196] (by decide +kernel) (by decide +kernel)
set_option maxRecDepth 20000 in
theorem gk_wsX3_digest_r4 : GoodIn wsL_law wsX3_digest_r4 := goodIn_r _ [33, 197, 58, 57, 307, 308, 309, 310, 22, 311, 312, 313, 20, 314, 30, 34, 35, 36, 37, 38, 39, 40, 41, 315] (by decide +kernel) (by decide +kernel)
set_option maxRecDepth 20000 in
theorem gk_wsX3_digest_r5 : GoodIn wsL_law wsX3_digest_r5 := goodIn_r _ [316, 317, 318, 46, 319, 320, 321, 322, 53, 54, 55, 56, 198, 199, 200, 201, 202, 203, 204, 205, 206, 207, 208, 209] (by decide +kernel) (by decide +kernel)
set_option maxRecDepth 20000 in
theorem gk_wsX3_digest_r6 : GoodIn wsL_law wsX3_digest_r6 := goodIn_r _ [210, 211, 212, 213, 214, 215, 216, 220, 221, 222, 223, 224, 10, 6, 11, 225, 5, 7, 226, 227, 228, 229, 230, 231] (by decide +kernel) (by decide +kernel)
set_option maxRecDepth 20000 in
theorem gk_wsX3_digest_r7 : GoodIn wsL_law wsX3_digest_r7 := goodIn_r _ [232, 127, 128, 129, 130, 123, 124, 125, 323, 324, 325, 326, 170, 171, 172, 173, 174, 167, 168, 169, 327, 328, 329, 330] (by decide +kernel) (by decide +kernel)
set_option maxRecDepth 20000 in
theorem gk_wsX3_digest_r8 : GoodIn wsL_law wsX3_digest_r8 := goodIn_r _ [159, 331, 332, 333, 334, 335, 336, 337, 338, 339, 340, 341, 342, 343, 344, 345] (by decide +kernel) (by decide +kernel)
set_option maxRecDepth 20000 in
theorem ggL_law_X3_digest : GoodIn wsL_law wsX3_digest := goodIn_cc gk_wsX3_digest_0 (goodIn_app (goodIn_app (goodIn_app (goodIn_app (goodIn_app gk_wsX3_digest_r1 (goodIn_app gk_wsX3_digest_r2 (goodIn_app gk_wsX3_digest_r3 (goodIn_app gk_wsX3_digest_r4 (goodIn_app gk_wsX3_digest_r5 (goodIn_app gk_wsX3_digest_r6 (goodIn_app gk_wsX3_digest_r7 gk_wsX3_digest_r8))))))) (goodIn_sub jlwX3 (by decide +kernel))) (goodIn_sub jlwX2 (by decide +kernel))) (goodIn_sub jlwX0 (by decide +kernel))) (goodIn_sub jlwX1 (by decide +kernel)))
set_option maxRecDepth 20000 in
theorem gL_law_X3_digest : GoodIn wsL_law (wsV RL 89 RX3 yX3_digest wsX3_digest) := goodIn_app (goodIn_of _ (by decide +kernel)) ggL_law_X3_digest
set_option maxRecDepth 20000 in
theorem ggL_law_X3_topics : GoodIn wsL_law wsX3_topics := goodIn_r _ [266, 21, 114, 115, 488, 489, 490, 491, 492, 493, 494, 495, 496, 497, 498, 499, 500, 501] (by decide +kernel) (by decide +kernel)
set_option maxRecDepth 20000 in
theorem gL_law_X3_topics : GoodIn wsL_law (wsV RL 93 RX3 yX3_topics wsX3_topics) := goodIn_app (goodIn_of _ (by decide +kernel)) ggL_law_X3_topics
set_option maxRecDepth 20000 in
theorem ggL_law_X3_sizeAt : GoodIn wsL_law wsX3_sizeAt := goodIn_ca (goodIn_r _ [350, 21, 114, 159, 160, 161, 162, 2, 163, 164, 165, 166, 167, 168, 29, 169, 48, 488, 489, 490, 491, 492, 493, 494, 495, 496, 497, 498, 499, 500, 501] (by decide +kernel) (by decide +kernel)) (goodIn_sub (fun _ h => List.mem_append_right _ h) (by decide +kernel))
set_option maxRecDepth 20000 in
theorem gL_law_X3_sizeAt : GoodIn wsL_law (wsV RL 97 RX3 yX3_sizeAt wsX3_sizeAt) := goodIn_app (goodIn_of _ (by decide +kernel)) ggL_law_X3_sizeAt
set_option maxRecDepth 20000 in
theorem ggL_law_X3_turnsToNod : GoodIn wsL_law wsX3_turnsToNod := goodIn_ca (goodIn_r _ [354, 21, 114, 159, 94, 160, 161, 162, 2, 163, 164, 165, 166, 167, 168, 29, 169, 48, 355, 210, 211, 488, 489, 490, 491, 492, 493, 494, 495, 496, 497, 498, 499, 500, 501] (by decide +kernel) (by decide +kernel)) (goodIn_sub (fun _ h => List.mem_append_right _ h) (by decide +kernel))
set_option maxRecDepth 20000 in
theorem gL_law_X3_turnsToNod : GoodIn wsL_law (wsV RL 105 RX3 yX3_turnsToNod wsX3_turnsToNod) := goodIn_app (goodIn_of _ (by decide +kernel)) ggL_law_X3_turnsToNod
set_option maxRecDepth 20000 in
theorem ggL_law_X3_topicsOf : GoodIn wsL_law wsX3_topicsOf := goodIn_ca (goodIn_r _ [359, 164, 165, 21, 114, 119, 120, 2, 121, 360, 361, 362, 29, 363, 48, 46, 488, 489, 490, 491, 492, 493, 494, 495, 496, 497, 498, 499, 500, 501] (by decide +kernel) (by decide +kernel)) (goodIn_sub (fun _ h => List.mem_append_right _ h) (by decide +kernel))
set_option maxRecDepth 20000 in
theorem gL_law_X3_topicsOf : GoodIn wsL_law (wsV RL 108 RX3 yX3_topicsOf wsX3_topicsOf) := goodIn_app (goodIn_of _ (by decide +kernel)) ggL_law_X3_topicsOf
set_option maxRecDepth 20000 in
theorem ggL_law_X3_noise : GoodIn wsL_law wsX3_noise := goodIn_r _ [270, 21, 114, 271, 217, 218, 29, 219, 48, 47, 488, 489, 490, 491, 492, 493, 494, 495, 496, 497, 498, 499, 500, 501] (by decide +kernel) (by decide +kernel)
set_option maxRecDepth 20000 in
theorem gL_law_X3_noise : GoodIn wsL_law (wsV RL 111 RX3 yX3_noise wsX3_noise) := goodIn_app (goodIn_of _ (by decide +kernel)) ggL_law_X3_noise
set_option maxRecDepth 20000 in
theorem ggL_law_X3_largest : GoodIn wsL_law wsX3_largest := goodIn_r _ [368, 21, 114, 369, 370, 371, 29, 372, 48, 47, 488, 489, 490, 491, 492, 493, 494, 495, 496, 497, 498, 499, 500, 501] (by decide +kernel) (by decide +kernel)
set_option maxRecDepth 20000 in
theorem gL_law_X3_largest : GoodIn wsL_law (wsV RL 114 RX3 yX3_largest wsX3_largest) := goodIn_app (goodIn_of _ (by decide +kernel)) ggL_law_X3_largest
set_option maxRecDepth 20000 in
theorem ggL_law_X3_nods : GoodIn wsL_law wsX3_nods := goodIn_r _ [275, 21, 276, 488, 489, 490, 491, 492, 493, 494, 495, 496, 497, 498] (by decide +kernel) (by decide +kernel)
set_option maxRecDepth 20000 in
theorem gL_law_X3_nods : GoodIn wsL_law (wsV RL 117 RX3 yX3_nods wsX3_nods) := goodIn_app (goodIn_of _ (by decide +kernel)) ggL_law_X3_nods
set_option maxRecDepth 20000 in
theorem ggL_law_X3_talkers : GoodIn wsL_law wsX3_talkers := goodIn_r _ [302, 21, 135, 136, 488, 489, 490, 491, 492, 493, 494, 495, 496, 497, 498, 502, 503, 504, 505, 506, 507] (by decide +kernel) (by decide +kernel)
set_option maxRecDepth 20000 in
theorem gL_law_X3_talkers : GoodIn wsL_law (wsV RL 120 RX3 yX3_talkers wsX3_talkers) := goodIn_app (goodIn_of _ (by decide +kernel)) ggL_law_X3_talkers
set_option maxRecDepth 20000 in
theorem ggL_law_X3_patienceOf : GoodIn wsL_law wsX3_patienceOf := goodIn_ca (goodIn_r _ [378, 21, 135, 336, 379, 380, 381, 2, 382, 164, 165, 383, 343, 344, 33, 345, 58, 488, 489, 490, 491, 492, 493, 494, 495, 496, 497, 498, 502, 503, 504, 505, 506, 507] (by decide +kernel) (by decide +kernel)) (goodIn_sub (fun _ h => List.mem_append_right _ h) (by decide +kernel))
set_option maxRecDepth 20000 in
theorem gL_law_X3_patienceOf : GoodIn wsL_law (wsV RL 122 RX3 yX3_patienceOf wsX3_patienceOf) := goodIn_app (goodIn_of _ (by decide +kernel)) ggL_law_X3_patienceOf
set_option maxRecDepth 20000 in
theorem ggL_law_X3_isPresent : GoodIn wsL_law wsX3_isPresent := goodIn_ca (goodIn_r _ [387, 21, 135, 379, 380, 381, 2, 382, 164, 165, 383, 343, 344, 33, 345, 58, 338, 339, 340, 341, 57, 342, 488, 489, 490, 491, 492, 493, 494, 495, 496, 497, 498, 502, 503, 504, 505, 506, 507] (by decide +kernel) (by decide +kernel)) (goodIn_sub (fun _ h => List.mem_append_right _ h) (by decide +kernel))
set_option maxRecDepth 20000 in
theorem gL_law_X3_isPresent : GoodIn wsL_law (wsV RL 125 RX3 yX3_isPresent wsX3_isPresent) := goodIn_app (goodIn_of _ (by decide +kernel)) ggL_law_X3_isPresent
set_option maxRecDepth 20000 in
theorem gk_wsX3_minutesUntilExit_0 : GoodIn wsL_law [.code yX3_minutesUntilExit cX3_minutesUntilExit 3 (some .int)] := goodIn_r _ [391] (by decide +kernel) (by decide +kernel)
set_option maxRecDepth 20000 in
theorem gk_wsX3_minutesUntilExit_r1 : GoodIn wsL_law wsX3_minutesUntilExit_r1 := goodIn_r _ [22, 21, 135, 379, 380, 381, 2, 382, 164, 165, 383, 343, 344, 33, 345, 58, 311, 312, 313, 20, 314, 30, 34, 35] (by decide +kernel) (by decide +kernel)
set_option maxRecDepth 20000 in
theorem gk_wsX3_minutesUntilExit_r2 : GoodIn wsL_law wsX3_minutesUntilExit_r2 := goodIn_r _ [36, 37, 38, 39, 40, 41, 315, 316, 317, 29, 318, 48, 46, 47, 319, 320, 321, 322, 53, 54, 55, 56, 57, 338] (by decide +kernel) (by decide +kernel)
set_option maxRecDepth 20000 in
theorem gk_wsX3_minutesUntilExit_r3 : GoodIn wsL_law wsX3_minutesUntilExit_r3 := goodIn_r _ [339, 340, 341, 342, 392, 203, 204, 205, 206, 207, 208, 209, 210, 211, 212, 213, 214, 215, 216, 217, 218, 219, 220, 221] (by decide +kernel) (by decide +kernel)
set_option maxRecDepth 20000 in
theorem gk_wsX3_minutesUntilExit_r4 : GoodIn wsL_law wsX3_minutesUntilExit_r4 := goodIn_r _ [222, 223, 224, 10, 6, 11, 225, 5, 7, 226, 227, 228, 229, 230, 231, 232, 127, 128, 129, 130, 123, 124, 125] (by decide +kernel) (by decide +kernel)
set_option maxRecDepth 20000 in
theorem ggL_law_X3_minutesUntilExit : GoodIn wsL_law wsX3_minutesUntilExit := goodIn_cc gk_wsX3_minutesUntilExit_0 (goodIn_app (goodIn_app (goodIn_app (goodIn_app (goodIn_app (goodIn_app gk_wsX3_minutesUntilExit_r1 (goodIn_app gk_wsX3_minutesUntilExit_r2 (goodIn_app gk_wsX3_minutesUntilExit_r3 gk_wsX3_minutesUntilExit_r4))) (goodIn_sub jlwX3 (by decide +kernel))) (goodIn_sub jlwX2 (by decide +kernel))) (goodIn_sub jlwX1 (by decide +kernel))) (goodIn_sub jlwX0 (by decide +kernel))) (goodIn_sub (fun _ h => List.mem_append_right _ h) (by decide +kernel)))
set_option maxRecDepth 20000 in
theorem gL_law_X3_minutesUntilExit : GoodIn wsL_law (wsV RL 129 RX3 yX3_minutesUntilExit wsX3_minutesUntilExit) := goodIn_app (goodIn_of _ (by decide +kernel)) ggL_law_X3_minutesUntilExit
set_option maxRecDepth 20000 in
theorem ggL_law_X3_exitOf : GoodIn wsL_law wsX3_exitOf := goodIn_ca (goodIn_r _ [396, 21, 135, 337, 379, 380, 381, 2, 382, 164, 165, 383, 343, 344, 33, 345, 58, 488, 489, 490, 491, 492, 493, 494, 495, 496, 497, 498, 502, 503, 504, 505, 506, 507] (by decide +kernel) (by decide +kernel)) (goodIn_sub (fun _ h => List.mem_append_right _ h) (by decide +kernel))
set_option maxRecDepth 20000 in
theorem gL_law_X3_exitOf : GoodIn wsL_law (wsV RL 135 RX3 yX3_exitOf wsX3_exitOf) := goodIn_app (goodIn_of _ (by decide +kernel)) ggL_law_X3_exitOf
set_option maxRecDepth 20000 in
theorem ggL_law_X3_minute : GoodIn wsL_law wsX3_minute := goodIn_r _ [257, 21, 258, 488, 489, 490, 491, 492, 493, 494, 495, 496, 497, 498] (by decide +kernel) (by decide +kernel)
set_option maxRecDepth 20000 in
theorem gL_law_X3_minute : GoodIn wsL_law (wsV RL 138 RX3 yX3_minute wsX3_minute) := goodIn_app (goodIn_of _ (by decide +kernel)) ggL_law_X3_minute
set_option maxRecDepth 20000 in
theorem ggL_law_X3_present : GoodIn wsL_law wsX3_present := goodIn_r _ [306, 21, 135, 194, 195, 196, 33, 197, 58, 57, 488, 489, 490, 491, 492, 493, 494, 495, 496, 497, 498, 502, 503, 504, 505, 506, 507] (by decide +kernel) (by decide +kernel)
set_option maxRecDepth 20000 in
theorem gL_law_X3_present : GoodIn wsL_law (wsV RL 141 RX3 yX3_present wsX3_present) := goodIn_app (goodIn_of _ (by decide +kernel)) ggL_law_X3_present
