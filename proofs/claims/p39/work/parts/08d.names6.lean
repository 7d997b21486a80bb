set_option maxRecDepth 20000 in
theorem ggL_law_X3_nextToGo : GoodIn wsL_law wsX3_nextToGo := goodIn_r _ [402, 21, 135, 403, 404, 405, 33, 406, 58, 57, 56, 488, 489, 490, 491, 492, 493, 494, 495, 496, 497, 498, 502, 503, 504, 505, 506, 507] (by decide +kernel) (by decide +kernel)
set_option maxRecDepth 20000 in
theorem gL_law_X3_nextToGo : GoodIn wsL_law (wsV RL 144 RX3 yX3_nextToGo wsX3_nextToGo) := goodIn_app (goodIn_of _ (by decide +kernel)) ggL_law_X3_nextToGo
set_option maxRecDepth 20000 in
theorem ggL_law_X3_meanPatience : GoodIn wsL_law wsX3_meanPatience := goodIn_r _ [410, 21, 135, 194, 195, 196, 33, 197, 58, 57, 411, 412, 413, 414, 56, 488, 489, 490, 491, 492, 493, 494, 495, 496, 497, 498, 502, 503, 504, 505, 506, 507] (by decide +kernel) (by decide +kernel)
set_option maxRecDepth 20000 in
theorem gL_law_X3_meanPatience : GoodIn wsL_law (wsV RL 147 RX3 yX3_meanPatience wsX3_meanPatience) := goodIn_app (goodIn_of _ (by decide +kernel)) ggL_law_X3_meanPatience
set_option maxRecDepth 20000 in
theorem gk_wsX3_bestGear_0 : GoodIn wsL_law [.code yX3_bestGear cX3_bestGear 5 (some .int)] := goodIn_r _ [310] (by decide +kernel) (by decide +kernel)
set_option maxRecDepth 20000 in
theorem gk_wsX3_bestGear_r1 : GoodIn wsL_law wsX3_bestGear_r1 := goodIn_r _ [22, 21, 94, 114, 311, 312, 313, 20, 314, 30, 34, 35, 36, 37, 38, 39, 40, 41, 315, 316, 317, 29, 318, 48] (by decide +kernel) (by decide +kernel)
set_option maxRecDepth 20000 in
theorem gk_wsX3_bestGear_r2 : GoodIn wsL_law wsX3_bestGear_r2 := goodIn_r _ [46, 47, 319, 320, 321, 33, 322, 58, 53, 54, 55, 56, 57, 198, 199, 200, 201, 202, 203, 204, 205, 206, 207, 208] (by decide +kernel) (by decide +kernel)
set_option maxRecDepth 20000 in
theorem gk_wsX3_bestGear_r3 : GoodIn wsL_law wsX3_bestGear_r3 := goodIn_r _ [209, 210, 2, 211, 212, 213, 214, 215, 216, 217, 218, 219, 220, 221, 222, 223, 224, 10, 6, 11, 225, 5, 7, 226] (by decide +kernel) (by decide +kernel)
set_option maxRecDepth 20000 in
theorem gk_wsX3_bestGear_r4 : GoodIn wsL_law wsX3_bestGear_r4 := goodIn_r _ [227, 228, 229, 230, 231, 232, 127, 128, 129, 130, 123, 124, 125, 271] (by decide +kernel) (by decide +kernel)
set_option maxRecDepth 20000 in
theorem ggL_law_X3_bestGear : GoodIn wsL_law wsX3_bestGear := goodIn_cc gk_wsX3_bestGear_0 (goodIn_app (goodIn_app (goodIn_app (goodIn_app (goodIn_app gk_wsX3_bestGear_r1 (goodIn_app gk_wsX3_bestGear_r2 (goodIn_app gk_wsX3_bestGear_r3 gk_wsX3_bestGear_r4))) (goodIn_sub jlwX3 (by decide +kernel))) (goodIn_sub jlwX2 (by decide +kernel))) (goodIn_sub jlwX0 (by decide +kernel))) (goodIn_sub jlwX1 (by decide +kernel)))
set_option maxRecDepth 20000 in
theorem gL_law_X3_bestGear : GoodIn wsL_law (wsV RL 151 RX3 yX3_bestGear wsX3_bestGear) := goodIn_app (goodIn_of _ (by decide +kernel)) ggL_law_X3_bestGear
set_option maxRecDepth 20000 in
theorem ggL_law_L_below : GoodIn wsL_law wsL_below := goodIn_r _ [86, 87] (by decide +kernel) (by decide +kernel)
set_option maxRecDepth 20000 in
theorem gL_law_L_below : GoodIn wsL_law (va_wsS RL 15 yL_below wsL_below) := goodIn_app (goodIn_of _ (by decide +kernel)) ggL_law_L_below
set_option maxRecDepth 20000 in
theorem gk_wsX3_bestPush_0 : GoodIn wsL_law [.code yX3_bestPush cX3_bestPush 5 (some .int)] := goodIn_r _ [326] (by decide +kernel) (by decide +kernel)
set_option maxRecDepth 20000 in
theorem gk_wsX3_bestPush_r1 : GoodIn wsL_law wsX3_bestPush_r1 := goodIn_r _ [21, 114, 115, 22, 311, 312, 313, 20, 314, 30, 34, 35, 36, 37, 38, 39, 40, 41, 315, 316, 317, 29, 318, 48] (by decide +kernel) (by decide +kernel)
set_option maxRecDepth 20000 in
theorem gk_wsX3_bestPush_r2 : GoodIn wsL_law wsX3_bestPush_r2 := goodIn_r _ [46, 47, 319, 320, 321, 33, 322, 58, 53, 54, 55, 56, 57, 170, 171, 172, 173, 174, 167, 168, 169, 198, 199, 200] (by decide +kernel) (by decide +kernel)
set_option maxRecDepth 20000 in
theorem gk_wsX3_bestPush_r3 : GoodIn wsL_law wsX3_bestPush_r3 := goodIn_r _ [201, 202, 203, 204, 205, 206, 207, 208, 209, 210, 2, 211, 212, 213, 214, 215, 216, 217, 218, 219, 220, 221, 222, 223] (by decide +kernel) (by decide +kernel)
set_option maxRecDepth 20000 in
theorem gk_wsX3_bestPush_r4 : GoodIn wsL_law wsX3_bestPush_r4 := goodIn_r _ [224, 10, 6, 11, 225, 5, 7, 226, 227, 228, 229, 230, 231, 232, 127, 128, 129, 130, 123, 124, 125, 271] (by decide +kernel) (by decide +kernel)
set_option maxRecDepth 20000 in
theorem ggL_law_X3_bestPush : GoodIn wsL_law wsX3_bestPush := goodIn_cc gk_wsX3_bestPush_0 (goodIn_app (goodIn_app (goodIn_app (goodIn_app (goodIn_app gk_wsX3_bestPush_r1 (goodIn_app gk_wsX3_bestPush_r2 (goodIn_app gk_wsX3_bestPush_r3 gk_wsX3_bestPush_r4))) (goodIn_sub jlwX3 (by decide +kernel))) (goodIn_sub jlwX2 (by decide +kernel))) (goodIn_sub jlwX0 (by decide +kernel))) (goodIn_sub jlwX1 (by decide +kernel)))
set_option maxRecDepth 20000 in
theorem gL_law_X3_bestPush : GoodIn wsL_law (wsV RL 154 RX3 yX3_bestPush wsX3_bestPush) := goodIn_app (goodIn_of _ (by decide +kernel)) ggL_law_X3_bestPush
set_option maxRecDepth 20000 in
theorem gk_wsL_gearNoise_0 : GoodIn wsL_law [.code yL_gearNoise cL_gearNoise 3 (some .int)] := goodIn_r _ [419] (by decide +kernel) (by decide +kernel)
set_option maxRecDepth 20000 in
theorem gk_wsL_gearNoise_r1 : GoodIn wsL_law wsL_gearNoise_r1 := goodIn_r _ [66, 420, 421, 422, 65, 423, 424, 64, 244, 241, 243, 242, 74, 75, 76, 78, 425, 426, 427, 428, 429, 77, 79, 430] (by decide +kernel) (by decide +kernel)
set_option maxRecDepth 20000 in
theorem gk_wsL_gearNoise_r2 : GoodIn wsL_law wsL_gearNoise_r2 := goodIn_r _ [71, 72, 73, 16, 17, 154, 106, 107, 431, 432, 433, 434, 435, 436, 234, 235, 236, 237, 238, 239, 240, 3, 245, 246] (by decide +kernel) (by decide +kernel)
set_option maxRecDepth 20000 in
theorem gk_wsL_gearNoise_r3 : GoodIn wsL_law wsL_gearNoise_r3 := goodIn_r _ [247, 248, 437] (by decide +kernel) (by decide +kernel)
set_option maxRecDepth 20000 in
theorem ggL_law_L_gearNoise : GoodIn wsL_law wsL_gearNoise := goodIn_cc gk_wsL_gearNoise_0 (goodIn_app (goodIn_app gk_wsL_gearNoise_r1 (goodIn_app gk_wsL_gearNoise_r2 gk_wsL_gearNoise_r3)) (goodIn_sub jlwX4 (by decide +kernel)))
set_option maxRecDepth 20000 in
theorem gL_law_L_gearNoise : GoodIn wsL_law (va_wsS RL 157 yL_gearNoise wsL_gearNoise) := goodIn_app (goodIn_of _ (by decide +kernel)) ggL_law_L_gearNoise
set_option maxRecDepth 20000 in
theorem gk_wsL_pushNoise_0 : GoodIn wsL_law [.code yL_pushNoise cL_pushNoise 3 (some .int)] := goodIn_r _ [440] (by decide +kernel) (by decide +kernel)
set_option maxRecDepth 20000 in
theorem gk_wsL_pushNoise_r1 : GoodIn wsL_law wsL_pushNoise_r1 := goodIn_r _ [420, 421, 422, 65, 423, 424, 64, 244, 241, 243, 242, 74, 75, 76, 78, 425, 426, 427, 428, 429, 77, 79, 430, 71] (by decide +kernel) (by decide +kernel)
set_option maxRecDepth 20000 in
theorem gk_wsL_pushNoise_r2 : GoodIn wsL_law wsL_pushNoise_r2 := goodIn_r _ [72, 73, 16, 17, 154, 106, 107, 150, 151, 152, 153, 431, 432, 433, 434, 435, 436, 234, 235, 236, 237, 238, 239, 240] (by decide +kernel) (by decide +kernel)
set_option maxRecDepth 20000 in
theorem gk_wsL_pushNoise_r3 : GoodIn wsL_law wsL_pushNoise_r3 := goodIn_r _ [3, 245, 246, 247, 248, 437] (by decide +kernel) (by decide +kernel)
set_option maxRecDepth 20000 in
theorem ggL_law_L_pushNoise : GoodIn wsL_law wsL_pushNoise := goodIn_cc gk_wsL_pushNoise_0 (goodIn_app (goodIn_app gk_wsL_pushNoise_r1 (goodIn_app gk_wsL_pushNoise_r2 gk_wsL_pushNoise_r3)) (goodIn_sub jlwX4 (by decide +kernel)))
set_option maxRecDepth 20000 in
theorem gL_law_L_pushNoise : GoodIn wsL_law (va_wsS RL 161 yL_pushNoise wsL_pushNoise) := goodIn_app (goodIn_of _ (by decide +kernel)) ggL_law_L_pushNoise
set_option maxRecDepth 20000 in
theorem ggL_law_X3_pushToFront : GoodIn wsL_law wsX3_pushToFront := goodIn_ca (goodIn_r _ [158, 21, 114, 159, 160, 161, 162, 2, 163, 164, 165, 166, 167, 168, 29, 169, 48, 170, 171, 172, 173, 46, 47, 174, 488, 489, 490, 491, 492, 493, 494, 495, 496, 497, 498, 499, 500, 501] (by decide +kernel) (by decide +kernel)) (goodIn_sub (fun _ h => List.mem_append_right _ h) (by decide +kernel))
set_option maxRecDepth 20000 in
theorem gL_law_X3_pushToFront : GoodIn wsL_law (wsV RL 34 RX3 yX3_pushToFront wsX3_pushToFront) := goodIn_app (goodIn_of _ (by decide +kernel)) ggL_law_X3_pushToFront
set_option maxRecDepth 20000 in
theorem ggL_law_X4_push : GoodIn wsL_law wsX4_push := goodIn_r _ [153, 77, 78, 154, 106, 65, 107, 508, 509, 510, 511, 512, 513, 514, 515, 516] (by decide +kernel) (by decide +kernel)
set_option maxRecDepth 20000 in
theorem gL_law_X4_push : GoodIn wsL_law (wsV RL 30 RX4 yX4_push wsX4_push) := goodIn_app (goodIn_of _ (by decide +kernel)) ggL_law_X4_push
set_option maxRecDepth 20000 in
theorem gk_wsX3_noiseIn_0 : GoodIn wsL_law [.code yX3_noiseIn cX3_noiseIn 2 (some .int)] := goodIn_r _ [444] (by decide +kernel) (by decide +kernel)
set_option maxRecDepth 20000 in
theorem gk_wsX3_noiseIn_r1 : GoodIn wsL_law wsX3_noiseIn_r1 := goodIn_r _ [22, 21, 114, 191, 192, 2, 193, 92, 93, 311, 312, 313, 20, 314, 30, 34, 35, 36, 37, 38, 39, 40, 41, 315] (by decide +kernel) (by decide +kernel)
set_option maxRecDepth 20000 in
theorem gk_wsX3_noiseIn_r2 : GoodIn wsL_law wsX3_noiseIn_r2 := goodIn_r _ [316, 317, 29, 318, 48, 46, 47, 319, 320, 321, 33, 322, 58, 53, 54, 55, 56, 57, 198, 199, 200, 201, 202, 203] (by decide +kernel) (by decide +kernel)
set_option maxRecDepth 20000 in
theorem gk_wsX3_noiseIn_r3 : GoodIn wsL_law wsX3_noiseIn_r3 := goodIn_r _ [204, 205, 206, 207, 208, 209, 210, 211, 212, 213, 214, 215, 216, 217, 218, 219, 220, 221, 222, 223, 224, 10, 6, 11] (by decide +kernel) (by decide +kernel)
set_option maxRecDepth 20000 in
theorem gk_wsX3_noiseIn_r4 : GoodIn wsL_law wsX3_noiseIn_r4 := goodIn_r _ [225, 5, 7, 226, 227, 228, 229, 230, 231, 232, 127, 128, 129, 130, 123, 124, 125, 271] (by decide +kernel) (by decide +kernel)
set_option maxRecDepth 20000 in
theorem ggL_law_X3_noiseIn : GoodIn wsL_law wsX3_noiseIn := goodIn_cc gk_wsX3_noiseIn_0 (goodIn_app (goodIn_app (goodIn_app (goodIn_app (goodIn_app (goodIn_app gk_wsX3_noiseIn_r1 (goodIn_app gk_wsX3_noiseIn_r2 (goodIn_app gk_wsX3_noiseIn_r3 gk_wsX3_noiseIn_r4))) (goodIn_sub jlwX3 (by decide +kernel))) (goodIn_sub jlwX2 (by decide +kernel))) (goodIn_sub jlwX0 (by decide +kernel))) (goodIn_sub jlwX1 (by decide +kernel))) (goodIn_sub (fun _ h => List.mem_append_left _ (List.mem_append_left _ (List.mem_append_right _ h))) (by decide +kernel)))
set_option maxRecDepth 20000 in
theorem gL_law_X3_noiseIn : GoodIn wsL_law (wsV RL 164 RX3 yX3_noiseIn wsX3_noiseIn) := goodIn_app (goodIn_of _ (by decide +kernel)) ggL_law_X3_noiseIn
set_option maxRecDepth 20000 in
theorem gk_wsX3_bottlesIn_0 : GoodIn wsL_law [.code yX3_bottlesIn cX3_bottlesIn 2 (some .int)] := goodIn_r _ [448] (by decide +kernel) (by decide +kernel)
set_option maxRecDepth 20000 in
theorem gk_wsX3_bottlesIn_r1 : GoodIn wsL_law wsX3_bottlesIn_r1 := goodIn_r _ [22, 21, 281, 191, 192, 2, 193, 92, 93, 311, 312, 313, 20, 314, 30, 34, 35, 36, 37, 38, 39, 40, 41, 315] (by decide +kernel) (by decide +kernel)
set_option maxRecDepth 20000 in
theorem gk_wsX3_bottlesIn_r2 : GoodIn wsL_law wsX3_bottlesIn_r2 := goodIn_r _ [316, 317, 29, 318, 48, 46, 47, 319, 320, 321, 33, 322, 58, 53, 54, 55, 56, 57, 198, 199, 200, 201, 202, 203] (by decide +kernel) (by decide +kernel)
set_option maxRecDepth 20000 in
theorem gk_wsX3_bottlesIn_r3 : GoodIn wsL_law wsX3_bottlesIn_r3 := goodIn_r _ [204, 205, 206, 207, 208, 209, 210, 211, 212, 213, 214, 215, 216, 217, 218, 219, 220, 221, 222, 223, 224, 10, 6, 11] (by decide +kernel) (by decide +kernel)
set_option maxRecDepth 20000 in
theorem gk_wsX3_bottlesIn_r4 : GoodIn wsL_law wsX3_bottlesIn_r4 := goodIn_r _ [225, 5, 7, 226, 227, 228, 229, 230, 231, 232, 127, 128, 129, 130, 123, 124, 125] (by decide +kernel) (by decide +kernel)
set_option maxRecDepth 20000 in
theorem ggL_law_X3_bottlesIn : GoodIn wsL_law wsX3_bottlesIn := goodIn_cc gk_wsX3_bottlesIn_0 (goodIn_app (goodIn_app (goodIn_app (goodIn_app (goodIn_app (goodIn_app gk_wsX3_bottlesIn_r1 (goodIn_app gk_wsX3_bottlesIn_r2 (goodIn_app gk_wsX3_bottlesIn_r3 gk_wsX3_bottlesIn_r4))) (goodIn_sub jlwX3 (by decide +kernel))) (goodIn_sub jlwX2 (by decide +kernel))) (goodIn_sub jlwX0 (by decide +kernel))) (goodIn_sub jlwX1 (by decide +kernel))) (goodIn_sub (fun _ h => List.mem_append_left _ (List.mem_append_left _ (List.mem_append_right _ h))) (by decide +kernel)))
set_option maxRecDepth 20000 in
theorem gL_law_X3_bottlesIn : GoodIn wsL_law (wsV RL 167 RX3 yX3_bottlesIn wsX3_bottlesIn) := goodIn_app (goodIn_of _ (by decide +kernel)) ggL_law_X3_bottlesIn
set_option maxRecDepth 20000 in
theorem ggL_law_X3_bottles : GoodIn wsL_law wsX3_bottles := goodIn_r _ [280, 21, 281, 488, 489, 490, 491, 492, 493, 494, 495, 496, 497, 498] (by decide +kernel) (by decide +kernel)
set_option maxRecDepth 20000 in
theorem gL_law_X3_bottles : GoodIn wsL_law (wsV RL 170 RX3 yX3_bottles wsX3_bottles) := goodIn_app (goodIn_of _ (by decide +kernel)) ggL_law_X3_bottles
set_option maxRecDepth 20000 in
theorem ggL_law_X3_sieved : GoodIn wsL_law wsX3_sieved := goodIn_r _ [285, 21, 286, 488, 489, 490, 491, 492, 493, 494, 495, 496, 497, 498] (by decide +kernel) (by decide +kernel)
set_option maxRecDepth 20000 in
theorem gL_law_X3_sieved : GoodIn wsL_law (wsV RL 173 RX3 yX3_sieved wsX3_sieved) := goodIn_app (goodIn_of _ (by decide +kernel)) ggL_law_X3_sieved
set_option maxRecDepth 20000 in
theorem gk_wsX3_pass_0 : GoodIn wsL_law [.code yX3_pass cX3_pass 3 (some .int)] := goodIn_r _ [190] (by decide +kernel) (by decide +kernel)
set_option maxRecDepth 20000 in
theorem gk_wsX3_pass_r1 : GoodIn wsL_law wsX3_pass_r1 := goodIn_r _ [21, 135, 191, 192, 2, 193, 92, 93, 194, 195, 196, 33, 197, 58, 57, 198, 199, 200, 20, 201, 202, 203, 204, 205] (by decide +kernel) (by decide +kernel)
set_option maxRecDepth 20000 in
theorem gk_wsX3_pass_r2 : GoodIn wsL_law wsX3_pass_r2 := goodIn_r _ [38, 30, 36, 35, 40, 37, 39, 34, 41, 206, 207, 208, 29, 209, 48, 47, 46, 210, 211, 212, 213, 214, 215, 216] (by decide +kernel) (by decide +kernel)
set_option maxRecDepth 20000 in
theorem gk_wsX3_pass_r3 : GoodIn wsL_law wsX3_pass_r3 := goodIn_r _ [217, 218, 219, 220, 221, 222, 223, 56, 224, 10, 6, 11, 225, 5, 7, 226, 227, 228, 229, 55, 53, 54, 230, 231] (by decide +kernel) (by decide +kernel)
set_option maxRecDepth 20000 in
theorem gk_wsX3_pass_r4 : GoodIn wsL_law wsX3_pass_r4 := goodIn_r _ [232, 127, 128, 129, 130, 123, 124, 125] (by decide +kernel) (by decide +kernel)
set_option maxRecDepth 20000 in
theorem ggL_law_X3_pass : GoodIn wsL_law wsX3_pass := goodIn_cc gk_wsX3_pass_0 (goodIn_app (goodIn_app (goodIn_app (goodIn_app (goodIn_app (goodIn_app gk_wsX3_pass_r1 (goodIn_app gk_wsX3_pass_r2 (goodIn_app gk_wsX3_pass_r3 gk_wsX3_pass_r4))) (goodIn_sub jlwX3 (by decide +kernel))) (goodIn_sub jlwX2 (by decide +kernel))) (goodIn_sub jlwX1 (by decide +kernel))) (goodIn_sub jlwX0 (by decide +kernel))) (goodIn_sub (fun _ h => List.mem_append_left _ (List.mem_append_left _ (List.mem_append_right _ h))) (by decide +kernel)))
set_option maxRecDepth 20000 in
theorem gL_law_X3_pass : GoodIn wsL_law (wsV RL 69 RX3 yX3_pass wsX3_pass) := goodIn_app (goodIn_of _ (by decide +kernel)) ggL_law_X3_pass
set_option maxRecDepth 20000 in
theorem ggL_law_X4_pass : GoodIn wsL_law wsX4_pass := goodIn_r _ [240, 77, 78, 75, 74, 241, 76, 242, 243, 79, 244, 3, 154, 106, 65, 107, 245, 246, 247, 248, 508, 509, 510, 511, 512, 513, 514, 515, 516] (by decide +kernel) (by decide +kernel)
set_option maxRecDepth 20000 in
theorem gL_law_X4_pass : GoodIn wsL_law (wsV RL 176 RX4 yX4_pass wsX4_pass) := goodIn_app (goodIn_of _ (by decide +kernel)) ggL_law_X4_pass
set_option maxRecDepth 20000 in
theorem gk_wsX4_isSame_0 : GoodIn wsL_law [.code yX4_isSame cX4_isSame 9 (some .boolean)] := goodIn_r _ [455] (by decide +kernel) (by decide +kernel)
set_option maxRecDepth 20000 in
theorem gk_wsX4_isSame_r1 : GoodIn wsL_law wsX4_isSame_r1 := goodIn_r _ [3, 78, 79, 244, 241, 243, 242, 74, 75, 76, 456, 348, 349, 2, 350, 21, 114, 159, 160, 161, 162, 163, 164, 165] (by decide +kernel) (by decide +kernel)
set_option maxRecDepth 20000 in
theorem gk_wsX4_isSame_r2 : GoodIn wsL_law wsX4_isSame_r2 := goodIn_r _ [166, 167, 168, 29, 169, 48, 457, 458, 459, 460, 331, 461, 352, 353, 354, 94, 355, 210, 211, 462, 463, 464, 65, 465] (by decide +kernel) (by decide +kernel)
set_option maxRecDepth 20000 in
theorem gk_wsX4_isSame_r3 : GoodIn wsL_law wsX4_isSame_r3 := goodIn_r _ [466, 357, 358, 359, 119, 120, 121, 360, 361, 362, 363, 46, 467, 385, 386, 387, 135, 379, 380, 381, 382, 383, 343, 344] (by decide +kernel) (by decide +kernel)
set_option maxRecDepth 20000 in
theorem gk_wsX4_isSame_r4 : GoodIn wsL_law wsX4_isSame_r4 := goodIn_r _ [33, 345, 58, 338, 339, 340, 341, 57, 342, 468, 469, 470, 471, 472, 376, 377, 378, 336, 473, 394, 395, 396, 337, 474] (by decide +kernel) (by decide +kernel)
set_option maxRecDepth 20000 in
theorem gk_wsX4_isSame_r5 : GoodIn wsL_law wsX4_isSame_r5 := goodIn_r _ [255, 256, 257, 258, 475, 264, 265, 266, 115, 476, 268, 269, 270, 271, 217, 218, 219, 47, 245, 246, 247, 248, 477, 366] (by decide +kernel) (by decide +kernel)
set_option maxRecDepth 20000 in
theorem gk_wsX4_isSame_r6 : GoodIn wsL_law wsX4_isSame_r6 := goodIn_r _ [367, 368, 369, 370, 371, 372, 478, 273, 274, 275, 276, 479, 278, 279, 280, 281, 480, 283, 284, 285, 286, 481, 288, 289] (by decide +kernel) (by decide +kernel)
set_option maxRecDepth 20000 in
theorem gk_wsX4_isSame_r7 : GoodIn wsL_law wsX4_isSame_r7 := goodIn_r _ [290, 482, 292, 293, 294, 99, 483, 296, 297, 298, 104, 484, 300, 301, 302, 136, 485, 304, 305, 306, 194, 195, 196, 197] (by decide +kernel) (by decide +kernel)
set_option maxRecDepth 20000 in
theorem gk_wsX4_isSame_r8 : GoodIn wsL_law wsX4_isSame_r8 := goodIn_r _ [486, 400, 401, 402, 403, 404, 405, 406, 56, 487, 408, 409, 410, 411, 412, 413, 414] (by decide +kernel) (by decide +kernel)
set_option maxRecDepth 20000 in
theorem ggL_law_X4_isSame : GoodIn wsL_law wsX4_isSame := goodIn_cc gk_wsX4_isSame_0 (goodIn_app (goodIn_app (goodIn_app (goodIn_app (goodIn_app (goodIn_app (goodIn_app gk_wsX4_isSame_r1 (goodIn_app gk_wsX4_isSame_r2 (goodIn_app gk_wsX4_isSame_r3 (goodIn_app gk_wsX4_isSame_r4 (goodIn_app gk_wsX4_isSame_r5 (goodIn_app gk_wsX4_isSame_r6 (goodIn_app gk_wsX4_isSame_r7 gk_wsX4_isSame_r8))))))) (goodIn_sub jlwX4 (by decide +kernel))) (goodIn_sub jlwX3 (by decide +kernel))) (goodIn_sub jlwX2 (by decide +kernel))) (goodIn_sub jlwX0 (by decide +kernel))) (goodIn_sub jlwX1 (by decide +kernel))) (goodIn_sub (fun _ h => List.mem_append_right _ h) (by decide +kernel)))
set_option maxRecDepth 20000 in
theorem gL_law_X4_isSame : GoodIn wsL_law (wsV RL 178 RX4 yX4_isSame wsX4_isSame) := goodIn_app (goodIn_of _ (by decide +kernel)) ggL_law_X4_isSame
theorem dL_law_0 : decode cL_law 0 = .ok (.new 26, 3) := by decide +kernel
theorem dL_law_3 : decode cL_law 3 = .ok (.dup, 1) := by decide +kernel
theorem dL_law_4 : decode cL_law 4 = .ok (.invokespecial 80, 3) := by decide +kernel
theorem dL_law_7 : decode cL_law 7 = .ok (.astore_n 1, 1) := by decide +kernel
theorem dL_law_8 : decode cL_law 8 = .ok (.aload_n 1, 1) := by decide +kernel
theorem dL_law_9 : decode cL_law 9 = .ok (.aload_n 0, 1) := by decide +kernel
theorem dL_law_10 : decode cL_law 10 = .ok (.invokestatic 81, 3) := by decide +kernel
theorem dL_law_13 : decode cL_law 13 = .ok (.astore_n 2, 1) := by decide +kernel
theorem dL_law_14 : decode cL_law 14 = .ok (.aload_n 2, 1) := by decide +kernel
theorem dL_law_15 : decode cL_law 15 = .ok (.ifnonnull 5, 3) := by decide +kernel
theorem dL_law_18 : decode cL_law 18 = .ok (.iconst 0, 1) := by decide +kernel
theorem dL_law_19 : decode cL_law 19 = .ok (.ireturn, 1) := by decide +kernel
theorem dL_law_20 : decode cL_law 20 = .ok (.iconst 0, 1) := by decide +kernel
theorem dL_law_21 : decode cL_law 21 = .ok (.istore_n 3, 1) := by decide +kernel
theorem dL_law_22 : decode cL_law 22 = .ok (.iload_n 3, 1) := by decide +kernel
theorem dL_law_23 : decode cL_law 23 = .ok (.bipush 10, 2) := by decide +kernel
theorem dL_law_25 : decode cL_law 25 = .ok (.if_icmp .ge 1257, 3) := by decide +kernel
theorem dL_law_28 : decode cL_law 28 = .ok (.aload_n 0, 1) := by decide +kernel
theorem dL_law_29 : decode cL_law 29 = .ok (.iload_n 3, 1) := by decide +kernel
theorem dL_law_30 : decode cL_law 30 = .ok (.iconst 1, 1) := by decide +kernel
theorem dL_law_31 : decode cL_law 31 = .ok (.iadd, 1) := by decide +kernel
theorem dL_law_32 : decode cL_law 32 = .ok (.invokestatic 76, 3) := by decide +kernel
theorem dL_law_35 : decode cL_law 35 = .ok (.iconst 2, 1) := by decide +kernel
theorem dL_law_36 : decode cL_law 36 = .ok (.ishr, 1) := by decide +kernel
theorem dL_law_37 : decode cL_law 37 = .ok (.bipush 53, 2) := by decide +kernel
theorem dL_law_39 : decode cL_law 39 = .ok (.iload_n 3, 1) := by decide +kernel
theorem dL_law_40 : decode cL_law 40 = .ok (.imul, 1) := by decide +kernel
theorem dL_law_41 : decode cL_law 41 = .ok (.iadd, 1) := by decide +kernel
theorem dL_law_42 : decode cL_law 42 = .ok (.istore 4, 2) := by decide +kernel
theorem dL_law_44 : decode cL_law 44 = .ok (.iconst 0, 1) := by decide +kernel
theorem dL_law_45 : decode cL_law 45 = .ok (.istore 5, 2) := by decide +kernel
theorem dL_law_47 : decode cL_law 47 = .ok (.iload 5, 2) := by decide +kernel
theorem dL_law_49 : decode cL_law 49 = .ok (.iconst 3, 1) := by decide +kernel
theorem dL_law_50 : decode cL_law 50 = .ok (.if_icmp .ge 32, 3) := by decide +kernel
theorem dL_law_53 : decode cL_law 53 = .ok (.aload_n 1, 1) := by decide +kernel
theorem dL_law_54 : decode cL_law 54 = .ok (.aload_n 2, 1) := by decide +kernel
theorem dL_law_55 : decode cL_law 55 = .ok (.iload 4, 2) := by decide +kernel
theorem dL_law_57 : decode cL_law 57 = .ok (.iconst 3, 1) := by decide +kernel
theorem dL_law_58 : decode cL_law 58 = .ok (.iload 5, 2) := by decide +kernel
theorem dL_law_60 : decode cL_law 60 = .ok (.imul, 1) := by decide +kernel
theorem dL_law_61 : decode cL_law 61 = .ok (.ishr, 1) := by decide +kernel
theorem dL_law_62 : decode cL_law 62 = .ok (.bipush 29, 2) := by decide +kernel
theorem dL_law_64 : decode cL_law 64 = .ok (.iload 5, 2) := by decide +kernel
theorem dL_law_66 : decode cL_law 66 = .ok (.imul, 1) := by decide +kernel
theorem dL_law_67 : decode cL_law 67 = .ok (.iadd, 1) := by decide +kernel
theorem dL_law_68 : decode cL_law 68 = .ok (.invokestatic 85, 3) := by decide +kernel
theorem dL_law_71 : decode cL_law 71 = .ok (.ifCond .ne 5, 3) := by decide +kernel
theorem dL_law_74 : decode cL_law 74 = .ok (.iconst 0, 1) := by decide +kernel
theorem dL_law_75 : decode cL_law 75 = .ok (.ireturn, 1) := by decide +kernel
theorem dL_law_76 : decode cL_law 76 = .ok (.iinc 5 1, 3) := by decide +kernel
theorem dL_law_79 : decode cL_law 79 = .ok (.goto (-32), 3) := by decide +kernel
theorem dL_law_82 : decode cL_law 82 = .ok (.aload_n 1, 1) := by decide +kernel
theorem dL_law_83 : decode cL_law 83 = .ok (.invokevirtual 89, 3) := by decide +kernel
theorem dL_law_86 : decode cL_law 86 = .ok (.lstore 5, 2) := by decide +kernel
theorem dL_law_88 : decode cL_law 88 = .ok (.aload_n 1, 1) := by decide +kernel
theorem dL_law_89 : decode cL_law 89 = .ok (.invokevirtual 93, 3) := by decide +kernel
theorem dL_law_92 : decode cL_law 92 = .ok (.istore 7, 2) := by decide +kernel
theorem dL_law_94 : decode cL_law 94 = .ok (.iconst 0, 1) := by decide +kernel
theorem dL_law_95 : decode cL_law 95 = .ok (.istore 8, 2) := by decide +kernel
theorem dL_law_97 : decode cL_law 97 = .ok (.iconst 0, 1) := by decide +kernel
theorem dL_law_98 : decode cL_law 98 = .ok (.istore 9, 2) := by decide +kernel
theorem dL_law_100 : decode cL_law 100 = .ok (.iconst 0, 1) := by decide +kernel
theorem dL_law_101 : decode cL_law 101 = .ok (.istore 10, 2) := by decide +kernel
theorem dL_law_103 : decode cL_law 103 = .ok (.iload 7, 2) := by decide +kernel
theorem dL_law_105 : decode cL_law 105 = .ok (.newarray .int, 2) := by decide +kernel
theorem dL_law_107 : decode cL_law 107 = .ok (.astore 11, 2) := by decide +kernel
theorem dL_law_109 : decode cL_law 109 = .ok (.iconst 0, 1) := by decide +kernel
theorem dL_law_110 : decode cL_law 110 = .ok (.istore 12, 2) := by decide +kernel
theorem dL_law_112 : decode cL_law 112 = .ok (.iload 12, 2) := by decide +kernel
theorem dL_law_114 : decode cL_law 114 = .ok (.iload 7, 2) := by decide +kernel
theorem dL_law_116 : decode cL_law 116 = .ok (.if_icmp .ge 84, 3) := by decide +kernel
theorem dL_law_119 : decode cL_law 119 = .ok (.aload 11, 2) := by decide +kernel
theorem dL_law_121 : decode cL_law 121 = .ok (.iload 12, 2) := by decide +kernel
theorem dL_law_123 : decode cL_law 123 = .ok (.aload_n 1, 1) := by decide +kernel
theorem dL_law_124 : decode cL_law 124 = .ok (.iload 12, 2) := by decide +kernel
theorem dL_law_126 : decode cL_law 126 = .ok (.invokevirtual 97, 3) := by decide +kernel
theorem dL_law_129 : decode cL_law 129 = .ok (.iastore, 1) := by decide +kernel
theorem dL_law_130 : decode cL_law 130 = .ok (.iload 8, 2) := by decide +kernel
theorem dL_law_132 : decode cL_law 132 = .ok (.aload 11, 2) := by decide +kernel
theorem dL_law_134 : decode cL_law 134 = .ok (.iload 12, 2) := by decide +kernel
theorem dL_law_136 : decode cL_law 136 = .ok (.iaload, 1) := by decide +kernel
theorem dL_law_137 : decode cL_law 137 = .ok (.iadd, 1) := by decide +kernel
theorem dL_law_138 : decode cL_law 138 = .ok (.istore 8, 2) := by decide +kernel
theorem dL_law_140 : decode cL_law 140 = .ok (.iload 10, 2) := by decide +kernel
theorem dL_law_142 : decode cL_law 142 = .ok (.aload 11, 2) := by decide +kernel
theorem dL_law_144 : decode cL_law 144 = .ok (.iload 12, 2) := by decide +kernel
theorem dL_law_146 : decode cL_law 146 = .ok (.iaload, 1) := by decide +kernel
theorem dL_law_147 : decode cL_law 147 = .ok (.invokestatic 100, 3) := by decide +kernel
theorem dL_law_150 : decode cL_law 150 = .ok (.istore 10, 2) := by decide +kernel
theorem dL_law_152 : decode cL_law 152 = .ok (.aload 11, 2) := by decide +kernel
theorem dL_law_154 : decode cL_law 154 = .ok (.iload 12, 2) := by decide +kernel
theorem dL_law_156 : decode cL_law 156 = .ok (.iaload, 1) := by decide +kernel
theorem dL_law_157 : decode cL_law 157 = .ok (.iconst 2, 1) := by decide +kernel
theorem dL_law_158 : decode cL_law 158 = .ok (.if_icmp .lt 34, 3) := by decide +kernel
theorem dL_law_161 : decode cL_law 161 = .ok (.aload 11, 2) := by decide +kernel
theorem dL_law_163 : decode cL_law 163 = .ok (.iload 12, 2) := by decide +kernel
theorem dL_law_165 : decode cL_law 165 = .ok (.iaload, 1) := by decide +kernel
theorem dL_law_166 : decode cL_law 166 = .ok (.bipush 99, 2) := by decide +kernel
theorem dL_law_168 : decode cL_law 168 = .ok (.if_icmp .gt 24, 3) := by decide +kernel
theorem dL_law_171 : decode cL_law 171 = .ok (.aload_n 1, 1) := by decide +kernel
theorem dL_law_172 : decode cL_law 172 = .ok (.iload 12, 2) := by decide +kernel
theorem dL_law_174 : decode cL_law 174 = .ok (.invokevirtual 105, 3) := by decide +kernel
theorem dL_law_177 : decode cL_law 177 = .ok (.iconst 1, 1) := by decide +kernel
theorem dL_law_178 : decode cL_law 178 = .ok (.if_icmp .lt 14, 3) := by decide +kernel
theorem dL_law_181 : decode cL_law 181 = .ok (.aload_n 1, 1) := by decide +kernel
theorem dL_law_182 : decode cL_law 182 = .ok (.iload 12, 2) := by decide +kernel
theorem dL_law_184 : decode cL_law 184 = .ok (.invokevirtual 105, 3) := by decide +kernel
theorem dL_law_187 : decode cL_law 187 = .ok (.bipush 6, 2) := by decide +kernel
theorem dL_law_189 : decode cL_law 189 = .ok (.if_icmp .le 5, 3) := by decide +kernel
theorem dL_law_192 : decode cL_law 192 = .ok (.iconst 0, 1) := by decide +kernel
theorem dL_law_193 : decode cL_law 193 = .ok (.ireturn, 1) := by decide +kernel
theorem dL_law_194 : decode cL_law 194 = .ok (.iinc 12 1, 3) := by decide +kernel
theorem dL_law_197 : decode cL_law 197 = .ok (.goto (-85), 3) := by decide +kernel
theorem dL_law_200 : decode cL_law 200 = .ok (.iconst 0, 1) := by decide +kernel
theorem dL_law_201 : decode cL_law 201 = .ok (.istore 12, 2) := by decide +kernel
theorem dL_law_203 : decode cL_law 203 = .ok (.iload 12, 2) := by decide +kernel
theorem dL_law_205 : decode cL_law 205 = .ok (.iconst 5, 1) := by decide +kernel
theorem dL_law_206 : decode cL_law 206 = .ok (.if_icmp .ge 20, 3) := by decide +kernel

