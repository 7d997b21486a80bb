set_option maxRecDepth 20000 in
theorem gk_wsL_act_0 : GoodIn wsL_law [.codeWith yL_act cL_act 9 (some .boolean) [(26, 173, 526, 73), (174, 179, 526, 73), (180, 208, 526, 73), (209, 214, 526, 73), (215, 238, 526, 73), (239, 277, 526, 73), (278, 315, 526, 73), (316, 352, 526, 73), (353, 477, 526, 73), (478, 525, 526, 73)]] := goodIn_r _ [148] (by decide +kernel) (by decide +kernel)
set_option maxRecDepth 20000 in
theorem gk_wsL_act_r1 : GoodIn wsL_law wsL_act_r1 := goodIn_r _ [149, 69, 3, 66, 67, 68, 70, 84, 85, 61, 86, 87, 105, 106, 65, 107, 77, 108, 109, 110, 2, 111, 112, 113] (by decide +kernel) (by decide +kernel)
set_option maxRecDepth 20000 in
theorem gk_wsL_act_r2 : GoodIn wsL_law wsL_act_r2 := goodIn_r _ [21, 114, 115, 116, 117, 118, 92, 93, 119, 120, 121, 122, 123, 124, 29, 125, 48, 126, 127, 128, 129, 46, 47, 130] (by decide +kernel) (by decide +kernel)
set_option maxRecDepth 20000 in
theorem gk_wsL_act_r3 : GoodIn wsL_law wsL_act_r3 := goodIn_r _ [150, 151, 152, 153, 78, 154, 155, 156, 157, 158, 159, 160, 161, 162, 163, 164, 165, 166, 167, 168, 169, 170, 171, 172] (by decide +kernel) (by decide +kernel)
set_option maxRecDepth 20000 in
theorem gk_wsL_act_r4 : GoodIn wsL_law wsL_act_r4 := goodIn_r _ [173, 174, 175, 176, 177, 178, 179, 180, 181, 182, 183, 184, 185, 186, 88, 89, 90, 91, 94, 95, 96, 97, 98, 99] (by decide +kernel) (by decide +kernel)
set_option maxRecDepth 20000 in
theorem gk_wsL_act_r5 : GoodIn wsL_law wsL_act_r5 := goodIn_r _ [100, 101, 102, 103, 104, 131, 132, 133, 134, 135, 136, 137, 138, 139, 33, 140, 58, 141, 142, 143, 144, 53, 54, 55] (by decide +kernel) (by decide +kernel)
set_option maxRecDepth 20000 in
theorem gk_wsL_act_r6 : GoodIn wsL_law wsL_act_r6 := goodIn_r _ [56, 57, 145, 187, 188, 189, 190, 191, 192, 193, 194, 195, 196, 197, 198, 199, 200, 20, 201, 202, 203, 204, 205, 38] (by decide +kernel) (by decide +kernel)
set_option maxRecDepth 20000 in
theorem gk_wsL_act_r7 : GoodIn wsL_law wsL_act_r7 := goodIn_r _ [30, 36, 35, 40, 37, 39, 34, 41, 206, 207, 208, 209, 210, 211, 212, 213, 214, 215, 216, 217, 218, 219, 220, 221] (by decide +kernel) (by decide +kernel)
set_option maxRecDepth 20000 in
theorem gk_wsL_act_r8 : GoodIn wsL_law wsL_act_r8 := goodIn_r _ [222, 223, 224, 10, 6, 11, 225, 5, 7, 226, 227, 228, 229, 230, 231, 232, 233, 234, 235, 236, 237, 238, 239, 240] (by decide +kernel) (by decide +kernel)
set_option maxRecDepth 20000 in
theorem gk_wsL_act_r9 : GoodIn wsL_law wsL_act_r9 := goodIn_r _ [75, 74, 241, 76, 242, 243, 79, 244, 245, 246, 247, 248] (by decide +kernel) (by decide +kernel)
set_option maxRecDepth 20000 in
theorem ggL_law_L_act : GoodIn wsL_law wsL_act := goodIn_cc gk_wsL_act_0 (goodIn_app (goodIn_app (goodIn_app (goodIn_app (goodIn_app (goodIn_app (goodIn_app (goodIn_app (goodIn_app gk_wsL_act_r1 (goodIn_app gk_wsL_act_r2 (goodIn_app gk_wsL_act_r3 (goodIn_app gk_wsL_act_r4 (goodIn_app gk_wsL_act_r5 (goodIn_app gk_wsL_act_r6 (goodIn_app gk_wsL_act_r7 (goodIn_app gk_wsL_act_r8 gk_wsL_act_r9)))))))) (goodIn_sub jlwX4 (by decide +kernel))) (goodIn_sub jlwX3 (by decide +kernel))) (goodIn_sub jlwX2 (by decide +kernel))) (goodIn_sub jlwX0 (by decide +kernel))) (goodIn_sub jlwX1 (by decide +kernel))) (goodIn_sub (fun _ h => List.mem_append_left _ (List.mem_append_right _ h)) (by decide +kernel))) (goodIn_sub (fun _ h => List.mem_append_left _ (List.mem_append_left _ (List.mem_append_right _ h))) (by decide +kernel))) (goodIn_sub (fun _ h => List.mem_append_right _ h) (by decide +kernel)))
set_option maxRecDepth 20000 in
theorem gL_law_L_act : GoodIn wsL_law (va_wsS RL 85 yL_act wsL_act) := goodIn_app (goodIn_of _ (by decide +kernel)) ggL_law_L_act
