set_option maxRecDepth 20000 in
theorem jlwX0 : ∀ w ∈ wsX00, w ∈ wsL_law := fun _ h => List.mem_append_left _ (List.mem_append_left _ (List.mem_append_left _ (List.mem_append_left _ (List.mem_append_left _ (List.mem_append_left _ (List.mem_append_right _ h))))))
set_option maxRecDepth 20000 in
theorem jlwX1 : ∀ w ∈ wsX10, w ∈ wsL_law := fun _ h => List.mem_append_left _ (List.mem_append_left _ (List.mem_append_left _ (List.mem_append_left _ (List.mem_append_left _ (List.mem_append_right _ h)))))
set_option maxRecDepth 20000 in
theorem jlwX2 : ∀ w ∈ wsX20, w ∈ wsL_law := fun _ h => List.mem_append_left _ (List.mem_append_left _ (List.mem_append_left _ (List.mem_append_left _ (List.mem_append_left _ (List.mem_append_left _ (List.mem_append_left _ (List.mem_append_right _ h)))))))
set_option maxRecDepth 20000 in
theorem jlwX3 : ∀ w ∈ wsX30, w ∈ wsL_law := fun _ h => List.mem_append_left _ (List.mem_append_left _ (List.mem_append_left _ (List.mem_append_left _ (List.mem_append_left _ (List.mem_append_left _ (List.mem_append_left _ (List.mem_append_left _ (List.mem_append_right _ h))))))))
set_option maxRecDepth 20000 in
theorem jlwX4 : ∀ w ∈ wsX40, w ∈ wsL_law := fun _ h => List.mem_append_left _ (List.mem_append_left _ (List.mem_append_left _ (List.mem_append_left _ (List.mem_append_right _ h))))
theorem goodIn_cc {big a : List Cond} {c : Cond} (h1 : GoodIn big [c]) (h2 : GoodIn big a) : GoodIn big (c :: a) := fun w h => (List.mem_cons.mp h).elim (fun e => h1 w (List.mem_singleton.mpr e)) (h2 w)
set_option maxRecDepth 20000 in
theorem gk_wsX3_init_0 : GoodIn wsL_law [.code yX3_init cX3_init 1 none] := goodIn_r _ [14] (by decide +kernel) (by decide +kernel)
set_option maxRecDepth 20000 in
theorem gk_wsX3_init_r1 : GoodIn wsL_law wsX3_init_r1 := goodIn_r _ [15, 16, 17, 18, 19, 20, 21, 22, 23, 24, 25, 26, 27, 28, 29, 30, 31, 32, 33, 34, 35, 36, 37, 38] (by decide +kernel) (by decide +kernel)
set_option maxRecDepth 20000 in
theorem gk_wsX3_init_r2 : GoodIn wsL_law wsX3_init_r2 := goodIn_r _ [39, 40, 41, 42, 43, 44, 45, 3, 46, 47, 48, 49, 50, 51, 52, 53, 54, 55, 56, 57, 58] (by decide +kernel) (by decide +kernel)
set_option maxRecDepth 20000 in
theorem ggL_law_X3_init : GoodIn wsL_law wsX3_init := goodIn_cc gk_wsX3_init_0 (goodIn_app (goodIn_app (goodIn_app (goodIn_app (goodIn_app gk_wsX3_init_r1 gk_wsX3_init_r2) (goodIn_sub jlwX2 (by decide +kernel))) (goodIn_sub jlwX3 (by decide +kernel))) (goodIn_sub jlwX0 (by decide +kernel))) (goodIn_sub jlwX1 (by decide +kernel)))
set_option maxRecDepth 20000 in
theorem gL_law_X3_init : GoodIn wsL_law (wsX3_init) := ggL_law_X3_init
set_option maxRecDepth 20000 in
theorem gk_wsL_build_0 : GoodIn wsL_law [.code yL_build cL_build 5 (some (.object "SmallerTalkLaw$Sim"))] := goodIn_r _ [62] (by decide +kernel) (by decide +kernel)
set_option maxRecDepth 20000 in
theorem gk_wsL_build_r1 : GoodIn wsL_law wsL_build_r1 := goodIn_r _ [63, 64, 65, 66, 67, 68, 69, 3, 70, 71, 72, 73, 16, 17, 74, 75, 76, 77, 78, 79, 80, 81, 61, 82] (by decide +kernel) (by decide +kernel)
set_option maxRecDepth 20000 in
theorem gk_wsL_build_r2 : GoodIn wsL_law wsL_build_r2 := goodIn_r _ [83, 84, 85, 86, 87, 88, 89, 90, 2, 91, 92, 93, 21, 94, 95, 96, 97, 98, 99, 100, 101, 102, 103, 104] (by decide +kernel) (by decide +kernel)
set_option maxRecDepth 20000 in
theorem gk_wsL_build_r3 : GoodIn wsL_law wsL_build_r3 := goodIn_r _ [105, 106, 107, 108, 109, 110, 111, 112, 113, 114, 115, 116, 117, 118, 119, 120, 121, 122, 123, 124, 29, 125, 48, 126] (by decide +kernel) (by decide +kernel)
set_option maxRecDepth 20000 in
theorem gk_wsL_build_r4 : GoodIn wsL_law wsL_build_r4 := goodIn_r _ [127, 128, 129, 46, 47, 130, 131, 132, 133, 134, 135, 136, 137, 138, 139, 33, 140, 58, 141, 142, 143, 144, 53, 54] (by decide +kernel) (by decide +kernel)
set_option maxRecDepth 20000 in
theorem gk_wsL_build_r5 : GoodIn wsL_law wsL_build_r5 := goodIn_r _ [55, 56, 57, 145] (by decide +kernel) (by decide +kernel)
set_option maxRecDepth 20000 in
theorem ggL_law_L_build : GoodIn wsL_law wsL_build := goodIn_cc gk_wsL_build_0 (goodIn_app (goodIn_app (goodIn_app (goodIn_app (goodIn_app (goodIn_app (goodIn_app (goodIn_app gk_wsL_build_r1 (goodIn_app gk_wsL_build_r2 (goodIn_app gk_wsL_build_r3 (goodIn_app gk_wsL_build_r4 gk_wsL_build_r5)))) (goodIn_sub jlwX4 (by decide +kernel))) (goodIn_sub jlwX3 (by decide +kernel))) (goodIn_sub jlwX2 (by decide +kernel))) (goodIn_sub jlwX0 (by decide +kernel))) (goodIn_sub jlwX1 (by decide +kernel))) (goodIn_sub (fun _ h => List.mem_append_left _ (List.mem_append_left _ (List.mem_append_right _ h))) (by decide +kernel))) (goodIn_sub (fun _ h => List.mem_append_left _ (List.mem_append_right _ h)) (by decide +kernel)))
set_option maxRecDepth 20000 in
theorem gL_law_L_build : GoodIn wsL_law (va_wsS RL 81 yL_build wsL_build) := goodIn_app (goodIn_of _ (by decide +kernel)) ggL_law_L_build
set_option maxRecDepth 20000 in
theorem ggL_law_L_cell : GoodIn wsL_law wsL_cell := goodIn_r _ [82, 83] (by decide +kernel) (by decide +kernel)
set_option maxRecDepth 20000 in
theorem gL_law_L_cell : GoodIn wsL_law (va_wsS RL 76 yL_cell wsL_cell) := goodIn_app (goodIn_of _ (by decide +kernel)) ggL_law_L_cell
