theorem dX4_turns_16 : decode cX4_turns 16 = .ok (.iinc 2 1, 3) := by decide +kernel
theorem dX4_turns_19 : decode cX4_turns 19 = .ok (.goto (-15), 3) := by decide +kernel
theorem dX4_turns_22 : decode cX4_turns 22 = .ok (.iload_n 2, 1) := by decide +kernel
theorem dX4_turns_23 : decode cX4_turns 23 = .ok (.ireturn, 1) := by decide +kernel
set_option maxRecDepth 20000 in
theorem ggX4_isSame_X3_sizeAt : GoodIn wsX4_isSame wsX3_sizeAt := goodIn_ca (goodIn_r _ [15, 16, 17, 18, 19, 20, 21, 14, 22, 23, 24, 25, 26, 27, 28, 29, 30, 195, 196, 197, 198, 199, 200, 201, 202, 203, 204, 205, 206, 207, 208] (by decide +kernel) (by decide +kernel)) (goodIn_sub (fun _ h => List.mem_cons_of_mem _ (List.mem_append_right _ h)) (by decide +kernel))
set_option maxRecDepth 20000 in
theorem gX4_isSame_X3_sizeAt : GoodIn wsX4_isSame (wsV RX4 63 RX3 yX3_sizeAt wsX3_sizeAt) := goodIn_app (goodIn_of _ (by decide +kernel)) ggX4_isSame_X3_sizeAt
set_option maxRecDepth 20000 in
theorem ggX4_isSame_X3_kindAt : GoodIn wsX4_isSame wsX3_kindAt := goodIn_ca (goodIn_r _ [34, 16, 17, 35, 19, 20, 21, 14, 22, 23, 24, 25, 26, 27, 28, 29, 30, 195, 196, 197, 198, 199, 200, 201, 202, 203, 204, 205, 206, 207, 208] (by decide +kernel) (by decide +kernel)) (goodIn_sub (fun _ h => List.mem_cons_of_mem _ (List.mem_append_right _ h)) (by decide +kernel))
set_option maxRecDepth 20000 in
theorem gX4_isSame_X3_kindAt : GoodIn wsX4_isSame (wsV RX4 68 RX3 yX3_kindAt wsX3_kindAt) := goodIn_app (goodIn_of _ (by decide +kernel)) ggX4_isSame_X3_kindAt
set_option maxRecDepth 20000 in
theorem ggX4_isSame_X3_turnsToNod : GoodIn wsX4_isSame wsX3_turnsToNod := goodIn_ca (goodIn_r _ [39, 16, 17, 18, 40, 19, 20, 21, 14, 22, 23, 24, 25, 26, 27, 28, 29, 30, 41, 42, 43, 195, 196, 197, 198, 199, 200, 201, 202, 203, 204, 205, 206, 207, 208] (by decide +kernel) (by decide +kernel)) (goodIn_sub (fun _ h => List.mem_cons_of_mem _ (List.mem_append_right _ h)) (by decide +kernel))
set_option maxRecDepth 20000 in
theorem gX4_isSame_X3_turnsToNod : GoodIn wsX4_isSame (wsV RX4 71 RX3 yX3_turnsToNod wsX3_turnsToNod) := goodIn_app (goodIn_of _ (by decide +kernel)) ggX4_isSame_X3_turnsToNod
set_option maxRecDepth 20000 in
theorem ggX4_isSame_X4_turns : GoodIn wsX4_isSame wsX4_turns := goodIn_r _ [48, 8, 186, 187, 188, 189, 190, 191, 192, 193, 194] (by decide +kernel) (by decide +kernel)
set_option maxRecDepth 20000 in
theorem gX4_isSame_X4_turns : GoodIn wsX4_isSame (wsV RX4 74 RX4 yX4_turns wsX4_turns) := goodIn_app (goodIn_of _ (by decide +kernel)) ggX4_isSame_X4_turns
set_option maxRecDepth 20000 in
theorem ggX4_isSame_X3_topicsOf : GoodIn wsX4_isSame wsX3_topicsOf := goodIn_ca (goodIn_r _ [52, 23, 24, 16, 17, 53, 54, 14, 55, 56, 57, 58, 28, 59, 30, 60, 195, 196, 197, 198, 199, 200, 201, 202, 203, 204, 205, 206, 207, 208] (by decide +kernel) (by decide +kernel)) (goodIn_sub (fun _ h => List.mem_cons_of_mem _ (List.mem_append_right _ h)) (by decide +kernel))
set_option maxRecDepth 20000 in
theorem gX4_isSame_X3_topicsOf : GoodIn wsX4_isSame (wsV RX4 77 RX3 yX3_topicsOf wsX3_topicsOf) := goodIn_app (goodIn_of _ (by decide +kernel)) ggX4_isSame_X3_topicsOf
set_option maxRecDepth 20000 in
theorem ggX4_isSame_X3_isPresent : GoodIn wsX4_isSame wsX3_isPresent := goodIn_ca (goodIn_r _ [64, 16, 65, 66, 67, 68, 14, 69, 23, 24, 70, 71, 72, 73, 74, 75, 76, 77, 78, 79, 80, 81, 195, 196, 197, 198, 199, 200, 201, 202, 203, 204, 205, 209, 210, 211, 212, 213, 214] (by decide +kernel) (by decide +kernel)) (goodIn_sub (fun _ h => List.mem_cons_of_mem _ (List.mem_append_right _ h)) (by decide +kernel))
set_option maxRecDepth 20000 in
theorem gX4_isSame_X3_isPresent : GoodIn wsX4_isSame (wsV RX4 80 RX3 yX3_isPresent wsX3_isPresent) := goodIn_app (goodIn_of _ (by decide +kernel)) ggX4_isSame_X3_isPresent
set_option maxRecDepth 20000 in
theorem ggX4_isSame_X4_isThere : GoodIn wsX4_isSame wsX4_isThere := goodIn_r _ [85, 3, 186, 187, 188, 189, 190, 191, 192, 193, 194] (by decide +kernel) (by decide +kernel)
set_option maxRecDepth 20000 in
theorem gX4_isSame_X4_isThere : GoodIn wsX4_isSame (wsV RX4 84 RX4 yX4_isThere wsX4_isThere) := goodIn_app (goodIn_of _ (by decide +kernel)) ggX4_isSame_X4_isThere
set_option maxRecDepth 20000 in
theorem ggX4_isSame_X3_patienceOf : GoodIn wsX4_isSame wsX3_patienceOf := goodIn_ca (goodIn_r _ [89, 16, 65, 90, 66, 67, 68, 14, 69, 23, 24, 70, 71, 72, 73, 74, 75, 195, 196, 197, 198, 199, 200, 201, 202, 203, 204, 205, 209, 210, 211, 212, 213, 214] (by decide +kernel) (by decide +kernel)) (goodIn_sub (fun _ h => List.mem_cons_of_mem _ (List.mem_append_right _ h)) (by decide +kernel))
set_option maxRecDepth 20000 in
theorem gX4_isSame_X3_patienceOf : GoodIn wsX4_isSame (wsV RX4 87 RX3 yX3_patienceOf wsX3_patienceOf) := goodIn_app (goodIn_of _ (by decide +kernel)) ggX4_isSame_X3_patienceOf
set_option maxRecDepth 20000 in
theorem ggX4_isSame_X3_exitOf : GoodIn wsX4_isSame wsX3_exitOf := goodIn_ca (goodIn_r _ [94, 16, 65, 95, 66, 67, 68, 14, 69, 23, 24, 70, 71, 72, 73, 74, 75, 195, 196, 197, 198, 199, 200, 201, 202, 203, 204, 205, 209, 210, 211, 212, 213, 214] (by decide +kernel) (by decide +kernel)) (goodIn_sub (fun _ h => List.mem_cons_of_mem _ (List.mem_append_right _ h)) (by decide +kernel))
set_option maxRecDepth 20000 in
theorem gX4_isSame_X3_exitOf : GoodIn wsX4_isSame (wsV RX4 90 RX3 yX3_exitOf wsX3_exitOf) := goodIn_app (goodIn_of _ (by decide +kernel)) ggX4_isSame_X3_exitOf
set_option maxRecDepth 20000 in
theorem ggX4_isSame_X3_minute : GoodIn wsX4_isSame wsX3_minute := goodIn_r _ [99, 16, 100, 195, 196, 197, 198, 199, 200, 201, 202, 203, 204, 205] (by decide +kernel) (by decide +kernel)
set_option maxRecDepth 20000 in
theorem gX4_isSame_X3_minute : GoodIn wsX4_isSame (wsV RX4 93 RX3 yX3_minute wsX3_minute) := goodIn_app (goodIn_of _ (by decide +kernel)) ggX4_isSame_X3_minute
set_option maxRecDepth 20000 in
theorem ggX4_isSame_X3_topics : GoodIn wsX4_isSame wsX3_topics := goodIn_r _ [104, 16, 17, 105, 195, 196, 197, 198, 199, 200, 201, 202, 203, 204, 205, 206, 207, 208] (by decide +kernel) (by decide +kernel)
set_option maxRecDepth 20000 in
theorem gX4_isSame_X3_topics : GoodIn wsX4_isSame (wsV RX4 95 RX3 yX3_topics wsX3_topics) := goodIn_app (goodIn_of _ (by decide +kernel)) ggX4_isSame_X3_topics
set_option maxRecDepth 20000 in
theorem ggX4_isSame_X3_noise : GoodIn wsX4_isSame wsX3_noise := goodIn_r _ [109, 16, 17, 110, 111, 112, 28, 113, 30, 114, 195, 196, 197, 198, 199, 200, 201, 202, 203, 204, 205, 206, 207, 208] (by decide +kernel) (by decide +kernel)
set_option maxRecDepth 20000 in
theorem gX4_isSame_X3_noise : GoodIn wsX4_isSame (wsV RX4 98 RX3 yX3_noise wsX3_noise) := goodIn_app (goodIn_of _ (by decide +kernel)) ggX4_isSame_X3_noise
set_option maxRecDepth 20000 in
theorem ggX4_isSame_X4_noise : GoodIn wsX4_isSame wsX4_noise := goodIn_r _ [118, 2, 186, 187, 188, 189, 190, 191, 192, 193, 194] (by decide +kernel) (by decide +kernel)
set_option maxRecDepth 20000 in
theorem gX4_isSame_X4_noise : GoodIn wsX4_isSame (wsV RX4 49 RX4 yX4_noise wsX4_noise) := goodIn_app (goodIn_of _ (by decide +kernel)) ggX4_isSame_X4_noise
set_option maxRecDepth 20000 in
theorem ggX4_isSame_X3_largest : GoodIn wsX4_isSame wsX3_largest := goodIn_r _ [122, 16, 17, 123, 124, 125, 28, 126, 30, 114, 195, 196, 197, 198, 199, 200, 201, 202, 203, 204, 205, 206, 207, 208] (by decide +kernel) (by decide +kernel)
set_option maxRecDepth 20000 in
theorem gX4_isSame_X3_largest : GoodIn wsX4_isSame (wsV RX4 99 RX3 yX3_largest wsX3_largest) := goodIn_app (goodIn_of _ (by decide +kernel)) ggX4_isSame_X3_largest
set_option maxRecDepth 20000 in
theorem ggX4_isSame_X3_nods : GoodIn wsX4_isSame wsX3_nods := goodIn_r _ [130, 16, 131, 195, 196, 197, 198, 199, 200, 201, 202, 203, 204, 205] (by decide +kernel) (by decide +kernel)
set_option maxRecDepth 20000 in
theorem gX4_isSame_X3_nods : GoodIn wsX4_isSame (wsV RX4 102 RX3 yX3_nods wsX3_nods) := goodIn_app (goodIn_of _ (by decide +kernel)) ggX4_isSame_X3_nods
set_option maxRecDepth 20000 in
theorem ggX4_isSame_X3_bottles : GoodIn wsX4_isSame wsX3_bottles := goodIn_r _ [135, 16, 136, 195, 196, 197, 198, 199, 200, 201, 202, 203, 204, 205] (by decide +kernel) (by decide +kernel)
set_option maxRecDepth 20000 in
theorem gX4_isSame_X3_bottles : GoodIn wsX4_isSame (wsV RX4 104 RX3 yX3_bottles wsX3_bottles) := goodIn_app (goodIn_of _ (by decide +kernel)) ggX4_isSame_X3_bottles
set_option maxRecDepth 20000 in
theorem ggX4_isSame_X3_sieved : GoodIn wsX4_isSame wsX3_sieved := goodIn_r _ [140, 16, 141, 195, 196, 197, 198, 199, 200, 201, 202, 203, 204, 205] (by decide +kernel) (by decide +kernel)
set_option maxRecDepth 20000 in
theorem gX4_isSame_X3_sieved : GoodIn wsX4_isSame (wsV RX4 106 RX3 yX3_sieved wsX3_sieved) := goodIn_app (goodIn_of _ (by decide +kernel)) ggX4_isSame_X3_sieved
set_option maxRecDepth 20000 in
theorem ggX4_isSame_X3_gear : GoodIn wsX4_isSame wsX3_gear := goodIn_r _ [145, 16, 40, 195, 196, 197, 198, 199, 200, 201, 202, 203, 204, 205] (by decide +kernel) (by decide +kernel)
set_option maxRecDepth 20000 in
theorem gX4_isSame_X3_gear : GoodIn wsX4_isSame (wsV RX4 108 RX3 yX3_gear wsX3_gear) := goodIn_app (goodIn_of _ (by decide +kernel)) ggX4_isSame_X3_gear
set_option maxRecDepth 20000 in
theorem ggX4_isSame_X3_stones : GoodIn wsX4_isSame wsX3_stones := goodIn_r _ [149, 16, 150, 195, 196, 197, 198, 199, 200, 201, 202, 203, 204, 205] (by decide +kernel) (by decide +kernel)
set_option maxRecDepth 20000 in
theorem gX4_isSame_X3_stones : GoodIn wsX4_isSame (wsV RX4 110 RX3 yX3_stones wsX3_stones) := goodIn_app (goodIn_of _ (by decide +kernel)) ggX4_isSame_X3_stones
set_option maxRecDepth 20000 in
theorem ggX4_isSame_X3_mesh : GoodIn wsX4_isSame wsX3_mesh := goodIn_r _ [154, 16, 155, 195, 196, 197, 198, 199, 200, 201, 202, 203, 204, 205] (by decide +kernel) (by decide +kernel)
set_option maxRecDepth 20000 in
theorem gX4_isSame_X3_mesh : GoodIn wsX4_isSame (wsV RX4 112 RX3 yX3_mesh wsX3_mesh) := goodIn_app (goodIn_of _ (by decide +kernel)) ggX4_isSame_X3_mesh
set_option maxRecDepth 20000 in
theorem ggX4_isSame_X3_talkers : GoodIn wsX4_isSame wsX3_talkers := goodIn_r _ [159, 16, 65, 160, 195, 196, 197, 198, 199, 200, 201, 202, 203, 204, 205, 209, 210, 211, 212, 213, 214] (by decide +kernel) (by decide +kernel)
set_option maxRecDepth 20000 in
theorem gX4_isSame_X3_talkers : GoodIn wsX4_isSame (wsV RX4 114 RX3 yX3_talkers wsX3_talkers) := goodIn_app (goodIn_of _ (by decide +kernel)) ggX4_isSame_X3_talkers
set_option maxRecDepth 20000 in
theorem ggX4_isSame_X3_present : GoodIn wsX4_isSame wsX3_present := goodIn_r _ [164, 16, 65, 165, 166, 167, 73, 168, 75, 80, 195, 196, 197, 198, 199, 200, 201, 202, 203, 204, 205, 209, 210, 211, 212, 213, 214] (by decide +kernel) (by decide +kernel)
set_option maxRecDepth 20000 in
theorem gX4_isSame_X3_present : GoodIn wsX4_isSame (wsV RX4 116 RX3 yX3_present wsX3_present) := goodIn_app (goodIn_of _ (by decide +kernel)) ggX4_isSame_X3_present
set_option maxRecDepth 20000 in
theorem ggX4_isSame_X3_nextToGo : GoodIn wsX4_isSame wsX3_nextToGo := goodIn_r _ [172, 16, 65, 173, 174, 175, 73, 176, 75, 80, 177, 195, 196, 197, 198, 199, 200, 201, 202, 203, 204, 205, 209, 210, 211, 212, 213, 214] (by decide +kernel) (by decide +kernel)
set_option maxRecDepth 20000 in
theorem gX4_isSame_X3_nextToGo : GoodIn wsX4_isSame (wsV RX4 119 RX3 yX3_nextToGo wsX3_nextToGo) := goodIn_app (goodIn_of _ (by decide +kernel)) ggX4_isSame_X3_nextToGo
set_option maxRecDepth 20000 in
theorem ggX4_isSame_X3_meanPatience : GoodIn wsX4_isSame wsX3_meanPatience := goodIn_r _ [181, 16, 65, 165, 166, 167, 73, 168, 75, 80, 182, 183, 184, 185, 177, 195, 196, 197, 198, 199, 200, 201, 202, 203, 204, 205, 209, 210, 211, 212, 213, 214] (by decide +kernel) (by decide +kernel)
set_option maxRecDepth 20000 in
theorem gX4_isSame_X3_meanPatience : GoodIn wsX4_isSame (wsV RX4 122 RX3 yX3_meanPatience wsX3_meanPatience) := goodIn_app (goodIn_of _ (by decide +kernel)) ggX4_isSame_X3_meanPatience
theorem dX4_isSame_0 : decode cX4_isSame 0 = .ok (.iconst 5, 1) := by decide +kernel
theorem dX4_isSame_1 : decode cX4_isSame 1 = .ok (.newarray .int, 2) := by decide +kernel
theorem dX4_isSame_3 : decode cX4_isSame 3 = .ok (.astore_n 2, 1) := by decide +kernel
theorem dX4_isSame_4 : decode cX4_isSame 4 = .ok (.iconst (-1), 1) := by decide +kernel
theorem dX4_isSame_5 : decode cX4_isSame 5 = .ok (.istore_n 3, 1) := by decide +kernel
theorem dX4_isSame_6 : decode cX4_isSame 6 = .ok (.aload_n 0, 1) := by decide +kernel
theorem dX4_isSame_7 : decode cX4_isSame 7 = .ok (.getfield 21, 3) := by decide +kernel
theorem dX4_isSame_10 : decode cX4_isSame 10 = .ok (.arraylength, 1) := by decide +kernel
theorem dX4_isSame_11 : decode cX4_isSame 11 = .ok (.iconst 1, 1) := by decide +kernel
theorem dX4_isSame_12 : decode cX4_isSame 12 = .ok (.isub, 1) := by decide +kernel
theorem dX4_isSame_13 : decode cX4_isSame 13 = .ok (.istore 4, 2) := by decide +kernel
theorem dX4_isSame_15 : decode cX4_isSame 15 = .ok (.iload 4, 2) := by decide +kernel
theorem dX4_isSame_17 : decode cX4_isSame 17 = .ok (.ifCond .lt 111, 3) := by decide +kernel
theorem dX4_isSame_20 : decode cX4_isSame 20 = .ok (.aload_n 2, 1) := by decide +kernel
theorem dX4_isSame_21 : decode cX4_isSame 21 = .ok (.aload_n 0, 1) := by decide +kernel
theorem dX4_isSame_22 : decode cX4_isSame 22 = .ok (.getfield 21, 3) := by decide +kernel
theorem dX4_isSame_25 : decode cX4_isSame 25 = .ok (.iload 4, 2) := by decide +kernel
theorem dX4_isSame_27 : decode cX4_isSame 27 = .ok (.aaload, 1) := by decide +kernel
theorem dX4_isSame_28 : decode cX4_isSame 28 = .ok (.iconst 1, 1) := by decide +kernel
theorem dX4_isSame_29 : decode cX4_isSame 29 = .ok (.iaload, 1) := by decide +kernel
theorem dX4_isSame_30 : decode cX4_isSame 30 = .ok (.dup2, 1) := by decide +kernel
theorem dX4_isSame_31 : decode cX4_isSame 31 = .ok (.iaload, 1) := by decide +kernel
theorem dX4_isSame_32 : decode cX4_isSame 32 = .ok (.iconst 1, 1) := by decide +kernel
theorem dX4_isSame_33 : decode cX4_isSame 33 = .ok (.iadd, 1) := by decide +kernel
theorem dX4_isSame_34 : decode cX4_isSame 34 = .ok (.iastore, 1) := by decide +kernel
theorem dX4_isSame_35 : decode cX4_isSame 35 = .ok (.iload_n 3, 1) := by decide +kernel
theorem dX4_isSame_36 : decode cX4_isSame 36 = .ok (.ifCond .lt 23, 3) := by decide +kernel
theorem dX4_isSame_39 : decode cX4_isSame 39 = .ok (.aload_n 0, 1) := by decide +kernel
theorem dX4_isSame_40 : decode cX4_isSame 40 = .ok (.getfield 21, 3) := by decide +kernel
theorem dX4_isSame_43 : decode cX4_isSame 43 = .ok (.iload 4, 2) := by decide +kernel
theorem dX4_isSame_45 : decode cX4_isSame 45 = .ok (.aaload, 1) := by decide +kernel
theorem dX4_isSame_46 : decode cX4_isSame 46 = .ok (.iconst 0, 1) := by decide +kernel
theorem dX4_isSame_47 : decode cX4_isSame 47 = .ok (.iaload, 1) := by decide +kernel
theorem dX4_isSame_48 : decode cX4_isSame 48 = .ok (.aload_n 0, 1) := by decide +kernel
theorem dX4_isSame_49 : decode cX4_isSame 49 = .ok (.getfield 21, 3) := by decide +kernel
theorem dX4_isSame_52 : decode cX4_isSame 52 = .ok (.iload_n 3, 1) := by decide +kernel
theorem dX4_isSame_53 : decode cX4_isSame 53 = .ok (.aaload, 1) := by decide +kernel
theorem dX4_isSame_54 : decode cX4_isSame 54 = .ok (.iconst 0, 1) := by decide +kernel
theorem dX4_isSame_55 : decode cX4_isSame 55 = .ok (.iaload, 1) := by decide +kernel
theorem dX4_isSame_56 : decode cX4_isSame 56 = .ok (.if_icmp .lt 6, 3) := by decide +kernel
theorem dX4_isSame_59 : decode cX4_isSame 59 = .ok (.iload 4, 2) := by decide +kernel
theorem dX4_isSame_61 : decode cX4_isSame 61 = .ok (.istore_n 3, 1) := by decide +kernel
theorem dX4_isSame_62 : decode cX4_isSame 62 = .ok (.aload_n 1, 1) := by decide +kernel
theorem dX4_isSame_63 : decode cX4_isSame 63 = .ok (.iload 4, 2) := by decide +kernel
theorem dX4_isSame_65 : decode cX4_isSame 65 = .ok (.invokevirtual 63, 3) := by decide +kernel
theorem dX4_isSame_68 : decode cX4_isSame 68 = .ok (.aload_n 0, 1) := by decide +kernel
theorem dX4_isSame_69 : decode cX4_isSame 69 = .ok (.getfield 21, 3) := by decide +kernel
theorem dX4_isSame_72 : decode cX4_isSame 72 = .ok (.iload 4, 2) := by decide +kernel
theorem dX4_isSame_74 : decode cX4_isSame 74 = .ok (.aaload, 1) := by decide +kernel
theorem dX4_isSame_75 : decode cX4_isSame 75 = .ok (.iconst 0, 1) := by decide +kernel
theorem dX4_isSame_76 : decode cX4_isSame 76 = .ok (.iaload, 1) := by decide +kernel
theorem dX4_isSame_77 : decode cX4_isSame 77 = .ok (.if_icmp .ne 43, 3) := by decide +kernel
theorem dX4_isSame_80 : decode cX4_isSame 80 = .ok (.aload_n 1, 1) := by decide +kernel
theorem dX4_isSame_81 : decode cX4_isSame 81 = .ok (.iload 4, 2) := by decide +kernel
theorem dX4_isSame_83 : decode cX4_isSame 83 = .ok (.invokevirtual 68, 3) := by decide +kernel
theorem dX4_isSame_86 : decode cX4_isSame 86 = .ok (.aload_n 0, 1) := by decide +kernel
theorem dX4_isSame_87 : decode cX4_isSame 87 = .ok (.getfield 21, 3) := by decide +kernel
theorem dX4_isSame_90 : decode cX4_isSame 90 = .ok (.iload 4, 2) := by decide +kernel
theorem dX4_isSame_92 : decode cX4_isSame 92 = .ok (.aaload, 1) := by decide +kernel
theorem dX4_isSame_93 : decode cX4_isSame 93 = .ok (.iconst 1, 1) := by decide +kernel
theorem dX4_isSame_94 : decode cX4_isSame 94 = .ok (.iaload, 1) := by decide +kernel
theorem dX4_isSame_95 : decode cX4_isSame 95 = .ok (.if_icmp .ne 25, 3) := by decide +kernel
theorem dX4_isSame_98 : decode cX4_isSame 98 = .ok (.aload_n 1, 1) := by decide +kernel
theorem dX4_isSame_99 : decode cX4_isSame 99 = .ok (.iload 4, 2) := by decide +kernel
theorem dX4_isSame_101 : decode cX4_isSame 101 = .ok (.invokevirtual 71, 3) := by decide +kernel
theorem dX4_isSame_104 : decode cX4_isSame 104 = .ok (.aload_n 0, 1) := by decide +kernel
theorem dX4_isSame_105 : decode cX4_isSame 105 = .ok (.aload_n 0, 1) := by decide +kernel
theorem dX4_isSame_106 : decode cX4_isSame 106 = .ok (.getfield 21, 3) := by decide +kernel
theorem dX4_isSame_109 : decode cX4_isSame 109 = .ok (.iload 4, 2) := by decide +kernel
theorem dX4_isSame_111 : decode cX4_isSame 111 = .ok (.aaload, 1) := by decide +kernel
theorem dX4_isSame_112 : decode cX4_isSame 112 = .ok (.iconst 0, 1) := by decide +kernel
theorem dX4_isSame_113 : decode cX4_isSame 113 = .ok (.iaload, 1) := by decide +kernel
theorem dX4_isSame_114 : decode cX4_isSame 114 = .ok (.invokevirtual 74, 3) := by decide +kernel
theorem dX4_isSame_117 : decode cX4_isSame 117 = .ok (.if_icmp .eq 5, 3) := by decide +kernel
theorem dX4_isSame_120 : decode cX4_isSame 120 = .ok (.iconst 0, 1) := by decide +kernel
theorem dX4_isSame_121 : decode cX4_isSame 121 = .ok (.ireturn, 1) := by decide +kernel
theorem dX4_isSame_122 : decode cX4_isSame 122 = .ok (.iinc 4 (-1), 3) := by decide +kernel
theorem dX4_isSame_125 : decode cX4_isSame 125 = .ok (.goto (-110), 3) := by decide +kernel
theorem dX4_isSame_128 : decode cX4_isSame 128 = .ok (.iconst 0, 1) := by decide +kernel
theorem dX4_isSame_129 : decode cX4_isSame 129 = .ok (.istore 4, 2) := by decide +kernel
theorem dX4_isSame_131 : decode cX4_isSame 131 = .ok (.iload 4, 2) := by decide +kernel
theorem dX4_isSame_133 : decode cX4_isSame 133 = .ok (.iconst 5, 1) := by decide +kernel
theorem dX4_isSame_134 : decode cX4_isSame 134 = .ok (.if_icmp .ge 24, 3) := by decide +kernel
theorem dX4_isSame_137 : decode cX4_isSame 137 = .ok (.aload_n 1, 1) := by decide +kernel
theorem dX4_isSame_138 : decode cX4_isSame 138 = .ok (.iload 4, 2) := by decide +kernel
theorem dX4_isSame_140 : decode cX4_isSame 140 = .ok (.invokevirtual 77, 3) := by decide +kernel
theorem dX4_isSame_143 : decode cX4_isSame 143 = .ok (.aload_n 2, 1) := by decide +kernel
theorem dX4_isSame_144 : decode cX4_isSame 144 = .ok (.iload 4, 2) := by decide +kernel
theorem dX4_isSame_146 : decode cX4_isSame 146 = .ok (.iaload, 1) := by decide +kernel
theorem dX4_isSame_147 : decode cX4_isSame 147 = .ok (.if_icmp .eq 5, 3) := by decide +kernel
theorem dX4_isSame_150 : decode cX4_isSame 150 = .ok (.iconst 0, 1) := by decide +kernel
theorem dX4_isSame_151 : decode cX4_isSame 151 = .ok (.ireturn, 1) := by decide +kernel
theorem dX4_isSame_152 : decode cX4_isSame 152 = .ok (.iinc 4 1, 3) := by decide +kernel
theorem dX4_isSame_155 : decode cX4_isSame 155 = .ok (.goto (-24), 3) := by decide +kernel
theorem dX4_isSame_158 : decode cX4_isSame 158 = .ok (.iconst 0, 1) := by decide +kernel
theorem dX4_isSame_159 : decode cX4_isSame 159 = .ok (.istore 4, 2) := by decide +kernel
theorem dX4_isSame_161 : decode cX4_isSame 161 = .ok (.iconst 0, 1) := by decide +kernel
theorem dX4_isSame_162 : decode cX4_isSame 162 = .ok (.istore 5, 2) := by decide +kernel
theorem dX4_isSame_164 : decode cX4_isSame 164 = .ok (.iconst (-1), 1) := by decide +kernel
theorem dX4_isSame_165 : decode cX4_isSame 165 = .ok (.istore 6, 2) := by decide +kernel
theorem dX4_isSame_167 : decode cX4_isSame 167 = .ok (.aload_n 0, 1) := by decide +kernel
theorem dX4_isSame_168 : decode cX4_isSame 168 = .ok (.getfield 25, 3) := by decide +kernel
theorem dX4_isSame_171 : decode cX4_isSame 171 = .ok (.arraylength, 1) := by decide +kernel
theorem dX4_isSame_172 : decode cX4_isSame 172 = .ok (.iconst 1, 1) := by decide +kernel
theorem dX4_isSame_173 : decode cX4_isSame 173 = .ok (.isub, 1) := by decide +kernel
theorem dX4_isSame_174 : decode cX4_isSame 174 = .ok (.istore 7, 2) := by decide +kernel
theorem dX4_isSame_176 : decode cX4_isSame 176 = .ok (.iload 7, 2) := by decide +kernel
theorem dX4_isSame_178 : decode cX4_isSame 178 = .ok (.ifCond .lt 110, 3) := by decide +kernel
theorem dX4_isSame_181 : decode cX4_isSame 181 = .ok (.aload_n 0, 1) := by decide +kernel
theorem dX4_isSame_182 : decode cX4_isSame 182 = .ok (.getfield 25, 3) := by decide +kernel
theorem dX4_isSame_185 : decode cX4_isSame 185 = .ok (.iload 7, 2) := by decide +kernel
theorem dX4_isSame_187 : decode cX4_isSame 187 = .ok (.aaload, 1) := by decide +kernel
theorem dX4_isSame_188 : decode cX4_isSame 188 = .ok (.astore 8, 2) := by decide +kernel
theorem dX4_isSame_190 : decode cX4_isSame 190 = .ok (.aload_n 1, 1) := by decide +kernel
theorem dX4_isSame_191 : decode cX4_isSame 191 = .ok (.iload 7, 2) := by decide +kernel
theorem dX4_isSame_193 : decode cX4_isSame 193 = .ok (.invokevirtual 80, 3) := by decide +kernel
theorem dX4_isSame_196 : decode cX4_isSame 196 = .ok (.aload_n 0, 1) := by decide +kernel
theorem dX4_isSame_197 : decode cX4_isSame 197 = .ok (.iload 7, 2) := by decide +kernel
theorem dX4_isSame_199 : decode cX4_isSame 199 = .ok (.invokevirtual 84, 3) := by decide +kernel
theorem dX4_isSame_202 : decode cX4_isSame 202 = .ok (.if_icmp .ne 29, 3) := by decide +kernel
theorem dX4_isSame_205 : decode cX4_isSame 205 = .ok (.aload_n 1, 1) := by decide +kernel
theorem dX4_isSame_206 : decode cX4_isSame 206 = .ok (.iload 7, 2) := by decide +kernel
theorem dX4_isSame_208 : decode cX4_isSame 208 = .ok (.invokevirtual 87, 3) := by decide +kernel
theorem dX4_isSame_211 : decode cX4_isSame 211 = .ok (.aload 8, 2) := by decide +kernel
theorem dX4_isSame_213 : decode cX4_isSame 213 = .ok (.iconst 0, 1) := by decide +kernel
theorem dX4_isSame_214 : decode cX4_isSame 214 = .ok (.iaload, 1) := by decide +kernel
theorem dX4_isSame_215 : decode cX4_isSame 215 = .ok (.if_icmp .ne 16, 3) := by decide +kernel
theorem dX4_isSame_218 : decode cX4_isSame 218 = .ok (.aload_n 1, 1) := by decide +kernel
theorem dX4_isSame_219 : decode cX4_isSame 219 = .ok (.iload 7, 2) := by decide +kernel
theorem dX4_isSame_221 : decode cX4_isSame 221 = .ok (.invokevirtual 90, 3) := by decide +kernel
theorem dX4_isSame_224 : decode cX4_isSame 224 = .ok (.aload 8, 2) := by decide +kernel
theorem dX4_isSame_226 : decode cX4_isSame 226 = .ok (.iconst 1, 1) := by decide +kernel
theorem dX4_isSame_227 : decode cX4_isSame 227 = .ok (.iaload, 1) := by decide +kernel
theorem dX4_isSame_228 : decode cX4_isSame 228 = .ok (.if_icmp .eq 5, 3) := by decide +kernel
theorem dX4_isSame_231 : decode cX4_isSame 231 = .ok (.iconst 0, 1) := by decide +kernel
theorem dX4_isSame_232 : decode cX4_isSame 232 = .ok (.ireturn, 1) := by decide +kernel
theorem dX4_isSame_233 : decode cX4_isSame 233 = .ok (.aload_n 0, 1) := by decide +kernel
theorem dX4_isSame_234 : decode cX4_isSame 234 = .ok (.iload 7, 2) := by decide +kernel
theorem dX4_isSame_236 : decode cX4_isSame 236 = .ok (.invokevirtual 84, 3) := by decide +kernel
theorem dX4_isSame_239 : decode cX4_isSame 239 = .ok (.ifCond .ne 6, 3) := by decide +kernel
theorem dX4_isSame_242 : decode cX4_isSame 242 = .ok (.goto 40, 3) := by decide +kernel
theorem dX4_isSame_245 : decode cX4_isSame 245 = .ok (.iinc 4 1, 3) := by decide +kernel
theorem dX4_isSame_248 : decode cX4_isSame 248 = .ok (.iload 5, 2) := by decide +kernel
theorem dX4_isSame_250 : decode cX4_isSame 250 = .ok (.aload 8, 2) := by decide +kernel
theorem dX4_isSame_252 : decode cX4_isSame 252 = .ok (.iconst 0, 1) := by decide +kernel
theorem dX4_isSame_253 : decode cX4_isSame 253 = .ok (.iaload, 1) := by decide +kernel
theorem dX4_isSame_254 : decode cX4_isSame 254 = .ok (.iadd, 1) := by decide +kernel
theorem dX4_isSame_255 : decode cX4_isSame 255 = .ok (.istore 5, 2) := by decide +kernel
theorem dX4_isSame_257 : decode cX4_isSame 257 = .ok (.iload 6, 2) := by decide +kernel
theorem dX4_isSame_259 : decode cX4_isSame 259 = .ok (.ifCond .lt 19, 3) := by decide +kernel
theorem dX4_isSame_262 : decode cX4_isSame 262 = .ok (.aload 8, 2) := by decide +kernel
theorem dX4_isSame_264 : decode cX4_isSame 264 = .ok (.iconst 0, 1) := by decide +kernel
theorem dX4_isSame_265 : decode cX4_isSame 265 = .ok (.iaload, 1) := by decide +kernel
theorem dX4_isSame_266 : decode cX4_isSame 266 = .ok (.aload_n 0, 1) := by decide +kernel
theorem dX4_isSame_267 : decode cX4_isSame 267 = .ok (.getfield 25, 3) := by decide +kernel
theorem dX4_isSame_270 : decode cX4_isSame 270 = .ok (.iload 6, 2) := by decide +kernel
theorem dX4_isSame_272 : decode cX4_isSame 272 = .ok (.aaload, 1) := by decide +kernel
theorem dX4_isSame_273 : decode cX4_isSame 273 = .ok (.iconst 0, 1) := by decide +kernel
theorem dX4_isSame_274 : decode cX4_isSame 274 = .ok (.iaload, 1) := by decide +kernel
theorem dX4_isSame_275 : decode cX4_isSame 275 = .ok (.if_icmp .gt 7, 3) := by decide +kernel
theorem dX4_isSame_278 : decode cX4_isSame 278 = .ok (.iload 7, 2) := by decide +kernel
theorem dX4_isSame_280 : decode cX4_isSame 280 = .ok (.istore 6, 2) := by decide +kernel
theorem dX4_isSame_282 : decode cX4_isSame 282 = .ok (.iinc 7 (-1), 3) := by decide +kernel
theorem dX4_isSame_285 : decode cX4_isSame 285 = .ok (.goto (-109), 3) := by decide +kernel
theorem dX4_isSame_288 : decode cX4_isSame 288 = .ok (.aload_n 1, 1) := by decide +kernel
theorem dX4_isSame_289 : decode cX4_isSame 289 = .ok (.invokevirtual 93, 3) := by decide +kernel
theorem dX4_isSame_292 : decode cX4_isSame 292 = .ok (.aload_n 0, 1) := by decide +kernel
theorem dX4_isSame_293 : decode cX4_isSame 293 = .ok (.getfield 29, 3) := by decide +kernel
theorem dX4_isSame_296 : decode cX4_isSame 296 = .ok (.if_icmp .ne 158, 3) := by decide +kernel
theorem dX4_isSame_299 : decode cX4_isSame 299 = .ok (.aload_n 1, 1) := by decide +kernel
theorem dX4_isSame_300 : decode cX4_isSame 300 = .ok (.invokevirtual 95, 3) := by decide +kernel
theorem dX4_isSame_303 : decode cX4_isSame 303 = .ok (.aload_n 0, 1) := by decide +kernel
theorem dX4_isSame_304 : decode cX4_isSame 304 = .ok (.getfield 21, 3) := by decide +kernel
theorem dX4_isSame_307 : decode cX4_isSame 307 = .ok (.arraylength, 1) := by decide +kernel
theorem dX4_isSame_308 : decode cX4_isSame 308 = .ok (.if_icmp .ne 146, 3) := by decide +kernel
theorem dX4_isSame_311 : decode cX4_isSame 311 = .ok (.aload_n 1, 1) := by decide +kernel
theorem dX4_isSame_312 : decode cX4_isSame 312 = .ok (.invokevirtual 98, 3) := by decide +kernel
theorem dX4_isSame_315 : decode cX4_isSame 315 = .ok (.aload_n 0, 1) := by decide +kernel
theorem dX4_isSame_316 : decode cX4_isSame 316 = .ok (.invokevirtual 49, 3) := by decide +kernel
theorem dX4_isSame_319 : decode cX4_isSame 319 = .ok (.if_icmp .ne 135, 3) := by decide +kernel
theorem dX4_isSame_322 : decode cX4_isSame 322 = .ok (.aload_n 1, 1) := by decide +kernel
theorem dX4_isSame_323 : decode cX4_isSame 323 = .ok (.invokevirtual 99, 3) := by decide +kernel
theorem dX4_isSame_326 : decode cX4_isSame 326 = .ok (.iload_n 3, 1) := by decide +kernel
theorem dX4_isSame_327 : decode cX4_isSame 327 = .ok (.if_icmp .ne 127, 3) := by decide +kernel
theorem dX4_isSame_330 : decode cX4_isSame 330 = .ok (.aload_n 1, 1) := by decide +kernel
theorem dX4_isSame_331 : decode cX4_isSame 331 = .ok (.invokevirtual 102, 3) := by decide +kernel
theorem dX4_isSame_334 : decode cX4_isSame 334 = .ok (.aload_n 0, 1) := by decide +kernel
theorem dX4_isSame_335 : decode cX4_isSame 335 = .ok (.getfield 32, 3) := by decide +kernel
theorem dX4_isSame_338 : decode cX4_isSame 338 = .ok (.if_icmp .ne 116, 3) := by decide +kernel
theorem dX4_isSame_341 : decode cX4_isSame 341 = .ok (.aload_n 1, 1) := by decide +kernel
theorem dX4_isSame_342 : decode cX4_isSame 342 = .ok (.invokevirtual 104, 3) := by decide +kernel
theorem dX4_isSame_345 : decode cX4_isSame 345 = .ok (.aload_n 0, 1) := by decide +kernel
theorem dX4_isSame_346 : decode cX4_isSame 346 = .ok (.getfield 35, 3) := by decide +kernel
theorem dX4_isSame_349 : decode cX4_isSame 349 = .ok (.if_icmp .ne 105, 3) := by decide +kernel
theorem dX4_isSame_352 : decode cX4_isSame 352 = .ok (.aload_n 1, 1) := by decide +kernel
theorem dX4_isSame_353 : decode cX4_isSame 353 = .ok (.invokevirtual 106, 3) := by decide +kernel
theorem dX4_isSame_356 : decode cX4_isSame 356 = .ok (.aload_n 0, 1) := by decide +kernel
theorem dX4_isSame_357 : decode cX4_isSame 357 = .ok (.getfield 38, 3) := by decide +kernel
theorem dX4_isSame_360 : decode cX4_isSame 360 = .ok (.if_icmp .ne 94, 3) := by decide +kernel
theorem dX4_isSame_363 : decode cX4_isSame 363 = .ok (.aload_n 1, 1) := by decide +kernel
theorem dX4_isSame_364 : decode cX4_isSame 364 = .ok (.invokevirtual 108, 3) := by decide +kernel
theorem dX4_isSame_367 : decode cX4_isSame 367 = .ok (.aload_n 0, 1) := by decide +kernel
theorem dX4_isSame_368 : decode cX4_isSame 368 = .ok (.getfield 7, 3) := by decide +kernel
theorem dX4_isSame_371 : decode cX4_isSame 371 = .ok (.if_icmp .ne 83, 3) := by decide +kernel
theorem dX4_isSame_374 : decode cX4_isSame 374 = .ok (.aload_n 1, 1) := by decide +kernel
theorem dX4_isSame_375 : decode cX4_isSame 375 = .ok (.invokevirtual 110, 3) := by decide +kernel
theorem dX4_isSame_378 : decode cX4_isSame 378 = .ok (.aload_n 0, 1) := by decide +kernel
theorem dX4_isSame_379 : decode cX4_isSame 379 = .ok (.getfield 13, 3) := by decide +kernel
theorem dX4_isSame_382 : decode cX4_isSame 382 = .ok (.if_icmp .ne 72, 3) := by decide +kernel
theorem dX4_isSame_385 : decode cX4_isSame 385 = .ok (.aload_n 1, 1) := by decide +kernel
theorem dX4_isSame_386 : decode cX4_isSame 386 = .ok (.invokevirtual 112, 3) := by decide +kernel
theorem dX4_isSame_389 : decode cX4_isSame 389 = .ok (.aload_n 0, 1) := by decide +kernel
theorem dX4_isSame_390 : decode cX4_isSame 390 = .ok (.getfield 16, 3) := by decide +kernel
theorem dX4_isSame_393 : decode cX4_isSame 393 = .ok (.if_icmp .ne 61, 3) := by decide +kernel
theorem dX4_isSame_396 : decode cX4_isSame 396 = .ok (.aload_n 1, 1) := by decide +kernel
theorem dX4_isSame_397 : decode cX4_isSame 397 = .ok (.invokevirtual 114, 3) := by decide +kernel
theorem dX4_isSame_400 : decode cX4_isSame 400 = .ok (.aload_n 0, 1) := by decide +kernel
theorem dX4_isSame_401 : decode cX4_isSame 401 = .ok (.getfield 25, 3) := by decide +kernel
theorem dX4_isSame_404 : decode cX4_isSame 404 = .ok (.arraylength, 1) := by decide +kernel
theorem dX4_isSame_405 : decode cX4_isSame 405 = .ok (.if_icmp .ne 49, 3) := by decide +kernel
theorem dX4_isSame_408 : decode cX4_isSame 408 = .ok (.aload_n 1, 1) := by decide +kernel
theorem dX4_isSame_409 : decode cX4_isSame 409 = .ok (.invokevirtual 116, 3) := by decide +kernel
theorem dX4_isSame_412 : decode cX4_isSame 412 = .ok (.iload 4, 2) := by decide +kernel
theorem dX4_isSame_414 : decode cX4_isSame 414 = .ok (.if_icmp .ne 40, 3) := by decide +kernel
theorem dX4_isSame_417 : decode cX4_isSame 417 = .ok (.aload_n 1, 1) := by decide +kernel
theorem dX4_isSame_418 : decode cX4_isSame 418 = .ok (.invokevirtual 119, 3) := by decide +kernel
theorem dX4_isSame_421 : decode cX4_isSame 421 = .ok (.iload 6, 2) := by decide +kernel
theorem dX4_isSame_423 : decode cX4_isSame 423 = .ok (.if_icmp .ne 31, 3) := by decide +kernel
theorem dX4_isSame_426 : decode cX4_isSame 426 = .ok (.aload_n 1, 1) := by decide +kernel
theorem dX4_isSame_427 : decode cX4_isSame 427 = .ok (.invokevirtual 122, 3) := by decide +kernel
theorem dX4_isSame_430 : decode cX4_isSame 430 = .ok (.iload 4, 2) := by decide +kernel
theorem dX4_isSame_432 : decode cX4_isSame 432 = .ok (.ifCond .ne 7, 3) := by decide +kernel
theorem dX4_isSame_435 : decode cX4_isSame 435 = .ok (.dconst 0, 1) := by decide +kernel
theorem dX4_isSame_436 : decode cX4_isSame 436 = .ok (.goto 10, 3) := by decide +kernel
theorem dX4_isSame_439 : decode cX4_isSame 439 = .ok (.iload 5, 2) := by decide +kernel
theorem dX4_isSame_441 : decode cX4_isSame 441 = .ok (.i2d, 1) := by decide +kernel
theorem dX4_isSame_442 : decode cX4_isSame 442 = .ok (.iload 4, 2) := by decide +kernel
theorem dX4_isSame_444 : decode cX4_isSame 444 = .ok (.i2d, 1) := by decide +kernel
theorem dX4_isSame_445 : decode cX4_isSame 445 = .ok (.ddiv, 1) := by decide +kernel
theorem dX4_isSame_446 : decode cX4_isSame 446 = .ok (.dcmp .l, 1) := by decide +kernel
theorem dX4_isSame_447 : decode cX4_isSame 447 = .ok (.ifCond .ne 7, 3) := by decide +kernel
theorem dX4_isSame_450 : decode cX4_isSame 450 = .ok (.iconst 1, 1) := by decide +kernel
theorem dX4_isSame_451 : decode cX4_isSame 451 = .ok (.goto 4, 3) := by decide +kernel
theorem dX4_isSame_454 : decode cX4_isSame 454 = .ok (.iconst 0, 1) := by decide +kernel
theorem dX4_isSame_455 : decode cX4_isSame 455 = .ok (.ireturn, 1) := by decide +kernel
theorem dJ9_max_7cf53_0 : decode cJ9_max_7cf53 0 = .ok (.iload_n 0, 1) := by decide +kernel
theorem dJ9_max_7cf53_1 : decode cJ9_max_7cf53 1 = .ok (.iload_n 1, 1) := by decide +kernel
theorem dJ9_max_7cf53_2 : decode cJ9_max_7cf53 2 = .ok (.if_icmp .lt 7, 3) := by decide +kernel
theorem dJ9_max_7cf53_5 : decode cJ9_max_7cf53 5 = .ok (.iload_n 0, 1) := by decide +kernel
theorem dJ9_max_7cf53_6 : decode cJ9_max_7cf53 6 = .ok (.goto 4, 3) := by decide +kernel
theorem dJ9_max_7cf53_9 : decode cJ9_max_7cf53 9 = .ok (.iload_n 1, 1) := by decide +kernel
theorem dJ9_max_7cf53_10 : decode cJ9_max_7cf53 10 = .ok (.ireturn, 1) := by decide +kernel
theorem dJ9_min_7cf53_0 : decode cJ9_min_7cf53 0 = .ok (.iload_n 0, 1) := by decide +kernel
theorem dJ9_min_7cf53_1 : decode cJ9_min_7cf53 1 = .ok (.iload_n 1, 1) := by decide +kernel
theorem dJ9_min_7cf53_2 : decode cJ9_min_7cf53 2 = .ok (.if_icmp .gt 7, 3) := by decide +kernel
theorem dJ9_min_7cf53_5 : decode cJ9_min_7cf53 5 = .ok (.iload_n 0, 1) := by decide +kernel
theorem dJ9_min_7cf53_6 : decode cJ9_min_7cf53 6 = .ok (.goto 4, 3) := by decide +kernel
theorem dJ9_min_7cf53_9 : decode cJ9_min_7cf53 9 = .ok (.iload_n 1, 1) := by decide +kernel
theorem dJ9_min_7cf53_10 : decode cJ9_min_7cf53 10 = .ok (.ireturn, 1) := by decide +kernel
theorem dL_below_0 : decode cL_below 0 = .ok (.iload_n 0, 1) := by decide +kernel
theorem dL_below_1 : decode cL_below 1 = .ok (.ldc 7, 2) := by decide +kernel
theorem dL_below_3 : decode cL_below 3 = .ok (.iand, 1) := by decide +kernel
theorem dL_below_4 : decode cL_below 4 = .ok (.iload_n 1, 1) := by decide +kernel
theorem dL_below_5 : decode cL_below 5 = .ok (.irem, 1) := by decide +kernel
theorem dL_below_6 : decode cL_below 6 = .ok (.ireturn, 1) := by decide +kernel
theorem dL_cell_0 : decode cL_cell 0 = .ok (.iload_n 1, 1) := by decide +kernel
theorem dL_cell_1 : decode cL_cell 1 = .ok (.aload_n 0, 1) := by decide +kernel
theorem dL_cell_2 : decode cL_cell 2 = .ok (.arraylength, 1) := by decide +kernel
theorem dL_cell_3 : decode cL_cell 3 = .ok (.if_icmp .ge 9, 3) := by decide +kernel
theorem dL_cell_6 : decode cL_cell 6 = .ok (.aload_n 0, 1) := by decide +kernel
theorem dL_cell_7 : decode cL_cell 7 = .ok (.iload_n 1, 1) := by decide +kernel
theorem dL_cell_8 : decode cL_cell 8 = .ok (.iaload, 1) := by decide +kernel
theorem dL_cell_9 : decode cL_cell 9 = .ok (.goto 9, 3) := by decide +kernel
theorem dL_cell_12 : decode cL_cell 12 = .ok (.ldc 8, 2) := by decide +kernel
theorem dL_cell_14 : decode cL_cell 14 = .ok (.iload_n 1, 1) := by decide +kernel
theorem dL_cell_15 : decode cL_cell 15 = .ok (.iconst 3, 1) := by decide +kernel
theorem dL_cell_16 : decode cL_cell 16 = .ok (.iadd, 1) := by decide +kernel
theorem dL_cell_17 : decode cL_cell 17 = .ok (.imul, 1) := by decide +kernel
theorem dL_cell_18 : decode cL_cell 18 = .ok (.ireturn, 1) := by decide +kernel
set_option maxRecDepth 20000 in
theorem ggL_act_L_below : GoodIn wsL_act wsL_below := goodIn_r _ [11, 12] (by decide +kernel) (by decide +kernel)
set_option maxRecDepth 20000 in
theorem gL_act_L_below : GoodIn wsL_act (va_wsS RL 15 yL_below wsL_below) := goodIn_app (goodIn_of _ (by decide +kernel)) ggL_act_L_below
set_option maxRecDepth 20000 in
theorem ggL_act_X4_with : GoodIn wsL_act wsX4_with := goodIn_r _ [16, 17] (by decide +kernel) (by decide +kernel)
set_option maxRecDepth 20000 in
theorem gL_act_X4_with : GoodIn wsL_act (va_wsS RL 21 yX4_with wsX4_with) := goodIn_app (goodIn_of _ (by decide +kernel)) ggL_act_X4_with
set_option maxRecDepth 20000 in
theorem ggL_act_X3_put : GoodIn wsL_act wsX3_put := goodIn_ca (goodIn_ca (goodIn_r _ [22, 23, 24, 25, 26, 27, 28, 29, 21, 30, 31, 32, 33, 34, 35, 36, 37, 38, 39, 40, 41, 42, 43, 44, 45, 46, 47, 48, 214, 215, 216, 217, 218, 219, 220, 221, 222, 223, 224, 225, 226, 227] (by decide +kernel) (by decide +kernel)) (goodIn_sub (fun _ h => List.mem_cons_of_mem _ (List.mem_append_left _ (List.mem_append_left _ (List.mem_append_right _ h)))) (by decide +kernel))) (goodIn_sub (fun _ h => List.mem_cons_of_mem _ (List.mem_append_left _ (List.mem_append_right _ h))) (by decide +kernel))
set_option maxRecDepth 20000 in
theorem gL_act_X3_put : GoodIn wsL_act (wsV RL 25 RX3 yX3_put wsX3_put) := goodIn_app (goodIn_of _ (by decide +kernel)) ggL_act_X3_put
set_option maxRecDepth 20000 in
theorem ggL_act_X4_push : GoodIn wsL_act wsX4_push := goodIn_r _ [52, 17, 53, 54, 14, 15, 16, 205, 206, 207, 208, 209, 210, 211, 212, 213] (by decide +kernel) (by decide +kernel)
set_option maxRecDepth 20000 in
theorem gL_act_X4_push : GoodIn wsL_act (wsV RL 30 RX4 yX4_push wsX4_push) := goodIn_app (goodIn_of _ (by decide +kernel)) ggL_act_X4_push
set_option maxRecDepth 20000 in
theorem ggL_act_X3_pushToFront : GoodIn wsL_act wsX3_pushToFront := goodIn_ca (goodIn_r _ [58, 25, 26, 59, 60, 61, 62, 21, 63, 64, 65, 66, 67, 68, 39, 69, 41, 70, 71, 72, 73, 46, 47, 74, 214, 215, 216, 217, 218, 219, 220, 221, 222, 223, 224, 225, 226, 227] (by decide +kernel) (by decide +kernel)) (goodIn_sub (fun _ h => List.mem_cons_of_mem _ (List.mem_append_right _ h)) (by decide +kernel))
set_option maxRecDepth 20000 in
theorem gL_act_X3_pushToFront : GoodIn wsL_act (wsV RL 34 RX3 yX3_pushToFront wsX3_pushToFront) := goodIn_app (goodIn_of _ (by decide +kernel)) ggL_act_X3_pushToFront
set_option maxRecDepth 20000 in
theorem ggL_act_X4_drop : GoodIn wsL_act wsX4_drop := goodIn_r _ [78, 17, 53, 54, 14, 15, 16, 205, 206, 207, 208, 209, 210, 211, 212, 213] (by decide +kernel) (by decide +kernel)
set_option maxRecDepth 20000 in
theorem gL_act_X4_drop : GoodIn wsL_act (wsV RL 38 RX4 yX4_drop wsX4_drop) := goodIn_app (goodIn_of _ (by decide +kernel)) ggL_act_X4_drop
set_option maxRecDepth 20000 in
theorem ggL_act_X3_drop : GoodIn wsL_act wsX3_drop := goodIn_ca (goodIn_r _ [82, 25, 26, 27, 60, 61, 62, 21, 63, 64, 65, 66, 67, 68, 39, 69, 41, 83, 84, 85, 86, 46, 47, 74, 214, 215, 216, 217, 218, 219, 220, 221, 222, 223, 224, 225, 226, 227] (by decide +kernel) (by decide +kernel)) (goodIn_sub (fun _ h => List.mem_cons_of_mem _ (List.mem_append_right _ h)) (by decide +kernel))
set_option maxRecDepth 20000 in
theorem gL_act_X3_drop : GoodIn wsL_act (wsV RL 41 RX3 yX3_drop wsX3_drop) := goodIn_app (goodIn_of _ (by decide +kernel)) ggL_act_X3_drop
set_option maxRecDepth 20000 in
theorem ggL_act_X3_setGear : GoodIn wsL_act wsX3_setGear := goodIn_ca (goodIn_r _ [90, 31, 32, 25, 91, 214, 215, 216, 217, 218, 219, 220, 221, 222, 223, 224] (by decide +kernel) (by decide +kernel)) (goodIn_sub (fun _ h => List.mem_cons_of_mem _ (List.mem_append_left _ (List.mem_append_right _ h))) (by decide +kernel))
set_option maxRecDepth 20000 in
theorem gL_act_X3_setGear : GoodIn wsL_act (wsV RL 47 RX3 yX3_setGear wsX3_setGear) := goodIn_app (goodIn_of _ (by decide +kernel)) ggL_act_X3_setGear
set_option maxRecDepth 20000 in
theorem ggL_act_X3_setStones : GoodIn wsL_act wsX3_setStones := goodIn_ca (goodIn_r _ [95, 31, 32, 25, 96, 214, 215, 216, 217, 218, 219, 220, 221, 222, 223, 224] (by decide +kernel) (by decide +kernel)) (goodIn_sub (fun _ h => List.mem_cons_of_mem _ (List.mem_append_left _ (List.mem_append_right _ h))) (by decide +kernel))
set_option maxRecDepth 20000 in
theorem gL_act_X3_setStones : GoodIn wsL_act (wsV RL 53 RX3 yX3_setStones wsX3_setStones) := goodIn_app (goodIn_of _ (by decide +kernel)) ggL_act_X3_setStones
set_option maxRecDepth 20000 in
theorem ggL_act_X3_setMesh : GoodIn wsL_act wsX3_setMesh := goodIn_ca (goodIn_r _ [100, 31, 32, 25, 101, 214, 215, 216, 217, 218, 219, 220, 221, 222, 223, 224] (by decide +kernel) (by decide +kernel)) (goodIn_sub (fun _ h => List.mem_cons_of_mem _ (List.mem_append_left _ (List.mem_append_right _ h))) (by decide +kernel))
set_option maxRecDepth 20000 in
theorem gL_act_X3_setMesh : GoodIn wsL_act (wsV RL 59 RX3 yX3_setMesh wsX3_setMesh) := goodIn_app (goodIn_of _ (by decide +kernel)) ggL_act_X3_setMesh
set_option maxRecDepth 20000 in
theorem ggL_act_X3_addTalker : GoodIn wsL_act wsX3_addTalker := goodIn_ca (goodIn_ca (goodIn_r _ [105, 31, 32, 23, 24, 25, 106, 107, 28, 29, 21, 30, 33, 34, 35, 108, 109, 110, 111, 112, 113, 114, 115, 116, 117, 118, 119, 120, 121, 122, 123, 214, 215, 216, 217, 218, 219, 220, 221, 222, 223, 224, 228, 229, 230, 231, 232, 233] (by decide +kernel) (by decide +kernel)) (goodIn_sub (fun _ h => List.mem_cons_of_mem _ (List.mem_append_left _ (List.mem_append_right _ h))) (by decide +kernel))) (goodIn_sub (fun _ h => List.mem_cons_of_mem _ (List.mem_append_left _ (List.mem_append_left _ (List.mem_append_right _ h)))) (by decide +kernel))
set_option maxRecDepth 20000 in
theorem gL_act_X3_addTalker : GoodIn wsL_act (wsV RL 65 RX3 yX3_addTalker wsX3_addTalker) := goodIn_app (goodIn_of _ (by decide +kernel)) ggL_act_X3_addTalker
set_option maxRecDepth 20000 in
theorem ggL_act_X3_pass : GoodIn wsL_act wsX3_pass := goodIn_ca (goodIn_r _ [127, 25, 106, 128, 129, 21, 130, 31, 32, 131, 132, 133, 111, 134, 113, 122, 135, 136, 137, 138, 139, 140, 141, 142, 143, 144, 145, 146, 147, 148, 149, 150, 151, 152, 153, 154, 155, 39, 156, 41, 47, 46, 157, 158, 159, 160, 161, 162, 163, 164, 165, 166, 167, 168, 169, 170, 121, 171, 172, 173, 174, 175, 176, 177, 178, 179, 180, 181, 120, 118, 119, 182, 183, 184, 43, 44, 45, 48, 37, 38, 40, 214, 215, 216, 217, 218, 219, 220, 221, 222, 223, 224, 228, 229, 230, 231, 232, 233, 225, 226, 227] (by decide +kernel) (by decide +kernel)) (goodIn_sub (fun _ h => List.mem_cons_of_mem _ (List.mem_append_left _ (List.mem_append_right _ h))) (by decide +kernel))
set_option maxRecDepth 20000 in
theorem gL_act_X3_pass : GoodIn wsL_act (wsV RL 69 RX3 yX3_pass wsX3_pass) := goodIn_app (goodIn_of _ (by decide +kernel)) ggL_act_X3_pass
set_option maxRecDepth 20000 in
theorem ggL_act_X4_pass_ : GoodIn wsL_act wsX4_pass_ := goodIn_r _ [188, 189, 190, 191, 15, 192, 17, 53, 193, 194, 195, 196, 197, 198, 199, 200, 3, 54, 14, 16, 201, 202, 203, 204, 205, 206, 207, 208, 209, 210, 211, 212, 213] (by decide +kernel) (by decide +kernel)
set_option maxRecDepth 20000 in
theorem gL_act_X4_pass_ : GoodIn wsL_act (wsV RL 72 RX4 yX4_pass_ wsX4_pass_) := goodIn_app (goodIn_of _ (by decide +kernel)) ggL_act_X4_pass_
theorem dL_act_0 : decode cL_act 0 = .ok (.aload_n 1, 1) := by decide +kernel
theorem dL_act_1 : decode cL_act 1 = .ok (.getfield 9, 3) := by decide +kernel
theorem dL_act_4 : decode cL_act 4 = .ok (.arraylength, 1) := by decide +kernel
theorem dL_act_5 : decode cL_act 5 = .ok (.istore_n 3, 1) := by decide +kernel
theorem dL_act_6 : decode cL_act 6 = .ok (.iload_n 3, 1) := by decide +kernel
theorem dL_act_7 : decode cL_act 7 = .ok (.ifCond .ne 7, 3) := by decide +kernel
theorem dL_act_10 : decode cL_act 10 = .ok (.iconst 0, 1) := by decide +kernel
theorem dL_act_11 : decode cL_act 11 = .ok (.goto 10, 3) := by decide +kernel
theorem dL_act_14 : decode cL_act 14 = .ok (.iload_n 2, 1) := by decide +kernel
theorem dL_act_15 : decode cL_act 15 = .ok (.iconst 4, 1) := by decide +kernel
theorem dL_act_16 : decode cL_act 16 = .ok (.ishr, 1) := by decide +kernel
theorem dL_act_17 : decode cL_act 17 = .ok (.iload_n 3, 1) := by decide +kernel
theorem dL_act_18 : decode cL_act 18 = .ok (.invokestatic 15, 3) := by decide +kernel
theorem dL_act_21 : decode cL_act 21 = .ok (.istore 4, 2) := by decide +kernel
theorem dL_act_23 : decode cL_act 23 = .ok (.iconst 1, 1) := by decide +kernel
theorem dL_act_24 : decode cL_act 24 = .ok (.istore 5, 2) := by decide +kernel
theorem dL_act_26 : decode cL_act 26 = .ok (.iload_n 2, 1) := by decide +kernel
theorem dL_act_27 : decode cL_act 27 = .ok (.bipush 14, 2) := by decide +kernel
theorem dL_act_29 : decode cL_act 29 = .ok (.invokestatic 15, 3) := by decide +kernel
theorem dL_act_32 : decode cL_act 32 = .ok (.tableswitch 446 0 9 #[56, 56, 56, 56, 142, 177, 207, 246, 284, 321], 56) := by decide +kernel
theorem dL_act_88 : decode cL_act 88 = .ok (.iload_n 3, 1) := by decide +kernel
theorem dL_act_89 : decode cL_act 89 = .ok (.bipush 12, 2) := by decide +kernel
theorem dL_act_91 : decode cL_act 91 = .ok (.if_icmp .ge 7, 3) := by decide +kernel
theorem dL_act_94 : decode cL_act 94 = .ok (.iconst 1, 1) := by decide +kernel
theorem dL_act_95 : decode cL_act 95 = .ok (.goto 4, 3) := by decide +kernel
theorem dL_act_98 : decode cL_act 98 = .ok (.iconst 0, 1) := by decide +kernel
theorem dL_act_99 : decode cL_act 99 = .ok (.istore 5, 2) := by decide +kernel
theorem dL_act_101 : decode cL_act 101 = .ok (.iload_n 2, 1) := by decide +kernel
theorem dL_act_102 : decode cL_act 102 = .ok (.iconst 3, 1) := by decide +kernel
theorem dL_act_103 : decode cL_act 103 = .ok (.ishr, 1) := by decide +kernel
theorem dL_act_104 : decode cL_act 104 = .ok (.iconst 5, 1) := by decide +kernel
theorem dL_act_105 : decode cL_act 105 = .ok (.invokestatic 15, 3) := by decide +kernel
theorem dL_act_108 : decode cL_act 108 = .ok (.istore 6, 2) := by decide +kernel
theorem dL_act_110 : decode cL_act 110 = .ok (.iconst 2, 1) := by decide +kernel
theorem dL_act_111 : decode cL_act 111 = .ok (.iload_n 2, 1) := by decide +kernel
theorem dL_act_112 : decode cL_act 112 = .ok (.iconst 5, 1) := by decide +kernel
theorem dL_act_113 : decode cL_act 113 = .ok (.ishr, 1) := by decide +kernel
theorem dL_act_114 : decode cL_act 114 = .ok (.bipush 98, 2) := by decide +kernel
theorem dL_act_116 : decode cL_act 116 = .ok (.invokestatic 15, 3) := by decide +kernel
theorem dL_act_119 : decode cL_act 119 = .ok (.iadd, 1) := by decide +kernel
theorem dL_act_120 : decode cL_act 120 = .ok (.istore 7, 2) := by decide +kernel
theorem dL_act_122 : decode cL_act 122 = .ok (.iload 5, 2) := by decide +kernel
theorem dL_act_124 : decode cL_act 124 = .ok (.ifCond .eq 27, 3) := by decide +kernel
theorem dL_act_127 : decode cL_act 127 = .ok (.aload_n 1, 1) := by decide +kernel
theorem dL_act_128 : decode cL_act 128 = .ok (.aload_n 1, 1) := by decide +kernel
theorem dL_act_129 : decode cL_act 129 = .ok (.getfield 9, 3) := by decide +kernel
theorem dL_act_132 : decode cL_act 132 = .ok (.iconst 2, 1) := by decide +kernel
theorem dL_act_133 : decode cL_act 133 = .ok (.newarray .int, 2) := by decide +kernel
theorem dL_act_135 : decode cL_act 135 = .ok (.dup, 1) := by decide +kernel
theorem dL_act_136 : decode cL_act 136 = .ok (.iconst 0, 1) := by decide +kernel
theorem dL_act_137 : decode cL_act 137 = .ok (.iload 7, 2) := by decide +kernel
theorem dL_act_139 : decode cL_act 139 = .ok (.iastore, 1) := by decide +kernel
theorem dL_act_140 : decode cL_act 140 = .ok (.dup, 1) := by decide +kernel
theorem dL_act_141 : decode cL_act 141 = .ok (.iconst 1, 1) := by decide +kernel
theorem dL_act_142 : decode cL_act 142 = .ok (.iload 6, 2) := by decide +kernel
theorem dL_act_144 : decode cL_act 144 = .ok (.iastore, 1) := by decide +kernel
theorem dL_act_145 : decode cL_act 145 = .ok (.invokestatic 21, 3) := by decide +kernel
theorem dL_act_148 : decode cL_act 148 = .ok (.putfield 9, 3) := by decide +kernel
theorem dL_act_151 : decode cL_act 151 = .ok (.aload_n 0, 1) := by decide +kernel
theorem dL_act_152 : decode cL_act 152 = .ok (.iload 6, 2) := by decide +kernel
theorem dL_act_154 : decode cL_act 154 = .ok (.iload 7, 2) := by decide +kernel
theorem dL_act_156 : decode cL_act 156 = .ok (.invokevirtual 25, 3) := by decide +kernel
theorem dL_act_159 : decode cL_act 159 = .ok (.iload_n 3, 1) := by decide +kernel
theorem dL_act_160 : decode cL_act 160 = .ok (.if_icmp .ne 12, 3) := by decide +kernel
theorem dL_act_163 : decode cL_act 163 = .ok (.iload 5, 2) := by decide +kernel
theorem dL_act_165 : decode cL_act 165 = .ok (.ifCond .eq 7, 3) := by decide +kernel
theorem dL_act_168 : decode cL_act 168 = .ok (.iconst 1, 1) := by decide +kernel
theorem dL_act_169 : decode cL_act 169 = .ok (.goto 4, 3) := by decide +kernel
theorem dL_act_172 : decode cL_act 172 = .ok (.iconst 0, 1) := by decide +kernel
theorem dL_act_173 : decode cL_act 173 = .ok (.ireturn, 1) := by decide +kernel
theorem dL_act_174 : decode cL_act 174 = .ok (.iload_n 3, 1) := by decide +kernel
theorem dL_act_175 : decode cL_act 175 = .ok (.ifCond .ne 5, 3) := by decide +kernel
theorem dL_act_178 : decode cL_act 178 = .ok (.iconst 1, 1) := by decide +kernel
theorem dL_act_179 : decode cL_act 179 = .ok (.ireturn, 1) := by decide +kernel
theorem dL_act_180 : decode cL_act 180 = .ok (.aload_n 1, 1) := by decide +kernel
theorem dL_act_181 : decode cL_act 181 = .ok (.iload 4, 2) := by decide +kernel
theorem dL_act_183 : decode cL_act 183 = .ok (.invokevirtual 30, 3) := by decide +kernel
theorem dL_act_186 : decode cL_act 186 = .ok (.aload_n 0, 1) := by decide +kernel
theorem dL_act_187 : decode cL_act 187 = .ok (.iload 4, 2) := by decide +kernel
theorem dL_act_189 : decode cL_act 189 = .ok (.invokevirtual 34, 3) := by decide +kernel
theorem dL_act_192 : decode cL_act 192 = .ok (.aload_n 1, 1) := by decide +kernel
theorem dL_act_193 : decode cL_act 193 = .ok (.getfield 9, 3) := by decide +kernel
theorem dL_act_196 : decode cL_act 196 = .ok (.iconst 0, 1) := by decide +kernel
theorem dL_act_197 : decode cL_act 197 = .ok (.aaload, 1) := by decide +kernel
theorem dL_act_198 : decode cL_act 198 = .ok (.iconst 0, 1) := by decide +kernel
theorem dL_act_199 : decode cL_act 199 = .ok (.iaload, 1) := by decide +kernel
theorem dL_act_200 : decode cL_act 200 = .ok (.if_icmp .ne 7, 3) := by decide +kernel
theorem dL_act_203 : decode cL_act 203 = .ok (.iconst 1, 1) := by decide +kernel
theorem dL_act_204 : decode cL_act 204 = .ok (.goto 4, 3) := by decide +kernel
theorem dL_act_207 : decode cL_act 207 = .ok (.iconst 0, 1) := by decide +kernel
theorem dL_act_208 : decode cL_act 208 = .ok (.ireturn, 1) := by decide +kernel
theorem dL_act_209 : decode cL_act 209 = .ok (.iload_n 3, 1) := by decide +kernel
theorem dL_act_210 : decode cL_act 210 = .ok (.ifCond .ne 5, 3) := by decide +kernel
theorem dL_act_213 : decode cL_act 213 = .ok (.iconst 1, 1) := by decide +kernel
theorem dL_act_214 : decode cL_act 214 = .ok (.ireturn, 1) := by decide +kernel
theorem dL_act_215 : decode cL_act 215 = .ok (.aload_n 1, 1) := by decide +kernel
theorem dL_act_216 : decode cL_act 216 = .ok (.iload 4, 2) := by decide +kernel
theorem dL_act_218 : decode cL_act 218 = .ok (.invokevirtual 38, 3) := by decide +kernel
theorem dL_act_221 : decode cL_act 221 = .ok (.aload_n 0, 1) := by decide +kernel
theorem dL_act_222 : decode cL_act 222 = .ok (.iload 4, 2) := by decide +kernel
theorem dL_act_224 : decode cL_act 224 = .ok (.invokevirtual 41, 3) := by decide +kernel
theorem dL_act_227 : decode cL_act 227 = .ok (.iload_n 3, 1) := by decide +kernel
theorem dL_act_228 : decode cL_act 228 = .ok (.iconst 1, 1) := by decide +kernel
theorem dL_act_229 : decode cL_act 229 = .ok (.isub, 1) := by decide +kernel
theorem dL_act_230 : decode cL_act 230 = .ok (.if_icmp .ne 7, 3) := by decide +kernel
theorem dL_act_233 : decode cL_act 233 = .ok (.iconst 1, 1) := by decide +kernel
theorem dL_act_234 : decode cL_act 234 = .ok (.goto 4, 3) := by decide +kernel
theorem dL_act_237 : decode cL_act 237 = .ok (.iconst 0, 1) := by decide +kernel
theorem dL_act_238 : decode cL_act 238 = .ok (.ireturn, 1) := by decide +kernel
theorem dL_act_239 : decode cL_act 239 = .ok (.aload_n 1, 1) := by decide +kernel
theorem dL_act_240 : decode cL_act 240 = .ok (.getfield 43, 3) := by decide +kernel
theorem dL_act_243 : decode cL_act 243 = .ok (.istore 6, 2) := by decide +kernel
theorem dL_act_245 : decode cL_act 245 = .ok (.aload_n 1, 1) := by decide +kernel
theorem dL_act_246 : decode cL_act 246 = .ok (.iconst 2, 1) := by decide +kernel
theorem dL_act_247 : decode cL_act 247 = .ok (.iload_n 2, 1) := by decide +kernel
theorem dL_act_248 : decode cL_act 248 = .ok (.iconst 4, 1) := by decide +kernel
theorem dL_act_249 : decode cL_act 249 = .ok (.ishr, 1) := by decide +kernel
theorem dL_act_250 : decode cL_act 250 = .ok (.bipush 8, 2) := by decide +kernel
theorem dL_act_252 : decode cL_act 252 = .ok (.invokestatic 15, 3) := by decide +kernel
theorem dL_act_255 : decode cL_act 255 = .ok (.iadd, 1) := by decide +kernel
theorem dL_act_256 : decode cL_act 256 = .ok (.putfield 43, 3) := by decide +kernel
theorem dL_act_259 : decode cL_act 259 = .ok (.aload_n 0, 1) := by decide +kernel
theorem dL_act_260 : decode cL_act 260 = .ok (.aload_n 1, 1) := by decide +kernel
theorem dL_act_261 : decode cL_act 261 = .ok (.getfield 43, 3) := by decide +kernel
theorem dL_act_264 : decode cL_act 264 = .ok (.invokevirtual 47, 3) := by decide +kernel
theorem dL_act_267 : decode cL_act 267 = .ok (.iload 6, 2) := by decide +kernel
theorem dL_act_269 : decode cL_act 269 = .ok (.if_icmp .ne 7, 3) := by decide +kernel
theorem dL_act_272 : decode cL_act 272 = .ok (.iconst 1, 1) := by decide +kernel
theorem dL_act_273 : decode cL_act 273 = .ok (.goto 4, 3) := by decide +kernel
theorem dL_act_276 : decode cL_act 276 = .ok (.iconst 0, 1) := by decide +kernel
theorem dL_act_277 : decode cL_act 277 = .ok (.ireturn, 1) := by decide +kernel
theorem dL_act_278 : decode cL_act 278 = .ok (.aload_n 1, 1) := by decide +kernel
theorem dL_act_279 : decode cL_act 279 = .ok (.getfield 50, 3) := by decide +kernel
theorem dL_act_282 : decode cL_act 282 = .ok (.istore 6, 2) := by decide +kernel
theorem dL_act_284 : decode cL_act 284 = .ok (.aload_n 1, 1) := by decide +kernel
theorem dL_act_285 : decode cL_act 285 = .ok (.iconst 1, 1) := by decide +kernel
theorem dL_act_286 : decode cL_act 286 = .ok (.iload_n 2, 1) := by decide +kernel
theorem dL_act_287 : decode cL_act 287 = .ok (.iconst 4, 1) := by decide +kernel
theorem dL_act_288 : decode cL_act 288 = .ok (.ishr, 1) := by decide +kernel
theorem dL_act_289 : decode cL_act 289 = .ok (.iconst 4, 1) := by decide +kernel
theorem dL_act_290 : decode cL_act 290 = .ok (.invokestatic 15, 3) := by decide +kernel
theorem dL_act_293 : decode cL_act 293 = .ok (.iadd, 1) := by decide +kernel
theorem dL_act_294 : decode cL_act 294 = .ok (.putfield 50, 3) := by decide +kernel
theorem dL_act_297 : decode cL_act 297 = .ok (.aload_n 0, 1) := by decide +kernel
theorem dL_act_298 : decode cL_act 298 = .ok (.aload_n 1, 1) := by decide +kernel
theorem dL_act_299 : decode cL_act 299 = .ok (.getfield 50, 3) := by decide +kernel
theorem dL_act_302 : decode cL_act 302 = .ok (.invokevirtual 53, 3) := by decide +kernel
theorem dL_act_305 : decode cL_act 305 = .ok (.iload 6, 2) := by decide +kernel
theorem dL_act_307 : decode cL_act 307 = .ok (.if_icmp .ne 7, 3) := by decide +kernel
theorem dL_act_310 : decode cL_act 310 = .ok (.iconst 1, 1) := by decide +kernel
theorem dL_act_311 : decode cL_act 311 = .ok (.goto 4, 3) := by decide +kernel
theorem dL_act_314 : decode cL_act 314 = .ok (.iconst 0, 1) := by decide +kernel
theorem dL_act_315 : decode cL_act 315 = .ok (.ireturn, 1) := by decide +kernel
theorem dL_act_316 : decode cL_act 316 = .ok (.aload_n 1, 1) := by decide +kernel
theorem dL_act_317 : decode cL_act 317 = .ok (.getfield 56, 3) := by decide +kernel
theorem dL_act_320 : decode cL_act 320 = .ok (.istore 6, 2) := by decide +kernel
theorem dL_act_322 : decode cL_act 322 = .ok (.aload_n 1, 1) := by decide +kernel
theorem dL_act_323 : decode cL_act 323 = .ok (.iload_n 2, 1) := by decide +kernel
theorem dL_act_324 : decode cL_act 324 = .ok (.iconst 4, 1) := by decide +kernel
theorem dL_act_325 : decode cL_act 325 = .ok (.ishr, 1) := by decide +kernel
theorem dL_act_326 : decode cL_act 326 = .ok (.bipush 21, 2) := by decide +kernel
theorem dL_act_328 : decode cL_act 328 = .ok (.invokestatic 15, 3) := by decide +kernel
theorem dL_act_331 : decode cL_act 331 = .ok (.putfield 56, 3) := by decide +kernel
theorem dL_act_334 : decode cL_act 334 = .ok (.aload_n 0, 1) := by decide +kernel
theorem dL_act_335 : decode cL_act 335 = .ok (.aload_n 1, 1) := by decide +kernel
theorem dL_act_336 : decode cL_act 336 = .ok (.getfield 56, 3) := by decide +kernel
theorem dL_act_339 : decode cL_act 339 = .ok (.invokevirtual 59, 3) := by decide +kernel
theorem dL_act_342 : decode cL_act 342 = .ok (.iload 6, 2) := by decide +kernel
theorem dL_act_344 : decode cL_act 344 = .ok (.if_icmp .ne 7, 3) := by decide +kernel
theorem dL_act_347 : decode cL_act 347 = .ok (.iconst 1, 1) := by decide +kernel
theorem dL_act_348 : decode cL_act 348 = .ok (.goto 4, 3) := by decide +kernel
theorem dL_act_351 : decode cL_act 351 = .ok (.iconst 0, 1) := by decide +kernel
